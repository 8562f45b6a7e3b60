section
-- ===== PART A: goes FIRST, ahead of the names: the tables' words, and 'selects' of the private methods out of them =====
/-- a private method of a class that the tables say can be made, by its rows of tables_1 -/
def lw_okq (q : MethodName × Nat) : Prop := (q.1.cls ≠ "java/lang/invoke/MethodHandle" ∧ q.1.cls ≠ "java/lang/invoke/VarHandle") ∧ Cond.instantiable q.1.cls q.2 ∈ tables_1 ∧ Cond.privateMethod q.1 ∈ tables_1 ∧ Cond.instanceMethod q.1 ∈ tables_1
theorem lw_p0 : lw_okq (⟨"DutiesHat$Scroll", "readLine", "(II)Z"⟩, 6) := ⟨⟨by decide +kernel, by decide +kernel⟩, List.mem_of_getElem? (i := 29) (by decide +kernel), List.mem_of_getElem? (i := 315) (by decide +kernel), List.mem_of_getElem? (i := 316) (by decide +kernel)⟩
theorem lw_p1 : lw_okq (⟨"DutiesHat$Scroll", "nextToken", "()V"⟩, 6) := ⟨⟨by decide +kernel, by decide +kernel⟩, List.mem_of_getElem? (i := 29) (by decide +kernel), List.mem_of_getElem? (i := 319) (by decide +kernel), List.mem_of_getElem? (i := 320) (by decide +kernel)⟩
theorem lw_p2 : lw_okq (⟨"DutiesHat$Scroll", "verbHere", "()I"⟩, 6) := ⟨⟨by decide +kernel, by decide +kernel⟩, List.mem_of_getElem? (i := 29) (by decide +kernel), List.mem_of_getElem? (i := 329) (by decide +kernel), List.mem_of_getElem? (i := 330) (by decide +kernel)⟩
theorem lw_p3 : lw_okq (⟨"DutiesHat$Scroll", "spells", "(Ljava/lang/String;)Z"⟩, 6) := ⟨⟨by decide +kernel, by decide +kernel⟩, List.mem_of_getElem? (i := 29) (by decide +kernel), List.mem_of_getElem? (i := 334) (by decide +kernel), List.mem_of_getElem? (i := 335) (by decide +kernel)⟩
theorem lw_p4 : lw_okq (⟨"DutiesHat$Scroll", "numberHere", "()I"⟩, 6) := ⟨⟨by decide +kernel, by decide +kernel⟩, List.mem_of_getElem? (i := 29) (by decide +kernel), List.mem_of_getElem? (i := 397) (by decide +kernel), List.mem_of_getElem? (i := 398) (by decide +kernel)⟩
theorem lw_p5 : lw_okq (⟨"DutiesHat", "yesterdayChanged", "()V"⟩, 10) := ⟨⟨by decide +kernel, by decide +kernel⟩, List.mem_of_getElem? (i := 21) (by decide +kernel), List.mem_of_getElem? (i := 417) (by decide +kernel), List.mem_of_getElem? (i := 418) (by decide +kernel)⟩
theorem lw_p6 : lw_okq (⟨"DutiesHat", "isThere", "(I)Z"⟩, 10) := ⟨⟨by decide +kernel, by decide +kernel⟩, List.mem_of_getElem? (i := 21) (by decide +kernel), List.mem_of_getElem? (i := 425) (by decide +kernel), List.mem_of_getElem? (i := 426) (by decide +kernel)⟩
theorem lw_p7 : lw_okq (⟨"DutiesHat$Rings", "wants", "([III)Z"⟩, 4) := ⟨⟨by decide +kernel, by decide +kernel⟩, List.mem_of_getElem? (i := 117) (by decide +kernel), List.mem_of_getElem? (i := 487) (by decide +kernel), List.mem_of_getElem? (i := 488) (by decide +kernel)⟩
theorem lw_p8 : lw_okq (⟨"DutiesHat$Rings", "findThird", "([IIIII)V"⟩, 4) := ⟨⟨by decide +kernel, by decide +kernel⟩, List.mem_of_getElem? (i := 117) (by decide +kernel), List.mem_of_getElem? (i := 512) (by decide +kernel), List.mem_of_getElem? (i := 513) (by decide +kernel)⟩
theorem lw_p9 : lw_okq (⟨"DutiesHat$Rings", "note", "(III)V"⟩, 4) := ⟨⟨by decide +kernel, by decide +kernel⟩, List.mem_of_getElem? (i := 117) (by decide +kernel), List.mem_of_getElem? (i := 516) (by decide +kernel), List.mem_of_getElem? (i := 517) (by decide +kernel)⟩
theorem lw_p10 : lw_okq (⟨"DutiesHat$Search", "reach", "(I)V"⟩, 8) := ⟨⟨by decide +kernel, by decide +kernel⟩, List.mem_of_getElem? (i := 177) (by decide +kernel), List.mem_of_getElem? (i := 560) (by decide +kernel), List.mem_of_getElem? (i := 561) (by decide +kernel)⟩
theorem lw_p11 : lw_okq (⟨"DutiesHat$Search", "takeWaiting", "()I"⟩, 8) := ⟨⟨by decide +kernel, by decide +kernel⟩, List.mem_of_getElem? (i := 177) (by decide +kernel), List.mem_of_getElem? (i := 564) (by decide +kernel), List.mem_of_getElem? (i := 565) (by decide +kernel)⟩
theorem lw_p12 : lw_okq (⟨"DutiesHat$Search", "lookAt", "(II)V"⟩, 8) := ⟨⟨by decide +kernel, by decide +kernel⟩, List.mem_of_getElem? (i := 177) (by decide +kernel), List.mem_of_getElem? (i := 575) (by decide +kernel), List.mem_of_getElem? (i := 576) (by decide +kernel)⟩
theorem lw_p13 : lw_okq (⟨"DutiesHat$Search", "addEnd", "(I)V"⟩, 8) := ⟨⟨by decide +kernel, by decide +kernel⟩, List.mem_of_getElem? (i := 177) (by decide +kernel), List.mem_of_getElem? (i := 581) (by decide +kernel), List.mem_of_getElem? (i := 582) (by decide +kernel)⟩
theorem lw_p14 : lw_okq (⟨"DutiesHat$Rings", "giverTo", "(II)I"⟩, 4) := ⟨⟨by decide +kernel, by decide +kernel⟩, List.mem_of_getElem? (i := 117) (by decide +kernel), List.mem_of_getElem? (i := 596) (by decide +kernel), List.mem_of_getElem? (i := 597) (by decide +kernel)⟩
theorem lw_p15 : lw_okq (⟨"DutiesHat$Rings", "isBetter", "(III)Z"⟩, 4) := ⟨⟨by decide +kernel, by decide +kernel⟩, List.mem_of_getElem? (i := 117) (by decide +kernel), List.mem_of_getElem? (i := 600) (by decide +kernel), List.mem_of_getElem? (i := 601) (by decide +kernel)⟩
def lw_privs_1 : List (MethodName × Nat) := [(⟨"DutiesHat$Scroll", "readLine", "(II)Z"⟩, 6), (⟨"DutiesHat$Scroll", "nextToken", "()V"⟩, 6), (⟨"DutiesHat$Scroll", "verbHere", "()I"⟩, 6), (⟨"DutiesHat$Scroll", "spells", "(Ljava/lang/String;)Z"⟩, 6), (⟨"DutiesHat$Scroll", "numberHere", "()I"⟩, 6), (⟨"DutiesHat", "yesterdayChanged", "()V"⟩, 10), (⟨"DutiesHat", "isThere", "(I)Z"⟩, 10), (⟨"DutiesHat$Rings", "wants", "([III)Z"⟩, 4), (⟨"DutiesHat$Rings", "findThird", "([IIIII)V"⟩, 4), (⟨"DutiesHat$Rings", "note", "(III)V"⟩, 4), (⟨"DutiesHat$Search", "reach", "(I)V"⟩, 8), (⟨"DutiesHat$Search", "takeWaiting", "()I"⟩, 8), (⟨"DutiesHat$Search", "lookAt", "(II)V"⟩, 8), (⟨"DutiesHat$Search", "addEnd", "(I)V"⟩, 8), (⟨"DutiesHat$Rings", "giverTo", "(II)I"⟩, 4), (⟨"DutiesHat$Rings", "isBetter", "(III)Z"⟩, 4)]
theorem lw_r1 : ∀ q ∈ lw_privs_1, lw_okq q := List.forall_mem_cons.mpr ⟨lw_p0, List.forall_mem_cons.mpr ⟨lw_p1, List.forall_mem_cons.mpr ⟨lw_p2, List.forall_mem_cons.mpr ⟨lw_p3, List.forall_mem_cons.mpr ⟨lw_p4, List.forall_mem_cons.mpr ⟨lw_p5, List.forall_mem_cons.mpr ⟨lw_p6, List.forall_mem_cons.mpr ⟨lw_p7, List.forall_mem_cons.mpr ⟨lw_p8, List.forall_mem_cons.mpr ⟨lw_p9, List.forall_mem_cons.mpr ⟨lw_p10, List.forall_mem_cons.mpr ⟨lw_p11, List.forall_mem_cons.mpr ⟨lw_p12, List.forall_mem_cons.mpr ⟨lw_p13, List.forall_mem_cons.mpr ⟨lw_p14, List.forall_mem_cons.mpr ⟨lw_p15, fun _ h => absurd h List.not_mem_nil⟩⟩⟩⟩⟩⟩⟩⟩⟩⟩⟩⟩⟩⟩⟩⟩
theorem lw_p16 : lw_okq (⟨"DutiesHat", "tallyOf", "(I)LDutiesHat$Tally;"⟩, 10) := ⟨⟨by decide +kernel, by decide +kernel⟩, List.mem_of_getElem? (i := 21) (by decide +kernel), List.mem_of_getElem? (i := 608) (by decide +kernel), List.mem_of_getElem? (i := 609) (by decide +kernel)⟩
theorem lw_p17 : lw_okq (⟨"DutiesHat$Tally", "addRow", "(I)V"⟩, 8) := ⟨⟨by decide +kernel, by decide +kernel⟩, List.mem_of_getElem? (i := 141) (by decide +kernel), List.mem_of_getElem? (i := 620) (by decide +kernel), List.mem_of_getElem? (i := 621) (by decide +kernel)⟩
theorem lw_p18 : lw_okq (⟨"DutiesHat$Plan", "layRows", "(I)V"⟩, 6) := ⟨⟨by decide +kernel, by decide +kernel⟩, List.mem_of_getElem? (i := 212) (by decide +kernel), List.mem_of_getElem? (i := 652) (by decide +kernel), List.mem_of_getElem? (i := 653) (by decide +kernel)⟩
theorem lw_p19 : lw_okq (⟨"DutiesHat$Plan", "mayComeBehind", "([III)Z"⟩, 6) := ⟨⟨by decide +kernel, by decide +kernel⟩, List.mem_of_getElem? (i := 212) (by decide +kernel), List.mem_of_getElem? (i := 659) (by decide +kernel), List.mem_of_getElem? (i := 660) (by decide +kernel)⟩
theorem lw_p20 : lw_okq (⟨"DutiesHat$Plan", "addDay", "(I)V"⟩, 6) := ⟨⟨by decide +kernel, by decide +kernel⟩, List.mem_of_getElem? (i := 212) (by decide +kernel), List.mem_of_getElem? (i := 664) (by decide +kernel), List.mem_of_getElem? (i := 665) (by decide +kernel)⟩
theorem lw_p21 : lw_okq (⟨"DutiesHat$Plan", "bestAhead", "(II)I"⟩, 6) := ⟨⟨by decide +kernel, by decide +kernel⟩, List.mem_of_getElem? (i := 212) (by decide +kernel), List.mem_of_getElem? (i := 668) (by decide +kernel), List.mem_of_getElem? (i := 669) (by decide +kernel)⟩
theorem lw_p22 : lw_okq (⟨"DutiesHatModel", "plain", "()V"⟩, 29) := ⟨⟨by decide +kernel, by decide +kernel⟩, List.mem_of_getElem? (i := 717) (by decide +kernel), List.mem_of_getElem? (i := 723) (by decide +kernel), List.mem_of_getElem? (i := 724) (by decide +kernel)⟩
theorem lw_p23 : lw_okq (⟨"DutiesHatModel", "begin", "()V"⟩, 29) := ⟨⟨by decide +kernel, by decide +kernel⟩, List.mem_of_getElem? (i := 717) (by decide +kernel), List.mem_of_getElem? (i := 727) (by decide +kernel), List.mem_of_getElem? (i := 728) (by decide +kernel)⟩
theorem lw_p24 : lw_okq (⟨"DutiesHatModel", "isRead", "()Z"⟩, 29) := ⟨⟨by decide +kernel, by decide +kernel⟩, List.mem_of_getElem? (i := 717) (by decide +kernel), List.mem_of_getElem? (i := 835) (by decide +kernel), List.mem_of_getElem? (i := 836) (by decide +kernel)⟩
theorem lw_p25 : lw_okq (⟨"DutiesHatModel", "isLine", "(I)Z"⟩, 29) := ⟨⟨by decide +kernel, by decide +kernel⟩, List.mem_of_getElem? (i := 717) (by decide +kernel), List.mem_of_getElem? (i := 839) (by decide +kernel), List.mem_of_getElem? (i := 840) (by decide +kernel)⟩
theorem lw_p26 : lw_okq (⟨"DutiesHatModel", "nextToken", "()V"⟩, 29) := ⟨⟨by decide +kernel, by decide +kernel⟩, List.mem_of_getElem? (i := 717) (by decide +kernel), List.mem_of_getElem? (i := 843) (by decide +kernel), List.mem_of_getElem? (i := 844) (by decide +kernel)⟩
theorem lw_p27 : lw_okq (⟨"DutiesHatModel", "isHall", "(I)Z"⟩, 29) := ⟨⟨by decide +kernel, by decide +kernel⟩, List.mem_of_getElem? (i := 717) (by decide +kernel), List.mem_of_getElem? (i := 862) (by decide +kernel), List.mem_of_getElem? (i := 863) (by decide +kernel)⟩
theorem lw_p28 : lw_okq (⟨"DutiesHatModel", "isNumber", "(III)Z"⟩, 29) := ⟨⟨by decide +kernel, by decide +kernel⟩, List.mem_of_getElem? (i := 717) (by decide +kernel), List.mem_of_getElem? (i := 866) (by decide +kernel), List.mem_of_getElem? (i := 867) (by decide +kernel)⟩
theorem lw_p29 : lw_okq (⟨"DutiesHatModel", "fails", "()Z"⟩, 29) := ⟨⟨by decide +kernel, by decide +kernel⟩, List.mem_of_getElem? (i := 717) (by decide +kernel), List.mem_of_getElem? (i := 870) (by decide +kernel), List.mem_of_getElem? (i := 871) (by decide +kernel)⟩
theorem lw_p30 : lw_okq (⟨"DutiesHatModel", "isThere", "(I)Z"⟩, 29) := ⟨⟨by decide +kernel, by decide +kernel⟩, List.mem_of_getElem? (i := 717) (by decide +kernel), List.mem_of_getElem? (i := 874) (by decide +kernel), List.mem_of_getElem? (i := 875) (by decide +kernel)⟩
theorem lw_p31 : lw_okq (⟨"DutiesHatModel", "isRing", "(I)Z"⟩, 29) := ⟨⟨by decide +kernel, by decide +kernel⟩, List.mem_of_getElem? (i := 717) (by decide +kernel), List.mem_of_getElem? (i := 878) (by decide +kernel), List.mem_of_getElem? (i := 879) (by decide +kernel)⟩
def lw_privs_2 : List (MethodName × Nat) := [(⟨"DutiesHat", "tallyOf", "(I)LDutiesHat$Tally;"⟩, 10), (⟨"DutiesHat$Tally", "addRow", "(I)V"⟩, 8), (⟨"DutiesHat$Plan", "layRows", "(I)V"⟩, 6), (⟨"DutiesHat$Plan", "mayComeBehind", "([III)Z"⟩, 6), (⟨"DutiesHat$Plan", "addDay", "(I)V"⟩, 6), (⟨"DutiesHat$Plan", "bestAhead", "(II)I"⟩, 6), (⟨"DutiesHatModel", "plain", "()V"⟩, 29), (⟨"DutiesHatModel", "begin", "()V"⟩, 29), (⟨"DutiesHatModel", "isRead", "()Z"⟩, 29), (⟨"DutiesHatModel", "isLine", "(I)Z"⟩, 29), (⟨"DutiesHatModel", "nextToken", "()V"⟩, 29), (⟨"DutiesHatModel", "isHall", "(I)Z"⟩, 29), (⟨"DutiesHatModel", "isNumber", "(III)Z"⟩, 29), (⟨"DutiesHatModel", "fails", "()Z"⟩, 29), (⟨"DutiesHatModel", "isThere", "(I)Z"⟩, 29), (⟨"DutiesHatModel", "isRing", "(I)Z"⟩, 29)]
theorem lw_r2 : ∀ q ∈ lw_privs_2, lw_okq q := List.forall_mem_cons.mpr ⟨lw_p16, List.forall_mem_cons.mpr ⟨lw_p17, List.forall_mem_cons.mpr ⟨lw_p18, List.forall_mem_cons.mpr ⟨lw_p19, List.forall_mem_cons.mpr ⟨lw_p20, List.forall_mem_cons.mpr ⟨lw_p21, List.forall_mem_cons.mpr ⟨lw_p22, List.forall_mem_cons.mpr ⟨lw_p23, List.forall_mem_cons.mpr ⟨lw_p24, List.forall_mem_cons.mpr ⟨lw_p25, List.forall_mem_cons.mpr ⟨lw_p26, List.forall_mem_cons.mpr ⟨lw_p27, List.forall_mem_cons.mpr ⟨lw_p28, List.forall_mem_cons.mpr ⟨lw_p29, List.forall_mem_cons.mpr ⟨lw_p30, List.forall_mem_cons.mpr ⟨lw_p31, fun _ h => absurd h List.not_mem_nil⟩⟩⟩⟩⟩⟩⟩⟩⟩⟩⟩⟩⟩⟩⟩⟩
theorem lw_p32 : lw_okq (⟨"DutiesHatModel", "doLine", "(I)V"⟩, 29) := ⟨⟨by decide +kernel, by decide +kernel⟩, List.mem_of_getElem? (i := 717) (by decide +kernel), List.mem_of_getElem? (i := 886) (by decide +kernel), List.mem_of_getElem? (i := 887) (by decide +kernel)⟩
theorem lw_p33 : lw_okq (⟨"DutiesHatModel", "isMonk", "(I)Z"⟩, 29) := ⟨⟨by decide +kernel, by decide +kernel⟩, List.mem_of_getElem? (i := 717) (by decide +kernel), List.mem_of_getElem? (i := 894) (by decide +kernel), List.mem_of_getElem? (i := 895) (by decide +kernel)⟩
theorem lw_p34 : lw_okq (⟨"DutiesHatModel", "may", "(II)Z"⟩, 29) := ⟨⟨by decide +kernel, by decide +kernel⟩, List.mem_of_getElem? (i := 717) (by decide +kernel), List.mem_of_getElem? (i := 898) (by decide +kernel), List.mem_of_getElem? (i := 899) (by decide +kernel)⟩
theorem lw_p35 : lw_okq (⟨"DutiesHatModel", "mayBehind", "(III)Z"⟩, 29) := ⟨⟨by decide +kernel, by decide +kernel⟩, List.mem_of_getElem? (i := 717) (by decide +kernel), List.mem_of_getElem? (i := 902) (by decide +kernel), List.mem_of_getElem? (i := 903) (by decide +kernel)⟩
theorem lw_p36 : lw_okq (⟨"DutiesHatModel", "takeDraw", "(I)V"⟩, 29) := ⟨⟨by decide +kernel, by decide +kernel⟩, List.mem_of_getElem? (i := 717) (by decide +kernel), List.mem_of_getElem? (i := 917) (by decide +kernel), List.mem_of_getElem? (i := 918) (by decide +kernel)⟩
theorem lw_p37 : lw_okq (⟨"DutiesHatModel", "isLawful", "()Z"⟩, 29) := ⟨⟨by decide +kernel, by decide +kernel⟩, List.mem_of_getElem? (i := 717) (by decide +kernel), List.mem_of_getElem? (i := 921) (by decide +kernel), List.mem_of_getElem? (i := 922) (by decide +kernel)⟩
theorem lw_p38 : lw_okq (⟨"DutiesHatModel", "putToday", "()V"⟩, 29) := ⟨⟨by decide +kernel, by decide +kernel⟩, List.mem_of_getElem? (i := 717) (by decide +kernel), List.mem_of_getElem? (i := 925) (by decide +kernel), List.mem_of_getElem? (i := 926) (by decide +kernel)⟩
theorem lw_p39 : lw_okq (⟨"DutiesHatModel", "takeToday", "()V"⟩, 29) := ⟨⟨by decide +kernel, by decide +kernel⟩, List.mem_of_getElem? (i := 717) (by decide +kernel), List.mem_of_getElem? (i := 942) (by decide +kernel), List.mem_of_getElem? (i := 943) (by decide +kernel)⟩
theorem lw_p40 : lw_okq (⟨"DutiesHatModel", "isWanted", "(III)Z"⟩, 29) := ⟨⟨by decide +kernel, by decide +kernel⟩, List.mem_of_getElem? (i := 717) (by decide +kernel), List.mem_of_getElem? (i := 946) (by decide +kernel), List.mem_of_getElem? (i := 947) (by decide +kernel)⟩
theorem lw_p41 : lw_okq (⟨"DutiesHatModel", "likesMore", "(II)Z"⟩, 29) := ⟨⟨by decide +kernel, by decide +kernel⟩, List.mem_of_getElem? (i := 717) (by decide +kernel), List.mem_of_getElem? (i := 950) (by decide +kernel), List.mem_of_getElem? (i := 951) (by decide +kernel)⟩
theorem lw_p42 : lw_okq (⟨"DutiesHatModel", "goRing", "(III)V"⟩, 29) := ⟨⟨by decide +kernel, by decide +kernel⟩, List.mem_of_getElem? (i := 717) (by decide +kernel), List.mem_of_getElem? (i := 954) (by decide +kernel), List.mem_of_getElem? (i := 955) (by decide +kernel)⟩
theorem lw_p43 : lw_okq (⟨"DutiesHatModel", "gladnessOf", "()I"⟩, 29) := ⟨⟨by decide +kernel, by decide +kernel⟩, List.mem_of_getElem? (i := 717) (by decide +kernel), List.mem_of_getElem? (i := 958) (by decide +kernel), List.mem_of_getElem? (i := 959) (by decide +kernel)⟩
theorem lw_p44 : lw_okq (⟨"DutiesHatModel", "settleBy", "(I)I"⟩, 29) := ⟨⟨by decide +kernel, by decide +kernel⟩, List.mem_of_getElem? (i := 717) (by decide +kernel), List.mem_of_getElem? (i := 966) (by decide +kernel), List.mem_of_getElem? (i := 967) (by decide +kernel)⟩
theorem lw_p45 : lw_okq (⟨"DutiesHatModel", "nextWanted", "(II)I"⟩, 29) := ⟨⟨by decide +kernel, by decide +kernel⟩, List.mem_of_getElem? (i := 717) (by decide +kernel), List.mem_of_getElem? (i := 970) (by decide +kernel), List.mem_of_getElem? (i := 971) (by decide +kernel)⟩
theorem lw_p46 : lw_okq (⟨"DutiesHatModel", "takeRing", "(II)V"⟩, 29) := ⟨⟨by decide +kernel, by decide +kernel⟩, List.mem_of_getElem? (i := 717) (by decide +kernel), List.mem_of_getElem? (i := 974) (by decide +kernel), List.mem_of_getElem? (i := 975) (by decide +kernel)⟩
theorem lw_p47 : lw_okq (⟨"DutiesHatModel", "numberOf", "()I"⟩, 29) := ⟨⟨by decide +kernel, by decide +kernel⟩, List.mem_of_getElem? (i := 717) (by decide +kernel), List.mem_of_getElem? (i := 986) (by decide +kernel), List.mem_of_getElem? (i := 987) (by decide +kernel)⟩
def lw_privs_3 : List (MethodName × Nat) := [(⟨"DutiesHatModel", "doLine", "(I)V"⟩, 29), (⟨"DutiesHatModel", "isMonk", "(I)Z"⟩, 29), (⟨"DutiesHatModel", "may", "(II)Z"⟩, 29), (⟨"DutiesHatModel", "mayBehind", "(III)Z"⟩, 29), (⟨"DutiesHatModel", "takeDraw", "(I)V"⟩, 29), (⟨"DutiesHatModel", "isLawful", "()Z"⟩, 29), (⟨"DutiesHatModel", "putToday", "()V"⟩, 29), (⟨"DutiesHatModel", "takeToday", "()V"⟩, 29), (⟨"DutiesHatModel", "isWanted", "(III)Z"⟩, 29), (⟨"DutiesHatModel", "likesMore", "(II)Z"⟩, 29), (⟨"DutiesHatModel", "goRing", "(III)V"⟩, 29), (⟨"DutiesHatModel", "gladnessOf", "()I"⟩, 29), (⟨"DutiesHatModel", "settleBy", "(I)I"⟩, 29), (⟨"DutiesHatModel", "nextWanted", "(II)I"⟩, 29), (⟨"DutiesHatModel", "takeRing", "(II)V"⟩, 29), (⟨"DutiesHatModel", "numberOf", "()I"⟩, 29)]
theorem lw_r3 : ∀ q ∈ lw_privs_3, lw_okq q := List.forall_mem_cons.mpr ⟨lw_p32, List.forall_mem_cons.mpr ⟨lw_p33, List.forall_mem_cons.mpr ⟨lw_p34, List.forall_mem_cons.mpr ⟨lw_p35, List.forall_mem_cons.mpr ⟨lw_p36, List.forall_mem_cons.mpr ⟨lw_p37, List.forall_mem_cons.mpr ⟨lw_p38, List.forall_mem_cons.mpr ⟨lw_p39, List.forall_mem_cons.mpr ⟨lw_p40, List.forall_mem_cons.mpr ⟨lw_p41, List.forall_mem_cons.mpr ⟨lw_p42, List.forall_mem_cons.mpr ⟨lw_p43, List.forall_mem_cons.mpr ⟨lw_p44, List.forall_mem_cons.mpr ⟨lw_p45, List.forall_mem_cons.mpr ⟨lw_p46, List.forall_mem_cons.mpr ⟨lw_p47, fun _ h => absurd h List.not_mem_nil⟩⟩⟩⟩⟩⟩⟩⟩⟩⟩⟩⟩⟩⟩⟩⟩
theorem lw_p48 : lw_okq (⟨"DutiesHatModel", "workOf", "()I"⟩, 29) := ⟨⟨by decide +kernel, by decide +kernel⟩, List.mem_of_getElem? (i := 717) (by decide +kernel), List.mem_of_getElem? (i := 990) (by decide +kernel), List.mem_of_getElem? (i := 991) (by decide +kernel)⟩
theorem lw_p49 : lw_okq (⟨"DutiesHatModel", "isLawfulBehind", "()Z"⟩, 29) := ⟨⟨by decide +kernel, by decide +kernel⟩, List.mem_of_getElem? (i := 717) (by decide +kernel), List.mem_of_getElem? (i := 1024) (by decide +kernel), List.mem_of_getElem? (i := 1025) (by decide +kernel)⟩
theorem lw_p50 : lw_okq (⟨"DutiesHatModel", "oftenOf", "(II)I"⟩, 29) := ⟨⟨by decide +kernel, by decide +kernel⟩, List.mem_of_getElem? (i := 717) (by decide +kernel), List.mem_of_getElem? (i := 1032) (by decide +kernel), List.mem_of_getElem? (i := 1033) (by decide +kernel)⟩
theorem lw_p51 : lw_okq (⟨"DutiesHatModel", "tailUp", "(II)J"⟩, 29) := ⟨⟨by decide +kernel, by decide +kernel⟩, List.mem_of_getElem? (i := 717) (by decide +kernel), List.mem_of_getElem? (i := 1040) (by decide +kernel), List.mem_of_getElem? (i := 1041) (by decide +kernel)⟩
theorem lw_p52 : lw_okq (⟨"DutiesHatModel", "tailDown", "()J"⟩, 29) := ⟨⟨by decide +kernel, by decide +kernel⟩, List.mem_of_getElem? (i := 717) (by decide +kernel), List.mem_of_getElem? (i := 1044) (by decide +kernel), List.mem_of_getElem? (i := 1045) (by decide +kernel)⟩
def lw_privs_4 : List (MethodName × Nat) := [(⟨"DutiesHatModel", "workOf", "()I"⟩, 29), (⟨"DutiesHatModel", "isLawfulBehind", "()Z"⟩, 29), (⟨"DutiesHatModel", "oftenOf", "(II)I"⟩, 29), (⟨"DutiesHatModel", "tailUp", "(II)J"⟩, 29), (⟨"DutiesHatModel", "tailDown", "()J"⟩, 29)]
theorem lw_r4 : ∀ q ∈ lw_privs_4, lw_okq q := List.forall_mem_cons.mpr ⟨lw_p48, List.forall_mem_cons.mpr ⟨lw_p49, List.forall_mem_cons.mpr ⟨lw_p50, List.forall_mem_cons.mpr ⟨lw_p51, List.forall_mem_cons.mpr ⟨lw_p52, fun _ h => absurd h List.not_mem_nil⟩⟩⟩⟩⟩
def lw_privs : List (MethodName × Nat) := lw_privs_1 ++ (lw_privs_2 ++ (lw_privs_3 ++ (lw_privs_4)))
def lw_tbl : List Cond := k2_sels lw_privs ++ tables_1
theorem lw_privs_ok : ∀ q ∈ lw_privs, lw_okq q := by
  show ∀ q ∈ lw_privs_1 ++ (lw_privs_2 ++ (lw_privs_3 ++ (lw_privs_4))), lw_okq q
  exact List.forall_mem_append.mpr ⟨lw_r1, List.forall_mem_append.mpr ⟨lw_r2, List.forall_mem_append.mpr ⟨lw_r3, lw_r4⟩⟩⟩
-- ===== end of PART A; then your names; then what follows =====
end
section
def RX0 : String := "DutiesHat$Chance"
def TX0 : u_T := fun k => match k with
  | _ => ("", "", "", false)
def tyX0 : Nat → FieldType := fun k => match k with
  | _ => .int
abbrev wsX00 : List Cond := u_ws RX0 TX0 0
theorem nmX0 : ∀ a, a < 0 → ∀ b, b < 0 → a ≠ b → (TX0 a).2.1 ≠ (TX0 b).2.1 := by decide +kernel
theorem tyX0_ok : ∀ k, k < 0 → parseFieldDescriptor (TX0 k).2.2.1 = some (tyX0 k) := by decide +kernel
abbrev cX0_lowest : ByteArray := prog_2_method_2_code
def yX0_lowest : MethodName := ⟨RX0, "lowest", "(JJI)J"⟩
abbrev cX0_power : ByteArray := prog_2_method_3_code
def yX0_power : MethodName := ⟨RX0, "power", "(JI)J"⟩
abbrev cX0_waysOf : ByteArray := prog_2_method_4_code
def yX0_waysOf : MethodName := ⟨RX0, "waysOf", "(III)J"⟩
def RX1 : String := "DutiesHat$Days"
def TX1 : u_T := fun k => match k with
  | 0 => ("DutiesHat$Days", "drawn", "Z", false)
  | 1 => ("DutiesHat$Days", "today", "[I", true)
  | 2 => ("DutiesHat$Days", "yesterday", "[I", true)
  | 3 => ("DutiesHat$Days", "dawns", "I", false)
  | _ => ("DutiesHat$Days", "book", "[I", true)
def tyX1 : Nat → FieldType := fun k => match k with
  | 0 => .boolean
  | 1 => .array .int
  | 2 => .array .int
  | 3 => .int
  | _ => .array .int
abbrev wsX10 : List Cond := u_ws RX1 TX1 5
theorem nmX1 : ∀ a, a < 5 → ∀ b, b < 5 → a ≠ b → (TX1 a).2.1 ≠ (TX1 b).2.1 := by decide +kernel
theorem tyX1_ok : ∀ k, k < 5 → parseFieldDescriptor (TX1 k).2.2.1 = some (tyX1 k) := by decide +kernel
abbrev cX1_init : ByteArray := prog_3_method_1_code
def yX1_init : MethodName := ⟨RX1, "<init>", "()V"⟩
abbrev cX1_begin : ByteArray := prog_3_method_2_code
def yX1_begin : MethodName := ⟨RX1, "begin", "([I)V"⟩
abbrev cX1_give : ByteArray := prog_3_method_3_code
def yX1_give : MethodName := ⟨RX1, "give", "([I)V"⟩
abbrev cX1_end : ByteArray := prog_3_method_4_code
def yX1_end : MethodName := ⟨RX1, "end", "()V"⟩
abbrev cX1_timesOf : ByteArray := prog_3_method_5_code
def yX1_timesOf : MethodName := ⟨RX1, "timesOf", "(II)I"⟩
abbrev cX1_copy : ByteArray := prog_3_method_6_code
def yX1_copy : MethodName := ⟨RX1, "copy", "(LDutiesHat$Days;)V"⟩
def RX2 : String := "DutiesHat$House"
def TX2 : u_T := fun k => match k with
  | 0 => ("DutiesHat$House", "monks", "I", false)
  | 1 => ("DutiesHat$House", "ring", "I", false)
  | 2 => ("DutiesHat$House", "skills", "[I", true)
  | 3 => ("DutiesHat$House", "likings", "[I", true)
  | 4 => ("DutiesHat$House", "kinds", "[I", true)
  | _ => ("DutiesHat$House", "told", "[I", true)
def tyX2 : Nat → FieldType := fun k => match k with
  | 0 => .int
  | 1 => .int
  | 2 => .array .int
  | 3 => .array .int
  | 4 => .array .int
  | _ => .array .int
abbrev wsX20 : List Cond := u_ws RX2 TX2 6
theorem nmX2 : ∀ a, a < 6 → ∀ b, b < 6 → a ≠ b → (TX2 a).2.1 ≠ (TX2 b).2.1 := by decide +kernel
theorem tyX2_ok : ∀ k, k < 6 → parseFieldDescriptor (TX2 k).2.2.1 = some (tyX2 k) := by decide +kernel
abbrev cX2_init : ByteArray := prog_4_method_1_code
def yX2_init : MethodName := ⟨RX2, "<init>", "()V"⟩
abbrev cX2_cell : ByteArray := prog_4_method_2_code
def yX2_cell : MethodName := ⟨RX2, "cell", "(II)I"⟩
abbrev cX2_open : ByteArray := prog_4_method_3_code
def yX2_open : MethodName := ⟨RX2, "open", "(I)V"⟩
abbrev cX2_obey : ByteArray := prog_4_method_4_code
def yX2_obey : MethodName := ⟨RX2, "obey", "([II)V"⟩
abbrev cX2_skillOf : ByteArray := prog_4_method_5_code
def yX2_skillOf : MethodName := ⟨RX2, "skillOf", "(II)I"⟩
abbrev cX2_likingOf : ByteArray := prog_4_method_6_code
def yX2_likingOf : MethodName := ⟨RX2, "likingOf", "(II)I"⟩
abbrev cX2_isA : ByteArray := prog_4_method_7_code
def yX2_isA : MethodName := ⟨RX2, "isA", "(II)Z"⟩
abbrev cX2_mayFollow : ByteArray := prog_4_method_8_code
def yX2_mayFollow : MethodName := ⟨RX2, "mayFollow", "(II)Z"⟩
abbrev cX2_workOf : ByteArray := prog_4_method_9_code
def yX2_workOf : MethodName := ⟨RX2, "workOf", "([I)I"⟩
abbrev cX2_gladnessOf : ByteArray := prog_4_method_10_code
def yX2_gladnessOf : MethodName := ⟨RX2, "gladnessOf", "([I)I"⟩
def RX3 : String := "DutiesHat$Lots"
def TX3 : u_T := fun k => match k with
  | _ => ("", "", "", false)
def tyX3 : Nat → FieldType := fun k => match k with
  | _ => .int
abbrev wsX30 : List Cond := u_ws RX3 TX3 0
theorem nmX3 : ∀ a, a < 0 → ∀ b, b < 0 → a ≠ b → (TX3 a).2.1 ≠ (TX3 b).2.1 := by decide +kernel
theorem tyX3_ok : ∀ k, k < 0 → parseFieldDescriptor (TX3 k).2.2.1 = some (tyX3 k) := by decide +kernel
abbrev cX3_fill : ByteArray := prog_5_method_2_code
def yX3_fill : MethodName := ⟨RX3, "fill", "([III)V"⟩
abbrev cX3_numberOf : ByteArray := prog_5_method_3_code
def yX3_numberOf : MethodName := ⟨RX3, "numberOf", "([II)I"⟩
abbrev cX3_mix : ByteArray := prog_5_method_4_code
def yX3_mix : MethodName := ⟨RX3, "mix", "([III)I"⟩
def RX4 : String := "DutiesHat$Plan"
def TX4 : u_T := fun k => match k with
  | 0 => ("DutiesHat$Plan", "house", "LDutiesHat$House;", true)
  | 1 => ("DutiesHat$Plan", "row", "[I", true)
  | 2 => ("DutiesHat$Plan", "rows", "[I", true)
  | 3 => ("DutiesHat$Plan", "works", "[I", true)
  | 4 => ("DutiesHat$Plan", "best", "[I", false)
  | _ => ("DutiesHat$Plan", "next", "[I", false)
def tyX4 : Nat → FieldType := fun k => match k with
  | 0 => .object "DutiesHat$House"
  | 1 => .array .int
  | 2 => .array .int
  | 3 => .array .int
  | 4 => .array .int
  | _ => .array .int
abbrev wsX40 : List Cond := u_ws RX4 TX4 6
theorem nmX4 : ∀ a, a < 6 → ∀ b, b < 6 → a ≠ b → (TX4 a).2.1 ≠ (TX4 b).2.1 := by decide +kernel
theorem tyX4_ok : ∀ k, k < 6 → parseFieldDescriptor (TX4 k).2.2.1 = some (tyX4 k) := by decide +kernel
abbrev cX4_init : ByteArray := prog_6_method_1_code
def yX4_init : MethodName := ⟨RX4, "<init>", "(LDutiesHat$House;)V"⟩
abbrev cX4_greatest : ByteArray := prog_6_method_2_code
def yX4_greatest : MethodName := ⟨RX4, "greatest", "([II)I"⟩
abbrev cX4_layRows : ByteArray := prog_6_method_3_code
def yX4_layRows : MethodName := ⟨RX4, "layRows", "(I)V"⟩
abbrev cX4_addDay : ByteArray := prog_6_method_4_code
def yX4_addDay : MethodName := ⟨RX4, "addDay", "(I)V"⟩
abbrev cX4_bestAhead : ByteArray := prog_6_method_5_code
def yX4_bestAhead : MethodName := ⟨RX4, "bestAhead", "(II)I"⟩
abbrev cX4_mayComeBehind : ByteArray := prog_6_method_6_code
def yX4_mayComeBehind : MethodName := ⟨RX4, "mayComeBehind", "([III)Z"⟩
def RX5 : String := "DutiesHat$Rings"
def TX5 : u_T := fun k => match k with
  | 0 => ("DutiesHat$Rings", "house", "LDutiesHat$House;", true)
  | 1 => ("DutiesHat$Rings", "may", "[I", true)
  | 2 => ("DutiesHat$Rings", "found", "[I", true)
  | _ => ("DutiesHat$Rings", "foundCount", "I", false)
def tyX5 : Nat → FieldType := fun k => match k with
  | 0 => .object "DutiesHat$House"
  | 1 => .array .int
  | 2 => .array .int
  | _ => .int
abbrev wsX50 : List Cond := u_ws RX5 TX5 4
theorem nmX5 : ∀ a, a < 4 → ∀ b, b < 4 → a ≠ b → (TX5 a).2.1 ≠ (TX5 b).2.1 := by decide +kernel
theorem tyX5_ok : ∀ k, k < 4 → parseFieldDescriptor (TX5 k).2.2.1 = some (tyX5 k) := by decide +kernel
abbrev cX5_init : ByteArray := prog_7_method_1_code
def yX5_init : MethodName := ⟨RX5, "<init>", "(LDutiesHat$House;)V"⟩
abbrev cX5_look : ByteArray := prog_7_method_2_code
def yX5_look : MethodName := ⟨RX5, "look", "([I)V"⟩
abbrev cX5_mayDo : ByteArray := prog_7_method_3_code
def yX5_mayDo : MethodName := ⟨RX5, "mayDo", "(II)Z"⟩
abbrev cX5_allMayDo : ByteArray := prog_7_method_4_code
def yX5_allMayDo : MethodName := ⟨RX5, "allMayDo", "([I)Z"⟩
abbrev cX5_wants : ByteArray := prog_7_method_5_code
def yX5_wants : MethodName := ⟨RX5, "wants", "([III)Z"⟩
abbrev cX5_isWanted : ByteArray := prog_7_method_6_code
def yX5_isWanted : MethodName := ⟨RX5, "isWanted", "([IIII)Z"⟩
abbrev cX5_pass : ByteArray := prog_7_method_7_code
def yX5_pass : MethodName := ⟨RX5, "pass", "([IIII)V"⟩
abbrev cX5_find : ByteArray := prog_7_method_8_code
def yX5_find : MethodName := ⟨RX5, "find", "([III)V"⟩
abbrev cX5_findThird : ByteArray := prog_7_method_9_code
def yX5_findThird : MethodName := ⟨RX5, "findThird", "([IIIII)V"⟩
abbrev cX5_note : ByteArray := prog_7_method_10_code
def yX5_note : MethodName := ⟨RX5, "note", "(III)V"⟩
abbrev cX5_passFound : ByteArray := prog_7_method_11_code
def yX5_passFound : MethodName := ⟨RX5, "passFound", "([II)V"⟩
abbrev cX5_passAll : ByteArray := prog_7_method_12_code
def yX5_passAll : MethodName := ⟨RX5, "passAll", "([II)I"⟩
abbrev cX5_bestFor : ByteArray := prog_7_method_13_code
def yX5_bestFor : MethodName := ⟨RX5, "bestFor", "(I[II)I"⟩
abbrev cX5_isBetter : ByteArray := prog_7_method_14_code
def yX5_isBetter : MethodName := ⟨RX5, "isBetter", "(III)Z"⟩
abbrev cX5_giverTo : ByteArray := prog_7_method_15_code
def yX5_giverTo : MethodName := ⟨RX5, "giverTo", "(II)I"⟩
def RX6 : String := "DutiesHat$Scroll"
def TX6 : u_T := fun k => match k with
  | 0 => ("DutiesHat$Scroll", "bytes", "[I", true)
  | 1 => ("DutiesHat$Scroll", "length", "I", false)
  | 2 => ("DutiesHat$Scroll", "lines", "[I", true)
  | 3 => ("DutiesHat$Scroll", "lineCount", "I", false)
  | 4 => ("DutiesHat$Scroll", "tokenStart", "I", false)
  | _ => ("DutiesHat$Scroll", "tokenEnd", "I", false)
def tyX6 : Nat → FieldType := fun k => match k with
  | 0 => .array .int
  | 1 => .int
  | 2 => .array .int
  | 3 => .int
  | 4 => .int
  | _ => .int
abbrev wsX60 : List Cond := u_ws RX6 TX6 6
theorem nmX6 : ∀ a, a < 6 → ∀ b, b < 6 → a ≠ b → (TX6 a).2.1 ≠ (TX6 b).2.1 := by decide +kernel
theorem tyX6_ok : ∀ k, k < 6 → parseFieldDescriptor (TX6 k).2.2.1 = some (tyX6 k) := by decide +kernel
abbrev cX6_init : ByteArray := prog_8_method_1_code
def yX6_init : MethodName := ⟨RX6, "<init>", "()V"⟩
abbrev cX6_add : ByteArray := prog_8_method_2_code
def yX6_add : MethodName := ⟨RX6, "add", "(I)V"⟩
abbrev cX6_read : ByteArray := prog_8_method_3_code
def yX6_read : MethodName := ⟨RX6, "read", "(I)I"⟩
abbrev cX6_readLine : ByteArray := prog_8_method_4_code
def yX6_readLine : MethodName := ⟨RX6, "readLine", "(II)Z"⟩
abbrev cX6_nextToken : ByteArray := prog_8_method_5_code
def yX6_nextToken : MethodName := ⟨RX6, "nextToken", "()V"⟩
abbrev cX6_isLetter : ByteArray := prog_8_method_6_code
def yX6_isLetter : MethodName := ⟨RX6, "isLetter", "(I)Z"⟩
abbrev cX6_isDigit : ByteArray := prog_8_method_7_code
def yX6_isDigit : MethodName := ⟨RX6, "isDigit", "(I)Z"⟩
abbrev cX6_verbHere : ByteArray := prog_8_method_8_code
def yX6_verbHere : MethodName := ⟨RX6, "verbHere", "()I"⟩
abbrev cX6_spells : ByteArray := prog_8_method_9_code
def yX6_spells : MethodName := ⟨RX6, "spells", "(Ljava/lang/String;)Z"⟩
abbrev cX6_numberHere : ByteArray := prog_8_method_10_code
def yX6_numberHere : MethodName := ⟨RX6, "numberHere", "()I"⟩
abbrev cX6_numbersOf : ByteArray := prog_8_method_11_code
def yX6_numbersOf : MethodName := ⟨RX6, "numbersOf", "(I)I"⟩
abbrev cX6_fits : ByteArray := prog_8_method_12_code
def yX6_fits : MethodName := ⟨RX6, "fits", "(IIII)Z"⟩
def RX7 : String := "DutiesHat$Search"
def TX7 : u_T := fun k => match k with
  | 0 => ("DutiesHat$Search", "rings", "LDutiesHat$Rings;", true)
  | 1 => ("DutiesHat$Search", "row", "[I", true)
  | 2 => ("DutiesHat$Search", "next", "[I", true)
  | 3 => ("DutiesHat$Search", "seen", "[J", true)
  | 4 => ("DutiesHat$Search", "waiting", "[J", true)
  | 5 => ("DutiesHat$Search", "howMany", "I", false)
  | 6 => ("DutiesHat$Search", "gladness", "I", false)
  | _ => ("DutiesHat$Search", "number", "I", false)
def tyX7 : Nat → FieldType := fun k => match k with
  | 0 => .object "DutiesHat$Rings"
  | 1 => .array .int
  | 2 => .array .int
  | 3 => .array .long
  | 4 => .array .long
  | 5 => .int
  | 6 => .int
  | _ => .int
abbrev wsX70 : List Cond := u_ws RX7 TX7 8
theorem nmX7 : ∀ a, a < 8 → ∀ b, b < 8 → a ≠ b → (TX7 a).2.1 ≠ (TX7 b).2.1 := by decide +kernel
theorem tyX7_ok : ∀ k, k < 8 → parseFieldDescriptor (TX7 k).2.2.1 = some (tyX7 k) := by decide +kernel
abbrev cX7_init : ByteArray := prog_9_method_1_code
def yX7_init : MethodName := ⟨RX7, "<init>", "(LDutiesHat$Rings;)V"⟩
abbrev cX7_from : ByteArray := prog_9_method_2_code
def yX7_from : MethodName := ⟨RX7, "from", "([II)V"⟩
abbrev cX7_reach : ByteArray := prog_9_method_3_code
def yX7_reach : MethodName := ⟨RX7, "reach", "(I)V"⟩
abbrev cX7_takeWaiting : ByteArray := prog_9_method_4_code
def yX7_takeWaiting : MethodName := ⟨RX7, "takeWaiting", "()I"⟩
abbrev cX7_lookAt : ByteArray := prog_9_method_5_code
def yX7_lookAt : MethodName := ⟨RX7, "lookAt", "(II)V"⟩
abbrev cX7_addEnd : ByteArray := prog_9_method_6_code
def yX7_addEnd : MethodName := ⟨RX7, "addEnd", "(I)V"⟩
def RX8 : String := "DutiesHat$Tally"
def TX8 : u_T := fun k => match k with
  | 0 => ("DutiesHat$Tally", "rings", "LDutiesHat$Rings;", true)
  | 1 => ("DutiesHat$Tally", "ring", "I", true)
  | 2 => ("DutiesHat$Tally", "row", "[I", true)
  | 3 => ("DutiesHat$Tally", "fresh", "Z", false)
  | 4 => ("DutiesHat$Tally", "draws", "I", false)
  | 5 => ("DutiesHat$Tally", "work", "I", false)
  | 6 => ("DutiesHat$Tally", "gladness", "I", false)
  | _ => ("DutiesHat$Tally", "had", "[I", true)
def tyX8 : Nat → FieldType := fun k => match k with
  | 0 => .object "DutiesHat$Rings"
  | 1 => .int
  | 2 => .array .int
  | 3 => .boolean
  | 4 => .int
  | 5 => .int
  | 6 => .int
  | _ => .array .int
abbrev wsX80 : List Cond := u_ws RX8 TX8 8
theorem nmX8 : ∀ a, a < 8 → ∀ b, b < 8 → a ≠ b → (TX8 a).2.1 ≠ (TX8 b).2.1 := by decide +kernel
theorem tyX8_ok : ∀ k, k < 8 → parseFieldDescriptor (TX8 k).2.2.1 = some (tyX8 k) := by decide +kernel
abbrev cX8_init : ByteArray := prog_10_method_1_code
def yX8_init : MethodName := ⟨RX8, "<init>", "(LDutiesHat$Rings;I)V"⟩
abbrev cX8_make : ByteArray := prog_10_method_2_code
def yX8_make : MethodName := ⟨RX8, "make", "()V"⟩
abbrev cX8_addRow : ByteArray := prog_10_method_3_code
def yX8_addRow : MethodName := ⟨RX8, "addRow", "(I)V"⟩
def RX9 : String := "DutiesHat"
def TX9 : u_T := fun k => match k with
  | 0 => ("DutiesHat", "scroll", "LDutiesHat$Scroll;", true)
  | 1 => ("DutiesHat", "house", "LDutiesHat$House;", true)
  | 2 => ("DutiesHat", "days", "LDutiesHat$Days;", true)
  | 3 => ("DutiesHat", "images", "[LDutiesHat$Days;", true)
  | 4 => ("DutiesHat", "imaged", "[Z", true)
  | 5 => ("DutiesHat", "rings", "LDutiesHat$Rings;", true)
  | 6 => ("DutiesHat", "tallies", "[LDutiesHat$Tally;", true)
  | 7 => ("DutiesHat", "search", "LDutiesHat$Search;", true)
  | 8 => ("DutiesHat", "plan", "LDutiesHat$Plan;", true)
  | _ => ("DutiesHat", "lots", "[I", true)
def tyX9 : Nat → FieldType := fun k => match k with
  | 0 => .object "DutiesHat$Scroll"
  | 1 => .object "DutiesHat$House"
  | 2 => .object "DutiesHat$Days"
  | 3 => .array (.object "DutiesHat$Days")
  | 4 => .array .boolean
  | 5 => .object "DutiesHat$Rings"
  | 6 => .array (.object "DutiesHat$Tally")
  | 7 => .object "DutiesHat$Search"
  | 8 => .object "DutiesHat$Plan"
  | _ => .array .int
abbrev wsX90 : List Cond := u_ws RX9 TX9 10
theorem nmX9 : ∀ a, a < 10 → ∀ b, b < 10 → a ≠ b → (TX9 a).2.1 ≠ (TX9 b).2.1 := by decide +kernel
theorem tyX9_ok : ∀ k, k < 10 → parseFieldDescriptor (TX9 k).2.2.1 = some (tyX9 k) := by decide +kernel
abbrev cX9_init : ByteArray := prog_1_method_1_code
def yX9_init : MethodName := ⟨RX9, "<init>", "()V"⟩
abbrev cX9_write : ByteArray := prog_1_method_2_code
def yX9_write : MethodName := ⟨RX9, "write", "(JI)I"⟩
abbrev cX9_erase : ByteArray := prog_1_method_3_code
def yX9_erase : MethodName := ⟨RX9, "erase", "()I"⟩
abbrev cX9_fault : ByteArray := prog_1_method_4_code
def yX9_fault : MethodName := ⟨RX9, "fault", "()I"⟩
abbrev cX9_hall : ByteArray := prog_1_method_5_code
def yX9_hall : MethodName := ⟨RX9, "hall", "()I"⟩
abbrev cX9_monk : ByteArray := prog_1_method_6_code
def yX9_monk : MethodName := ⟨RX9, "monk", "(III)I"⟩
abbrev cX9_as : ByteArray := prog_1_method_7_code
def yX9_as : MethodName := ⟨RX9, "as", "(II)I"⟩
abbrev cX9_lay : ByteArray := prog_1_method_8_code
def yX9_lay : MethodName := ⟨RX9, "lay", "(I)I"⟩
abbrev cX9_draw : ByteArray := prog_1_method_9_code
def yX9_draw : MethodName := ⟨RX9, "draw", "(I)I"⟩
abbrev cX9_has : ByteArray := prog_1_method_10_code
def yX9_has : MethodName := ⟨RX9, "has", "(II)I"⟩
abbrev cX9_trade : ByteArray := prog_1_method_11_code
def yX9_trade : MethodName := ⟨RX9, "trade", "(III)I"⟩
abbrev cX9_settle : ByteArray := prog_1_method_12_code
def yX9_settle : MethodName := ⟨RX9, "settle", "()I"⟩
abbrev cX9_dawn : ByteArray := prog_1_method_13_code
def yX9_dawn : MethodName := ⟨RX9, "dawn", "()I"⟩
abbrev cX9_today : ByteArray := prog_1_method_14_code
def yX9_today : MethodName := ⟨RX9, "today", "(I)I"⟩
abbrev cX9_ends : ByteArray := prog_1_method_15_code
def yX9_ends : MethodName := ⟨RX9, "ends", "(I)I"⟩
abbrev cX9_hint : ByteArray := prog_1_method_16_code
def yX9_hint : MethodName := ⟨RX9, "hint", "(I)I"⟩
abbrev cX9_lawful : ByteArray := prog_1_method_17_code
def yX9_lawful : MethodName := ⟨RX9, "lawful", "()I"⟩
abbrev cX9_mean : ByteArray := prog_1_method_18_code
def yX9_mean : MethodName := ⟨RX9, "mean", "(III)I"⟩
abbrev cX9_odds : ByteArray := prog_1_method_19_code
def yX9_odds : MethodName := ⟨RX9, "odds", "(IIII)I"⟩
abbrev cX9_week : ByteArray := prog_1_method_20_code
def yX9_week : MethodName := ⟨RX9, "week", "(I)I"⟩
abbrev cX9_often : ByteArray := prog_1_method_21_code
def yX9_often : MethodName := ⟨RX9, "often", "(II)I"⟩
abbrev cX9_tail : ByteArray := prog_1_method_22_code
def yX9_tail : MethodName := ⟨RX9, "tail", "(III)J"⟩
abbrev cX9_named : ByteArray := prog_1_method_23_code
def yX9_named : MethodName := ⟨RX9, "named", "(I)I"⟩
abbrev cX9_keep : ByteArray := prog_1_method_24_code
def yX9_keep : MethodName := ⟨RX9, "keep", "(I)I"⟩
abbrev cX9_back : ByteArray := prog_1_method_25_code
def yX9_back : MethodName := ⟨RX9, "back", "(I)I"⟩
abbrev cX9_count : ByteArray := prog_1_method_26_code
def yX9_count : MethodName := ⟨RX9, "count", "(I)I"⟩
abbrev cX9_isThere : ByteArray := prog_1_method_27_code
def yX9_isThere : MethodName := ⟨RX9, "isThere", "(I)Z"⟩
abbrev cX9_isRing : ByteArray := prog_1_method_28_code
def yX9_isRing : MethodName := ⟨RX9, "isRing", "(I)Z"⟩
abbrev cX9_isPart : ByteArray := prog_1_method_29_code
def yX9_isPart : MethodName := ⟨RX9, "isPart", "(I)Z"⟩
abbrev cX9_yesterdayChanged : ByteArray := prog_1_method_30_code
def yX9_yesterdayChanged : MethodName := ⟨RX9, "yesterdayChanged", "()V"⟩
abbrev cX9_tallyOf : ByteArray := prog_1_method_31_code
def yX9_tallyOf : MethodName := ⟨RX9, "tallyOf", "(I)LDutiesHat$Tally;"⟩
def RX10 : String := "DutiesHatModel"
def TX10 : u_T := fun k => match k with
  | 0 => ("DutiesHatModel", "monks", "I", false)
  | 1 => ("DutiesHatModel", "ring", "I", false)
  | 2 => ("DutiesHatModel", "skill", "[I", true)
  | 3 => ("DutiesHatModel", "liking", "[I", true)
  | 4 => ("DutiesHatModel", "kind", "[I", true)
  | 5 => ("DutiesHatModel", "did", "[I", true)
  | 6 => ("DutiesHatModel", "bytes", "I", false)
  | 7 => ("DutiesHatModel", "text", "[I", true)
  | 8 => ("DutiesHatModel", "position", "I", false)
  | 9 => ("DutiesHatModel", "tokenAt", "I", false)
  | 10 => ("DutiesHatModel", "token", "J", false)
  | 11 => ("DutiesHatModel", "digits", "I", false)
  | 12 => ("DutiesHatModel", "number", "I", false)
  | 13 => ("DutiesHatModel", "faultAt", "I", false)
  | 14 => ("DutiesHatModel", "readMany", "I", false)
  | 15 => ("DutiesHatModel", "readMonks", "I", false)
  | 16 => ("DutiesHatModel", "read", "[I", true)
  | 17 => ("DutiesHatModel", "now", "[I", true)
  | 18 => ("DutiesHatModel", "image", "[I", true)
  | 19 => ("DutiesHatModel", "isKept", "[Z", true)
  | 20 => ("DutiesHatModel", "row", "[I", true)
  | 21 => ("DutiesHatModel", "before", "[I", true)
  | 22 => ("DutiesHatModel", "met", "[Z", true)
  | 23 => ("DutiesHatModel", "line", "[I", true)
  | 24 => ("DutiesHatModel", "best", "[I", true)
  | 25 => ("DutiesHatModel", "bestThen", "[I", true)
  | 26 => ("DutiesHatModel", "ringA", "I", false)
  | 27 => ("DutiesHatModel", "ringB", "I", false)
  | _ => ("DutiesHatModel", "ringC", "I", false)
def tyX10 : Nat → FieldType := fun k => match k with
  | 0 => .int
  | 1 => .int
  | 2 => .array .int
  | 3 => .array .int
  | 4 => .array .int
  | 5 => .array .int
  | 6 => .int
  | 7 => .array .int
  | 8 => .int
  | 9 => .int
  | 10 => .long
  | 11 => .int
  | 12 => .int
  | 13 => .int
  | 14 => .int
  | 15 => .int
  | 16 => .array .int
  | 17 => .array .int
  | 18 => .array .int
  | 19 => .array .boolean
  | 20 => .array .int
  | 21 => .array .int
  | 22 => .array .boolean
  | 23 => .array .int
  | 24 => .array .int
  | 25 => .array .int
  | 26 => .int
  | 27 => .int
  | _ => .int
abbrev wsX100 : List Cond := u_ws RX10 TX10 29
theorem nmX10 : ∀ a, a < 29 → ∀ b, b < 29 → a ≠ b → (TX10 a).2.1 ≠ (TX10 b).2.1 := by decide +kernel
theorem tyX10_ok : ∀ k, k < 29 → parseFieldDescriptor (TX10 k).2.2.1 = some (tyX10 k) := by decide +kernel
abbrev cX10_init : ByteArray := prog_12_method_1_code
def yX10_init : MethodName := ⟨RX10, "<init>", "()V"⟩
abbrev cX10_in : ByteArray := prog_12_method_2_code
def yX10_in : MethodName := ⟨RX10, "in", "(III)Z"⟩
abbrev cX10_isMonk : ByteArray := prog_12_method_3_code
def yX10_isMonk : MethodName := ⟨RX10, "isMonk", "(I)Z"⟩
abbrev cX10_plain : ByteArray := prog_12_method_4_code
def yX10_plain : MethodName := ⟨RX10, "plain", "()V"⟩
abbrev cX10_begin : ByteArray := prog_12_method_5_code
def yX10_begin : MethodName := ⟨RX10, "begin", "()V"⟩
abbrev cX10_write : ByteArray := prog_12_method_6_code
def yX10_write : MethodName := ⟨RX10, "write", "(JI)I"⟩
abbrev cX10_erase : ByteArray := prog_12_method_7_code
def yX10_erase : MethodName := ⟨RX10, "erase", "()I"⟩
abbrev cX10_nextToken : ByteArray := prog_12_method_8_code
def yX10_nextToken : MethodName := ⟨RX10, "nextToken", "()V"⟩
abbrev cX10_fails : ByteArray := prog_12_method_9_code
def yX10_fails : MethodName := ⟨RX10, "fails", "()Z"⟩
abbrev cX10_isNumber : ByteArray := prog_12_method_10_code
def yX10_isNumber : MethodName := ⟨RX10, "isNumber", "(III)Z"⟩
abbrev cX10_isThere : ByteArray := prog_12_method_11_code
def yX10_isThere : MethodName := ⟨RX10, "isThere", "(I)Z"⟩
abbrev cX10_isHall : ByteArray := prog_12_method_12_code
def yX10_isHall : MethodName := ⟨RX10, "isHall", "(I)Z"⟩
abbrev cX10_isRing : ByteArray := prog_12_method_13_code
def yX10_isRing : MethodName := ⟨RX10, "isRing", "(I)Z"⟩
abbrev cX10_isLine : ByteArray := prog_12_method_14_code
def yX10_isLine : MethodName := ⟨RX10, "isLine", "(I)Z"⟩
abbrev cX10_isRead : ByteArray := prog_12_method_15_code
def yX10_isRead : MethodName := ⟨RX10, "isRead", "()Z"⟩
abbrev cX10_fault : ByteArray := prog_12_method_16_code
def yX10_fault : MethodName := ⟨RX10, "fault", "()I"⟩
abbrev cX10_doLine : ByteArray := prog_12_method_17_code
def yX10_doLine : MethodName := ⟨RX10, "doLine", "(I)V"⟩
abbrev cX10_hall : ByteArray := prog_12_method_18_code
def yX10_hall : MethodName := ⟨RX10, "hall", "()I"⟩
abbrev cX10_mayBehind : ByteArray := prog_12_method_19_code
def yX10_mayBehind : MethodName := ⟨RX10, "mayBehind", "(III)Z"⟩
abbrev cX10_may : ByteArray := prog_12_method_20_code
def yX10_may : MethodName := ⟨RX10, "may", "(II)Z"⟩
abbrev cX10_monk : ByteArray := prog_12_method_21_code
def yX10_monk : MethodName := ⟨RX10, "monk", "(III)I"⟩
abbrev cX10_as : ByteArray := prog_12_method_22_code
def yX10_as : MethodName := ⟨RX10, "as", "(II)I"⟩
abbrev cX10_draws : ByteArray := prog_12_method_23_code
def yX10_draws : MethodName := ⟨RX10, "draws", "(I)I"⟩
abbrev cX10_takeDraw : ByteArray := prog_12_method_24_code
def yX10_takeDraw : MethodName := ⟨RX10, "takeDraw", "(I)V"⟩
abbrev cX10_numberOf : ByteArray := prog_12_method_25_code
def yX10_numberOf : MethodName := ⟨RX10, "numberOf", "()I"⟩
abbrev cX10_isLawful : ByteArray := prog_12_method_26_code
def yX10_isLawful : MethodName := ⟨RX10, "isLawful", "()Z"⟩
abbrev cX10_putToday : ByteArray := prog_12_method_27_code
def yX10_putToday : MethodName := ⟨RX10, "putToday", "()V"⟩
abbrev cX10_takeToday : ByteArray := prog_12_method_28_code
def yX10_takeToday : MethodName := ⟨RX10, "takeToday", "()V"⟩
abbrev cX10_lay : ByteArray := prog_12_method_29_code
def yX10_lay : MethodName := ⟨RX10, "lay", "(I)I"⟩
abbrev cX10_draw : ByteArray := prog_12_method_30_code
def yX10_draw : MethodName := ⟨RX10, "draw", "(I)I"⟩
abbrev cX10_has : ByteArray := prog_12_method_31_code
def yX10_has : MethodName := ⟨RX10, "has", "(II)I"⟩
abbrev cX10_likesMore : ByteArray := prog_12_method_32_code
def yX10_likesMore : MethodName := ⟨RX10, "likesMore", "(II)Z"⟩
abbrev cX10_isWanted : ByteArray := prog_12_method_33_code
def yX10_isWanted : MethodName := ⟨RX10, "isWanted", "(III)Z"⟩
abbrev cX10_goRing : ByteArray := prog_12_method_34_code
def yX10_goRing : MethodName := ⟨RX10, "goRing", "(III)V"⟩
abbrev cX10_workOf : ByteArray := prog_12_method_35_code
def yX10_workOf : MethodName := ⟨RX10, "workOf", "()I"⟩
abbrev cX10_gladnessOf : ByteArray := prog_12_method_36_code
def yX10_gladnessOf : MethodName := ⟨RX10, "gladnessOf", "()I"⟩
abbrev cX10_trade : ByteArray := prog_12_method_37_code
def yX10_trade : MethodName := ⟨RX10, "trade", "(III)I"⟩
abbrev cX10_takeRing : ByteArray := prog_12_method_38_code
def yX10_takeRing : MethodName := ⟨RX10, "takeRing", "(II)V"⟩
abbrev cX10_nextWanted : ByteArray := prog_12_method_39_code
def yX10_nextWanted : MethodName := ⟨RX10, "nextWanted", "(II)I"⟩
abbrev cX10_settleBy : ByteArray := prog_12_method_40_code
def yX10_settleBy : MethodName := ⟨RX10, "settleBy", "(I)I"⟩
abbrev cX10_settle : ByteArray := prog_12_method_41_code
def yX10_settle : MethodName := ⟨RX10, "settle", "()I"⟩
abbrev cX10_dawn : ByteArray := prog_12_method_42_code
def yX10_dawn : MethodName := ⟨RX10, "dawn", "()I"⟩
abbrev cX10_today : ByteArray := prog_12_method_43_code
def yX10_today : MethodName := ⟨RX10, "today", "(I)I"⟩
abbrev cX10_ends : ByteArray := prog_12_method_44_code
def yX10_ends : MethodName := ⟨RX10, "ends", "(I)I"⟩
abbrev cX10_hint : ByteArray := prog_12_method_45_code
def yX10_hint : MethodName := ⟨RX10, "hint", "(I)I"⟩
abbrev cX10_lawful : ByteArray := prog_12_method_46_code
def yX10_lawful : MethodName := ⟨RX10, "lawful", "()I"⟩
abbrev cX10_divisor : ByteArray := prog_12_method_47_code
def yX10_divisor : MethodName := ⟨RX10, "divisor", "(II)I"⟩
abbrev cX10_isRingNumber : ByteArray := prog_12_method_48_code
def yX10_isRingNumber : MethodName := ⟨RX10, "isRingNumber", "(I)Z"⟩
abbrev cX10_mean : ByteArray := prog_12_method_49_code
def yX10_mean : MethodName := ⟨RX10, "mean", "(III)I"⟩
abbrev cX10_odds : ByteArray := prog_12_method_50_code
def yX10_odds : MethodName := ⟨RX10, "odds", "(IIII)I"⟩
abbrev cX10_isLawfulBehind : ByteArray := prog_12_method_51_code
def yX10_isLawfulBehind : MethodName := ⟨RX10, "isLawfulBehind", "()Z"⟩
abbrev cX10_week : ByteArray := prog_12_method_52_code
def yX10_week : MethodName := ⟨RX10, "week", "(I)I"⟩
abbrev cX10_oftenOf : ByteArray := prog_12_method_53_code
def yX10_oftenOf : MethodName := ⟨RX10, "oftenOf", "(II)I"⟩
abbrev cX10_often : ByteArray := prog_12_method_54_code
def yX10_often : MethodName := ⟨RX10, "often", "(II)I"⟩
abbrev cX10_tailDown : ByteArray := prog_12_method_55_code
def yX10_tailDown : MethodName := ⟨RX10, "tailDown", "()J"⟩
abbrev cX10_tailUp : ByteArray := prog_12_method_56_code
def yX10_tailUp : MethodName := ⟨RX10, "tailUp", "(II)J"⟩
abbrev cX10_tail : ByteArray := prog_12_method_57_code
def yX10_tail : MethodName := ⟨RX10, "tail", "(III)J"⟩
abbrev cX10_named : ByteArray := prog_12_method_58_code
def yX10_named : MethodName := ⟨RX10, "named", "(I)I"⟩
abbrev cX10_copy : ByteArray := prog_12_method_59_code
def yX10_copy : MethodName := ⟨RX10, "copy", "([II[II)V"⟩
abbrev cX10_keep : ByteArray := prog_12_method_60_code
def yX10_keep : MethodName := ⟨RX10, "keep", "(I)I"⟩
abbrev cX10_back : ByteArray := prog_12_method_61_code
def yX10_back : MethodName := ⟨RX10, "back", "(I)I"⟩
abbrev cX10_count : ByteArray := prog_12_method_62_code
def yX10_count : MethodName := ⟨RX10, "count", "(I)I"⟩
def RJ6 : String := "java/lang/Integer"
abbrev cJ6_numberOfTrailingZeros_0f7a4 : ByteArray := prog_13_method_48_code
def yJ6_numberOfTrailingZeros_0f7a4 : MethodName := ⟨RJ6, "numberOfTrailingZeros", "(I)I"⟩
abbrev cJ6_bitCount_0f7a4 : ByteArray := prog_13_method_49_code
def yJ6_bitCount_0f7a4 : MethodName := ⟨RJ6, "bitCount", "(I)I"⟩
def RJ13 : String := "java/lang/Long"
abbrev cJ13_numberOfTrailingZeros_95d88 : ByteArray := prog_14_method_49_code
def yJ13_numberOfTrailingZeros_95d88 : MethodName := ⟨RJ13, "numberOfTrailingZeros", "(J)I"⟩
def RJ9 : String := "java/lang/Math"
abbrev cJ9_max_7cf53 : ByteArray := prog_15_method_65_code
def yJ9_max_7cf53 : MethodName := ⟨RJ9, "max", "(II)I"⟩
def RJ0 : String := "java/lang/String"
abbrev cJ0_length_8abf5 : ByteArray := prog_16_method_54_code
def yJ0_length_8abf5 : MethodName := ⟨RJ0, "length", "()I"⟩
abbrev cJ0_charAt_5068e : ByteArray := prog_16_method_56_code
def yJ0_charAt_5068e : MethodName := ⟨RJ0, "charAt", "(I)C"⟩
abbrev cJ0_coder_7d493 : ByteArray := prog_16_method_152_code
def yJ0_coder_7d493 : MethodName := ⟨RJ0, "coder", "()B"⟩
abbrev cJ0_isLatin1_aae02 : ByteArray := prog_16_method_154_code
def yJ0_isLatin1_aae02 : MethodName := ⟨RJ0, "isLatin1", "()Z"⟩
abbrev cJ0_checkIndex_df160 : ByteArray := prog_16_method_155_code
def yJ0_checkIndex_df160 : MethodName := ⟨RJ0, "checkIndex", "(II)V"⟩
def RJ1 : String := "java/lang/StringLatin1"
abbrev cJ1_charAt_3b067 : ByteArray := prog_17_method_2_code
def yJ1_charAt_3b067 : MethodName := ⟨RJ1, "charAt", "([BI)C"⟩
def RJ2 : String := "java/lang/StringUTF16"
abbrev cJ2_getChar_3b067 : ByteArray := prog_18_method_5_code
def yJ2_getChar_3b067 : MethodName := ⟨RJ2, "getChar", "([BI)C"⟩
abbrev cJ2_length_9d52b : ByteArray := prog_18_method_6_code
def yJ2_length_9d52b : MethodName := ⟨RJ2, "length", "([B)I"⟩
abbrev cJ2_charAt_3b067 : ByteArray := prog_18_method_83_code
def yJ2_charAt_3b067 : MethodName := ⟨RJ2, "charAt", "([BI)C"⟩
abbrev cJ2_checkIndex_2214a : ByteArray := prog_18_method_91_code
def yJ2_checkIndex_2214a : MethodName := ⟨RJ2, "checkIndex", "(I[B)V"⟩
def RJ10 : String := "java/lang/System"
def RJ3 : String := "jdk/internal/util/Preconditions"
abbrev cJ3_checkIndex_8e157 : ByteArray := prog_20_method_11_code
def yJ3_checkIndex_8e157 : MethodName := ⟨RJ3, "checkIndex", "(IILjava/util/function/BiFunction;)I"⟩
def RL : String := "DutiesHatLaw"
abbrev cL_law : ByteArray := code
def yL_law : MethodName := ⟨RL, "law", "([I)Z"⟩
abbrev vwCl : List vw_C := [(RX1, TX1, 5), (RX2, TX2, 6), (RX4, TX4, 6), (RX5, TX5, 4), (RX6, TX6, 6), (RX7, TX7, 8), (RX8, TX8, 8), (RX9, TX9, 10), (RX10, TX10, 29)]
end
section
theorem dJ6_numberOfTrailingZeros_0f7a4_0 : decode cJ6_numberOfTrailingZeros_0f7a4 0 = .ok (.iload_n 0, 1) := by decide +kernel
theorem dJ6_numberOfTrailingZeros_0f7a4_1 : decode cJ6_numberOfTrailingZeros_0f7a4 1 = .ok (.iconst (-1), 1) := by decide +kernel
theorem dJ6_numberOfTrailingZeros_0f7a4_2 : decode cJ6_numberOfTrailingZeros_0f7a4 2 = .ok (.ixor, 1) := by decide +kernel
theorem dJ6_numberOfTrailingZeros_0f7a4_3 : decode cJ6_numberOfTrailingZeros_0f7a4 3 = .ok (.iload_n 0, 1) := by decide +kernel
theorem dJ6_numberOfTrailingZeros_0f7a4_4 : decode cJ6_numberOfTrailingZeros_0f7a4 4 = .ok (.iconst 1, 1) := by decide +kernel
theorem dJ6_numberOfTrailingZeros_0f7a4_5 : decode cJ6_numberOfTrailingZeros_0f7a4 5 = .ok (.isub, 1) := by decide +kernel
theorem dJ6_numberOfTrailingZeros_0f7a4_6 : decode cJ6_numberOfTrailingZeros_0f7a4 6 = .ok (.iand, 1) := by decide +kernel
theorem dJ6_numberOfTrailingZeros_0f7a4_7 : decode cJ6_numberOfTrailingZeros_0f7a4 7 = .ok (.istore_n 0, 1) := by decide +kernel
theorem dJ6_numberOfTrailingZeros_0f7a4_8 : decode cJ6_numberOfTrailingZeros_0f7a4 8 = .ok (.iload_n 0, 1) := by decide +kernel
theorem dJ6_numberOfTrailingZeros_0f7a4_9 : decode cJ6_numberOfTrailingZeros_0f7a4 9 = .ok (.ifCond .gt 8, 3) := by decide +kernel
theorem dJ6_numberOfTrailingZeros_0f7a4_12 : decode cJ6_numberOfTrailingZeros_0f7a4 12 = .ok (.iload_n 0, 1) := by decide +kernel
theorem dJ6_numberOfTrailingZeros_0f7a4_13 : decode cJ6_numberOfTrailingZeros_0f7a4 13 = .ok (.bipush 32, 2) := by decide +kernel
theorem dJ6_numberOfTrailingZeros_0f7a4_15 : decode cJ6_numberOfTrailingZeros_0f7a4 15 = .ok (.iand, 1) := by decide +kernel
theorem dJ6_numberOfTrailingZeros_0f7a4_16 : decode cJ6_numberOfTrailingZeros_0f7a4 16 = .ok (.ireturn, 1) := by decide +kernel
theorem dJ6_numberOfTrailingZeros_0f7a4_17 : decode cJ6_numberOfTrailingZeros_0f7a4 17 = .ok (.iconst 1, 1) := by decide +kernel
theorem dJ6_numberOfTrailingZeros_0f7a4_18 : decode cJ6_numberOfTrailingZeros_0f7a4 18 = .ok (.istore_n 1, 1) := by decide +kernel
theorem dJ6_numberOfTrailingZeros_0f7a4_19 : decode cJ6_numberOfTrailingZeros_0f7a4 19 = .ok (.iload_n 0, 1) := by decide +kernel
theorem dJ6_numberOfTrailingZeros_0f7a4_20 : decode cJ6_numberOfTrailingZeros_0f7a4 20 = .ok (.ldc_w 264, 3) := by decide +kernel
theorem dJ6_numberOfTrailingZeros_0f7a4_23 : decode cJ6_numberOfTrailingZeros_0f7a4 23 = .ok (.if_icmp .le 11, 3) := by decide +kernel
theorem dJ6_numberOfTrailingZeros_0f7a4_26 : decode cJ6_numberOfTrailingZeros_0f7a4 26 = .ok (.iinc 1 16, 3) := by decide +kernel
theorem dJ6_numberOfTrailingZeros_0f7a4_29 : decode cJ6_numberOfTrailingZeros_0f7a4 29 = .ok (.iload_n 0, 1) := by decide +kernel
theorem dJ6_numberOfTrailingZeros_0f7a4_30 : decode cJ6_numberOfTrailingZeros_0f7a4 30 = .ok (.bipush 16, 2) := by decide +kernel
theorem dJ6_numberOfTrailingZeros_0f7a4_32 : decode cJ6_numberOfTrailingZeros_0f7a4 32 = .ok (.iushr, 1) := by decide +kernel
theorem dJ6_numberOfTrailingZeros_0f7a4_33 : decode cJ6_numberOfTrailingZeros_0f7a4 33 = .ok (.istore_n 0, 1) := by decide +kernel
theorem dJ6_numberOfTrailingZeros_0f7a4_34 : decode cJ6_numberOfTrailingZeros_0f7a4 34 = .ok (.iload_n 0, 1) := by decide +kernel
theorem dJ6_numberOfTrailingZeros_0f7a4_35 : decode cJ6_numberOfTrailingZeros_0f7a4 35 = .ok (.sipush 256, 3) := by decide +kernel
theorem dJ6_numberOfTrailingZeros_0f7a4_38 : decode cJ6_numberOfTrailingZeros_0f7a4 38 = .ok (.if_icmp .le 11, 3) := by decide +kernel
theorem dJ6_numberOfTrailingZeros_0f7a4_41 : decode cJ6_numberOfTrailingZeros_0f7a4 41 = .ok (.iinc 1 8, 3) := by decide +kernel
theorem dJ6_numberOfTrailingZeros_0f7a4_44 : decode cJ6_numberOfTrailingZeros_0f7a4 44 = .ok (.iload_n 0, 1) := by decide +kernel
theorem dJ6_numberOfTrailingZeros_0f7a4_45 : decode cJ6_numberOfTrailingZeros_0f7a4 45 = .ok (.bipush 8, 2) := by decide +kernel
theorem dJ6_numberOfTrailingZeros_0f7a4_47 : decode cJ6_numberOfTrailingZeros_0f7a4 47 = .ok (.iushr, 1) := by decide +kernel
theorem dJ6_numberOfTrailingZeros_0f7a4_48 : decode cJ6_numberOfTrailingZeros_0f7a4 48 = .ok (.istore_n 0, 1) := by decide +kernel
theorem dJ6_numberOfTrailingZeros_0f7a4_49 : decode cJ6_numberOfTrailingZeros_0f7a4 49 = .ok (.iload_n 0, 1) := by decide +kernel
theorem dJ6_numberOfTrailingZeros_0f7a4_50 : decode cJ6_numberOfTrailingZeros_0f7a4 50 = .ok (.bipush 16, 2) := by decide +kernel
theorem dJ6_numberOfTrailingZeros_0f7a4_52 : decode cJ6_numberOfTrailingZeros_0f7a4 52 = .ok (.if_icmp .le 10, 3) := by decide +kernel
theorem dJ6_numberOfTrailingZeros_0f7a4_55 : decode cJ6_numberOfTrailingZeros_0f7a4 55 = .ok (.iinc 1 4, 3) := by decide +kernel
theorem dJ6_numberOfTrailingZeros_0f7a4_58 : decode cJ6_numberOfTrailingZeros_0f7a4 58 = .ok (.iload_n 0, 1) := by decide +kernel
theorem dJ6_numberOfTrailingZeros_0f7a4_59 : decode cJ6_numberOfTrailingZeros_0f7a4 59 = .ok (.iconst 4, 1) := by decide +kernel
theorem dJ6_numberOfTrailingZeros_0f7a4_60 : decode cJ6_numberOfTrailingZeros_0f7a4 60 = .ok (.iushr, 1) := by decide +kernel
theorem dJ6_numberOfTrailingZeros_0f7a4_61 : decode cJ6_numberOfTrailingZeros_0f7a4 61 = .ok (.istore_n 0, 1) := by decide +kernel
theorem dJ6_numberOfTrailingZeros_0f7a4_62 : decode cJ6_numberOfTrailingZeros_0f7a4 62 = .ok (.iload_n 0, 1) := by decide +kernel
theorem dJ6_numberOfTrailingZeros_0f7a4_63 : decode cJ6_numberOfTrailingZeros_0f7a4 63 = .ok (.iconst 4, 1) := by decide +kernel
theorem dJ6_numberOfTrailingZeros_0f7a4_64 : decode cJ6_numberOfTrailingZeros_0f7a4 64 = .ok (.if_icmp .le 10, 3) := by decide +kernel
theorem dJ6_numberOfTrailingZeros_0f7a4_67 : decode cJ6_numberOfTrailingZeros_0f7a4 67 = .ok (.iinc 1 2, 3) := by decide +kernel
theorem dJ6_numberOfTrailingZeros_0f7a4_70 : decode cJ6_numberOfTrailingZeros_0f7a4 70 = .ok (.iload_n 0, 1) := by decide +kernel
theorem dJ6_numberOfTrailingZeros_0f7a4_71 : decode cJ6_numberOfTrailingZeros_0f7a4 71 = .ok (.iconst 2, 1) := by decide +kernel
theorem dJ6_numberOfTrailingZeros_0f7a4_72 : decode cJ6_numberOfTrailingZeros_0f7a4 72 = .ok (.iushr, 1) := by decide +kernel
theorem dJ6_numberOfTrailingZeros_0f7a4_73 : decode cJ6_numberOfTrailingZeros_0f7a4 73 = .ok (.istore_n 0, 1) := by decide +kernel
theorem dJ6_numberOfTrailingZeros_0f7a4_74 : decode cJ6_numberOfTrailingZeros_0f7a4 74 = .ok (.iload_n 1, 1) := by decide +kernel
theorem dJ6_numberOfTrailingZeros_0f7a4_75 : decode cJ6_numberOfTrailingZeros_0f7a4 75 = .ok (.iload_n 0, 1) := by decide +kernel
theorem dJ6_numberOfTrailingZeros_0f7a4_76 : decode cJ6_numberOfTrailingZeros_0f7a4 76 = .ok (.iconst 1, 1) := by decide +kernel
theorem dJ6_numberOfTrailingZeros_0f7a4_77 : decode cJ6_numberOfTrailingZeros_0f7a4 77 = .ok (.iushr, 1) := by decide +kernel
theorem dJ6_numberOfTrailingZeros_0f7a4_78 : decode cJ6_numberOfTrailingZeros_0f7a4 78 = .ok (.iadd, 1) := by decide +kernel
theorem dJ6_numberOfTrailingZeros_0f7a4_79 : decode cJ6_numberOfTrailingZeros_0f7a4 79 = .ok (.ireturn, 1) := by decide +kernel
theorem dJ6_bitCount_0f7a4_0 : decode cJ6_bitCount_0f7a4 0 = .ok (.iload_n 0, 1) := by decide +kernel
theorem dJ6_bitCount_0f7a4_1 : decode cJ6_bitCount_0f7a4 1 = .ok (.iload_n 0, 1) := by decide +kernel
theorem dJ6_bitCount_0f7a4_2 : decode cJ6_bitCount_0f7a4 2 = .ok (.iconst 1, 1) := by decide +kernel
theorem dJ6_bitCount_0f7a4_3 : decode cJ6_bitCount_0f7a4 3 = .ok (.iushr, 1) := by decide +kernel
theorem dJ6_bitCount_0f7a4_4 : decode cJ6_bitCount_0f7a4 4 = .ok (.ldc_w 265, 3) := by decide +kernel
theorem dJ6_bitCount_0f7a4_7 : decode cJ6_bitCount_0f7a4 7 = .ok (.iand, 1) := by decide +kernel
theorem dJ6_bitCount_0f7a4_8 : decode cJ6_bitCount_0f7a4 8 = .ok (.isub, 1) := by decide +kernel
theorem dJ6_bitCount_0f7a4_9 : decode cJ6_bitCount_0f7a4 9 = .ok (.istore_n 0, 1) := by decide +kernel
theorem dJ6_bitCount_0f7a4_10 : decode cJ6_bitCount_0f7a4 10 = .ok (.iload_n 0, 1) := by decide +kernel
theorem dJ6_bitCount_0f7a4_11 : decode cJ6_bitCount_0f7a4 11 = .ok (.ldc_w 266, 3) := by decide +kernel
theorem dJ6_bitCount_0f7a4_14 : decode cJ6_bitCount_0f7a4 14 = .ok (.iand, 1) := by decide +kernel
theorem dJ6_bitCount_0f7a4_15 : decode cJ6_bitCount_0f7a4 15 = .ok (.iload_n 0, 1) := by decide +kernel
theorem dJ6_bitCount_0f7a4_16 : decode cJ6_bitCount_0f7a4 16 = .ok (.iconst 2, 1) := by decide +kernel
theorem dJ6_bitCount_0f7a4_17 : decode cJ6_bitCount_0f7a4 17 = .ok (.iushr, 1) := by decide +kernel
theorem dJ6_bitCount_0f7a4_18 : decode cJ6_bitCount_0f7a4 18 = .ok (.ldc_w 266, 3) := by decide +kernel
theorem dJ6_bitCount_0f7a4_21 : decode cJ6_bitCount_0f7a4 21 = .ok (.iand, 1) := by decide +kernel
theorem dJ6_bitCount_0f7a4_22 : decode cJ6_bitCount_0f7a4 22 = .ok (.iadd, 1) := by decide +kernel
theorem dJ6_bitCount_0f7a4_23 : decode cJ6_bitCount_0f7a4 23 = .ok (.istore_n 0, 1) := by decide +kernel
theorem dJ6_bitCount_0f7a4_24 : decode cJ6_bitCount_0f7a4 24 = .ok (.iload_n 0, 1) := by decide +kernel
theorem dJ6_bitCount_0f7a4_25 : decode cJ6_bitCount_0f7a4 25 = .ok (.iload_n 0, 1) := by decide +kernel
theorem dJ6_bitCount_0f7a4_26 : decode cJ6_bitCount_0f7a4 26 = .ok (.iconst 4, 1) := by decide +kernel
theorem dJ6_bitCount_0f7a4_27 : decode cJ6_bitCount_0f7a4 27 = .ok (.iushr, 1) := by decide +kernel
theorem dJ6_bitCount_0f7a4_28 : decode cJ6_bitCount_0f7a4 28 = .ok (.iadd, 1) := by decide +kernel
theorem dJ6_bitCount_0f7a4_29 : decode cJ6_bitCount_0f7a4 29 = .ok (.ldc_w 267, 3) := by decide +kernel
theorem dJ6_bitCount_0f7a4_32 : decode cJ6_bitCount_0f7a4 32 = .ok (.iand, 1) := by decide +kernel
theorem dJ6_bitCount_0f7a4_33 : decode cJ6_bitCount_0f7a4 33 = .ok (.istore_n 0, 1) := by decide +kernel
theorem dJ6_bitCount_0f7a4_34 : decode cJ6_bitCount_0f7a4 34 = .ok (.iload_n 0, 1) := by decide +kernel
theorem dJ6_bitCount_0f7a4_35 : decode cJ6_bitCount_0f7a4 35 = .ok (.iload_n 0, 1) := by decide +kernel
theorem dJ6_bitCount_0f7a4_36 : decode cJ6_bitCount_0f7a4 36 = .ok (.bipush 8, 2) := by decide +kernel
theorem dJ6_bitCount_0f7a4_38 : decode cJ6_bitCount_0f7a4 38 = .ok (.iushr, 1) := by decide +kernel
theorem dJ6_bitCount_0f7a4_39 : decode cJ6_bitCount_0f7a4 39 = .ok (.iadd, 1) := by decide +kernel
theorem dJ6_bitCount_0f7a4_40 : decode cJ6_bitCount_0f7a4 40 = .ok (.istore_n 0, 1) := by decide +kernel
theorem dJ6_bitCount_0f7a4_41 : decode cJ6_bitCount_0f7a4 41 = .ok (.iload_n 0, 1) := by decide +kernel
theorem dJ6_bitCount_0f7a4_42 : decode cJ6_bitCount_0f7a4 42 = .ok (.iload_n 0, 1) := by decide +kernel
theorem dJ6_bitCount_0f7a4_43 : decode cJ6_bitCount_0f7a4 43 = .ok (.bipush 16, 2) := by decide +kernel
theorem dJ6_bitCount_0f7a4_45 : decode cJ6_bitCount_0f7a4 45 = .ok (.iushr, 1) := by decide +kernel
theorem dJ6_bitCount_0f7a4_46 : decode cJ6_bitCount_0f7a4 46 = .ok (.iadd, 1) := by decide +kernel
theorem dJ6_bitCount_0f7a4_47 : decode cJ6_bitCount_0f7a4 47 = .ok (.istore_n 0, 1) := by decide +kernel
theorem dJ6_bitCount_0f7a4_48 : decode cJ6_bitCount_0f7a4 48 = .ok (.iload_n 0, 1) := by decide +kernel
theorem dJ6_bitCount_0f7a4_49 : decode cJ6_bitCount_0f7a4 49 = .ok (.bipush 63, 2) := by decide +kernel
theorem dJ6_bitCount_0f7a4_51 : decode cJ6_bitCount_0f7a4 51 = .ok (.iand, 1) := by decide +kernel
theorem dJ6_bitCount_0f7a4_52 : decode cJ6_bitCount_0f7a4 52 = .ok (.ireturn, 1) := by decide +kernel
theorem dJ13_numberOfTrailingZeros_95d88_0 : decode cJ13_numberOfTrailingZeros_95d88 0 = .ok (.lload_n 0, 1) := by decide +kernel
theorem dJ13_numberOfTrailingZeros_95d88_1 : decode cJ13_numberOfTrailingZeros_95d88 1 = .ok (.l2i, 1) := by decide +kernel
theorem dJ13_numberOfTrailingZeros_95d88_2 : decode cJ13_numberOfTrailingZeros_95d88 2 = .ok (.istore_n 2, 1) := by decide +kernel
theorem dJ13_numberOfTrailingZeros_95d88_3 : decode cJ13_numberOfTrailingZeros_95d88 3 = .ok (.iload_n 2, 1) := by decide +kernel
theorem dJ13_numberOfTrailingZeros_95d88_4 : decode cJ13_numberOfTrailingZeros_95d88 4 = .ok (.ifCond .ne 17, 3) := by decide +kernel
theorem dJ13_numberOfTrailingZeros_95d88_7 : decode cJ13_numberOfTrailingZeros_95d88 7 = .ok (.bipush 32, 2) := by decide +kernel
theorem dJ13_numberOfTrailingZeros_95d88_9 : decode cJ13_numberOfTrailingZeros_95d88 9 = .ok (.lload_n 0, 1) := by decide +kernel
theorem dJ13_numberOfTrailingZeros_95d88_10 : decode cJ13_numberOfTrailingZeros_95d88 10 = .ok (.bipush 32, 2) := by decide +kernel
theorem dJ13_numberOfTrailingZeros_95d88_12 : decode cJ13_numberOfTrailingZeros_95d88 12 = .ok (.lushr, 1) := by decide +kernel
theorem dJ13_numberOfTrailingZeros_95d88_13 : decode cJ13_numberOfTrailingZeros_95d88 13 = .ok (.l2i, 1) := by decide +kernel
theorem dJ13_numberOfTrailingZeros_95d88_14 : decode cJ13_numberOfTrailingZeros_95d88 14 = .ok (.invokestatic 311, 3) := by decide +kernel
theorem dJ13_numberOfTrailingZeros_95d88_17 : decode cJ13_numberOfTrailingZeros_95d88 17 = .ok (.iadd, 1) := by decide +kernel
theorem dJ13_numberOfTrailingZeros_95d88_18 : decode cJ13_numberOfTrailingZeros_95d88 18 = .ok (.goto 7, 3) := by decide +kernel
theorem dJ13_numberOfTrailingZeros_95d88_21 : decode cJ13_numberOfTrailingZeros_95d88 21 = .ok (.iload_n 2, 1) := by decide +kernel
theorem dJ13_numberOfTrailingZeros_95d88_22 : decode cJ13_numberOfTrailingZeros_95d88 22 = .ok (.invokestatic 311, 3) := by decide +kernel
theorem dJ13_numberOfTrailingZeros_95d88_25 : decode cJ13_numberOfTrailingZeros_95d88 25 = .ok (.ireturn, 1) := by decide +kernel
theorem dJ9_max_7cf53_0 : decode cJ9_max_7cf53 0 = .ok (.iload_n 0, 1) := by decide +kernel
theorem dJ9_max_7cf53_1 : decode cJ9_max_7cf53 1 = .ok (.iload_n 1, 1) := by decide +kernel
theorem dJ9_max_7cf53_2 : decode cJ9_max_7cf53 2 = .ok (.if_icmp .lt 7, 3) := by decide +kernel
theorem dJ9_max_7cf53_5 : decode cJ9_max_7cf53 5 = .ok (.iload_n 0, 1) := by decide +kernel
theorem dJ9_max_7cf53_6 : decode cJ9_max_7cf53 6 = .ok (.goto 4, 3) := by decide +kernel
theorem dJ9_max_7cf53_9 : decode cJ9_max_7cf53 9 = .ok (.iload_n 1, 1) := by decide +kernel
theorem dJ9_max_7cf53_10 : decode cJ9_max_7cf53 10 = .ok (.ireturn, 1) := by decide +kernel
theorem dJ0_length_8abf5_0 : decode cJ0_length_8abf5 0 = .ok (.aload_n 0, 1) := by decide +kernel
theorem dJ0_length_8abf5_1 : decode cJ0_length_8abf5 1 = .ok (.getfield 9, 3) := by decide +kernel
theorem dJ0_length_8abf5_4 : decode cJ0_length_8abf5 4 = .ok (.arraylength, 1) := by decide +kernel
theorem dJ0_length_8abf5_5 : decode cJ0_length_8abf5 5 = .ok (.aload_n 0, 1) := by decide +kernel
theorem dJ0_length_8abf5_6 : decode cJ0_length_8abf5 6 = .ok (.invokevirtual 335, 3) := by decide +kernel
theorem dJ0_length_8abf5_9 : decode cJ0_length_8abf5 9 = .ok (.ishr, 1) := by decide +kernel
theorem dJ0_length_8abf5_10 : decode cJ0_length_8abf5 10 = .ok (.ireturn, 1) := by decide +kernel
theorem dJ0_charAt_5068e_0 : decode cJ0_charAt_5068e 0 = .ok (.aload_n 0, 1) := by decide +kernel
theorem dJ0_charAt_5068e_1 : decode cJ0_charAt_5068e 1 = .ok (.invokevirtual 492, 3) := by decide +kernel
theorem dJ0_charAt_5068e_4 : decode cJ0_charAt_5068e 4 = .ok (.ifCond .eq 12, 3) := by decide +kernel
theorem dJ0_charAt_5068e_7 : decode cJ0_charAt_5068e 7 = .ok (.aload_n 0, 1) := by decide +kernel
theorem dJ0_charAt_5068e_8 : decode cJ0_charAt_5068e 8 = .ok (.getfield 9, 3) := by decide +kernel
theorem dJ0_charAt_5068e_11 : decode cJ0_charAt_5068e 11 = .ok (.iload_n 1, 1) := by decide +kernel
theorem dJ0_charAt_5068e_12 : decode cJ0_charAt_5068e 12 = .ok (.invokestatic 495, 3) := by decide +kernel
theorem dJ0_charAt_5068e_15 : decode cJ0_charAt_5068e 15 = .ok (.ireturn, 1) := by decide +kernel
theorem dJ0_charAt_5068e_16 : decode cJ0_charAt_5068e 16 = .ok (.aload_n 0, 1) := by decide +kernel
theorem dJ0_charAt_5068e_17 : decode cJ0_charAt_5068e 17 = .ok (.getfield 9, 3) := by decide +kernel
theorem dJ0_charAt_5068e_20 : decode cJ0_charAt_5068e 20 = .ok (.iload_n 1, 1) := by decide +kernel
theorem dJ0_charAt_5068e_21 : decode cJ0_charAt_5068e 21 = .ok (.invokestatic 498, 3) := by decide +kernel
theorem dJ0_charAt_5068e_24 : decode cJ0_charAt_5068e 24 = .ok (.ireturn, 1) := by decide +kernel
theorem dJ0_coder_7d493_0 : decode cJ0_coder_7d493 0 = .ok (.getstatic 38, 3) := by decide +kernel
theorem dJ0_coder_7d493_3 : decode cJ0_coder_7d493 3 = .ok (.ifCond .eq 10, 3) := by decide +kernel
theorem dJ0_coder_7d493_6 : decode cJ0_coder_7d493 6 = .ok (.aload_n 0, 1) := by decide +kernel
theorem dJ0_coder_7d493_7 : decode cJ0_coder_7d493 7 = .ok (.getfield 15, 3) := by decide +kernel
theorem dJ0_coder_7d493_10 : decode cJ0_coder_7d493 10 = .ok (.goto 4, 3) := by decide +kernel
theorem dJ0_coder_7d493_13 : decode cJ0_coder_7d493 13 = .ok (.iconst 1, 1) := by decide +kernel
theorem dJ0_coder_7d493_14 : decode cJ0_coder_7d493 14 = .ok (.ireturn, 1) := by decide +kernel
theorem dJ0_isLatin1_aae02_0 : decode cJ0_isLatin1_aae02 0 = .ok (.getstatic 38, 3) := by decide +kernel
theorem dJ0_isLatin1_aae02_3 : decode cJ0_isLatin1_aae02 3 = .ok (.ifCond .eq 14, 3) := by decide +kernel
theorem dJ0_isLatin1_aae02_6 : decode cJ0_isLatin1_aae02 6 = .ok (.aload_n 0, 1) := by decide +kernel
theorem dJ0_isLatin1_aae02_7 : decode cJ0_isLatin1_aae02 7 = .ok (.getfield 15, 3) := by decide +kernel
theorem dJ0_isLatin1_aae02_10 : decode cJ0_isLatin1_aae02 10 = .ok (.ifCond .ne 7, 3) := by decide +kernel
theorem dJ0_isLatin1_aae02_13 : decode cJ0_isLatin1_aae02 13 = .ok (.iconst 1, 1) := by decide +kernel
theorem dJ0_isLatin1_aae02_14 : decode cJ0_isLatin1_aae02 14 = .ok (.goto 4, 3) := by decide +kernel
theorem dJ0_isLatin1_aae02_17 : decode cJ0_isLatin1_aae02 17 = .ok (.iconst 0, 1) := by decide +kernel
theorem dJ0_isLatin1_aae02_18 : decode cJ0_isLatin1_aae02 18 = .ok (.ireturn, 1) := by decide +kernel
theorem dJ0_checkIndex_df160_0 : decode cJ0_checkIndex_df160 0 = .ok (.iload_n 0, 1) := by decide +kernel
theorem dJ0_checkIndex_df160_1 : decode cJ0_checkIndex_df160 1 = .ok (.iload_n 1, 1) := by decide +kernel
theorem dJ0_checkIndex_df160_2 : decode cJ0_checkIndex_df160 2 = .ok (.getstatic 1053, 3) := by decide +kernel
theorem dJ0_checkIndex_df160_5 : decode cJ0_checkIndex_df160 5 = .ok (.invokestatic 1059, 3) := by decide +kernel
theorem dJ0_checkIndex_df160_8 : decode cJ0_checkIndex_df160 8 = .ok (.pop, 1) := by decide +kernel
theorem dJ0_checkIndex_df160_9 : decode cJ0_checkIndex_df160 9 = .ok (.return_, 1) := by decide +kernel
theorem dJ1_charAt_3b067_0 : decode cJ1_charAt_3b067 0 = .ok (.iload_n 1, 1) := by decide +kernel
theorem dJ1_charAt_3b067_1 : decode cJ1_charAt_3b067 1 = .ok (.aload_n 0, 1) := by decide +kernel
theorem dJ1_charAt_3b067_2 : decode cJ1_charAt_3b067 2 = .ok (.arraylength, 1) := by decide +kernel
theorem dJ1_charAt_3b067_3 : decode cJ1_charAt_3b067 3 = .ok (.invokestatic 9, 3) := by decide +kernel
theorem dJ1_charAt_3b067_6 : decode cJ1_charAt_3b067 6 = .ok (.aload_n 0, 1) := by decide +kernel
theorem dJ1_charAt_3b067_7 : decode cJ1_charAt_3b067 7 = .ok (.iload_n 1, 1) := by decide +kernel
theorem dJ1_charAt_3b067_8 : decode cJ1_charAt_3b067 8 = .ok (.baload, 1) := by decide +kernel
theorem dJ1_charAt_3b067_9 : decode cJ1_charAt_3b067 9 = .ok (.sipush 255, 3) := by decide +kernel
theorem dJ1_charAt_3b067_12 : decode cJ1_charAt_3b067 12 = .ok (.iand, 1) := by decide +kernel
theorem dJ1_charAt_3b067_13 : decode cJ1_charAt_3b067 13 = .ok (.i2c, 1) := by decide +kernel
theorem dJ1_charAt_3b067_14 : decode cJ1_charAt_3b067 14 = .ok (.ireturn, 1) := by decide +kernel
theorem dJ2_getChar_3b067_0 : decode cJ2_getChar_3b067 0 = .ok (.getstatic 44, 3) := by decide +kernel
theorem dJ2_getChar_3b067_3 : decode cJ2_getChar_3b067 3 = .ok (.ifCond .ne 25, 3) := by decide +kernel
theorem dJ2_getChar_3b067_6 : decode cJ2_getChar_3b067 6 = .ok (.iload_n 1, 1) := by decide +kernel
theorem dJ2_getChar_3b067_7 : decode cJ2_getChar_3b067 7 = .ok (.ifCond .lt 11, 3) := by decide +kernel
theorem dJ2_getChar_3b067_10 : decode cJ2_getChar_3b067 10 = .ok (.iload_n 1, 1) := by decide +kernel
theorem dJ2_getChar_3b067_11 : decode cJ2_getChar_3b067 11 = .ok (.aload_n 0, 1) := by decide +kernel
theorem dJ2_getChar_3b067_12 : decode cJ2_getChar_3b067 12 = .ok (.invokestatic 48, 3) := by decide +kernel
theorem dJ2_getChar_3b067_15 : decode cJ2_getChar_3b067 15 = .ok (.if_icmp .lt 13, 3) := by decide +kernel
theorem dJ2_getChar_3b067_18 : decode cJ2_getChar_3b067 18 = .ok (.new 52, 3) := by decide +kernel
theorem dJ2_getChar_3b067_21 : decode cJ2_getChar_3b067 21 = .ok (.dup, 1) := by decide +kernel
theorem dJ2_getChar_3b067_22 : decode cJ2_getChar_3b067 22 = .ok (.ldc 54, 2) := by decide +kernel
theorem dJ2_getChar_3b067_24 : decode cJ2_getChar_3b067 24 = .ok (.invokespecial 56, 3) := by decide +kernel
theorem dJ2_getChar_3b067_27 : decode cJ2_getChar_3b067 27 = .ok (.athrow, 1) := by decide +kernel
theorem dJ2_getChar_3b067_28 : decode cJ2_getChar_3b067 28 = .ok (.iload_n 1, 1) := by decide +kernel
theorem dJ2_getChar_3b067_29 : decode cJ2_getChar_3b067 29 = .ok (.iconst 1, 1) := by decide +kernel
theorem dJ2_getChar_3b067_30 : decode cJ2_getChar_3b067 30 = .ok (.ishl, 1) := by decide +kernel
theorem dJ2_getChar_3b067_31 : decode cJ2_getChar_3b067 31 = .ok (.istore_n 1, 1) := by decide +kernel
theorem dJ2_getChar_3b067_32 : decode cJ2_getChar_3b067 32 = .ok (.aload_n 0, 1) := by decide +kernel
theorem dJ2_getChar_3b067_33 : decode cJ2_getChar_3b067 33 = .ok (.iload_n 1, 1) := by decide +kernel
theorem dJ2_getChar_3b067_34 : decode cJ2_getChar_3b067 34 = .ok (.iinc 1 1, 3) := by decide +kernel
theorem dJ2_getChar_3b067_37 : decode cJ2_getChar_3b067 37 = .ok (.baload, 1) := by decide +kernel
theorem dJ2_getChar_3b067_38 : decode cJ2_getChar_3b067 38 = .ok (.sipush 255, 3) := by decide +kernel
theorem dJ2_getChar_3b067_41 : decode cJ2_getChar_3b067 41 = .ok (.iand, 1) := by decide +kernel
theorem dJ2_getChar_3b067_42 : decode cJ2_getChar_3b067 42 = .ok (.getstatic 59, 3) := by decide +kernel
theorem dJ2_getChar_3b067_45 : decode cJ2_getChar_3b067 45 = .ok (.ishl, 1) := by decide +kernel
theorem dJ2_getChar_3b067_46 : decode cJ2_getChar_3b067 46 = .ok (.aload_n 0, 1) := by decide +kernel
theorem dJ2_getChar_3b067_47 : decode cJ2_getChar_3b067 47 = .ok (.iload_n 1, 1) := by decide +kernel
theorem dJ2_getChar_3b067_48 : decode cJ2_getChar_3b067 48 = .ok (.baload, 1) := by decide +kernel
theorem dJ2_getChar_3b067_49 : decode cJ2_getChar_3b067 49 = .ok (.sipush 255, 3) := by decide +kernel
theorem dJ2_getChar_3b067_52 : decode cJ2_getChar_3b067 52 = .ok (.iand, 1) := by decide +kernel
theorem dJ2_getChar_3b067_53 : decode cJ2_getChar_3b067 53 = .ok (.getstatic 63, 3) := by decide +kernel
theorem dJ2_getChar_3b067_56 : decode cJ2_getChar_3b067 56 = .ok (.ishl, 1) := by decide +kernel
theorem dJ2_getChar_3b067_57 : decode cJ2_getChar_3b067 57 = .ok (.ior, 1) := by decide +kernel
theorem dJ2_getChar_3b067_58 : decode cJ2_getChar_3b067 58 = .ok (.i2c, 1) := by decide +kernel
theorem dJ2_getChar_3b067_59 : decode cJ2_getChar_3b067 59 = .ok (.ireturn, 1) := by decide +kernel
theorem dJ2_length_9d52b_0 : decode cJ2_length_9d52b 0 = .ok (.aload_n 0, 1) := by decide +kernel
theorem dJ2_length_9d52b_1 : decode cJ2_length_9d52b 1 = .ok (.arraylength, 1) := by decide +kernel
theorem dJ2_length_9d52b_2 : decode cJ2_length_9d52b 2 = .ok (.iconst 1, 1) := by decide +kernel
theorem dJ2_length_9d52b_3 : decode cJ2_length_9d52b 3 = .ok (.ishr, 1) := by decide +kernel
theorem dJ2_length_9d52b_4 : decode cJ2_length_9d52b 4 = .ok (.ireturn, 1) := by decide +kernel
theorem dJ2_charAt_3b067_0 : decode cJ2_charAt_3b067 0 = .ok (.iload_n 1, 1) := by decide +kernel
theorem dJ2_charAt_3b067_1 : decode cJ2_charAt_3b067 1 = .ok (.aload_n 0, 1) := by decide +kernel
theorem dJ2_charAt_3b067_2 : decode cJ2_charAt_3b067 2 = .ok (.invokestatic 67, 3) := by decide +kernel
theorem dJ2_charAt_3b067_5 : decode cJ2_charAt_3b067 5 = .ok (.aload_n 0, 1) := by decide +kernel
theorem dJ2_charAt_3b067_6 : decode cJ2_charAt_3b067 6 = .ok (.iload_n 1, 1) := by decide +kernel
theorem dJ2_charAt_3b067_7 : decode cJ2_charAt_3b067 7 = .ok (.invokestatic 71, 3) := by decide +kernel
theorem dJ2_charAt_3b067_10 : decode cJ2_charAt_3b067 10 = .ok (.ireturn, 1) := by decide +kernel
theorem dJ2_checkIndex_2214a_0 : decode cJ2_checkIndex_2214a 0 = .ok (.iload_n 0, 1) := by decide +kernel
theorem dJ2_checkIndex_2214a_1 : decode cJ2_checkIndex_2214a 1 = .ok (.aload_n 1, 1) := by decide +kernel
theorem dJ2_checkIndex_2214a_2 : decode cJ2_checkIndex_2214a 2 = .ok (.invokestatic 48, 3) := by decide +kernel
theorem dJ2_checkIndex_2214a_5 : decode cJ2_checkIndex_2214a 5 = .ok (.invokestatic 414, 3) := by decide +kernel
theorem dJ2_checkIndex_2214a_8 : decode cJ2_checkIndex_2214a 8 = .ok (.return_, 1) := by decide +kernel
theorem dJ3_checkIndex_8e157_0 : decode cJ3_checkIndex_8e157 0 = .ok (.iload_n 0, 1) := by decide +kernel
theorem dJ3_checkIndex_8e157_1 : decode cJ3_checkIndex_8e157 1 = .ok (.ifCond .lt 8, 3) := by decide +kernel
theorem dJ3_checkIndex_8e157_4 : decode cJ3_checkIndex_8e157 4 = .ok (.iload_n 0, 1) := by decide +kernel
theorem dJ3_checkIndex_8e157_5 : decode cJ3_checkIndex_8e157 5 = .ok (.iload_n 1, 1) := by decide +kernel
theorem dJ3_checkIndex_8e157_6 : decode cJ3_checkIndex_8e157 6 = .ok (.if_icmp .lt 10, 3) := by decide +kernel
theorem dJ3_checkIndex_8e157_9 : decode cJ3_checkIndex_8e157 9 = .ok (.aload_n 2, 1) := by decide +kernel
theorem dJ3_checkIndex_8e157_10 : decode cJ3_checkIndex_8e157 10 = .ok (.iload_n 0, 1) := by decide +kernel
theorem dJ3_checkIndex_8e157_11 : decode cJ3_checkIndex_8e157 11 = .ok (.iload_n 1, 1) := by decide +kernel
theorem dJ3_checkIndex_8e157_12 : decode cJ3_checkIndex_8e157 12 = .ok (.invokestatic 95, 3) := by decide +kernel
theorem dJ3_checkIndex_8e157_15 : decode cJ3_checkIndex_8e157 15 = .ok (.athrow, 1) := by decide +kernel
theorem dJ3_checkIndex_8e157_16 : decode cJ3_checkIndex_8e157 16 = .ok (.iload_n 0, 1) := by decide +kernel
theorem dJ3_checkIndex_8e157_17 : decode cJ3_checkIndex_8e157 17 = .ok (.ireturn, 1) := by decide +kernel
theorem dX0_lowest_0 : decode cX0_lowest 0 = .ok (.lload_n 0, 1) := by decide +kernel
theorem dX0_lowest_1 : decode cX0_lowest 1 = .ok (.lstore 5, 2) := by decide +kernel
theorem dX0_lowest_3 : decode cX0_lowest 3 = .ok (.lload_n 2, 1) := by decide +kernel
theorem dX0_lowest_4 : decode cX0_lowest 4 = .ok (.lstore 7, 2) := by decide +kernel
theorem dX0_lowest_6 : decode cX0_lowest 6 = .ok (.iconst 0, 1) := by decide +kernel
theorem dX0_lowest_7 : decode cX0_lowest 7 = .ok (.istore 9, 2) := by decide +kernel
theorem dX0_lowest_9 : decode cX0_lowest 9 = .ok (.iload 9, 2) := by decide +kernel
theorem dX0_lowest_11 : decode cX0_lowest 11 = .ok (.bipush 100, 2) := by decide +kernel
theorem dX0_lowest_13 : decode cX0_lowest 13 = .ok (.if_icmp .ge 31, 3) := by decide +kernel
theorem dX0_lowest_16 : decode cX0_lowest 16 = .ok (.lload 7, 2) := by decide +kernel
theorem dX0_lowest_18 : decode cX0_lowest 18 = .ok (.lconst 0, 1) := by decide +kernel
theorem dX0_lowest_19 : decode cX0_lowest 19 = .ok (.lcmp, 1) := by decide +kernel
theorem dX0_lowest_20 : decode cX0_lowest 20 = .ok (.ifCond .eq 24, 3) := by decide +kernel
theorem dX0_lowest_23 : decode cX0_lowest 23 = .ok (.lload 5, 2) := by decide +kernel
theorem dX0_lowest_25 : decode cX0_lowest 25 = .ok (.lload 7, 2) := by decide +kernel
theorem dX0_lowest_27 : decode cX0_lowest 27 = .ok (.lrem, 1) := by decide +kernel
theorem dX0_lowest_28 : decode cX0_lowest 28 = .ok (.lstore 10, 2) := by decide +kernel
theorem dX0_lowest_30 : decode cX0_lowest 30 = .ok (.lload 7, 2) := by decide +kernel
theorem dX0_lowest_32 : decode cX0_lowest 32 = .ok (.lstore 5, 2) := by decide +kernel
theorem dX0_lowest_34 : decode cX0_lowest 34 = .ok (.lload 10, 2) := by decide +kernel
theorem dX0_lowest_36 : decode cX0_lowest 36 = .ok (.lstore 7, 2) := by decide +kernel
theorem dX0_lowest_38 : decode cX0_lowest 38 = .ok (.iinc 9 1, 3) := by decide +kernel
theorem dX0_lowest_41 : decode cX0_lowest 41 = .ok (.goto (-32), 3) := by decide +kernel
theorem dX0_lowest_44 : decode cX0_lowest 44 = .ok (.lload 5, 2) := by decide +kernel
theorem dX0_lowest_46 : decode cX0_lowest 46 = .ok (.lconst 1, 1) := by decide +kernel
theorem dX0_lowest_47 : decode cX0_lowest 47 = .ok (.lcmp, 1) := by decide +kernel
theorem dX0_lowest_48 : decode cX0_lowest 48 = .ok (.ifCond .ge 14, 3) := by decide +kernel
theorem dX0_lowest_51 : decode cX0_lowest 51 = .ok (.iload 4, 2) := by decide +kernel
theorem dX0_lowest_53 : decode cX0_lowest 53 = .ok (.ifCond .ne 7, 3) := by decide +kernel
theorem dX0_lowest_56 : decode cX0_lowest 56 = .ok (.lload_n 0, 1) := by decide +kernel
theorem dX0_lowest_57 : decode cX0_lowest 57 = .ok (.goto 4, 3) := by decide +kernel
theorem dX0_lowest_60 : decode cX0_lowest 60 = .ok (.lload_n 2, 1) := by decide +kernel
theorem dX0_lowest_61 : decode cX0_lowest 61 = .ok (.lreturn, 1) := by decide +kernel
theorem dX0_lowest_62 : decode cX0_lowest 62 = .ok (.iload 4, 2) := by decide +kernel
theorem dX0_lowest_64 : decode cX0_lowest 64 = .ok (.ifCond .ne 7, 3) := by decide +kernel
theorem dX0_lowest_67 : decode cX0_lowest 67 = .ok (.lload_n 0, 1) := by decide +kernel
theorem dX0_lowest_68 : decode cX0_lowest 68 = .ok (.goto 4, 3) := by decide +kernel
theorem dX0_lowest_71 : decode cX0_lowest 71 = .ok (.lload_n 2, 1) := by decide +kernel
theorem dX0_lowest_72 : decode cX0_lowest 72 = .ok (.lload 5, 2) := by decide +kernel
theorem dX0_lowest_74 : decode cX0_lowest 74 = .ok (.ldiv, 1) := by decide +kernel
theorem dX0_lowest_75 : decode cX0_lowest 75 = .ok (.lreturn, 1) := by decide +kernel
theorem dX0_power_0 : decode cX0_power 0 = .ok (.lconst 1, 1) := by decide +kernel
theorem dX0_power_1 : decode cX0_power 1 = .ok (.lstore_n 3, 1) := by decide +kernel
theorem dX0_power_2 : decode cX0_power 2 = .ok (.iconst 0, 1) := by decide +kernel
theorem dX0_power_3 : decode cX0_power 3 = .ok (.istore 5, 2) := by decide +kernel
theorem dX0_power_5 : decode cX0_power 5 = .ok (.iload 5, 2) := by decide +kernel
theorem dX0_power_7 : decode cX0_power 7 = .ok (.iload_n 2, 1) := by decide +kernel
theorem dX0_power_8 : decode cX0_power 8 = .ok (.if_icmp .ge 13, 3) := by decide +kernel
theorem dX0_power_11 : decode cX0_power 11 = .ok (.lload_n 3, 1) := by decide +kernel
theorem dX0_power_12 : decode cX0_power 12 = .ok (.lload_n 0, 1) := by decide +kernel
theorem dX0_power_13 : decode cX0_power 13 = .ok (.lmul, 1) := by decide +kernel
theorem dX0_power_14 : decode cX0_power 14 = .ok (.lstore_n 3, 1) := by decide +kernel
theorem dX0_power_15 : decode cX0_power 15 = .ok (.iinc 5 1, 3) := by decide +kernel
theorem dX0_power_18 : decode cX0_power 18 = .ok (.goto (-13), 3) := by decide +kernel
theorem dX0_power_21 : decode cX0_power 21 = .ok (.lload_n 3, 1) := by decide +kernel
theorem dX0_power_22 : decode cX0_power 22 = .ok (.lreturn, 1) := by decide +kernel
theorem dX0_waysOf_0 : decode cX0_waysOf 0 = .ok (.lconst 0, 1) := by decide +kernel
theorem dX0_waysOf_1 : decode cX0_waysOf 1 = .ok (.lstore_n 3, 1) := by decide +kernel
theorem dX0_waysOf_2 : decode cX0_waysOf 2 = .ok (.lconst 1, 1) := by decide +kernel
theorem dX0_waysOf_3 : decode cX0_waysOf 3 = .ok (.lstore 5, 2) := by decide +kernel
theorem dX0_waysOf_5 : decode cX0_waysOf 5 = .ok (.iconst 0, 1) := by decide +kernel
theorem dX0_waysOf_6 : decode cX0_waysOf 6 = .ok (.istore 7, 2) := by decide +kernel
theorem dX0_waysOf_8 : decode cX0_waysOf 8 = .ok (.iload 7, 2) := by decide +kernel
theorem dX0_waysOf_10 : decode cX0_waysOf 10 = .ok (.iload_n 1, 1) := by decide +kernel
theorem dX0_waysOf_11 : decode cX0_waysOf 11 = .ok (.if_icmp .gt 48, 3) := by decide +kernel
theorem dX0_waysOf_14 : decode cX0_waysOf 14 = .ok (.iload 7, 2) := by decide +kernel
theorem dX0_waysOf_16 : decode cX0_waysOf 16 = .ok (.iload_n 0, 1) := by decide +kernel
theorem dX0_waysOf_17 : decode cX0_waysOf 17 = .ok (.if_icmp .lt 20, 3) := by decide +kernel
theorem dX0_waysOf_20 : decode cX0_waysOf 20 = .ok (.lload_n 3, 1) := by decide +kernel
theorem dX0_waysOf_21 : decode cX0_waysOf 21 = .ok (.lload 5, 2) := by decide +kernel
theorem dX0_waysOf_23 : decode cX0_waysOf 23 = .ok (.iload_n 2, 1) := by decide +kernel
theorem dX0_waysOf_24 : decode cX0_waysOf 24 = .ok (.iconst 1, 1) := by decide +kernel
theorem dX0_waysOf_25 : decode cX0_waysOf 25 = .ok (.isub, 1) := by decide +kernel
theorem dX0_waysOf_26 : decode cX0_waysOf 26 = .ok (.i2l, 1) := by decide +kernel
theorem dX0_waysOf_27 : decode cX0_waysOf 27 = .ok (.iload_n 1, 1) := by decide +kernel
theorem dX0_waysOf_28 : decode cX0_waysOf 28 = .ok (.iload 7, 2) := by decide +kernel
theorem dX0_waysOf_30 : decode cX0_waysOf 30 = .ok (.isub, 1) := by decide +kernel
theorem dX0_waysOf_31 : decode cX0_waysOf 31 = .ok (.invokestatic 7, 3) := by decide +kernel
theorem dX0_waysOf_34 : decode cX0_waysOf 34 = .ok (.lmul, 1) := by decide +kernel
theorem dX0_waysOf_35 : decode cX0_waysOf 35 = .ok (.ladd, 1) := by decide +kernel
theorem dX0_waysOf_36 : decode cX0_waysOf 36 = .ok (.lstore_n 3, 1) := by decide +kernel
theorem dX0_waysOf_37 : decode cX0_waysOf 37 = .ok (.lload 5, 2) := by decide +kernel
theorem dX0_waysOf_39 : decode cX0_waysOf 39 = .ok (.iload_n 1, 1) := by decide +kernel
theorem dX0_waysOf_40 : decode cX0_waysOf 40 = .ok (.iload 7, 2) := by decide +kernel
theorem dX0_waysOf_42 : decode cX0_waysOf 42 = .ok (.isub, 1) := by decide +kernel
theorem dX0_waysOf_43 : decode cX0_waysOf 43 = .ok (.i2l, 1) := by decide +kernel
theorem dX0_waysOf_44 : decode cX0_waysOf 44 = .ok (.lmul, 1) := by decide +kernel
theorem dX0_waysOf_45 : decode cX0_waysOf 45 = .ok (.iload 7, 2) := by decide +kernel
theorem dX0_waysOf_47 : decode cX0_waysOf 47 = .ok (.iconst 1, 1) := by decide +kernel
theorem dX0_waysOf_48 : decode cX0_waysOf 48 = .ok (.iadd, 1) := by decide +kernel
theorem dX0_waysOf_49 : decode cX0_waysOf 49 = .ok (.i2l, 1) := by decide +kernel
theorem dX0_waysOf_50 : decode cX0_waysOf 50 = .ok (.ldiv, 1) := by decide +kernel
theorem dX0_waysOf_51 : decode cX0_waysOf 51 = .ok (.lstore 5, 2) := by decide +kernel
theorem dX0_waysOf_53 : decode cX0_waysOf 53 = .ok (.iinc 7 1, 3) := by decide +kernel
theorem dX0_waysOf_56 : decode cX0_waysOf 56 = .ok (.goto (-48), 3) := by decide +kernel
theorem dX0_waysOf_59 : decode cX0_waysOf 59 = .ok (.lload_n 3, 1) := by decide +kernel
theorem dX0_waysOf_60 : decode cX0_waysOf 60 = .ok (.lreturn, 1) := by decide +kernel
theorem dX1_init_0 : decode cX1_init 0 = .ok (.aload_n 0, 1) := by decide +kernel
theorem dX1_init_1 : decode cX1_init 1 = .ok (.invokespecial 3, 3) := by decide +kernel
theorem dX1_init_4 : decode cX1_init 4 = .ok (.aload_n 0, 1) := by decide +kernel
theorem dX1_init_5 : decode cX1_init 5 = .ok (.bipush 7, 2) := by decide +kernel
theorem dX1_init_7 : decode cX1_init 7 = .ok (.newarray .int, 2) := by decide +kernel
theorem dX1_init_9 : decode cX1_init 9 = .ok (.putfield 9, 3) := by decide +kernel
theorem dX1_init_12 : decode cX1_init 12 = .ok (.aload_n 0, 1) := by decide +kernel
theorem dX1_init_13 : decode cX1_init 13 = .ok (.bipush 7, 2) := by decide +kernel
theorem dX1_init_15 : decode cX1_init 15 = .ok (.newarray .int, 2) := by decide +kernel
theorem dX1_init_17 : decode cX1_init 17 = .ok (.putfield 15, 3) := by decide +kernel
theorem dX1_init_20 : decode cX1_init 20 = .ok (.aload_n 0, 1) := by decide +kernel
theorem dX1_init_21 : decode cX1_init 21 = .ok (.bipush 112, 2) := by decide +kernel
theorem dX1_init_23 : decode cX1_init 23 = .ok (.newarray .int, 2) := by decide +kernel
theorem dX1_init_25 : decode cX1_init 25 = .ok (.putfield 18, 3) := by decide +kernel
theorem dX1_init_28 : decode cX1_init 28 = .ok (.return_, 1) := by decide +kernel
theorem dX1_begin_0 : decode cX1_begin 0 = .ok (.aload_n 0, 1) := by decide +kernel
theorem dX1_begin_1 : decode cX1_begin 1 = .ok (.iconst 0, 1) := by decide +kernel
theorem dX1_begin_2 : decode cX1_begin 2 = .ok (.putfield 21, 3) := by decide +kernel
theorem dX1_begin_5 : decode cX1_begin 5 = .ok (.aload_n 0, 1) := by decide +kernel
theorem dX1_begin_6 : decode cX1_begin 6 = .ok (.iconst 0, 1) := by decide +kernel
theorem dX1_begin_7 : decode cX1_begin 7 = .ok (.putfield 25, 3) := by decide +kernel
theorem dX1_begin_10 : decode cX1_begin 10 = .ok (.aload_n 1, 1) := by decide +kernel
theorem dX1_begin_11 : decode cX1_begin 11 = .ok (.iconst 0, 1) := by decide +kernel
theorem dX1_begin_12 : decode cX1_begin 12 = .ok (.aload_n 0, 1) := by decide +kernel
theorem dX1_begin_13 : decode cX1_begin 13 = .ok (.getfield 15, 3) := by decide +kernel
theorem dX1_begin_16 : decode cX1_begin 16 = .ok (.iconst 0, 1) := by decide +kernel
theorem dX1_begin_17 : decode cX1_begin 17 = .ok (.bipush 7, 2) := by decide +kernel
theorem dX1_begin_19 : decode cX1_begin 19 = .ok (.invokestatic 29, 3) := by decide +kernel
theorem dX1_begin_22 : decode cX1_begin 22 = .ok (.return_, 1) := by decide +kernel
theorem dX1_give_0 : decode cX1_give 0 = .ok (.aload_n 1, 1) := by decide +kernel
theorem dX1_give_1 : decode cX1_give 1 = .ok (.iconst 0, 1) := by decide +kernel
theorem dX1_give_2 : decode cX1_give 2 = .ok (.aload_n 0, 1) := by decide +kernel
theorem dX1_give_3 : decode cX1_give 3 = .ok (.getfield 9, 3) := by decide +kernel
theorem dX1_give_6 : decode cX1_give 6 = .ok (.iconst 0, 1) := by decide +kernel
theorem dX1_give_7 : decode cX1_give 7 = .ok (.bipush 7, 2) := by decide +kernel
theorem dX1_give_9 : decode cX1_give 9 = .ok (.invokestatic 29, 3) := by decide +kernel
theorem dX1_give_12 : decode cX1_give 12 = .ok (.aload_n 0, 1) := by decide +kernel
theorem dX1_give_13 : decode cX1_give 13 = .ok (.iconst 1, 1) := by decide +kernel
theorem dX1_give_14 : decode cX1_give 14 = .ok (.putfield 21, 3) := by decide +kernel
theorem dX1_give_17 : decode cX1_give 17 = .ok (.return_, 1) := by decide +kernel
theorem dX1_end_0 : decode cX1_end 0 = .ok (.aload_n 0, 1) := by decide +kernel
theorem dX1_end_1 : decode cX1_end 1 = .ok (.getfield 25, 3) := by decide +kernel
theorem dX1_end_4 : decode cX1_end 4 = .ok (.bipush 16, 2) := by decide +kernel
theorem dX1_end_6 : decode cX1_end 6 = .ok (.if_icmp .ge 54, 3) := by decide +kernel
theorem dX1_end_9 : decode cX1_end 9 = .ok (.aload_n 0, 1) := by decide +kernel
theorem dX1_end_10 : decode cX1_end 10 = .ok (.getfield 9, 3) := by decide +kernel
theorem dX1_end_13 : decode cX1_end 13 = .ok (.iconst 0, 1) := by decide +kernel
theorem dX1_end_14 : decode cX1_end 14 = .ok (.aload_n 0, 1) := by decide +kernel
theorem dX1_end_15 : decode cX1_end 15 = .ok (.getfield 18, 3) := by decide +kernel
theorem dX1_end_18 : decode cX1_end 18 = .ok (.aload_n 0, 1) := by decide +kernel
theorem dX1_end_19 : decode cX1_end 19 = .ok (.getfield 25, 3) := by decide +kernel
theorem dX1_end_22 : decode cX1_end 22 = .ok (.bipush 7, 2) := by decide +kernel
theorem dX1_end_24 : decode cX1_end 24 = .ok (.imul, 1) := by decide +kernel
theorem dX1_end_25 : decode cX1_end 25 = .ok (.bipush 7, 2) := by decide +kernel
theorem dX1_end_27 : decode cX1_end 27 = .ok (.invokestatic 29, 3) := by decide +kernel
theorem dX1_end_30 : decode cX1_end 30 = .ok (.aload_n 0, 1) := by decide +kernel
theorem dX1_end_31 : decode cX1_end 31 = .ok (.getfield 9, 3) := by decide +kernel
theorem dX1_end_34 : decode cX1_end 34 = .ok (.iconst 0, 1) := by decide +kernel
theorem dX1_end_35 : decode cX1_end 35 = .ok (.aload_n 0, 1) := by decide +kernel
theorem dX1_end_36 : decode cX1_end 36 = .ok (.getfield 15, 3) := by decide +kernel
theorem dX1_end_39 : decode cX1_end 39 = .ok (.iconst 0, 1) := by decide +kernel
theorem dX1_end_40 : decode cX1_end 40 = .ok (.bipush 7, 2) := by decide +kernel
theorem dX1_end_42 : decode cX1_end 42 = .ok (.invokestatic 29, 3) := by decide +kernel
theorem dX1_end_45 : decode cX1_end 45 = .ok (.aload_n 0, 1) := by decide +kernel
theorem dX1_end_46 : decode cX1_end 46 = .ok (.dup, 1) := by decide +kernel
theorem dX1_end_47 : decode cX1_end 47 = .ok (.getfield 25, 3) := by decide +kernel
theorem dX1_end_50 : decode cX1_end 50 = .ok (.iconst 1, 1) := by decide +kernel
theorem dX1_end_51 : decode cX1_end 51 = .ok (.iadd, 1) := by decide +kernel
theorem dX1_end_52 : decode cX1_end 52 = .ok (.putfield 25, 3) := by decide +kernel
theorem dX1_end_55 : decode cX1_end 55 = .ok (.aload_n 0, 1) := by decide +kernel
theorem dX1_end_56 : decode cX1_end 56 = .ok (.iconst 0, 1) := by decide +kernel
theorem dX1_end_57 : decode cX1_end 57 = .ok (.putfield 21, 3) := by decide +kernel
theorem dX1_end_60 : decode cX1_end 60 = .ok (.return_, 1) := by decide +kernel
theorem dX1_timesOf_0 : decode cX1_timesOf 0 = .ok (.iconst 0, 1) := by decide +kernel
theorem dX1_timesOf_1 : decode cX1_timesOf 1 = .ok (.istore_n 3, 1) := by decide +kernel
theorem dX1_timesOf_2 : decode cX1_timesOf 2 = .ok (.iconst 0, 1) := by decide +kernel
theorem dX1_timesOf_3 : decode cX1_timesOf 3 = .ok (.istore 4, 2) := by decide +kernel
theorem dX1_timesOf_5 : decode cX1_timesOf 5 = .ok (.iload 4, 2) := by decide +kernel
theorem dX1_timesOf_7 : decode cX1_timesOf 7 = .ok (.aload_n 0, 1) := by decide +kernel
theorem dX1_timesOf_8 : decode cX1_timesOf 8 = .ok (.getfield 25, 3) := by decide +kernel
theorem dX1_timesOf_11 : decode cX1_timesOf 11 = .ok (.if_icmp .ge 28, 3) := by decide +kernel
theorem dX1_timesOf_14 : decode cX1_timesOf 14 = .ok (.aload_n 0, 1) := by decide +kernel
theorem dX1_timesOf_15 : decode cX1_timesOf 15 = .ok (.getfield 18, 3) := by decide +kernel
theorem dX1_timesOf_18 : decode cX1_timesOf 18 = .ok (.iload 4, 2) := by decide +kernel
theorem dX1_timesOf_20 : decode cX1_timesOf 20 = .ok (.bipush 7, 2) := by decide +kernel
theorem dX1_timesOf_22 : decode cX1_timesOf 22 = .ok (.imul, 1) := by decide +kernel
theorem dX1_timesOf_23 : decode cX1_timesOf 23 = .ok (.iload_n 1, 1) := by decide +kernel
theorem dX1_timesOf_24 : decode cX1_timesOf 24 = .ok (.iadd, 1) := by decide +kernel
theorem dX1_timesOf_25 : decode cX1_timesOf 25 = .ok (.iaload, 1) := by decide +kernel
theorem dX1_timesOf_26 : decode cX1_timesOf 26 = .ok (.iload_n 2, 1) := by decide +kernel
theorem dX1_timesOf_27 : decode cX1_timesOf 27 = .ok (.if_icmp .ne 6, 3) := by decide +kernel
theorem dX1_timesOf_30 : decode cX1_timesOf 30 = .ok (.iinc 3 1, 3) := by decide +kernel
theorem dX1_timesOf_33 : decode cX1_timesOf 33 = .ok (.iinc 4 1, 3) := by decide +kernel
theorem dX1_timesOf_36 : decode cX1_timesOf 36 = .ok (.goto (-31), 3) := by decide +kernel
theorem dX1_timesOf_39 : decode cX1_timesOf 39 = .ok (.iload_n 3, 1) := by decide +kernel
theorem dX1_timesOf_40 : decode cX1_timesOf 40 = .ok (.ireturn, 1) := by decide +kernel
theorem dX1_copy_0 : decode cX1_copy 0 = .ok (.aload_n 0, 1) := by decide +kernel
theorem dX1_copy_1 : decode cX1_copy 1 = .ok (.aload_n 1, 1) := by decide +kernel
theorem dX1_copy_2 : decode cX1_copy 2 = .ok (.getfield 21, 3) := by decide +kernel
theorem dX1_copy_5 : decode cX1_copy 5 = .ok (.putfield 21, 3) := by decide +kernel
theorem dX1_copy_8 : decode cX1_copy 8 = .ok (.aload_n 0, 1) := by decide +kernel
theorem dX1_copy_9 : decode cX1_copy 9 = .ok (.aload_n 1, 1) := by decide +kernel
theorem dX1_copy_10 : decode cX1_copy 10 = .ok (.getfield 25, 3) := by decide +kernel
theorem dX1_copy_13 : decode cX1_copy 13 = .ok (.putfield 25, 3) := by decide +kernel
theorem dX1_copy_16 : decode cX1_copy 16 = .ok (.aload_n 1, 1) := by decide +kernel
theorem dX1_copy_17 : decode cX1_copy 17 = .ok (.getfield 9, 3) := by decide +kernel
theorem dX1_copy_20 : decode cX1_copy 20 = .ok (.iconst 0, 1) := by decide +kernel
theorem dX1_copy_21 : decode cX1_copy 21 = .ok (.aload_n 0, 1) := by decide +kernel
theorem dX1_copy_22 : decode cX1_copy 22 = .ok (.getfield 9, 3) := by decide +kernel
theorem dX1_copy_25 : decode cX1_copy 25 = .ok (.iconst 0, 1) := by decide +kernel
theorem dX1_copy_26 : decode cX1_copy 26 = .ok (.bipush 7, 2) := by decide +kernel
theorem dX1_copy_28 : decode cX1_copy 28 = .ok (.invokestatic 29, 3) := by decide +kernel
theorem dX1_copy_31 : decode cX1_copy 31 = .ok (.aload_n 1, 1) := by decide +kernel
theorem dX1_copy_32 : decode cX1_copy 32 = .ok (.getfield 15, 3) := by decide +kernel
theorem dX1_copy_35 : decode cX1_copy 35 = .ok (.iconst 0, 1) := by decide +kernel
theorem dX1_copy_36 : decode cX1_copy 36 = .ok (.aload_n 0, 1) := by decide +kernel
theorem dX1_copy_37 : decode cX1_copy 37 = .ok (.getfield 15, 3) := by decide +kernel
theorem dX1_copy_40 : decode cX1_copy 40 = .ok (.iconst 0, 1) := by decide +kernel
theorem dX1_copy_41 : decode cX1_copy 41 = .ok (.bipush 7, 2) := by decide +kernel
theorem dX1_copy_43 : decode cX1_copy 43 = .ok (.invokestatic 29, 3) := by decide +kernel
theorem dX1_copy_46 : decode cX1_copy 46 = .ok (.aload_n 1, 1) := by decide +kernel
theorem dX1_copy_47 : decode cX1_copy 47 = .ok (.getfield 18, 3) := by decide +kernel
theorem dX1_copy_50 : decode cX1_copy 50 = .ok (.iconst 0, 1) := by decide +kernel
theorem dX1_copy_51 : decode cX1_copy 51 = .ok (.aload_n 0, 1) := by decide +kernel
theorem dX1_copy_52 : decode cX1_copy 52 = .ok (.getfield 18, 3) := by decide +kernel
theorem dX1_copy_55 : decode cX1_copy 55 = .ok (.iconst 0, 1) := by decide +kernel
theorem dX1_copy_56 : decode cX1_copy 56 = .ok (.aload_n 0, 1) := by decide +kernel
theorem dX1_copy_57 : decode cX1_copy 57 = .ok (.getfield 18, 3) := by decide +kernel
theorem dX1_copy_60 : decode cX1_copy 60 = .ok (.arraylength, 1) := by decide +kernel
theorem dX1_copy_61 : decode cX1_copy 61 = .ok (.invokestatic 29, 3) := by decide +kernel
theorem dX1_copy_64 : decode cX1_copy 64 = .ok (.return_, 1) := by decide +kernel
theorem dX2_init_0 : decode cX2_init 0 = .ok (.aload_n 0, 1) := by decide +kernel
theorem dX2_init_1 : decode cX2_init 1 = .ok (.invokespecial 3, 3) := by decide +kernel
theorem dX2_init_4 : decode cX2_init 4 = .ok (.aload_n 0, 1) := by decide +kernel
theorem dX2_init_5 : decode cX2_init 5 = .ok (.bipush 49, 2) := by decide +kernel
theorem dX2_init_7 : decode cX2_init 7 = .ok (.newarray .int, 2) := by decide +kernel
theorem dX2_init_9 : decode cX2_init 9 = .ok (.putfield 9, 3) := by decide +kernel
theorem dX2_init_12 : decode cX2_init 12 = .ok (.aload_n 0, 1) := by decide +kernel
theorem dX2_init_13 : decode cX2_init 13 = .ok (.bipush 49, 2) := by decide +kernel
theorem dX2_init_15 : decode cX2_init 15 = .ok (.newarray .int, 2) := by decide +kernel
theorem dX2_init_17 : decode cX2_init 17 = .ok (.putfield 15, 3) := by decide +kernel
theorem dX2_init_20 : decode cX2_init 20 = .ok (.aload_n 0, 1) := by decide +kernel
theorem dX2_init_21 : decode cX2_init 21 = .ok (.bipush 7, 2) := by decide +kernel
theorem dX2_init_23 : decode cX2_init 23 = .ok (.newarray .int, 2) := by decide +kernel
theorem dX2_init_25 : decode cX2_init 25 = .ok (.putfield 18, 3) := by decide +kernel
theorem dX2_init_28 : decode cX2_init 28 = .ok (.aload_n 0, 1) := by decide +kernel
theorem dX2_init_29 : decode cX2_init 29 = .ok (.bipush 7, 2) := by decide +kernel
theorem dX2_init_31 : decode cX2_init 31 = .ok (.newarray .int, 2) := by decide +kernel
theorem dX2_init_33 : decode cX2_init 33 = .ok (.putfield 21, 3) := by decide +kernel
theorem dX2_init_36 : decode cX2_init 36 = .ok (.return_, 1) := by decide +kernel
theorem dX2_cell_0 : decode cX2_cell 0 = .ok (.iload_n 0, 1) := by decide +kernel
theorem dX2_cell_1 : decode cX2_cell 1 = .ok (.bipush 7, 2) := by decide +kernel
theorem dX2_cell_3 : decode cX2_cell 3 = .ok (.imul, 1) := by decide +kernel
theorem dX2_cell_4 : decode cX2_cell 4 = .ok (.iload_n 1, 1) := by decide +kernel
theorem dX2_cell_5 : decode cX2_cell 5 = .ok (.iadd, 1) := by decide +kernel
theorem dX2_cell_6 : decode cX2_cell 6 = .ok (.ireturn, 1) := by decide +kernel
theorem dX2_open_0 : decode cX2_open 0 = .ok (.aload_n 0, 1) := by decide +kernel
theorem dX2_open_1 : decode cX2_open 1 = .ok (.iload_n 1, 1) := by decide +kernel
theorem dX2_open_2 : decode cX2_open 2 = .ok (.putfield 24, 3) := by decide +kernel
theorem dX2_open_5 : decode cX2_open 5 = .ok (.aload_n 0, 1) := by decide +kernel
theorem dX2_open_6 : decode cX2_open 6 = .ok (.iconst 3, 1) := by decide +kernel
theorem dX2_open_7 : decode cX2_open 7 = .ok (.putfield 28, 3) := by decide +kernel
theorem dX2_open_10 : decode cX2_open 10 = .ok (.iconst 0, 1) := by decide +kernel
theorem dX2_open_11 : decode cX2_open 11 = .ok (.istore_n 2, 1) := by decide +kernel
theorem dX2_open_12 : decode cX2_open 12 = .ok (.iload_n 2, 1) := by decide +kernel
theorem dX2_open_13 : decode cX2_open 13 = .ok (.aload_n 0, 1) := by decide +kernel
theorem dX2_open_14 : decode cX2_open 14 = .ok (.getfield 9, 3) := by decide +kernel
end
section
theorem dX2_open_17 : decode cX2_open 17 = .ok (.arraylength, 1) := by decide +kernel
theorem dX2_open_18 : decode cX2_open 18 = .ok (.if_icmp .ge 23, 3) := by decide +kernel
theorem dX2_open_21 : decode cX2_open 21 = .ok (.aload_n 0, 1) := by decide +kernel
theorem dX2_open_22 : decode cX2_open 22 = .ok (.getfield 9, 3) := by decide +kernel
theorem dX2_open_25 : decode cX2_open 25 = .ok (.iload_n 2, 1) := by decide +kernel
theorem dX2_open_26 : decode cX2_open 26 = .ok (.iconst 5, 1) := by decide +kernel
theorem dX2_open_27 : decode cX2_open 27 = .ok (.iastore, 1) := by decide +kernel
theorem dX2_open_28 : decode cX2_open 28 = .ok (.aload_n 0, 1) := by decide +kernel
theorem dX2_open_29 : decode cX2_open 29 = .ok (.getfield 15, 3) := by decide +kernel
theorem dX2_open_32 : decode cX2_open 32 = .ok (.iload_n 2, 1) := by decide +kernel
theorem dX2_open_33 : decode cX2_open 33 = .ok (.iconst 5, 1) := by decide +kernel
theorem dX2_open_34 : decode cX2_open 34 = .ok (.iastore, 1) := by decide +kernel
theorem dX2_open_35 : decode cX2_open 35 = .ok (.iinc 2 1, 3) := by decide +kernel
theorem dX2_open_38 : decode cX2_open 38 = .ok (.goto (-26), 3) := by decide +kernel
theorem dX2_open_41 : decode cX2_open 41 = .ok (.iconst 0, 1) := by decide +kernel
theorem dX2_open_42 : decode cX2_open 42 = .ok (.istore_n 2, 1) := by decide +kernel
theorem dX2_open_43 : decode cX2_open 43 = .ok (.iload_n 2, 1) := by decide +kernel
theorem dX2_open_44 : decode cX2_open 44 = .ok (.bipush 7, 2) := by decide +kernel
theorem dX2_open_46 : decode cX2_open 46 = .ok (.if_icmp .ge 23, 3) := by decide +kernel
theorem dX2_open_49 : decode cX2_open 49 = .ok (.aload_n 0, 1) := by decide +kernel
theorem dX2_open_50 : decode cX2_open 50 = .ok (.getfield 18, 3) := by decide +kernel
theorem dX2_open_53 : decode cX2_open 53 = .ok (.iload_n 2, 1) := by decide +kernel
theorem dX2_open_54 : decode cX2_open 54 = .ok (.iconst 1, 1) := by decide +kernel
theorem dX2_open_55 : decode cX2_open 55 = .ok (.iastore, 1) := by decide +kernel
theorem dX2_open_56 : decode cX2_open 56 = .ok (.aload_n 0, 1) := by decide +kernel
theorem dX2_open_57 : decode cX2_open 57 = .ok (.getfield 21, 3) := by decide +kernel
theorem dX2_open_60 : decode cX2_open 60 = .ok (.iload_n 2, 1) := by decide +kernel
theorem dX2_open_61 : decode cX2_open 61 = .ok (.iconst (-1), 1) := by decide +kernel
theorem dX2_open_62 : decode cX2_open 62 = .ok (.iastore, 1) := by decide +kernel
theorem dX2_open_63 : decode cX2_open 63 = .ok (.iinc 2 1, 3) := by decide +kernel
theorem dX2_open_66 : decode cX2_open 66 = .ok (.goto (-23), 3) := by decide +kernel
theorem dX2_open_69 : decode cX2_open 69 = .ok (.return_, 1) := by decide +kernel
theorem dX2_obey_0 : decode cX2_obey 0 = .ok (.aload_n 1, 1) := by decide +kernel
theorem dX2_obey_1 : decode cX2_obey 1 = .ok (.iload_n 2, 1) := by decide +kernel
theorem dX2_obey_2 : decode cX2_obey 2 = .ok (.iaload, 1) := by decide +kernel
theorem dX2_obey_3 : decode cX2_obey 3 = .ok (.istore_n 3, 1) := by decide +kernel
theorem dX2_obey_4 : decode cX2_obey 4 = .ok (.aload_n 1, 1) := by decide +kernel
theorem dX2_obey_5 : decode cX2_obey 5 = .ok (.iload_n 2, 1) := by decide +kernel
theorem dX2_obey_6 : decode cX2_obey 6 = .ok (.iconst 1, 1) := by decide +kernel
theorem dX2_obey_7 : decode cX2_obey 7 = .ok (.iadd, 1) := by decide +kernel
theorem dX2_obey_8 : decode cX2_obey 8 = .ok (.iaload, 1) := by decide +kernel
theorem dX2_obey_9 : decode cX2_obey 9 = .ok (.istore 4, 2) := by decide +kernel
theorem dX2_obey_11 : decode cX2_obey 11 = .ok (.iload_n 3, 1) := by decide +kernel
theorem dX2_obey_12 : decode cX2_obey 12 = .ok (.tableswitch 131 0 8 #[52, 131, 131, 131, 131, 61, 84, 107, 116], 52) := by decide +kernel
theorem dX2_obey_64 : decode cX2_obey 64 = .ok (.aload_n 0, 1) := by decide +kernel
theorem dX2_obey_65 : decode cX2_obey 65 = .ok (.iload 4, 2) := by decide +kernel
theorem dX2_obey_67 : decode cX2_obey 67 = .ok (.invokevirtual 31, 3) := by decide +kernel
theorem dX2_obey_70 : decode cX2_obey 70 = .ok (.goto 81, 3) := by decide +kernel
theorem dX2_obey_73 : decode cX2_obey 73 = .ok (.aload_n 0, 1) := by decide +kernel
theorem dX2_obey_74 : decode cX2_obey 74 = .ok (.getfield 9, 3) := by decide +kernel
theorem dX2_obey_77 : decode cX2_obey 77 = .ok (.iload 4, 2) := by decide +kernel
theorem dX2_obey_79 : decode cX2_obey 79 = .ok (.aload_n 1, 1) := by decide +kernel
theorem dX2_obey_80 : decode cX2_obey 80 = .ok (.iload_n 2, 1) := by decide +kernel
theorem dX2_obey_81 : decode cX2_obey 81 = .ok (.iconst 2, 1) := by decide +kernel
theorem dX2_obey_82 : decode cX2_obey 82 = .ok (.iadd, 1) := by decide +kernel
theorem dX2_obey_83 : decode cX2_obey 83 = .ok (.iaload, 1) := by decide +kernel
theorem dX2_obey_84 : decode cX2_obey 84 = .ok (.invokestatic 35, 3) := by decide +kernel
theorem dX2_obey_87 : decode cX2_obey 87 = .ok (.aload_n 1, 1) := by decide +kernel
theorem dX2_obey_88 : decode cX2_obey 88 = .ok (.iload_n 2, 1) := by decide +kernel
theorem dX2_obey_89 : decode cX2_obey 89 = .ok (.iconst 3, 1) := by decide +kernel
theorem dX2_obey_90 : decode cX2_obey 90 = .ok (.iadd, 1) := by decide +kernel
theorem dX2_obey_91 : decode cX2_obey 91 = .ok (.iaload, 1) := by decide +kernel
theorem dX2_obey_92 : decode cX2_obey 92 = .ok (.iastore, 1) := by decide +kernel
theorem dX2_obey_93 : decode cX2_obey 93 = .ok (.goto 58, 3) := by decide +kernel
theorem dX2_obey_96 : decode cX2_obey 96 = .ok (.aload_n 0, 1) := by decide +kernel
theorem dX2_obey_97 : decode cX2_obey 97 = .ok (.getfield 15, 3) := by decide +kernel
theorem dX2_obey_100 : decode cX2_obey 100 = .ok (.iload 4, 2) := by decide +kernel
theorem dX2_obey_102 : decode cX2_obey 102 = .ok (.aload_n 1, 1) := by decide +kernel
theorem dX2_obey_103 : decode cX2_obey 103 = .ok (.iload_n 2, 1) := by decide +kernel
theorem dX2_obey_104 : decode cX2_obey 104 = .ok (.iconst 2, 1) := by decide +kernel
theorem dX2_obey_105 : decode cX2_obey 105 = .ok (.iadd, 1) := by decide +kernel
theorem dX2_obey_106 : decode cX2_obey 106 = .ok (.iaload, 1) := by decide +kernel
theorem dX2_obey_107 : decode cX2_obey 107 = .ok (.invokestatic 35, 3) := by decide +kernel
theorem dX2_obey_110 : decode cX2_obey 110 = .ok (.aload_n 1, 1) := by decide +kernel
theorem dX2_obey_111 : decode cX2_obey 111 = .ok (.iload_n 2, 1) := by decide +kernel
theorem dX2_obey_112 : decode cX2_obey 112 = .ok (.iconst 3, 1) := by decide +kernel
theorem dX2_obey_113 : decode cX2_obey 113 = .ok (.iadd, 1) := by decide +kernel
theorem dX2_obey_114 : decode cX2_obey 114 = .ok (.iaload, 1) := by decide +kernel
theorem dX2_obey_115 : decode cX2_obey 115 = .ok (.iastore, 1) := by decide +kernel
theorem dX2_obey_116 : decode cX2_obey 116 = .ok (.goto 35, 3) := by decide +kernel
theorem dX2_obey_119 : decode cX2_obey 119 = .ok (.aload_n 0, 1) := by decide +kernel
theorem dX2_obey_120 : decode cX2_obey 120 = .ok (.iload 4, 2) := by decide +kernel
theorem dX2_obey_122 : decode cX2_obey 122 = .ok (.putfield 28, 3) := by decide +kernel
theorem dX2_obey_125 : decode cX2_obey 125 = .ok (.goto 26, 3) := by decide +kernel
theorem dX2_obey_128 : decode cX2_obey 128 = .ok (.aload_n 0, 1) := by decide +kernel
theorem dX2_obey_129 : decode cX2_obey 129 = .ok (.getfield 21, 3) := by decide +kernel
theorem dX2_obey_132 : decode cX2_obey 132 = .ok (.iload 4, 2) := by decide +kernel
theorem dX2_obey_134 : decode cX2_obey 134 = .ok (.aload_n 1, 1) := by decide +kernel
theorem dX2_obey_135 : decode cX2_obey 135 = .ok (.iload_n 2, 1) := by decide +kernel
theorem dX2_obey_136 : decode cX2_obey 136 = .ok (.iconst 2, 1) := by decide +kernel
theorem dX2_obey_137 : decode cX2_obey 137 = .ok (.iadd, 1) := by decide +kernel
theorem dX2_obey_138 : decode cX2_obey 138 = .ok (.iaload, 1) := by decide +kernel
theorem dX2_obey_139 : decode cX2_obey 139 = .ok (.iastore, 1) := by decide +kernel
theorem dX2_obey_140 : decode cX2_obey 140 = .ok (.goto 11, 3) := by decide +kernel
theorem dX2_obey_143 : decode cX2_obey 143 = .ok (.aload_n 0, 1) := by decide +kernel
theorem dX2_obey_144 : decode cX2_obey 144 = .ok (.getfield 18, 3) := by decide +kernel
theorem dX2_obey_147 : decode cX2_obey 147 = .ok (.iload 4, 2) := by decide +kernel
theorem dX2_obey_149 : decode cX2_obey 149 = .ok (.iload_n 3, 1) := by decide +kernel
theorem dX2_obey_150 : decode cX2_obey 150 = .ok (.iastore, 1) := by decide +kernel
theorem dX2_obey_151 : decode cX2_obey 151 = .ok (.return_, 1) := by decide +kernel
theorem dX2_skillOf_0 : decode cX2_skillOf 0 = .ok (.aload_n 0, 1) := by decide +kernel
theorem dX2_skillOf_1 : decode cX2_skillOf 1 = .ok (.getfield 9, 3) := by decide +kernel
theorem dX2_skillOf_4 : decode cX2_skillOf 4 = .ok (.iload_n 1, 1) := by decide +kernel
theorem dX2_skillOf_5 : decode cX2_skillOf 5 = .ok (.iload_n 2, 1) := by decide +kernel
theorem dX2_skillOf_6 : decode cX2_skillOf 6 = .ok (.invokestatic 35, 3) := by decide +kernel
theorem dX2_skillOf_9 : decode cX2_skillOf 9 = .ok (.iaload, 1) := by decide +kernel
theorem dX2_skillOf_10 : decode cX2_skillOf 10 = .ok (.ireturn, 1) := by decide +kernel
theorem dX2_likingOf_0 : decode cX2_likingOf 0 = .ok (.aload_n 0, 1) := by decide +kernel
theorem dX2_likingOf_1 : decode cX2_likingOf 1 = .ok (.getfield 15, 3) := by decide +kernel
theorem dX2_likingOf_4 : decode cX2_likingOf 4 = .ok (.iload_n 1, 1) := by decide +kernel
theorem dX2_likingOf_5 : decode cX2_likingOf 5 = .ok (.iload_n 2, 1) := by decide +kernel
theorem dX2_likingOf_6 : decode cX2_likingOf 6 = .ok (.invokestatic 35, 3) := by decide +kernel
theorem dX2_likingOf_9 : decode cX2_likingOf 9 = .ok (.iaload, 1) := by decide +kernel
theorem dX2_likingOf_10 : decode cX2_likingOf 10 = .ok (.ireturn, 1) := by decide +kernel
theorem dX2_isA_0 : decode cX2_isA 0 = .ok (.aload_n 0, 1) := by decide +kernel
theorem dX2_isA_1 : decode cX2_isA 1 = .ok (.getfield 18, 3) := by decide +kernel
theorem dX2_isA_4 : decode cX2_isA 4 = .ok (.iload_n 1, 1) := by decide +kernel
theorem dX2_isA_5 : decode cX2_isA 5 = .ok (.iaload, 1) := by decide +kernel
theorem dX2_isA_6 : decode cX2_isA 6 = .ok (.istore_n 3, 1) := by decide +kernel
theorem dX2_isA_7 : decode cX2_isA 7 = .ok (.iconst 0, 1) := by decide +kernel
theorem dX2_isA_8 : decode cX2_isA 8 = .ok (.istore 4, 2) := by decide +kernel
theorem dX2_isA_10 : decode cX2_isA 10 = .ok (.iload 4, 2) := by decide +kernel
theorem dX2_isA_12 : decode cX2_isA 12 = .ok (.iconst 5, 1) := by decide +kernel
theorem dX2_isA_13 : decode cX2_isA 13 = .ok (.if_icmp .ge 27, 3) := by decide +kernel
theorem dX2_isA_16 : decode cX2_isA 16 = .ok (.iload_n 3, 1) := by decide +kernel
theorem dX2_isA_17 : decode cX2_isA 17 = .ok (.iconst (-1), 1) := by decide +kernel
theorem dX2_isA_18 : decode cX2_isA 18 = .ok (.if_icmp .eq 22, 3) := by decide +kernel
theorem dX2_isA_21 : decode cX2_isA 21 = .ok (.iload_n 3, 1) := by decide +kernel
theorem dX2_isA_22 : decode cX2_isA 22 = .ok (.iload_n 2, 1) := by decide +kernel
theorem dX2_isA_23 : decode cX2_isA 23 = .ok (.if_icmp .ne 5, 3) := by decide +kernel
theorem dX2_isA_26 : decode cX2_isA 26 = .ok (.iconst 1, 1) := by decide +kernel
theorem dX2_isA_27 : decode cX2_isA 27 = .ok (.ireturn, 1) := by decide +kernel
theorem dX2_isA_28 : decode cX2_isA 28 = .ok (.getstatic 39, 3) := by decide +kernel
theorem dX2_isA_31 : decode cX2_isA 31 = .ok (.iload_n 3, 1) := by decide +kernel
theorem dX2_isA_32 : decode cX2_isA 32 = .ok (.iaload, 1) := by decide +kernel
theorem dX2_isA_33 : decode cX2_isA 33 = .ok (.istore_n 3, 1) := by decide +kernel
theorem dX2_isA_34 : decode cX2_isA 34 = .ok (.iinc 4 1, 3) := by decide +kernel
theorem dX2_isA_37 : decode cX2_isA 37 = .ok (.goto (-27), 3) := by decide +kernel
theorem dX2_isA_40 : decode cX2_isA 40 = .ok (.iconst 0, 1) := by decide +kernel
theorem dX2_isA_41 : decode cX2_isA 41 = .ok (.ireturn, 1) := by decide +kernel
theorem dX2_mayFollow_0 : decode cX2_mayFollow 0 = .ok (.iload_n 2, 1) := by decide +kernel
theorem dX2_mayFollow_1 : decode cX2_mayFollow 1 = .ok (.ifCond .lt 11, 3) := by decide +kernel
theorem dX2_mayFollow_4 : decode cX2_mayFollow 4 = .ok (.iload_n 2, 1) := by decide +kernel
theorem dX2_mayFollow_5 : decode cX2_mayFollow 5 = .ok (.aload_n 0, 1) := by decide +kernel
theorem dX2_mayFollow_6 : decode cX2_mayFollow 6 = .ok (.getfield 24, 3) := by decide +kernel
theorem dX2_mayFollow_9 : decode cX2_mayFollow 9 = .ok (.if_icmp .lt 5, 3) := by decide +kernel
theorem dX2_mayFollow_12 : decode cX2_mayFollow 12 = .ok (.iconst 1, 1) := by decide +kernel
theorem dX2_mayFollow_13 : decode cX2_mayFollow 13 = .ok (.ireturn, 1) := by decide +kernel
theorem dX2_mayFollow_14 : decode cX2_mayFollow 14 = .ok (.aload_n 0, 1) := by decide +kernel
theorem dX2_mayFollow_15 : decode cX2_mayFollow 15 = .ok (.getfield 18, 3) := by decide +kernel
theorem dX2_mayFollow_18 : decode cX2_mayFollow 18 = .ok (.iload_n 1, 1) := by decide +kernel
theorem dX2_mayFollow_19 : decode cX2_mayFollow 19 = .ok (.iaload, 1) := by decide +kernel
theorem dX2_mayFollow_20 : decode cX2_mayFollow 20 = .ok (.iconst 2, 1) := by decide +kernel
theorem dX2_mayFollow_21 : decode cX2_mayFollow 21 = .ok (.if_icmp .ne 19, 3) := by decide +kernel
theorem dX2_mayFollow_24 : decode cX2_mayFollow 24 = .ok (.aload_n 0, 1) := by decide +kernel
theorem dX2_mayFollow_25 : decode cX2_mayFollow 25 = .ok (.getfield 18, 3) := by decide +kernel
theorem dX2_mayFollow_28 : decode cX2_mayFollow 28 = .ok (.iload_n 2, 1) := by decide +kernel
theorem dX2_mayFollow_29 : decode cX2_mayFollow 29 = .ok (.iaload, 1) := by decide +kernel
theorem dX2_mayFollow_30 : decode cX2_mayFollow 30 = .ok (.iconst 2, 1) := by decide +kernel
theorem dX2_mayFollow_31 : decode cX2_mayFollow 31 = .ok (.if_icmp .eq 7, 3) := by decide +kernel
theorem dX2_mayFollow_34 : decode cX2_mayFollow 34 = .ok (.iconst 1, 1) := by decide +kernel
theorem dX2_mayFollow_35 : decode cX2_mayFollow 35 = .ok (.goto 4, 3) := by decide +kernel
theorem dX2_mayFollow_38 : decode cX2_mayFollow 38 = .ok (.iconst 0, 1) := by decide +kernel
theorem dX2_mayFollow_39 : decode cX2_mayFollow 39 = .ok (.ireturn, 1) := by decide +kernel
theorem dX2_mayFollow_40 : decode cX2_mayFollow 40 = .ok (.aload_n 0, 1) := by decide +kernel
theorem dX2_mayFollow_41 : decode cX2_mayFollow 41 = .ok (.getfield 18, 3) := by decide +kernel
theorem dX2_mayFollow_44 : decode cX2_mayFollow 44 = .ok (.iload_n 1, 1) := by decide +kernel
theorem dX2_mayFollow_45 : decode cX2_mayFollow 45 = .ok (.iaload, 1) := by decide +kernel
theorem dX2_mayFollow_46 : decode cX2_mayFollow 46 = .ok (.iconst 3, 1) := by decide +kernel
theorem dX2_mayFollow_47 : decode cX2_mayFollow 47 = .ok (.if_icmp .ne 8, 3) := by decide +kernel
theorem dX2_mayFollow_50 : decode cX2_mayFollow 50 = .ok (.iload_n 2, 1) := by decide +kernel
theorem dX2_mayFollow_51 : decode cX2_mayFollow 51 = .ok (.iload_n 1, 1) := by decide +kernel
theorem dX2_mayFollow_52 : decode cX2_mayFollow 52 = .ok (.if_icmp .eq 7, 3) := by decide +kernel
theorem dX2_mayFollow_55 : decode cX2_mayFollow 55 = .ok (.iconst 1, 1) := by decide +kernel
theorem dX2_mayFollow_56 : decode cX2_mayFollow 56 = .ok (.goto 4, 3) := by decide +kernel
theorem dX2_mayFollow_59 : decode cX2_mayFollow 59 = .ok (.iconst 0, 1) := by decide +kernel
theorem dX2_mayFollow_60 : decode cX2_mayFollow 60 = .ok (.ireturn, 1) := by decide +kernel
theorem dX2_workOf_0 : decode cX2_workOf 0 = .ok (.iconst 0, 1) := by decide +kernel
theorem dX2_workOf_1 : decode cX2_workOf 1 = .ok (.istore_n 2, 1) := by decide +kernel
theorem dX2_workOf_2 : decode cX2_workOf 2 = .ok (.iconst 0, 1) := by decide +kernel
theorem dX2_workOf_3 : decode cX2_workOf 3 = .ok (.istore_n 3, 1) := by decide +kernel
theorem dX2_workOf_4 : decode cX2_workOf 4 = .ok (.iload_n 3, 1) := by decide +kernel
theorem dX2_workOf_5 : decode cX2_workOf 5 = .ok (.aload_n 0, 1) := by decide +kernel
theorem dX2_workOf_6 : decode cX2_workOf 6 = .ok (.getfield 24, 3) := by decide +kernel
theorem dX2_workOf_9 : decode cX2_workOf 9 = .ok (.if_icmp .ge 20, 3) := by decide +kernel
theorem dX2_workOf_12 : decode cX2_workOf 12 = .ok (.iload_n 2, 1) := by decide +kernel
theorem dX2_workOf_13 : decode cX2_workOf 13 = .ok (.aload_n 0, 1) := by decide +kernel
theorem dX2_workOf_14 : decode cX2_workOf 14 = .ok (.iload_n 3, 1) := by decide +kernel
theorem dX2_workOf_15 : decode cX2_workOf 15 = .ok (.aload_n 1, 1) := by decide +kernel
theorem dX2_workOf_16 : decode cX2_workOf 16 = .ok (.iload_n 3, 1) := by decide +kernel
theorem dX2_workOf_17 : decode cX2_workOf 17 = .ok (.iaload, 1) := by decide +kernel
theorem dX2_workOf_18 : decode cX2_workOf 18 = .ok (.invokevirtual 42, 3) := by decide +kernel
theorem dX2_workOf_21 : decode cX2_workOf 21 = .ok (.iadd, 1) := by decide +kernel
theorem dX2_workOf_22 : decode cX2_workOf 22 = .ok (.istore_n 2, 1) := by decide +kernel
theorem dX2_workOf_23 : decode cX2_workOf 23 = .ok (.iinc 3 1, 3) := by decide +kernel
theorem dX2_workOf_26 : decode cX2_workOf 26 = .ok (.goto (-22), 3) := by decide +kernel
theorem dX2_workOf_29 : decode cX2_workOf 29 = .ok (.iload_n 2, 1) := by decide +kernel
theorem dX2_workOf_30 : decode cX2_workOf 30 = .ok (.ireturn, 1) := by decide +kernel
theorem dX2_gladnessOf_0 : decode cX2_gladnessOf 0 = .ok (.iconst 0, 1) := by decide +kernel
theorem dX2_gladnessOf_1 : decode cX2_gladnessOf 1 = .ok (.istore_n 2, 1) := by decide +kernel
theorem dX2_gladnessOf_2 : decode cX2_gladnessOf 2 = .ok (.iconst 0, 1) := by decide +kernel
theorem dX2_gladnessOf_3 : decode cX2_gladnessOf 3 = .ok (.istore_n 3, 1) := by decide +kernel
theorem dX2_gladnessOf_4 : decode cX2_gladnessOf 4 = .ok (.iload_n 3, 1) := by decide +kernel
theorem dX2_gladnessOf_5 : decode cX2_gladnessOf 5 = .ok (.aload_n 0, 1) := by decide +kernel
theorem dX2_gladnessOf_6 : decode cX2_gladnessOf 6 = .ok (.getfield 24, 3) := by decide +kernel
theorem dX2_gladnessOf_9 : decode cX2_gladnessOf 9 = .ok (.if_icmp .ge 20, 3) := by decide +kernel
theorem dX2_gladnessOf_12 : decode cX2_gladnessOf 12 = .ok (.iload_n 2, 1) := by decide +kernel
theorem dX2_gladnessOf_13 : decode cX2_gladnessOf 13 = .ok (.aload_n 0, 1) := by decide +kernel
theorem dX2_gladnessOf_14 : decode cX2_gladnessOf 14 = .ok (.iload_n 3, 1) := by decide +kernel
theorem dX2_gladnessOf_15 : decode cX2_gladnessOf 15 = .ok (.aload_n 1, 1) := by decide +kernel
theorem dX2_gladnessOf_16 : decode cX2_gladnessOf 16 = .ok (.iload_n 3, 1) := by decide +kernel
theorem dX2_gladnessOf_17 : decode cX2_gladnessOf 17 = .ok (.iaload, 1) := by decide +kernel
theorem dX2_gladnessOf_18 : decode cX2_gladnessOf 18 = .ok (.invokevirtual 45, 3) := by decide +kernel
theorem dX2_gladnessOf_21 : decode cX2_gladnessOf 21 = .ok (.iadd, 1) := by decide +kernel
theorem dX2_gladnessOf_22 : decode cX2_gladnessOf 22 = .ok (.istore_n 2, 1) := by decide +kernel
theorem dX2_gladnessOf_23 : decode cX2_gladnessOf 23 = .ok (.iinc 3 1, 3) := by decide +kernel
theorem dX2_gladnessOf_26 : decode cX2_gladnessOf 26 = .ok (.goto (-22), 3) := by decide +kernel
theorem dX2_gladnessOf_29 : decode cX2_gladnessOf 29 = .ok (.iload_n 2, 1) := by decide +kernel
theorem dX2_gladnessOf_30 : decode cX2_gladnessOf 30 = .ok (.ireturn, 1) := by decide +kernel
theorem dX3_fill_0 : decode cX3_fill 0 = .ok (.iload_n 2, 1) := by decide +kernel
theorem dX3_fill_1 : decode cX3_fill 1 = .ok (.istore_n 3, 1) := by decide +kernel
theorem dX3_fill_2 : decode cX3_fill 2 = .ok (.iconst 0, 1) := by decide +kernel
theorem dX3_fill_3 : decode cX3_fill 3 = .ok (.istore 4, 2) := by decide +kernel
theorem dX3_fill_5 : decode cX3_fill 5 = .ok (.iconst 0, 1) := by decide +kernel
theorem dX3_fill_6 : decode cX3_fill 6 = .ok (.istore 5, 2) := by decide +kernel
theorem dX3_fill_8 : decode cX3_fill 8 = .ok (.iload 5, 2) := by decide +kernel
theorem dX3_fill_10 : decode cX3_fill 10 = .ok (.iload_n 1, 1) := by decide +kernel
theorem dX3_fill_11 : decode cX3_fill 11 = .ok (.if_icmp .ge 99, 3) := by decide +kernel
theorem dX3_fill_14 : decode cX3_fill 14 = .ok (.getstatic 9, 3) := by decide +kernel
theorem dX3_fill_17 : decode cX3_fill 17 = .ok (.iload_n 1, 1) := by decide +kernel
theorem dX3_fill_18 : decode cX3_fill 18 = .ok (.iconst 1, 1) := by decide +kernel
theorem dX3_fill_19 : decode cX3_fill 19 = .ok (.isub, 1) := by decide +kernel
theorem dX3_fill_20 : decode cX3_fill 20 = .ok (.iload 5, 2) := by decide +kernel
theorem dX3_fill_22 : decode cX3_fill 22 = .ok (.isub, 1) := by decide +kernel
theorem dX3_fill_23 : decode cX3_fill 23 = .ok (.iaload, 1) := by decide +kernel
theorem dX3_fill_24 : decode cX3_fill 24 = .ok (.istore 6, 2) := by decide +kernel
theorem dX3_fill_26 : decode cX3_fill 26 = .ok (.iconst 0, 1) := by decide +kernel
theorem dX3_fill_27 : decode cX3_fill 27 = .ok (.istore 7, 2) := by decide +kernel
theorem dX3_fill_29 : decode cX3_fill 29 = .ok (.iconst 0, 1) := by decide +kernel
theorem dX3_fill_30 : decode cX3_fill 30 = .ok (.istore 8, 2) := by decide +kernel
theorem dX3_fill_32 : decode cX3_fill 32 = .ok (.iload 8, 2) := by decide +kernel
theorem dX3_fill_34 : decode cX3_fill 34 = .ok (.iload_n 1, 1) := by decide +kernel
theorem dX3_fill_35 : decode cX3_fill 35 = .ok (.if_icmp .ge 69, 3) := by decide +kernel
theorem dX3_fill_38 : decode cX3_fill 38 = .ok (.iload 7, 2) := by decide +kernel
theorem dX3_fill_40 : decode cX3_fill 40 = .ok (.ifCond .ne 64, 3) := by decide +kernel
theorem dX3_fill_43 : decode cX3_fill 43 = .ok (.iload 4, 2) := by decide +kernel
theorem dX3_fill_45 : decode cX3_fill 45 = .ok (.iload 8, 2) := by decide +kernel
theorem dX3_fill_47 : decode cX3_fill 47 = .ok (.ishr, 1) := by decide +kernel
theorem dX3_fill_48 : decode cX3_fill 48 = .ok (.iconst 1, 1) := by decide +kernel
theorem dX3_fill_49 : decode cX3_fill 49 = .ok (.iand, 1) := by decide +kernel
theorem dX3_fill_50 : decode cX3_fill 50 = .ok (.iconst 1, 1) := by decide +kernel
theorem dX3_fill_51 : decode cX3_fill 51 = .ok (.if_icmp .ne 6, 3) := by decide +kernel
theorem dX3_fill_54 : decode cX3_fill 54 = .ok (.goto 44, 3) := by decide +kernel
theorem dX3_fill_57 : decode cX3_fill 57 = .ok (.iload_n 3, 1) := by decide +kernel
theorem dX3_fill_58 : decode cX3_fill 58 = .ok (.iload 6, 2) := by decide +kernel
theorem dX3_fill_60 : decode cX3_fill 60 = .ok (.if_icmp .ge 7, 3) := by decide +kernel
theorem dX3_fill_63 : decode cX3_fill 63 = .ok (.iconst 1, 1) := by decide +kernel
theorem dX3_fill_64 : decode cX3_fill 64 = .ok (.goto 4, 3) := by decide +kernel
theorem dX3_fill_67 : decode cX3_fill 67 = .ok (.iconst 0, 1) := by decide +kernel
theorem dX3_fill_68 : decode cX3_fill 68 = .ok (.istore 7, 2) := by decide +kernel
theorem dX3_fill_70 : decode cX3_fill 70 = .ok (.iload 7, 2) := by decide +kernel
theorem dX3_fill_72 : decode cX3_fill 72 = .ok (.ifCond .eq 21, 3) := by decide +kernel
theorem dX3_fill_75 : decode cX3_fill 75 = .ok (.aload_n 0, 1) := by decide +kernel
theorem dX3_fill_76 : decode cX3_fill 76 = .ok (.iload 5, 2) := by decide +kernel
theorem dX3_fill_78 : decode cX3_fill 78 = .ok (.iload 8, 2) := by decide +kernel
theorem dX3_fill_80 : decode cX3_fill 80 = .ok (.iastore, 1) := by decide +kernel
theorem dX3_fill_81 : decode cX3_fill 81 = .ok (.iload 4, 2) := by decide +kernel
theorem dX3_fill_83 : decode cX3_fill 83 = .ok (.iconst 1, 1) := by decide +kernel
theorem dX3_fill_84 : decode cX3_fill 84 = .ok (.iload 8, 2) := by decide +kernel
theorem dX3_fill_86 : decode cX3_fill 86 = .ok (.ishl, 1) := by decide +kernel
theorem dX3_fill_87 : decode cX3_fill 87 = .ok (.ior, 1) := by decide +kernel
theorem dX3_fill_88 : decode cX3_fill 88 = .ok (.istore 4, 2) := by decide +kernel
theorem dX3_fill_90 : decode cX3_fill 90 = .ok (.goto 8, 3) := by decide +kernel
theorem dX3_fill_93 : decode cX3_fill 93 = .ok (.iload_n 3, 1) := by decide +kernel
theorem dX3_fill_94 : decode cX3_fill 94 = .ok (.iload 6, 2) := by decide +kernel
theorem dX3_fill_96 : decode cX3_fill 96 = .ok (.isub, 1) := by decide +kernel
theorem dX3_fill_97 : decode cX3_fill 97 = .ok (.istore_n 3, 1) := by decide +kernel
theorem dX3_fill_98 : decode cX3_fill 98 = .ok (.iinc 8 1, 3) := by decide +kernel
theorem dX3_fill_101 : decode cX3_fill 101 = .ok (.goto (-69), 3) := by decide +kernel
theorem dX3_fill_104 : decode cX3_fill 104 = .ok (.iinc 5 1, 3) := by decide +kernel
theorem dX3_fill_107 : decode cX3_fill 107 = .ok (.goto (-99), 3) := by decide +kernel
theorem dX3_fill_110 : decode cX3_fill 110 = .ok (.return_, 1) := by decide +kernel
theorem dX3_numberOf_0 : decode cX3_numberOf 0 = .ok (.iconst 0, 1) := by decide +kernel
theorem dX3_numberOf_1 : decode cX3_numberOf 1 = .ok (.istore_n 2, 1) := by decide +kernel
theorem dX3_numberOf_2 : decode cX3_numberOf 2 = .ok (.iconst 0, 1) := by decide +kernel
theorem dX3_numberOf_3 : decode cX3_numberOf 3 = .ok (.istore_n 3, 1) := by decide +kernel
theorem dX3_numberOf_4 : decode cX3_numberOf 4 = .ok (.iconst 0, 1) := by decide +kernel
theorem dX3_numberOf_5 : decode cX3_numberOf 5 = .ok (.istore 4, 2) := by decide +kernel
theorem dX3_numberOf_7 : decode cX3_numberOf 7 = .ok (.iload 4, 2) := by decide +kernel
theorem dX3_numberOf_9 : decode cX3_numberOf 9 = .ok (.iload_n 1, 1) := by decide +kernel
theorem dX3_numberOf_10 : decode cX3_numberOf 10 = .ok (.if_icmp .ge 51, 3) := by decide +kernel
theorem dX3_numberOf_13 : decode cX3_numberOf 13 = .ok (.iconst 1, 1) := by decide +kernel
theorem dX3_numberOf_14 : decode cX3_numberOf 14 = .ok (.aload_n 0, 1) := by decide +kernel
theorem dX3_numberOf_15 : decode cX3_numberOf 15 = .ok (.iload 4, 2) := by decide +kernel
theorem dX3_numberOf_17 : decode cX3_numberOf 17 = .ok (.iaload, 1) := by decide +kernel
theorem dX3_numberOf_18 : decode cX3_numberOf 18 = .ok (.ishl, 1) := by decide +kernel
theorem dX3_numberOf_19 : decode cX3_numberOf 19 = .ok (.iconst 1, 1) := by decide +kernel
theorem dX3_numberOf_20 : decode cX3_numberOf 20 = .ok (.isub, 1) := by decide +kernel
theorem dX3_numberOf_21 : decode cX3_numberOf 21 = .ok (.istore 5, 2) := by decide +kernel
theorem dX3_numberOf_23 : decode cX3_numberOf 23 = .ok (.iload_n 2, 1) := by decide +kernel
theorem dX3_numberOf_24 : decode cX3_numberOf 24 = .ok (.iload 5, 2) := by decide +kernel
theorem dX3_numberOf_26 : decode cX3_numberOf 26 = .ok (.iload_n 3, 1) := by decide +kernel
theorem dX3_numberOf_27 : decode cX3_numberOf 27 = .ok (.iconst (-1), 1) := by decide +kernel
theorem dX3_numberOf_28 : decode cX3_numberOf 28 = .ok (.ixor, 1) := by decide +kernel
theorem dX3_numberOf_29 : decode cX3_numberOf 29 = .ok (.iand, 1) := by decide +kernel
theorem dX3_numberOf_30 : decode cX3_numberOf 30 = .ok (.invokestatic 13, 3) := by decide +kernel
theorem dX3_numberOf_33 : decode cX3_numberOf 33 = .ok (.getstatic 9, 3) := by decide +kernel
theorem dX3_numberOf_36 : decode cX3_numberOf 36 = .ok (.iload_n 1, 1) := by decide +kernel
theorem dX3_numberOf_37 : decode cX3_numberOf 37 = .ok (.iconst 1, 1) := by decide +kernel
theorem dX3_numberOf_38 : decode cX3_numberOf 38 = .ok (.isub, 1) := by decide +kernel
theorem dX3_numberOf_39 : decode cX3_numberOf 39 = .ok (.iload 4, 2) := by decide +kernel
theorem dX3_numberOf_41 : decode cX3_numberOf 41 = .ok (.isub, 1) := by decide +kernel
theorem dX3_numberOf_42 : decode cX3_numberOf 42 = .ok (.iaload, 1) := by decide +kernel
theorem dX3_numberOf_43 : decode cX3_numberOf 43 = .ok (.imul, 1) := by decide +kernel
theorem dX3_numberOf_44 : decode cX3_numberOf 44 = .ok (.iadd, 1) := by decide +kernel
theorem dX3_numberOf_45 : decode cX3_numberOf 45 = .ok (.istore_n 2, 1) := by decide +kernel
theorem dX3_numberOf_46 : decode cX3_numberOf 46 = .ok (.iload_n 3, 1) := by decide +kernel
theorem dX3_numberOf_47 : decode cX3_numberOf 47 = .ok (.iconst 1, 1) := by decide +kernel
theorem dX3_numberOf_48 : decode cX3_numberOf 48 = .ok (.aload_n 0, 1) := by decide +kernel
theorem dX3_numberOf_49 : decode cX3_numberOf 49 = .ok (.iload 4, 2) := by decide +kernel
theorem dX3_numberOf_51 : decode cX3_numberOf 51 = .ok (.iaload, 1) := by decide +kernel
theorem dX3_numberOf_52 : decode cX3_numberOf 52 = .ok (.ishl, 1) := by decide +kernel
theorem dX3_numberOf_53 : decode cX3_numberOf 53 = .ok (.ior, 1) := by decide +kernel
theorem dX3_numberOf_54 : decode cX3_numberOf 54 = .ok (.istore_n 3, 1) := by decide +kernel
theorem dX3_numberOf_55 : decode cX3_numberOf 55 = .ok (.iinc 4 1, 3) := by decide +kernel
theorem dX3_numberOf_58 : decode cX3_numberOf 58 = .ok (.goto (-51), 3) := by decide +kernel
theorem dX3_numberOf_61 : decode cX3_numberOf 61 = .ok (.iload_n 2, 1) := by decide +kernel
theorem dX3_numberOf_62 : decode cX3_numberOf 62 = .ok (.ireturn, 1) := by decide +kernel
theorem dX3_mix_0 : decode cX3_mix 0 = .ok (.iload_n 2, 1) := by decide +kernel
theorem dX3_mix_1 : decode cX3_mix 1 = .ok (.istore_n 3, 1) := by decide +kernel
theorem dX3_mix_2 : decode cX3_mix 2 = .ok (.iconst 0, 1) := by decide +kernel
theorem dX3_mix_3 : decode cX3_mix 3 = .ok (.istore 4, 2) := by decide +kernel
theorem dX3_mix_5 : decode cX3_mix 5 = .ok (.iload 4, 2) := by decide +kernel
theorem dX3_mix_7 : decode cX3_mix 7 = .ok (.iload_n 1, 1) := by decide +kernel
theorem dX3_mix_8 : decode cX3_mix 8 = .ok (.if_icmp .ge 15, 3) := by decide +kernel
theorem dX3_mix_11 : decode cX3_mix 11 = .ok (.aload_n 0, 1) := by decide +kernel
theorem dX3_mix_12 : decode cX3_mix 12 = .ok (.iload 4, 2) := by decide +kernel
theorem dX3_mix_14 : decode cX3_mix 14 = .ok (.iload 4, 2) := by decide +kernel
theorem dX3_mix_16 : decode cX3_mix 16 = .ok (.iastore, 1) := by decide +kernel
theorem dX3_mix_17 : decode cX3_mix 17 = .ok (.iinc 4 1, 3) := by decide +kernel
theorem dX3_mix_20 : decode cX3_mix 20 = .ok (.goto (-15), 3) := by decide +kernel
theorem dX3_mix_23 : decode cX3_mix 23 = .ok (.iload_n 1, 1) := by decide +kernel
theorem dX3_mix_24 : decode cX3_mix 24 = .ok (.iconst 1, 1) := by decide +kernel
theorem dX3_mix_25 : decode cX3_mix 25 = .ok (.isub, 1) := by decide +kernel
theorem dX3_mix_26 : decode cX3_mix 26 = .ok (.istore 4, 2) := by decide +kernel
theorem dX3_mix_28 : decode cX3_mix 28 = .ok (.iload 4, 2) := by decide +kernel
theorem dX3_mix_30 : decode cX3_mix 30 = .ok (.iconst 1, 1) := by decide +kernel
theorem dX3_mix_31 : decode cX3_mix 31 = .ok (.if_icmp .lt 46, 3) := by decide +kernel
theorem dX3_mix_34 : decode cX3_mix 34 = .ok (.sipush 16807, 3) := by decide +kernel
theorem dX3_mix_37 : decode cX3_mix 37 = .ok (.iload_n 3, 1) := by decide +kernel
theorem dX3_mix_38 : decode cX3_mix 38 = .ok (.imul, 1) := by decide +kernel
theorem dX3_mix_39 : decode cX3_mix 39 = .ok (.ldc 19, 2) := by decide +kernel
theorem dX3_mix_41 : decode cX3_mix 41 = .ok (.irem, 1) := by decide +kernel
theorem dX3_mix_42 : decode cX3_mix 42 = .ok (.istore_n 3, 1) := by decide +kernel
theorem dX3_mix_43 : decode cX3_mix 43 = .ok (.iload_n 3, 1) := by decide +kernel
theorem dX3_mix_44 : decode cX3_mix 44 = .ok (.iload 4, 2) := by decide +kernel
theorem dX3_mix_46 : decode cX3_mix 46 = .ok (.iconst 1, 1) := by decide +kernel
theorem dX3_mix_47 : decode cX3_mix 47 = .ok (.iadd, 1) := by decide +kernel
theorem dX3_mix_48 : decode cX3_mix 48 = .ok (.irem, 1) := by decide +kernel
theorem dX3_mix_49 : decode cX3_mix 49 = .ok (.istore 5, 2) := by decide +kernel
theorem dX3_mix_51 : decode cX3_mix 51 = .ok (.aload_n 0, 1) := by decide +kernel
theorem dX3_mix_52 : decode cX3_mix 52 = .ok (.iload 4, 2) := by decide +kernel
theorem dX3_mix_54 : decode cX3_mix 54 = .ok (.iaload, 1) := by decide +kernel
theorem dX3_mix_55 : decode cX3_mix 55 = .ok (.istore 6, 2) := by decide +kernel
theorem dX3_mix_57 : decode cX3_mix 57 = .ok (.aload_n 0, 1) := by decide +kernel
theorem dX3_mix_58 : decode cX3_mix 58 = .ok (.iload 4, 2) := by decide +kernel
theorem dX3_mix_60 : decode cX3_mix 60 = .ok (.aload_n 0, 1) := by decide +kernel
theorem dX3_mix_61 : decode cX3_mix 61 = .ok (.iload 5, 2) := by decide +kernel
theorem dX3_mix_63 : decode cX3_mix 63 = .ok (.iaload, 1) := by decide +kernel
theorem dX3_mix_64 : decode cX3_mix 64 = .ok (.iastore, 1) := by decide +kernel
theorem dX3_mix_65 : decode cX3_mix 65 = .ok (.aload_n 0, 1) := by decide +kernel
theorem dX3_mix_66 : decode cX3_mix 66 = .ok (.iload 5, 2) := by decide +kernel
theorem dX3_mix_68 : decode cX3_mix 68 = .ok (.iload 6, 2) := by decide +kernel
theorem dX3_mix_70 : decode cX3_mix 70 = .ok (.iastore, 1) := by decide +kernel
theorem dX3_mix_71 : decode cX3_mix 71 = .ok (.iinc 4 (-1), 3) := by decide +kernel
theorem dX3_mix_74 : decode cX3_mix 74 = .ok (.goto (-46), 3) := by decide +kernel
theorem dX3_mix_77 : decode cX3_mix 77 = .ok (.iload_n 3, 1) := by decide +kernel
theorem dX3_mix_78 : decode cX3_mix 78 = .ok (.ireturn, 1) := by decide +kernel
theorem dX4_init_0 : decode cX4_init 0 = .ok (.aload_n 0, 1) := by decide +kernel
theorem dX4_init_1 : decode cX4_init 1 = .ok (.invokespecial 3, 3) := by decide +kernel
theorem dX4_init_4 : decode cX4_init 4 = .ok (.aload_n 0, 1) := by decide +kernel
theorem dX4_init_5 : decode cX4_init 5 = .ok (.bipush 7, 2) := by decide +kernel
theorem dX4_init_7 : decode cX4_init 7 = .ok (.newarray .int, 2) := by decide +kernel
theorem dX4_init_9 : decode cX4_init 9 = .ok (.putfield 9, 3) := by decide +kernel
theorem dX4_init_12 : decode cX4_init 12 = .ok (.aload_n 0, 1) := by decide +kernel
theorem dX4_init_13 : decode cX4_init 13 = .ok (.sipush 600, 3) := by decide +kernel
theorem dX4_init_16 : decode cX4_init 16 = .ok (.newarray .int, 2) := by decide +kernel
theorem dX4_init_18 : decode cX4_init 18 = .ok (.putfield 15, 3) := by decide +kernel
theorem dX4_init_21 : decode cX4_init 21 = .ok (.aload_n 0, 1) := by decide +kernel
theorem dX4_init_22 : decode cX4_init 22 = .ok (.bipush 120, 2) := by decide +kernel
theorem dX4_init_24 : decode cX4_init 24 = .ok (.newarray .int, 2) := by decide +kernel
theorem dX4_init_26 : decode cX4_init 26 = .ok (.putfield 18, 3) := by decide +kernel
theorem dX4_init_29 : decode cX4_init 29 = .ok (.aload_n 0, 1) := by decide +kernel
theorem dX4_init_30 : decode cX4_init 30 = .ok (.bipush 120, 2) := by decide +kernel
theorem dX4_init_32 : decode cX4_init 32 = .ok (.newarray .int, 2) := by decide +kernel
theorem dX4_init_34 : decode cX4_init 34 = .ok (.putfield 21, 3) := by decide +kernel
theorem dX4_init_37 : decode cX4_init 37 = .ok (.aload_n 0, 1) := by decide +kernel
theorem dX4_init_38 : decode cX4_init 38 = .ok (.bipush 120, 2) := by decide +kernel
theorem dX4_init_40 : decode cX4_init 40 = .ok (.newarray .int, 2) := by decide +kernel
theorem dX4_init_42 : decode cX4_init 42 = .ok (.putfield 24, 3) := by decide +kernel
theorem dX4_init_45 : decode cX4_init 45 = .ok (.aload_n 0, 1) := by decide +kernel
theorem dX4_init_46 : decode cX4_init 46 = .ok (.aload_n 1, 1) := by decide +kernel
theorem dX4_init_47 : decode cX4_init 47 = .ok (.putfield 27, 3) := by decide +kernel
theorem dX4_init_50 : decode cX4_init 50 = .ok (.return_, 1) := by decide +kernel
theorem dX4_greatest_0 : decode cX4_greatest 0 = .ok (.aload_n 0, 1) := by decide +kernel
theorem dX4_greatest_1 : decode cX4_greatest 1 = .ok (.getfield 27, 3) := by decide +kernel
theorem dX4_greatest_4 : decode cX4_greatest 4 = .ok (.getfield 31, 3) := by decide +kernel
theorem dX4_greatest_7 : decode cX4_greatest 7 = .ok (.iconst 5, 1) := by decide +kernel
theorem dX4_greatest_8 : decode cX4_greatest 8 = .ok (.if_icmp .le 5, 3) := by decide +kernel
theorem dX4_greatest_11 : decode cX4_greatest 11 = .ok (.iconst (-1), 1) := by decide +kernel
theorem dX4_greatest_12 : decode cX4_greatest 12 = .ok (.ireturn, 1) := by decide +kernel
theorem dX4_greatest_13 : decode cX4_greatest 13 = .ok (.getstatic 37, 3) := by decide +kernel
theorem dX4_greatest_16 : decode cX4_greatest 16 = .ok (.aload_n 0, 1) := by decide +kernel
theorem dX4_greatest_17 : decode cX4_greatest 17 = .ok (.getfield 27, 3) := by decide +kernel
theorem dX4_greatest_20 : decode cX4_greatest 20 = .ok (.getfield 31, 3) := by decide +kernel
theorem dX4_greatest_23 : decode cX4_greatest 23 = .ok (.iaload, 1) := by decide +kernel
theorem dX4_greatest_24 : decode cX4_greatest 24 = .ok (.istore_n 3, 1) := by decide +kernel
theorem dX4_greatest_25 : decode cX4_greatest 25 = .ok (.aload_n 0, 1) := by decide +kernel
theorem dX4_greatest_26 : decode cX4_greatest 26 = .ok (.iload_n 3, 1) := by decide +kernel
theorem dX4_greatest_27 : decode cX4_greatest 27 = .ok (.invokevirtual 40, 3) := by decide +kernel
theorem dX4_greatest_30 : decode cX4_greatest 30 = .ok (.iconst 0, 1) := by decide +kernel
theorem dX4_greatest_31 : decode cX4_greatest 31 = .ok (.istore 4, 2) := by decide +kernel
theorem dX4_greatest_33 : decode cX4_greatest 33 = .ok (.iload 4, 2) := by decide +kernel
theorem dX4_greatest_35 : decode cX4_greatest 35 = .ok (.iload_n 3, 1) := by decide +kernel
theorem dX4_greatest_36 : decode cX4_greatest 36 = .ok (.if_icmp .ge 38, 3) := by decide +kernel
theorem dX4_greatest_39 : decode cX4_greatest 39 = .ok (.aload_n 0, 1) := by decide +kernel
theorem dX4_greatest_40 : decode cX4_greatest 40 = .ok (.getfield 21, 3) := by decide +kernel
theorem dX4_greatest_43 : decode cX4_greatest 43 = .ok (.iload 4, 2) := by decide +kernel
theorem dX4_greatest_45 : decode cX4_greatest 45 = .ok (.aload_n 0, 1) := by decide +kernel
theorem dX4_greatest_46 : decode cX4_greatest 46 = .ok (.aload_n 1, 1) := by decide +kernel
theorem dX4_greatest_47 : decode cX4_greatest 47 = .ok (.iconst 0, 1) := by decide +kernel
theorem dX4_greatest_48 : decode cX4_greatest 48 = .ok (.iload 4, 2) := by decide +kernel
theorem dX4_greatest_50 : decode cX4_greatest 50 = .ok (.invokevirtual 44, 3) := by decide +kernel
theorem dX4_greatest_53 : decode cX4_greatest 53 = .ok (.ifCond .eq 13, 3) := by decide +kernel
theorem dX4_greatest_56 : decode cX4_greatest 56 = .ok (.aload_n 0, 1) := by decide +kernel
theorem dX4_greatest_57 : decode cX4_greatest 57 = .ok (.getfield 18, 3) := by decide +kernel
theorem dX4_greatest_60 : decode cX4_greatest 60 = .ok (.iload 4, 2) := by decide +kernel
theorem dX4_greatest_62 : decode cX4_greatest 62 = .ok (.iaload, 1) := by decide +kernel
theorem dX4_greatest_63 : decode cX4_greatest 63 = .ok (.goto 4, 3) := by decide +kernel
theorem dX4_greatest_66 : decode cX4_greatest 66 = .ok (.iconst (-1), 1) := by decide +kernel
theorem dX4_greatest_67 : decode cX4_greatest 67 = .ok (.iastore, 1) := by decide +kernel
theorem dX4_greatest_68 : decode cX4_greatest 68 = .ok (.iinc 4 1, 3) := by decide +kernel
theorem dX4_greatest_71 : decode cX4_greatest 71 = .ok (.goto (-38), 3) := by decide +kernel
theorem dX4_greatest_74 : decode cX4_greatest 74 = .ok (.iconst 1, 1) := by decide +kernel
theorem dX4_greatest_75 : decode cX4_greatest 75 = .ok (.istore 4, 2) := by decide +kernel
theorem dX4_greatest_77 : decode cX4_greatest 77 = .ok (.iload 4, 2) := by decide +kernel
theorem dX4_greatest_79 : decode cX4_greatest 79 = .ok (.iload_n 2, 1) := by decide +kernel
theorem dX4_greatest_80 : decode cX4_greatest 80 = .ok (.if_icmp .ge 14, 3) := by decide +kernel
theorem dX4_greatest_83 : decode cX4_greatest 83 = .ok (.aload_n 0, 1) := by decide +kernel
theorem dX4_greatest_84 : decode cX4_greatest 84 = .ok (.iload_n 3, 1) := by decide +kernel
theorem dX4_greatest_85 : decode cX4_greatest 85 = .ok (.invokevirtual 48, 3) := by decide +kernel
theorem dX4_greatest_88 : decode cX4_greatest 88 = .ok (.iinc 4 1, 3) := by decide +kernel
theorem dX4_greatest_91 : decode cX4_greatest 91 = .ok (.goto (-14), 3) := by decide +kernel
theorem dX4_greatest_94 : decode cX4_greatest 94 = .ok (.iconst (-1), 1) := by decide +kernel
theorem dX4_greatest_95 : decode cX4_greatest 95 = .ok (.istore 4, 2) := by decide +kernel
theorem dX4_greatest_97 : decode cX4_greatest 97 = .ok (.iconst 0, 1) := by decide +kernel
theorem dX4_greatest_98 : decode cX4_greatest 98 = .ok (.istore 5, 2) := by decide +kernel
theorem dX4_greatest_100 : decode cX4_greatest 100 = .ok (.iload 5, 2) := by decide +kernel
theorem dX4_greatest_102 : decode cX4_greatest 102 = .ok (.iload_n 3, 1) := by decide +kernel
theorem dX4_greatest_103 : decode cX4_greatest 103 = .ok (.if_icmp .ge 23, 3) := by decide +kernel
theorem dX4_greatest_106 : decode cX4_greatest 106 = .ok (.iload 4, 2) := by decide +kernel
theorem dX4_greatest_108 : decode cX4_greatest 108 = .ok (.aload_n 0, 1) := by decide +kernel
theorem dX4_greatest_109 : decode cX4_greatest 109 = .ok (.getfield 21, 3) := by decide +kernel
theorem dX4_greatest_112 : decode cX4_greatest 112 = .ok (.iload 5, 2) := by decide +kernel
theorem dX4_greatest_114 : decode cX4_greatest 114 = .ok (.iaload, 1) := by decide +kernel
theorem dX4_greatest_115 : decode cX4_greatest 115 = .ok (.invokestatic 51, 3) := by decide +kernel
theorem dX4_greatest_118 : decode cX4_greatest 118 = .ok (.istore 4, 2) := by decide +kernel
theorem dX4_greatest_120 : decode cX4_greatest 120 = .ok (.iinc 5 1, 3) := by decide +kernel
theorem dX4_greatest_123 : decode cX4_greatest 123 = .ok (.goto (-23), 3) := by decide +kernel
theorem dX4_greatest_126 : decode cX4_greatest 126 = .ok (.iload 4, 2) := by decide +kernel
theorem dX4_greatest_128 : decode cX4_greatest 128 = .ok (.ireturn, 1) := by decide +kernel
theorem dX4_layRows_0 : decode cX4_layRows 0 = .ok (.iconst 0, 1) := by decide +kernel
theorem dX4_layRows_1 : decode cX4_layRows 1 = .ok (.istore_n 2, 1) := by decide +kernel
theorem dX4_layRows_2 : decode cX4_layRows 2 = .ok (.iload_n 2, 1) := by decide +kernel
theorem dX4_layRows_3 : decode cX4_layRows 3 = .ok (.iload_n 1, 1) := by decide +kernel
theorem dX4_layRows_4 : decode cX4_layRows 4 = .ok (.if_icmp .ge 119, 3) := by decide +kernel
theorem dX4_layRows_7 : decode cX4_layRows 7 = .ok (.aload_n 0, 1) := by decide +kernel
theorem dX4_layRows_8 : decode cX4_layRows 8 = .ok (.getfield 9, 3) := by decide +kernel
theorem dX4_layRows_11 : decode cX4_layRows 11 = .ok (.aload_n 0, 1) := by decide +kernel
theorem dX4_layRows_12 : decode cX4_layRows 12 = .ok (.getfield 27, 3) := by decide +kernel
theorem dX4_layRows_15 : decode cX4_layRows 15 = .ok (.getfield 31, 3) := by decide +kernel
theorem dX4_layRows_18 : decode cX4_layRows 18 = .ok (.iload_n 2, 1) := by decide +kernel
theorem dX4_layRows_19 : decode cX4_layRows 19 = .ok (.invokestatic 57, 3) := by decide +kernel
theorem dX4_layRows_22 : decode cX4_layRows 22 = .ok (.iconst 1, 1) := by decide +kernel
theorem dX4_layRows_23 : decode cX4_layRows 23 = .ok (.istore_n 3, 1) := by decide +kernel
theorem dX4_layRows_24 : decode cX4_layRows 24 = .ok (.iconst 0, 1) := by decide +kernel
theorem dX4_layRows_25 : decode cX4_layRows 25 = .ok (.istore 4, 2) := by decide +kernel
theorem dX4_layRows_27 : decode cX4_layRows 27 = .ok (.iload 4, 2) := by decide +kernel
theorem dX4_layRows_29 : decode cX4_layRows 29 = .ok (.aload_n 0, 1) := by decide +kernel
theorem dX4_layRows_30 : decode cX4_layRows 30 = .ok (.getfield 27, 3) := by decide +kernel
theorem dX4_layRows_33 : decode cX4_layRows 33 = .ok (.getfield 31, 3) := by decide +kernel
theorem dX4_layRows_36 : decode cX4_layRows 36 = .ok (.if_icmp .ge 56, 3) := by decide +kernel
theorem dX4_layRows_39 : decode cX4_layRows 39 = .ok (.aload_n 0, 1) := by decide +kernel
theorem dX4_layRows_40 : decode cX4_layRows 40 = .ok (.getfield 15, 3) := by decide +kernel
theorem dX4_layRows_43 : decode cX4_layRows 43 = .ok (.iload_n 2, 1) := by decide +kernel
theorem dX4_layRows_44 : decode cX4_layRows 44 = .ok (.iconst 5, 1) := by decide +kernel
theorem dX4_layRows_45 : decode cX4_layRows 45 = .ok (.imul, 1) := by decide +kernel
theorem dX4_layRows_46 : decode cX4_layRows 46 = .ok (.iload 4, 2) := by decide +kernel
theorem dX4_layRows_48 : decode cX4_layRows 48 = .ok (.iadd, 1) := by decide +kernel
theorem dX4_layRows_49 : decode cX4_layRows 49 = .ok (.aload_n 0, 1) := by decide +kernel
end
section
theorem dX4_layRows_50 : decode cX4_layRows 50 = .ok (.getfield 9, 3) := by decide +kernel
theorem dX4_layRows_53 : decode cX4_layRows 53 = .ok (.iload 4, 2) := by decide +kernel
theorem dX4_layRows_55 : decode cX4_layRows 55 = .ok (.iaload, 1) := by decide +kernel
theorem dX4_layRows_56 : decode cX4_layRows 56 = .ok (.iastore, 1) := by decide +kernel
theorem dX4_layRows_57 : decode cX4_layRows 57 = .ok (.iload_n 3, 1) := by decide +kernel
theorem dX4_layRows_58 : decode cX4_layRows 58 = .ok (.ifCond .eq 26, 3) := by decide +kernel
theorem dX4_layRows_61 : decode cX4_layRows 61 = .ok (.aload_n 0, 1) := by decide +kernel
theorem dX4_layRows_62 : decode cX4_layRows 62 = .ok (.getfield 27, 3) := by decide +kernel
theorem dX4_layRows_65 : decode cX4_layRows 65 = .ok (.iload 4, 2) := by decide +kernel
theorem dX4_layRows_67 : decode cX4_layRows 67 = .ok (.aload_n 0, 1) := by decide +kernel
theorem dX4_layRows_68 : decode cX4_layRows 68 = .ok (.getfield 9, 3) := by decide +kernel
theorem dX4_layRows_71 : decode cX4_layRows 71 = .ok (.iload 4, 2) := by decide +kernel
theorem dX4_layRows_73 : decode cX4_layRows 73 = .ok (.iaload, 1) := by decide +kernel
theorem dX4_layRows_74 : decode cX4_layRows 74 = .ok (.invokevirtual 63, 3) := by decide +kernel
theorem dX4_layRows_77 : decode cX4_layRows 77 = .ok (.ifCond .le 7, 3) := by decide +kernel
theorem dX4_layRows_80 : decode cX4_layRows 80 = .ok (.iconst 1, 1) := by decide +kernel
theorem dX4_layRows_81 : decode cX4_layRows 81 = .ok (.goto 4, 3) := by decide +kernel
theorem dX4_layRows_84 : decode cX4_layRows 84 = .ok (.iconst 0, 1) := by decide +kernel
theorem dX4_layRows_85 : decode cX4_layRows 85 = .ok (.istore_n 3, 1) := by decide +kernel
theorem dX4_layRows_86 : decode cX4_layRows 86 = .ok (.iinc 4 1, 3) := by decide +kernel
theorem dX4_layRows_89 : decode cX4_layRows 89 = .ok (.goto (-62), 3) := by decide +kernel
theorem dX4_layRows_92 : decode cX4_layRows 92 = .ok (.aload_n 0, 1) := by decide +kernel
theorem dX4_layRows_93 : decode cX4_layRows 93 = .ok (.getfield 18, 3) := by decide +kernel
theorem dX4_layRows_96 : decode cX4_layRows 96 = .ok (.iload_n 2, 1) := by decide +kernel
theorem dX4_layRows_97 : decode cX4_layRows 97 = .ok (.iload_n 3, 1) := by decide +kernel
theorem dX4_layRows_98 : decode cX4_layRows 98 = .ok (.ifCond .eq 17, 3) := by decide +kernel
theorem dX4_layRows_101 : decode cX4_layRows 101 = .ok (.aload_n 0, 1) := by decide +kernel
theorem dX4_layRows_102 : decode cX4_layRows 102 = .ok (.getfield 27, 3) := by decide +kernel
theorem dX4_layRows_105 : decode cX4_layRows 105 = .ok (.aload_n 0, 1) := by decide +kernel
theorem dX4_layRows_106 : decode cX4_layRows 106 = .ok (.getfield 9, 3) := by decide +kernel
theorem dX4_layRows_109 : decode cX4_layRows 109 = .ok (.invokevirtual 66, 3) := by decide +kernel
theorem dX4_layRows_112 : decode cX4_layRows 112 = .ok (.goto 4, 3) := by decide +kernel
theorem dX4_layRows_115 : decode cX4_layRows 115 = .ok (.iconst (-1), 1) := by decide +kernel
theorem dX4_layRows_116 : decode cX4_layRows 116 = .ok (.iastore, 1) := by decide +kernel
theorem dX4_layRows_117 : decode cX4_layRows 117 = .ok (.iinc 2 1, 3) := by decide +kernel
theorem dX4_layRows_120 : decode cX4_layRows 120 = .ok (.goto (-118), 3) := by decide +kernel
theorem dX4_layRows_123 : decode cX4_layRows 123 = .ok (.return_, 1) := by decide +kernel
theorem dX4_addDay_0 : decode cX4_addDay 0 = .ok (.iconst 0, 1) := by decide +kernel
theorem dX4_addDay_1 : decode cX4_addDay 1 = .ok (.istore_n 2, 1) := by decide +kernel
theorem dX4_addDay_2 : decode cX4_addDay 2 = .ok (.iload_n 2, 1) := by decide +kernel
theorem dX4_addDay_3 : decode cX4_addDay 3 = .ok (.iload_n 1, 1) := by decide +kernel
theorem dX4_addDay_4 : decode cX4_addDay 4 = .ok (.if_icmp .ge 53, 3) := by decide +kernel
theorem dX4_addDay_7 : decode cX4_addDay 7 = .ok (.aload_n 0, 1) := by decide +kernel
theorem dX4_addDay_8 : decode cX4_addDay 8 = .ok (.getfield 18, 3) := by decide +kernel
theorem dX4_addDay_11 : decode cX4_addDay 11 = .ok (.iload_n 2, 1) := by decide +kernel
theorem dX4_addDay_12 : decode cX4_addDay 12 = .ok (.iaload, 1) := by decide +kernel
theorem dX4_addDay_13 : decode cX4_addDay 13 = .ok (.iconst (-1), 1) := by decide +kernel
theorem dX4_addDay_14 : decode cX4_addDay 14 = .ok (.if_icmp .ne 7, 3) := by decide +kernel
theorem dX4_addDay_17 : decode cX4_addDay 17 = .ok (.iconst (-1), 1) := by decide +kernel
theorem dX4_addDay_18 : decode cX4_addDay 18 = .ok (.goto 9, 3) := by decide +kernel
theorem dX4_addDay_21 : decode cX4_addDay 21 = .ok (.aload_n 0, 1) := by decide +kernel
theorem dX4_addDay_22 : decode cX4_addDay 22 = .ok (.iload_n 1, 1) := by decide +kernel
theorem dX4_addDay_23 : decode cX4_addDay 23 = .ok (.iload_n 2, 1) := by decide +kernel
theorem dX4_addDay_24 : decode cX4_addDay 24 = .ok (.invokevirtual 70, 3) := by decide +kernel
theorem dX4_addDay_27 : decode cX4_addDay 27 = .ok (.istore_n 3, 1) := by decide +kernel
theorem dX4_addDay_28 : decode cX4_addDay 28 = .ok (.aload_n 0, 1) := by decide +kernel
theorem dX4_addDay_29 : decode cX4_addDay 29 = .ok (.getfield 24, 3) := by decide +kernel
theorem dX4_addDay_32 : decode cX4_addDay 32 = .ok (.iload_n 2, 1) := by decide +kernel
theorem dX4_addDay_33 : decode cX4_addDay 33 = .ok (.iload_n 3, 1) := by decide +kernel
theorem dX4_addDay_34 : decode cX4_addDay 34 = .ok (.iconst (-1), 1) := by decide +kernel
theorem dX4_addDay_35 : decode cX4_addDay 35 = .ok (.if_icmp .ne 7, 3) := by decide +kernel
theorem dX4_addDay_38 : decode cX4_addDay 38 = .ok (.iconst (-1), 1) := by decide +kernel
theorem dX4_addDay_39 : decode cX4_addDay 39 = .ok (.goto 11, 3) := by decide +kernel
theorem dX4_addDay_42 : decode cX4_addDay 42 = .ok (.iload_n 3, 1) := by decide +kernel
theorem dX4_addDay_43 : decode cX4_addDay 43 = .ok (.aload_n 0, 1) := by decide +kernel
theorem dX4_addDay_44 : decode cX4_addDay 44 = .ok (.getfield 18, 3) := by decide +kernel
theorem dX4_addDay_47 : decode cX4_addDay 47 = .ok (.iload_n 2, 1) := by decide +kernel
theorem dX4_addDay_48 : decode cX4_addDay 48 = .ok (.iaload, 1) := by decide +kernel
theorem dX4_addDay_49 : decode cX4_addDay 49 = .ok (.iadd, 1) := by decide +kernel
theorem dX4_addDay_50 : decode cX4_addDay 50 = .ok (.iastore, 1) := by decide +kernel
theorem dX4_addDay_51 : decode cX4_addDay 51 = .ok (.iinc 2 1, 3) := by decide +kernel
theorem dX4_addDay_54 : decode cX4_addDay 54 = .ok (.goto (-52), 3) := by decide +kernel
theorem dX4_addDay_57 : decode cX4_addDay 57 = .ok (.aload_n 0, 1) := by decide +kernel
theorem dX4_addDay_58 : decode cX4_addDay 58 = .ok (.getfield 21, 3) := by decide +kernel
theorem dX4_addDay_61 : decode cX4_addDay 61 = .ok (.astore_n 2, 1) := by decide +kernel
theorem dX4_addDay_62 : decode cX4_addDay 62 = .ok (.aload_n 0, 1) := by decide +kernel
theorem dX4_addDay_63 : decode cX4_addDay 63 = .ok (.aload_n 0, 1) := by decide +kernel
theorem dX4_addDay_64 : decode cX4_addDay 64 = .ok (.getfield 24, 3) := by decide +kernel
theorem dX4_addDay_67 : decode cX4_addDay 67 = .ok (.putfield 21, 3) := by decide +kernel
theorem dX4_addDay_70 : decode cX4_addDay 70 = .ok (.aload_n 0, 1) := by decide +kernel
theorem dX4_addDay_71 : decode cX4_addDay 71 = .ok (.aload_n 2, 1) := by decide +kernel
theorem dX4_addDay_72 : decode cX4_addDay 72 = .ok (.putfield 24, 3) := by decide +kernel
theorem dX4_addDay_75 : decode cX4_addDay 75 = .ok (.return_, 1) := by decide +kernel
theorem dX4_bestAhead_0 : decode cX4_bestAhead 0 = .ok (.iconst (-1), 1) := by decide +kernel
theorem dX4_bestAhead_1 : decode cX4_bestAhead 1 = .ok (.istore_n 3, 1) := by decide +kernel
theorem dX4_bestAhead_2 : decode cX4_bestAhead 2 = .ok (.iconst 0, 1) := by decide +kernel
theorem dX4_bestAhead_3 : decode cX4_bestAhead 3 = .ok (.istore 4, 2) := by decide +kernel
theorem dX4_bestAhead_5 : decode cX4_bestAhead 5 = .ok (.iload 4, 2) := by decide +kernel
theorem dX4_bestAhead_7 : decode cX4_bestAhead 7 = .ok (.iload_n 1, 1) := by decide +kernel
theorem dX4_bestAhead_8 : decode cX4_bestAhead 8 = .ok (.if_icmp .ge 44, 3) := by decide +kernel
theorem dX4_bestAhead_11 : decode cX4_bestAhead 11 = .ok (.aload_n 0, 1) := by decide +kernel
theorem dX4_bestAhead_12 : decode cX4_bestAhead 12 = .ok (.getfield 21, 3) := by decide +kernel
theorem dX4_bestAhead_15 : decode cX4_bestAhead 15 = .ok (.iload 4, 2) := by decide +kernel
theorem dX4_bestAhead_17 : decode cX4_bestAhead 17 = .ok (.iaload, 1) := by decide +kernel
theorem dX4_bestAhead_18 : decode cX4_bestAhead 18 = .ok (.iload_n 3, 1) := by decide +kernel
theorem dX4_bestAhead_19 : decode cX4_bestAhead 19 = .ok (.if_icmp .le 27, 3) := by decide +kernel
theorem dX4_bestAhead_22 : decode cX4_bestAhead 22 = .ok (.aload_n 0, 1) := by decide +kernel
theorem dX4_bestAhead_23 : decode cX4_bestAhead 23 = .ok (.aload_n 0, 1) := by decide +kernel
theorem dX4_bestAhead_24 : decode cX4_bestAhead 24 = .ok (.getfield 15, 3) := by decide +kernel
theorem dX4_bestAhead_27 : decode cX4_bestAhead 27 = .ok (.iload 4, 2) := by decide +kernel
theorem dX4_bestAhead_29 : decode cX4_bestAhead 29 = .ok (.iconst 5, 1) := by decide +kernel
theorem dX4_bestAhead_30 : decode cX4_bestAhead 30 = .ok (.imul, 1) := by decide +kernel
theorem dX4_bestAhead_31 : decode cX4_bestAhead 31 = .ok (.iload_n 2, 1) := by decide +kernel
theorem dX4_bestAhead_32 : decode cX4_bestAhead 32 = .ok (.invokevirtual 44, 3) := by decide +kernel
theorem dX4_bestAhead_35 : decode cX4_bestAhead 35 = .ok (.ifCond .eq 11, 3) := by decide +kernel
theorem dX4_bestAhead_38 : decode cX4_bestAhead 38 = .ok (.aload_n 0, 1) := by decide +kernel
theorem dX4_bestAhead_39 : decode cX4_bestAhead 39 = .ok (.getfield 21, 3) := by decide +kernel
theorem dX4_bestAhead_42 : decode cX4_bestAhead 42 = .ok (.iload 4, 2) := by decide +kernel
theorem dX4_bestAhead_44 : decode cX4_bestAhead 44 = .ok (.iaload, 1) := by decide +kernel
theorem dX4_bestAhead_45 : decode cX4_bestAhead 45 = .ok (.istore_n 3, 1) := by decide +kernel
theorem dX4_bestAhead_46 : decode cX4_bestAhead 46 = .ok (.iinc 4 1, 3) := by decide +kernel
theorem dX4_bestAhead_49 : decode cX4_bestAhead 49 = .ok (.goto (-44), 3) := by decide +kernel
theorem dX4_bestAhead_52 : decode cX4_bestAhead 52 = .ok (.iload_n 3, 1) := by decide +kernel
theorem dX4_bestAhead_53 : decode cX4_bestAhead 53 = .ok (.ireturn, 1) := by decide +kernel
theorem dX4_mayComeBehind_0 : decode cX4_mayComeBehind 0 = .ok (.iconst 0, 1) := by decide +kernel
theorem dX4_mayComeBehind_1 : decode cX4_mayComeBehind 1 = .ok (.istore 4, 2) := by decide +kernel
theorem dX4_mayComeBehind_3 : decode cX4_mayComeBehind 3 = .ok (.iload 4, 2) := by decide +kernel
theorem dX4_mayComeBehind_5 : decode cX4_mayComeBehind 5 = .ok (.aload_n 0, 1) := by decide +kernel
theorem dX4_mayComeBehind_6 : decode cX4_mayComeBehind 6 = .ok (.getfield 27, 3) := by decide +kernel
theorem dX4_mayComeBehind_9 : decode cX4_mayComeBehind 9 = .ok (.getfield 31, 3) := by decide +kernel
theorem dX4_mayComeBehind_12 : decode cX4_mayComeBehind 12 = .ok (.if_icmp .ge 38, 3) := by decide +kernel
theorem dX4_mayComeBehind_15 : decode cX4_mayComeBehind 15 = .ok (.aload_n 0, 1) := by decide +kernel
theorem dX4_mayComeBehind_16 : decode cX4_mayComeBehind 16 = .ok (.getfield 27, 3) := by decide +kernel
theorem dX4_mayComeBehind_19 : decode cX4_mayComeBehind 19 = .ok (.aload_n 0, 1) := by decide +kernel
theorem dX4_mayComeBehind_20 : decode cX4_mayComeBehind 20 = .ok (.getfield 15, 3) := by decide +kernel
theorem dX4_mayComeBehind_23 : decode cX4_mayComeBehind 23 = .ok (.iload_n 3, 1) := by decide +kernel
theorem dX4_mayComeBehind_24 : decode cX4_mayComeBehind 24 = .ok (.iconst 5, 1) := by decide +kernel
theorem dX4_mayComeBehind_25 : decode cX4_mayComeBehind 25 = .ok (.imul, 1) := by decide +kernel
theorem dX4_mayComeBehind_26 : decode cX4_mayComeBehind 26 = .ok (.iload 4, 2) := by decide +kernel
theorem dX4_mayComeBehind_28 : decode cX4_mayComeBehind 28 = .ok (.iadd, 1) := by decide +kernel
theorem dX4_mayComeBehind_29 : decode cX4_mayComeBehind 29 = .ok (.iaload, 1) := by decide +kernel
theorem dX4_mayComeBehind_30 : decode cX4_mayComeBehind 30 = .ok (.aload_n 1, 1) := by decide +kernel
theorem dX4_mayComeBehind_31 : decode cX4_mayComeBehind 31 = .ok (.iload_n 2, 1) := by decide +kernel
theorem dX4_mayComeBehind_32 : decode cX4_mayComeBehind 32 = .ok (.iload 4, 2) := by decide +kernel
theorem dX4_mayComeBehind_34 : decode cX4_mayComeBehind 34 = .ok (.iadd, 1) := by decide +kernel
theorem dX4_mayComeBehind_35 : decode cX4_mayComeBehind 35 = .ok (.iaload, 1) := by decide +kernel
theorem dX4_mayComeBehind_36 : decode cX4_mayComeBehind 36 = .ok (.invokevirtual 73, 3) := by decide +kernel
theorem dX4_mayComeBehind_39 : decode cX4_mayComeBehind 39 = .ok (.ifCond .ne 5, 3) := by decide +kernel
theorem dX4_mayComeBehind_42 : decode cX4_mayComeBehind 42 = .ok (.iconst 0, 1) := by decide +kernel
theorem dX4_mayComeBehind_43 : decode cX4_mayComeBehind 43 = .ok (.ireturn, 1) := by decide +kernel
theorem dX4_mayComeBehind_44 : decode cX4_mayComeBehind 44 = .ok (.iinc 4 1, 3) := by decide +kernel
theorem dX4_mayComeBehind_47 : decode cX4_mayComeBehind 47 = .ok (.goto (-44), 3) := by decide +kernel
theorem dX4_mayComeBehind_50 : decode cX4_mayComeBehind 50 = .ok (.iconst 1, 1) := by decide +kernel
theorem dX4_mayComeBehind_51 : decode cX4_mayComeBehind 51 = .ok (.ireturn, 1) := by decide +kernel
theorem dX5_init_0 : decode cX5_init 0 = .ok (.aload_n 0, 1) := by decide +kernel
theorem dX5_init_1 : decode cX5_init 1 = .ok (.invokespecial 3, 3) := by decide +kernel
theorem dX5_init_4 : decode cX5_init 4 = .ok (.aload_n 0, 1) := by decide +kernel
theorem dX5_init_5 : decode cX5_init 5 = .ok (.bipush 7, 2) := by decide +kernel
theorem dX5_init_7 : decode cX5_init 7 = .ok (.newarray .int, 2) := by decide +kernel
theorem dX5_init_9 : decode cX5_init 9 = .ok (.putfield 9, 3) := by decide +kernel
theorem dX5_init_12 : decode cX5_init 12 = .ok (.aload_n 0, 1) := by decide +kernel
theorem dX5_init_13 : decode cX5_init 13 = .ok (.sipush 210, 3) := by decide +kernel
theorem dX5_init_16 : decode cX5_init 16 = .ok (.newarray .int, 2) := by decide +kernel
theorem dX5_init_18 : decode cX5_init 18 = .ok (.putfield 15, 3) := by decide +kernel
theorem dX5_init_21 : decode cX5_init 21 = .ok (.aload_n 0, 1) := by decide +kernel
theorem dX5_init_22 : decode cX5_init 22 = .ok (.aload_n 1, 1) := by decide +kernel
theorem dX5_init_23 : decode cX5_init 23 = .ok (.putfield 18, 3) := by decide +kernel
theorem dX5_init_26 : decode cX5_init 26 = .ok (.return_, 1) := by decide +kernel
theorem dX5_look_0 : decode cX5_look 0 = .ok (.iconst 0, 1) := by decide +kernel
theorem dX5_look_1 : decode cX5_look 1 = .ok (.istore_n 2, 1) := by decide +kernel
theorem dX5_look_2 : decode cX5_look 2 = .ok (.iload_n 2, 1) := by decide +kernel
theorem dX5_look_3 : decode cX5_look 3 = .ok (.aload_n 0, 1) := by decide +kernel
theorem dX5_look_4 : decode cX5_look 4 = .ok (.getfield 18, 3) := by decide +kernel
theorem dX5_look_7 : decode cX5_look 7 = .ok (.getfield 22, 3) := by decide +kernel
theorem dX5_look_10 : decode cX5_look 10 = .ok (.if_icmp .ge 74, 3) := by decide +kernel
theorem dX5_look_13 : decode cX5_look 13 = .ok (.iconst 0, 1) := by decide +kernel
theorem dX5_look_14 : decode cX5_look 14 = .ok (.istore_n 3, 1) := by decide +kernel
theorem dX5_look_15 : decode cX5_look 15 = .ok (.iconst 0, 1) := by decide +kernel
theorem dX5_look_16 : decode cX5_look 16 = .ok (.istore 4, 2) := by decide +kernel
theorem dX5_look_18 : decode cX5_look 18 = .ok (.iload 4, 2) := by decide +kernel
theorem dX5_look_20 : decode cX5_look 20 = .ok (.aload_n 0, 1) := by decide +kernel
theorem dX5_look_21 : decode cX5_look 21 = .ok (.getfield 18, 3) := by decide +kernel
theorem dX5_look_24 : decode cX5_look 24 = .ok (.getfield 22, 3) := by decide +kernel
theorem dX5_look_27 : decode cX5_look 27 = .ok (.if_icmp .ge 44, 3) := by decide +kernel
theorem dX5_look_30 : decode cX5_look 30 = .ok (.aload_n 0, 1) := by decide +kernel
theorem dX5_look_31 : decode cX5_look 31 = .ok (.getfield 18, 3) := by decide +kernel
theorem dX5_look_34 : decode cX5_look 34 = .ok (.iload_n 2, 1) := by decide +kernel
theorem dX5_look_35 : decode cX5_look 35 = .ok (.iload 4, 2) := by decide +kernel
theorem dX5_look_37 : decode cX5_look 37 = .ok (.invokevirtual 28, 3) := by decide +kernel
theorem dX5_look_40 : decode cX5_look 40 = .ok (.ifCond .le 25, 3) := by decide +kernel
theorem dX5_look_43 : decode cX5_look 43 = .ok (.aload_n 0, 1) := by decide +kernel
theorem dX5_look_44 : decode cX5_look 44 = .ok (.getfield 18, 3) := by decide +kernel
theorem dX5_look_47 : decode cX5_look 47 = .ok (.iload 4, 2) := by decide +kernel
theorem dX5_look_49 : decode cX5_look 49 = .ok (.aload_n 1, 1) := by decide +kernel
theorem dX5_look_50 : decode cX5_look 50 = .ok (.iload_n 2, 1) := by decide +kernel
theorem dX5_look_51 : decode cX5_look 51 = .ok (.iaload, 1) := by decide +kernel
theorem dX5_look_52 : decode cX5_look 52 = .ok (.invokevirtual 32, 3) := by decide +kernel
theorem dX5_look_55 : decode cX5_look 55 = .ok (.ifCond .eq 10, 3) := by decide +kernel
theorem dX5_look_58 : decode cX5_look 58 = .ok (.iload_n 3, 1) := by decide +kernel
theorem dX5_look_59 : decode cX5_look 59 = .ok (.iconst 1, 1) := by decide +kernel
theorem dX5_look_60 : decode cX5_look 60 = .ok (.iload 4, 2) := by decide +kernel
theorem dX5_look_62 : decode cX5_look 62 = .ok (.ishl, 1) := by decide +kernel
theorem dX5_look_63 : decode cX5_look 63 = .ok (.ior, 1) := by decide +kernel
theorem dX5_look_64 : decode cX5_look 64 = .ok (.istore_n 3, 1) := by decide +kernel
theorem dX5_look_65 : decode cX5_look 65 = .ok (.iinc 4 1, 3) := by decide +kernel
theorem dX5_look_68 : decode cX5_look 68 = .ok (.goto (-50), 3) := by decide +kernel
theorem dX5_look_71 : decode cX5_look 71 = .ok (.aload_n 0, 1) := by decide +kernel
theorem dX5_look_72 : decode cX5_look 72 = .ok (.getfield 9, 3) := by decide +kernel
theorem dX5_look_75 : decode cX5_look 75 = .ok (.iload_n 2, 1) := by decide +kernel
theorem dX5_look_76 : decode cX5_look 76 = .ok (.iload_n 3, 1) := by decide +kernel
theorem dX5_look_77 : decode cX5_look 77 = .ok (.iastore, 1) := by decide +kernel
theorem dX5_look_78 : decode cX5_look 78 = .ok (.iinc 2 1, 3) := by decide +kernel
theorem dX5_look_81 : decode cX5_look 81 = .ok (.goto (-79), 3) := by decide +kernel
theorem dX5_look_84 : decode cX5_look 84 = .ok (.return_, 1) := by decide +kernel
theorem dX5_mayDo_0 : decode cX5_mayDo 0 = .ok (.aload_n 0, 1) := by decide +kernel
theorem dX5_mayDo_1 : decode cX5_mayDo 1 = .ok (.getfield 9, 3) := by decide +kernel
theorem dX5_mayDo_4 : decode cX5_mayDo 4 = .ok (.iload_n 1, 1) := by decide +kernel
theorem dX5_mayDo_5 : decode cX5_mayDo 5 = .ok (.iaload, 1) := by decide +kernel
theorem dX5_mayDo_6 : decode cX5_mayDo 6 = .ok (.iload_n 2, 1) := by decide +kernel
theorem dX5_mayDo_7 : decode cX5_mayDo 7 = .ok (.ishr, 1) := by decide +kernel
theorem dX5_mayDo_8 : decode cX5_mayDo 8 = .ok (.iconst 1, 1) := by decide +kernel
theorem dX5_mayDo_9 : decode cX5_mayDo 9 = .ok (.iand, 1) := by decide +kernel
theorem dX5_mayDo_10 : decode cX5_mayDo 10 = .ok (.iconst 1, 1) := by decide +kernel
theorem dX5_mayDo_11 : decode cX5_mayDo 11 = .ok (.if_icmp .ne 7, 3) := by decide +kernel
theorem dX5_mayDo_14 : decode cX5_mayDo 14 = .ok (.iconst 1, 1) := by decide +kernel
theorem dX5_mayDo_15 : decode cX5_mayDo 15 = .ok (.goto 4, 3) := by decide +kernel
theorem dX5_mayDo_18 : decode cX5_mayDo 18 = .ok (.iconst 0, 1) := by decide +kernel
theorem dX5_mayDo_19 : decode cX5_mayDo 19 = .ok (.ireturn, 1) := by decide +kernel
theorem dX5_allMayDo_0 : decode cX5_allMayDo 0 = .ok (.iconst 0, 1) := by decide +kernel
theorem dX5_allMayDo_1 : decode cX5_allMayDo 1 = .ok (.istore_n 2, 1) := by decide +kernel
theorem dX5_allMayDo_2 : decode cX5_allMayDo 2 = .ok (.iload_n 2, 1) := by decide +kernel
theorem dX5_allMayDo_3 : decode cX5_allMayDo 3 = .ok (.aload_n 0, 1) := by decide +kernel
theorem dX5_allMayDo_4 : decode cX5_allMayDo 4 = .ok (.getfield 18, 3) := by decide +kernel
theorem dX5_allMayDo_7 : decode cX5_allMayDo 7 = .ok (.getfield 22, 3) := by decide +kernel
theorem dX5_allMayDo_10 : decode cX5_allMayDo 10 = .ok (.if_icmp .ge 22, 3) := by decide +kernel
theorem dX5_allMayDo_13 : decode cX5_allMayDo 13 = .ok (.aload_n 0, 1) := by decide +kernel
theorem dX5_allMayDo_14 : decode cX5_allMayDo 14 = .ok (.iload_n 2, 1) := by decide +kernel
theorem dX5_allMayDo_15 : decode cX5_allMayDo 15 = .ok (.aload_n 1, 1) := by decide +kernel
theorem dX5_allMayDo_16 : decode cX5_allMayDo 16 = .ok (.iload_n 2, 1) := by decide +kernel
theorem dX5_allMayDo_17 : decode cX5_allMayDo 17 = .ok (.iaload, 1) := by decide +kernel
theorem dX5_allMayDo_18 : decode cX5_allMayDo 18 = .ok (.invokevirtual 36, 3) := by decide +kernel
theorem dX5_allMayDo_21 : decode cX5_allMayDo 21 = .ok (.ifCond .ne 5, 3) := by decide +kernel
theorem dX5_allMayDo_24 : decode cX5_allMayDo 24 = .ok (.iconst 0, 1) := by decide +kernel
theorem dX5_allMayDo_25 : decode cX5_allMayDo 25 = .ok (.ireturn, 1) := by decide +kernel
theorem dX5_allMayDo_26 : decode cX5_allMayDo 26 = .ok (.iinc 2 1, 3) := by decide +kernel
theorem dX5_allMayDo_29 : decode cX5_allMayDo 29 = .ok (.goto (-27), 3) := by decide +kernel
theorem dX5_allMayDo_32 : decode cX5_allMayDo 32 = .ok (.iconst 1, 1) := by decide +kernel
theorem dX5_allMayDo_33 : decode cX5_allMayDo 33 = .ok (.ireturn, 1) := by decide +kernel
theorem dX5_wants_0 : decode cX5_wants 0 = .ok (.aload_n 0, 1) := by decide +kernel
theorem dX5_wants_1 : decode cX5_wants 1 = .ok (.iload_n 2, 1) := by decide +kernel
theorem dX5_wants_2 : decode cX5_wants 2 = .ok (.aload_n 1, 1) := by decide +kernel
theorem dX5_wants_3 : decode cX5_wants 3 = .ok (.iload_n 3, 1) := by decide +kernel
theorem dX5_wants_4 : decode cX5_wants 4 = .ok (.iaload, 1) := by decide +kernel
theorem dX5_wants_5 : decode cX5_wants 5 = .ok (.invokevirtual 36, 3) := by decide +kernel
theorem dX5_wants_8 : decode cX5_wants 8 = .ok (.ifCond .eq 32, 3) := by decide +kernel
theorem dX5_wants_11 : decode cX5_wants 11 = .ok (.aload_n 0, 1) := by decide +kernel
theorem dX5_wants_12 : decode cX5_wants 12 = .ok (.getfield 18, 3) := by decide +kernel
theorem dX5_wants_15 : decode cX5_wants 15 = .ok (.iload_n 2, 1) := by decide +kernel
theorem dX5_wants_16 : decode cX5_wants 16 = .ok (.aload_n 1, 1) := by decide +kernel
theorem dX5_wants_17 : decode cX5_wants 17 = .ok (.iload_n 3, 1) := by decide +kernel
theorem dX5_wants_18 : decode cX5_wants 18 = .ok (.iaload, 1) := by decide +kernel
theorem dX5_wants_19 : decode cX5_wants 19 = .ok (.invokevirtual 39, 3) := by decide +kernel
theorem dX5_wants_22 : decode cX5_wants 22 = .ok (.aload_n 0, 1) := by decide +kernel
theorem dX5_wants_23 : decode cX5_wants 23 = .ok (.getfield 18, 3) := by decide +kernel
theorem dX5_wants_26 : decode cX5_wants 26 = .ok (.iload_n 2, 1) := by decide +kernel
theorem dX5_wants_27 : decode cX5_wants 27 = .ok (.aload_n 1, 1) := by decide +kernel
theorem dX5_wants_28 : decode cX5_wants 28 = .ok (.iload_n 2, 1) := by decide +kernel
theorem dX5_wants_29 : decode cX5_wants 29 = .ok (.iaload, 1) := by decide +kernel
theorem dX5_wants_30 : decode cX5_wants 30 = .ok (.invokevirtual 39, 3) := by decide +kernel
theorem dX5_wants_33 : decode cX5_wants 33 = .ok (.if_icmp .le 7, 3) := by decide +kernel
theorem dX5_wants_36 : decode cX5_wants 36 = .ok (.iconst 1, 1) := by decide +kernel
theorem dX5_wants_37 : decode cX5_wants 37 = .ok (.goto 4, 3) := by decide +kernel
theorem dX5_wants_40 : decode cX5_wants 40 = .ok (.iconst 0, 1) := by decide +kernel
theorem dX5_wants_41 : decode cX5_wants 41 = .ok (.ireturn, 1) := by decide +kernel
theorem dX5_isWanted_0 : decode cX5_isWanted 0 = .ok (.iload 4, 2) := by decide +kernel
theorem dX5_isWanted_2 : decode cX5_isWanted 2 = .ok (.iconst (-1), 1) := by decide +kernel
theorem dX5_isWanted_3 : decode cX5_isWanted 3 = .ok (.if_icmp .ne 29, 3) := by decide +kernel
theorem dX5_isWanted_6 : decode cX5_isWanted 6 = .ok (.aload_n 0, 1) := by decide +kernel
theorem dX5_isWanted_7 : decode cX5_isWanted 7 = .ok (.aload_n 1, 1) := by decide +kernel
theorem dX5_isWanted_8 : decode cX5_isWanted 8 = .ok (.iload_n 2, 1) := by decide +kernel
theorem dX5_isWanted_9 : decode cX5_isWanted 9 = .ok (.iload_n 3, 1) := by decide +kernel
theorem dX5_isWanted_10 : decode cX5_isWanted 10 = .ok (.invokevirtual 42, 3) := by decide +kernel
theorem dX5_isWanted_13 : decode cX5_isWanted 13 = .ok (.ifCond .eq 17, 3) := by decide +kernel
theorem dX5_isWanted_16 : decode cX5_isWanted 16 = .ok (.aload_n 0, 1) := by decide +kernel
theorem dX5_isWanted_17 : decode cX5_isWanted 17 = .ok (.aload_n 1, 1) := by decide +kernel
theorem dX5_isWanted_18 : decode cX5_isWanted 18 = .ok (.iload_n 3, 1) := by decide +kernel
theorem dX5_isWanted_19 : decode cX5_isWanted 19 = .ok (.iload_n 2, 1) := by decide +kernel
theorem dX5_isWanted_20 : decode cX5_isWanted 20 = .ok (.invokevirtual 42, 3) := by decide +kernel
theorem dX5_isWanted_23 : decode cX5_isWanted 23 = .ok (.ifCond .eq 7, 3) := by decide +kernel
theorem dX5_isWanted_26 : decode cX5_isWanted 26 = .ok (.iconst 1, 1) := by decide +kernel
theorem dX5_isWanted_27 : decode cX5_isWanted 27 = .ok (.goto 4, 3) := by decide +kernel
theorem dX5_isWanted_30 : decode cX5_isWanted 30 = .ok (.iconst 0, 1) := by decide +kernel
theorem dX5_isWanted_31 : decode cX5_isWanted 31 = .ok (.ireturn, 1) := by decide +kernel
theorem dX5_isWanted_32 : decode cX5_isWanted 32 = .ok (.aload_n 0, 1) := by decide +kernel
theorem dX5_isWanted_33 : decode cX5_isWanted 33 = .ok (.aload_n 1, 1) := by decide +kernel
theorem dX5_isWanted_34 : decode cX5_isWanted 34 = .ok (.iload_n 2, 1) := by decide +kernel
theorem dX5_isWanted_35 : decode cX5_isWanted 35 = .ok (.iload_n 3, 1) := by decide +kernel
theorem dX5_isWanted_36 : decode cX5_isWanted 36 = .ok (.invokevirtual 42, 3) := by decide +kernel
theorem dX5_isWanted_39 : decode cX5_isWanted 39 = .ok (.ifCond .eq 29, 3) := by decide +kernel
theorem dX5_isWanted_42 : decode cX5_isWanted 42 = .ok (.aload_n 0, 1) := by decide +kernel
theorem dX5_isWanted_43 : decode cX5_isWanted 43 = .ok (.aload_n 1, 1) := by decide +kernel
theorem dX5_isWanted_44 : decode cX5_isWanted 44 = .ok (.iload_n 3, 1) := by decide +kernel
theorem dX5_isWanted_45 : decode cX5_isWanted 45 = .ok (.iload 4, 2) := by decide +kernel
theorem dX5_isWanted_47 : decode cX5_isWanted 47 = .ok (.invokevirtual 42, 3) := by decide +kernel
theorem dX5_isWanted_50 : decode cX5_isWanted 50 = .ok (.ifCond .eq 18, 3) := by decide +kernel
theorem dX5_isWanted_53 : decode cX5_isWanted 53 = .ok (.aload_n 0, 1) := by decide +kernel
theorem dX5_isWanted_54 : decode cX5_isWanted 54 = .ok (.aload_n 1, 1) := by decide +kernel
theorem dX5_isWanted_55 : decode cX5_isWanted 55 = .ok (.iload 4, 2) := by decide +kernel
theorem dX5_isWanted_57 : decode cX5_isWanted 57 = .ok (.iload_n 2, 1) := by decide +kernel
theorem dX5_isWanted_58 : decode cX5_isWanted 58 = .ok (.invokevirtual 42, 3) := by decide +kernel
theorem dX5_isWanted_61 : decode cX5_isWanted 61 = .ok (.ifCond .eq 7, 3) := by decide +kernel
theorem dX5_isWanted_64 : decode cX5_isWanted 64 = .ok (.iconst 1, 1) := by decide +kernel
theorem dX5_isWanted_65 : decode cX5_isWanted 65 = .ok (.goto 4, 3) := by decide +kernel
theorem dX5_isWanted_68 : decode cX5_isWanted 68 = .ok (.iconst 0, 1) := by decide +kernel
theorem dX5_isWanted_69 : decode cX5_isWanted 69 = .ok (.ireturn, 1) := by decide +kernel
theorem dX5_pass_0 : decode cX5_pass 0 = .ok (.aload_n 0, 1) := by decide +kernel
theorem dX5_pass_1 : decode cX5_pass 1 = .ok (.iload_n 1, 1) := by decide +kernel
theorem dX5_pass_2 : decode cX5_pass 2 = .ok (.iaload, 1) := by decide +kernel
theorem dX5_pass_3 : decode cX5_pass 3 = .ok (.istore 4, 2) := by decide +kernel
theorem dX5_pass_5 : decode cX5_pass 5 = .ok (.aload_n 0, 1) := by decide +kernel
theorem dX5_pass_6 : decode cX5_pass 6 = .ok (.iload_n 1, 1) := by decide +kernel
theorem dX5_pass_7 : decode cX5_pass 7 = .ok (.aload_n 0, 1) := by decide +kernel
theorem dX5_pass_8 : decode cX5_pass 8 = .ok (.iload_n 2, 1) := by decide +kernel
theorem dX5_pass_9 : decode cX5_pass 9 = .ok (.iaload, 1) := by decide +kernel
theorem dX5_pass_10 : decode cX5_pass 10 = .ok (.iastore, 1) := by decide +kernel
theorem dX5_pass_11 : decode cX5_pass 11 = .ok (.iload_n 3, 1) := by decide +kernel
theorem dX5_pass_12 : decode cX5_pass 12 = .ok (.iconst (-1), 1) := by decide +kernel
theorem dX5_pass_13 : decode cX5_pass 13 = .ok (.if_icmp .ne 11, 3) := by decide +kernel
theorem dX5_pass_16 : decode cX5_pass 16 = .ok (.aload_n 0, 1) := by decide +kernel
theorem dX5_pass_17 : decode cX5_pass 17 = .ok (.iload_n 2, 1) := by decide +kernel
theorem dX5_pass_18 : decode cX5_pass 18 = .ok (.iload 4, 2) := by decide +kernel
theorem dX5_pass_20 : decode cX5_pass 20 = .ok (.iastore, 1) := by decide +kernel
theorem dX5_pass_21 : decode cX5_pass 21 = .ok (.goto 14, 3) := by decide +kernel
theorem dX5_pass_24 : decode cX5_pass 24 = .ok (.aload_n 0, 1) := by decide +kernel
theorem dX5_pass_25 : decode cX5_pass 25 = .ok (.iload_n 2, 1) := by decide +kernel
theorem dX5_pass_26 : decode cX5_pass 26 = .ok (.aload_n 0, 1) := by decide +kernel
theorem dX5_pass_27 : decode cX5_pass 27 = .ok (.iload_n 3, 1) := by decide +kernel
theorem dX5_pass_28 : decode cX5_pass 28 = .ok (.iaload, 1) := by decide +kernel
theorem dX5_pass_29 : decode cX5_pass 29 = .ok (.iastore, 1) := by decide +kernel
theorem dX5_pass_30 : decode cX5_pass 30 = .ok (.aload_n 0, 1) := by decide +kernel
theorem dX5_pass_31 : decode cX5_pass 31 = .ok (.iload_n 3, 1) := by decide +kernel
theorem dX5_pass_32 : decode cX5_pass 32 = .ok (.iload 4, 2) := by decide +kernel
theorem dX5_pass_34 : decode cX5_pass 34 = .ok (.iastore, 1) := by decide +kernel
theorem dX5_pass_35 : decode cX5_pass 35 = .ok (.return_, 1) := by decide +kernel
theorem dX5_find_0 : decode cX5_find 0 = .ok (.aload_n 0, 1) := by decide +kernel
theorem dX5_find_1 : decode cX5_find 1 = .ok (.iconst 0, 1) := by decide +kernel
theorem dX5_find_2 : decode cX5_find 2 = .ok (.putfield 46, 3) := by decide +kernel
theorem dX5_find_5 : decode cX5_find 5 = .ok (.iload_n 2, 1) := by decide +kernel
theorem dX5_find_6 : decode cX5_find 6 = .ok (.ifCond .ne 4, 3) := by decide +kernel
theorem dX5_find_9 : decode cX5_find 9 = .ok (.return_, 1) := by decide +kernel
theorem dX5_find_10 : decode cX5_find 10 = .ok (.iconst 0, 1) := by decide +kernel
theorem dX5_find_11 : decode cX5_find 11 = .ok (.istore 4, 2) := by decide +kernel
theorem dX5_find_13 : decode cX5_find 13 = .ok (.iload 4, 2) := by decide +kernel
theorem dX5_find_15 : decode cX5_find 15 = .ok (.aload_n 0, 1) := by decide +kernel
theorem dX5_find_16 : decode cX5_find 16 = .ok (.getfield 18, 3) := by decide +kernel
theorem dX5_find_19 : decode cX5_find 19 = .ok (.getfield 22, 3) := by decide +kernel
theorem dX5_find_22 : decode cX5_find 22 = .ok (.if_icmp .ge 64, 3) := by decide +kernel
theorem dX5_find_25 : decode cX5_find 25 = .ok (.iload 4, 2) := by decide +kernel
theorem dX5_find_27 : decode cX5_find 27 = .ok (.iconst 1, 1) := by decide +kernel
theorem dX5_find_28 : decode cX5_find 28 = .ok (.iadd, 1) := by decide +kernel
theorem dX5_find_29 : decode cX5_find 29 = .ok (.istore 5, 2) := by decide +kernel
theorem dX5_find_31 : decode cX5_find 31 = .ok (.iload 5, 2) := by decide +kernel
theorem dX5_find_33 : decode cX5_find 33 = .ok (.aload_n 0, 1) := by decide +kernel
theorem dX5_find_34 : decode cX5_find 34 = .ok (.getfield 18, 3) := by decide +kernel
theorem dX5_find_37 : decode cX5_find 37 = .ok (.getfield 22, 3) := by decide +kernel
theorem dX5_find_40 : decode cX5_find 40 = .ok (.if_icmp .ge 40, 3) := by decide +kernel
theorem dX5_find_43 : decode cX5_find 43 = .ok (.aload_n 0, 1) := by decide +kernel
theorem dX5_find_44 : decode cX5_find 44 = .ok (.getfield 46, 3) := by decide +kernel
theorem dX5_find_47 : decode cX5_find 47 = .ok (.iload_n 3, 1) := by decide +kernel
theorem dX5_find_48 : decode cX5_find 48 = .ok (.if_icmp .ge 26, 3) := by decide +kernel
theorem dX5_find_51 : decode cX5_find 51 = .ok (.aload_n 0, 1) := by decide +kernel
theorem dX5_find_52 : decode cX5_find 52 = .ok (.aload_n 1, 1) := by decide +kernel
theorem dX5_find_53 : decode cX5_find 53 = .ok (.iload 4, 2) := by decide +kernel
theorem dX5_find_55 : decode cX5_find 55 = .ok (.iload 5, 2) := by decide +kernel
theorem dX5_find_57 : decode cX5_find 57 = .ok (.invokevirtual 42, 3) := by decide +kernel
theorem dX5_find_60 : decode cX5_find 60 = .ok (.ifCond .eq 14, 3) := by decide +kernel
theorem dX5_find_63 : decode cX5_find 63 = .ok (.aload_n 0, 1) := by decide +kernel
theorem dX5_find_64 : decode cX5_find 64 = .ok (.aload_n 1, 1) := by decide +kernel
theorem dX5_find_65 : decode cX5_find 65 = .ok (.iload_n 2, 1) := by decide +kernel
theorem dX5_find_66 : decode cX5_find 66 = .ok (.iload 4, 2) := by decide +kernel
theorem dX5_find_68 : decode cX5_find 68 = .ok (.iload 5, 2) := by decide +kernel
theorem dX5_find_70 : decode cX5_find 70 = .ok (.iload_n 3, 1) := by decide +kernel
theorem dX5_find_71 : decode cX5_find 71 = .ok (.invokevirtual 49, 3) := by decide +kernel
theorem dX5_find_74 : decode cX5_find 74 = .ok (.iinc 5 1, 3) := by decide +kernel
theorem dX5_find_77 : decode cX5_find 77 = .ok (.goto (-46), 3) := by decide +kernel
theorem dX5_find_80 : decode cX5_find 80 = .ok (.iinc 4 1, 3) := by decide +kernel
theorem dX5_find_83 : decode cX5_find 83 = .ok (.goto (-70), 3) := by decide +kernel
theorem dX5_find_86 : decode cX5_find 86 = .ok (.return_, 1) := by decide +kernel
theorem dX5_findThird_0 : decode cX5_findThird 0 = .ok (.iload_n 2, 1) := by decide +kernel
theorem dX5_findThird_1 : decode cX5_findThird 1 = .ok (.iconst 2, 1) := by decide +kernel
theorem dX5_findThird_2 : decode cX5_findThird 2 = .ok (.if_icmp .ne 23, 3) := by decide +kernel
theorem dX5_findThird_5 : decode cX5_findThird 5 = .ok (.aload_n 0, 1) := by decide +kernel
theorem dX5_findThird_6 : decode cX5_findThird 6 = .ok (.aload_n 1, 1) := by decide +kernel
theorem dX5_findThird_7 : decode cX5_findThird 7 = .ok (.iload 4, 2) := by decide +kernel
theorem dX5_findThird_9 : decode cX5_findThird 9 = .ok (.iload_n 3, 1) := by decide +kernel
theorem dX5_findThird_10 : decode cX5_findThird 10 = .ok (.invokevirtual 42, 3) := by decide +kernel
theorem dX5_findThird_13 : decode cX5_findThird 13 = .ok (.ifCond .eq 11, 3) := by decide +kernel
theorem dX5_findThird_16 : decode cX5_findThird 16 = .ok (.aload_n 0, 1) := by decide +kernel
theorem dX5_findThird_17 : decode cX5_findThird 17 = .ok (.iload_n 3, 1) := by decide +kernel
theorem dX5_findThird_18 : decode cX5_findThird 18 = .ok (.iload 4, 2) := by decide +kernel
theorem dX5_findThird_20 : decode cX5_findThird 20 = .ok (.iconst (-1), 1) := by decide +kernel
theorem dX5_findThird_21 : decode cX5_findThird 21 = .ok (.invokevirtual 53, 3) := by decide +kernel
theorem dX5_findThird_24 : decode cX5_findThird 24 = .ok (.return_, 1) := by decide +kernel
theorem dX5_findThird_25 : decode cX5_findThird 25 = .ok (.iload_n 3, 1) := by decide +kernel
theorem dX5_findThird_26 : decode cX5_findThird 26 = .ok (.iconst 1, 1) := by decide +kernel
theorem dX5_findThird_27 : decode cX5_findThird 27 = .ok (.iadd, 1) := by decide +kernel
theorem dX5_findThird_28 : decode cX5_findThird 28 = .ok (.istore 6, 2) := by decide +kernel
theorem dX5_findThird_30 : decode cX5_findThird 30 = .ok (.iload 6, 2) := by decide +kernel
theorem dX5_findThird_32 : decode cX5_findThird 32 = .ok (.aload_n 0, 1) := by decide +kernel
theorem dX5_findThird_33 : decode cX5_findThird 33 = .ok (.getfield 18, 3) := by decide +kernel
theorem dX5_findThird_36 : decode cX5_findThird 36 = .ok (.getfield 22, 3) := by decide +kernel
theorem dX5_findThird_39 : decode cX5_findThird 39 = .ok (.if_icmp .ge 57, 3) := by decide +kernel
theorem dX5_findThird_42 : decode cX5_findThird 42 = .ok (.aload_n 0, 1) := by decide +kernel
theorem dX5_findThird_43 : decode cX5_findThird 43 = .ok (.getfield 46, 3) := by decide +kernel
theorem dX5_findThird_46 : decode cX5_findThird 46 = .ok (.iload 5, 2) := by decide +kernel
theorem dX5_findThird_48 : decode cX5_findThird 48 = .ok (.if_icmp .ge 48, 3) := by decide +kernel
theorem dX5_findThird_51 : decode cX5_findThird 51 = .ok (.iload 6, 2) := by decide +kernel
theorem dX5_findThird_53 : decode cX5_findThird 53 = .ok (.iload 4, 2) := by decide +kernel
theorem dX5_findThird_55 : decode cX5_findThird 55 = .ok (.if_icmp .eq 35, 3) := by decide +kernel
theorem dX5_findThird_58 : decode cX5_findThird 58 = .ok (.aload_n 0, 1) := by decide +kernel
theorem dX5_findThird_59 : decode cX5_findThird 59 = .ok (.aload_n 1, 1) := by decide +kernel
theorem dX5_findThird_60 : decode cX5_findThird 60 = .ok (.iload 4, 2) := by decide +kernel
theorem dX5_findThird_62 : decode cX5_findThird 62 = .ok (.iload 6, 2) := by decide +kernel
theorem dX5_findThird_64 : decode cX5_findThird 64 = .ok (.invokevirtual 42, 3) := by decide +kernel
theorem dX5_findThird_67 : decode cX5_findThird 67 = .ok (.ifCond .eq 23, 3) := by decide +kernel
theorem dX5_findThird_70 : decode cX5_findThird 70 = .ok (.aload_n 0, 1) := by decide +kernel
theorem dX5_findThird_71 : decode cX5_findThird 71 = .ok (.aload_n 1, 1) := by decide +kernel
theorem dX5_findThird_72 : decode cX5_findThird 72 = .ok (.iload 6, 2) := by decide +kernel
theorem dX5_findThird_74 : decode cX5_findThird 74 = .ok (.iload_n 3, 1) := by decide +kernel
theorem dX5_findThird_75 : decode cX5_findThird 75 = .ok (.invokevirtual 42, 3) := by decide +kernel
theorem dX5_findThird_78 : decode cX5_findThird 78 = .ok (.ifCond .eq 12, 3) := by decide +kernel
theorem dX5_findThird_81 : decode cX5_findThird 81 = .ok (.aload_n 0, 1) := by decide +kernel
theorem dX5_findThird_82 : decode cX5_findThird 82 = .ok (.iload_n 3, 1) := by decide +kernel
theorem dX5_findThird_83 : decode cX5_findThird 83 = .ok (.iload 4, 2) := by decide +kernel
theorem dX5_findThird_85 : decode cX5_findThird 85 = .ok (.iload 6, 2) := by decide +kernel
theorem dX5_findThird_87 : decode cX5_findThird 87 = .ok (.invokevirtual 53, 3) := by decide +kernel
theorem dX5_findThird_90 : decode cX5_findThird 90 = .ok (.iinc 6 1, 3) := by decide +kernel
theorem dX5_findThird_93 : decode cX5_findThird 93 = .ok (.goto (-63), 3) := by decide +kernel
theorem dX5_findThird_96 : decode cX5_findThird 96 = .ok (.return_, 1) := by decide +kernel
theorem dX5_note_0 : decode cX5_note 0 = .ok (.aload_n 0, 1) := by decide +kernel
theorem dX5_note_1 : decode cX5_note 1 = .ok (.getfield 46, 3) := by decide +kernel
theorem dX5_note_4 : decode cX5_note 4 = .ok (.bipush 70, 2) := by decide +kernel
theorem dX5_note_6 : decode cX5_note 6 = .ok (.if_icmp .ge 53, 3) := by decide +kernel
theorem dX5_note_9 : decode cX5_note 9 = .ok (.aload_n 0, 1) := by decide +kernel
theorem dX5_note_10 : decode cX5_note 10 = .ok (.getfield 15, 3) := by decide +kernel
theorem dX5_note_13 : decode cX5_note 13 = .ok (.aload_n 0, 1) := by decide +kernel
theorem dX5_note_14 : decode cX5_note 14 = .ok (.getfield 46, 3) := by decide +kernel
theorem dX5_note_17 : decode cX5_note 17 = .ok (.iconst 3, 1) := by decide +kernel
theorem dX5_note_18 : decode cX5_note 18 = .ok (.imul, 1) := by decide +kernel
theorem dX5_note_19 : decode cX5_note 19 = .ok (.iload_n 1, 1) := by decide +kernel
theorem dX5_note_20 : decode cX5_note 20 = .ok (.iastore, 1) := by decide +kernel
theorem dX5_note_21 : decode cX5_note 21 = .ok (.aload_n 0, 1) := by decide +kernel
theorem dX5_note_22 : decode cX5_note 22 = .ok (.getfield 15, 3) := by decide +kernel
theorem dX5_note_25 : decode cX5_note 25 = .ok (.aload_n 0, 1) := by decide +kernel
theorem dX5_note_26 : decode cX5_note 26 = .ok (.getfield 46, 3) := by decide +kernel
theorem dX5_note_29 : decode cX5_note 29 = .ok (.iconst 3, 1) := by decide +kernel
theorem dX5_note_30 : decode cX5_note 30 = .ok (.imul, 1) := by decide +kernel
theorem dX5_note_31 : decode cX5_note 31 = .ok (.iconst 1, 1) := by decide +kernel
theorem dX5_note_32 : decode cX5_note 32 = .ok (.iadd, 1) := by decide +kernel
theorem dX5_note_33 : decode cX5_note 33 = .ok (.iload_n 2, 1) := by decide +kernel
theorem dX5_note_34 : decode cX5_note 34 = .ok (.iastore, 1) := by decide +kernel
theorem dX5_note_35 : decode cX5_note 35 = .ok (.aload_n 0, 1) := by decide +kernel
theorem dX5_note_36 : decode cX5_note 36 = .ok (.getfield 15, 3) := by decide +kernel
theorem dX5_note_39 : decode cX5_note 39 = .ok (.aload_n 0, 1) := by decide +kernel
theorem dX5_note_40 : decode cX5_note 40 = .ok (.getfield 46, 3) := by decide +kernel
theorem dX5_note_43 : decode cX5_note 43 = .ok (.iconst 3, 1) := by decide +kernel
theorem dX5_note_44 : decode cX5_note 44 = .ok (.imul, 1) := by decide +kernel
theorem dX5_note_45 : decode cX5_note 45 = .ok (.iconst 2, 1) := by decide +kernel
theorem dX5_note_46 : decode cX5_note 46 = .ok (.iadd, 1) := by decide +kernel
theorem dX5_note_47 : decode cX5_note 47 = .ok (.iload_n 3, 1) := by decide +kernel
theorem dX5_note_48 : decode cX5_note 48 = .ok (.iastore, 1) := by decide +kernel
theorem dX5_note_49 : decode cX5_note 49 = .ok (.aload_n 0, 1) := by decide +kernel
theorem dX5_note_50 : decode cX5_note 50 = .ok (.dup, 1) := by decide +kernel
theorem dX5_note_51 : decode cX5_note 51 = .ok (.getfield 46, 3) := by decide +kernel
theorem dX5_note_54 : decode cX5_note 54 = .ok (.iconst 1, 1) := by decide +kernel
theorem dX5_note_55 : decode cX5_note 55 = .ok (.iadd, 1) := by decide +kernel
theorem dX5_note_56 : decode cX5_note 56 = .ok (.putfield 46, 3) := by decide +kernel
theorem dX5_note_59 : decode cX5_note 59 = .ok (.return_, 1) := by decide +kernel
theorem dX5_passFound_0 : decode cX5_passFound 0 = .ok (.aload_n 1, 1) := by decide +kernel
theorem dX5_passFound_1 : decode cX5_passFound 1 = .ok (.aload_n 0, 1) := by decide +kernel
theorem dX5_passFound_2 : decode cX5_passFound 2 = .ok (.getfield 15, 3) := by decide +kernel
theorem dX5_passFound_5 : decode cX5_passFound 5 = .ok (.iload_n 2, 1) := by decide +kernel
theorem dX5_passFound_6 : decode cX5_passFound 6 = .ok (.iconst 3, 1) := by decide +kernel
theorem dX5_passFound_7 : decode cX5_passFound 7 = .ok (.imul, 1) := by decide +kernel
theorem dX5_passFound_8 : decode cX5_passFound 8 = .ok (.iaload, 1) := by decide +kernel
theorem dX5_passFound_9 : decode cX5_passFound 9 = .ok (.aload_n 0, 1) := by decide +kernel
theorem dX5_passFound_10 : decode cX5_passFound 10 = .ok (.getfield 15, 3) := by decide +kernel
theorem dX5_passFound_13 : decode cX5_passFound 13 = .ok (.iload_n 2, 1) := by decide +kernel
theorem dX5_passFound_14 : decode cX5_passFound 14 = .ok (.iconst 3, 1) := by decide +kernel
theorem dX5_passFound_15 : decode cX5_passFound 15 = .ok (.imul, 1) := by decide +kernel
theorem dX5_passFound_16 : decode cX5_passFound 16 = .ok (.iconst 1, 1) := by decide +kernel
theorem dX5_passFound_17 : decode cX5_passFound 17 = .ok (.iadd, 1) := by decide +kernel
theorem dX5_passFound_18 : decode cX5_passFound 18 = .ok (.iaload, 1) := by decide +kernel
theorem dX5_passFound_19 : decode cX5_passFound 19 = .ok (.aload_n 0, 1) := by decide +kernel
theorem dX5_passFound_20 : decode cX5_passFound 20 = .ok (.getfield 15, 3) := by decide +kernel
theorem dX5_passFound_23 : decode cX5_passFound 23 = .ok (.iload_n 2, 1) := by decide +kernel
theorem dX5_passFound_24 : decode cX5_passFound 24 = .ok (.iconst 3, 1) := by decide +kernel
theorem dX5_passFound_25 : decode cX5_passFound 25 = .ok (.imul, 1) := by decide +kernel
theorem dX5_passFound_26 : decode cX5_passFound 26 = .ok (.iconst 2, 1) := by decide +kernel
theorem dX5_passFound_27 : decode cX5_passFound 27 = .ok (.iadd, 1) := by decide +kernel
theorem dX5_passFound_28 : decode cX5_passFound 28 = .ok (.iaload, 1) := by decide +kernel
theorem dX5_passFound_29 : decode cX5_passFound 29 = .ok (.invokestatic 57, 3) := by decide +kernel
theorem dX5_passFound_32 : decode cX5_passFound 32 = .ok (.return_, 1) := by decide +kernel
theorem dX5_passAll_0 : decode cX5_passAll 0 = .ok (.iconst 0, 1) := by decide +kernel
theorem dX5_passAll_1 : decode cX5_passAll 1 = .ok (.istore_n 3, 1) := by decide +kernel
theorem dX5_passAll_2 : decode cX5_passAll 2 = .ok (.iload_n 3, 1) := by decide +kernel
theorem dX5_passAll_3 : decode cX5_passAll 3 = .ok (.bipush 63, 2) := by decide +kernel
theorem dX5_passAll_5 : decode cX5_passAll 5 = .ok (.if_icmp .ge 31, 3) := by decide +kernel
theorem dX5_passAll_8 : decode cX5_passAll 8 = .ok (.aload_n 0, 1) := by decide +kernel
theorem dX5_passAll_9 : decode cX5_passAll 9 = .ok (.aload_n 1, 1) := by decide +kernel
end
section
theorem dX5_passAll_10 : decode cX5_passAll 10 = .ok (.iload_n 2, 1) := by decide +kernel
theorem dX5_passAll_11 : decode cX5_passAll 11 = .ok (.iconst 1, 1) := by decide +kernel
theorem dX5_passAll_12 : decode cX5_passAll 12 = .ok (.invokevirtual 61, 3) := by decide +kernel
theorem dX5_passAll_15 : decode cX5_passAll 15 = .ok (.aload_n 0, 1) := by decide +kernel
theorem dX5_passAll_16 : decode cX5_passAll 16 = .ok (.getfield 46, 3) := by decide +kernel
theorem dX5_passAll_19 : decode cX5_passAll 19 = .ok (.ifCond .ne 5, 3) := by decide +kernel
theorem dX5_passAll_22 : decode cX5_passAll 22 = .ok (.iload_n 3, 1) := by decide +kernel
theorem dX5_passAll_23 : decode cX5_passAll 23 = .ok (.ireturn, 1) := by decide +kernel
theorem dX5_passAll_24 : decode cX5_passAll 24 = .ok (.aload_n 0, 1) := by decide +kernel
theorem dX5_passAll_25 : decode cX5_passAll 25 = .ok (.aload_n 1, 1) := by decide +kernel
theorem dX5_passAll_26 : decode cX5_passAll 26 = .ok (.iconst 0, 1) := by decide +kernel
theorem dX5_passAll_27 : decode cX5_passAll 27 = .ok (.invokevirtual 65, 3) := by decide +kernel
theorem dX5_passAll_30 : decode cX5_passAll 30 = .ok (.iinc 3 1, 3) := by decide +kernel
theorem dX5_passAll_33 : decode cX5_passAll 33 = .ok (.goto (-31), 3) := by decide +kernel
theorem dX5_passAll_36 : decode cX5_passAll 36 = .ok (.bipush 63, 2) := by decide +kernel
theorem dX5_passAll_38 : decode cX5_passAll 38 = .ok (.ireturn, 1) := by decide +kernel
theorem dX5_bestFor_0 : decode cX5_bestFor 0 = .ok (.iconst (-1), 1) := by decide +kernel
theorem dX5_bestFor_1 : decode cX5_bestFor 1 = .ok (.istore 4, 2) := by decide +kernel
theorem dX5_bestFor_3 : decode cX5_bestFor 3 = .ok (.aload_n 0, 1) := by decide +kernel
theorem dX5_bestFor_4 : decode cX5_bestFor 4 = .ok (.aload_n 2, 1) := by decide +kernel
theorem dX5_bestFor_5 : decode cX5_bestFor 5 = .ok (.iload_n 3, 1) := by decide +kernel
theorem dX5_bestFor_6 : decode cX5_bestFor 6 = .ok (.bipush 70, 2) := by decide +kernel
theorem dX5_bestFor_8 : decode cX5_bestFor 8 = .ok (.invokevirtual 61, 3) := by decide +kernel
theorem dX5_bestFor_11 : decode cX5_bestFor 11 = .ok (.iconst 0, 1) := by decide +kernel
theorem dX5_bestFor_12 : decode cX5_bestFor 12 = .ok (.istore 5, 2) := by decide +kernel
theorem dX5_bestFor_14 : decode cX5_bestFor 14 = .ok (.iload 5, 2) := by decide +kernel
theorem dX5_bestFor_16 : decode cX5_bestFor 16 = .ok (.aload_n 0, 1) := by decide +kernel
theorem dX5_bestFor_17 : decode cX5_bestFor 17 = .ok (.getfield 46, 3) := by decide +kernel
theorem dX5_bestFor_20 : decode cX5_bestFor 20 = .ok (.if_icmp .ge 44, 3) := by decide +kernel
theorem dX5_bestFor_23 : decode cX5_bestFor 23 = .ok (.aload_n 0, 1) := by decide +kernel
theorem dX5_bestFor_24 : decode cX5_bestFor 24 = .ok (.iload_n 1, 1) := by decide +kernel
theorem dX5_bestFor_25 : decode cX5_bestFor 25 = .ok (.iload 5, 2) := by decide +kernel
theorem dX5_bestFor_27 : decode cX5_bestFor 27 = .ok (.invokevirtual 69, 3) := by decide +kernel
theorem dX5_bestFor_30 : decode cX5_bestFor 30 = .ok (.istore 6, 2) := by decide +kernel
theorem dX5_bestFor_32 : decode cX5_bestFor 32 = .ok (.iload 6, 2) := by decide +kernel
theorem dX5_bestFor_34 : decode cX5_bestFor 34 = .ok (.iconst (-1), 1) := by decide +kernel
theorem dX5_bestFor_35 : decode cX5_bestFor 35 = .ok (.if_icmp .eq 23, 3) := by decide +kernel
theorem dX5_bestFor_38 : decode cX5_bestFor 38 = .ok (.aload_n 0, 1) := by decide +kernel
theorem dX5_bestFor_39 : decode cX5_bestFor 39 = .ok (.iload_n 1, 1) := by decide +kernel
theorem dX5_bestFor_40 : decode cX5_bestFor 40 = .ok (.aload_n 2, 1) := by decide +kernel
theorem dX5_bestFor_41 : decode cX5_bestFor 41 = .ok (.iload 6, 2) := by decide +kernel
theorem dX5_bestFor_43 : decode cX5_bestFor 43 = .ok (.iaload, 1) := by decide +kernel
theorem dX5_bestFor_44 : decode cX5_bestFor 44 = .ok (.iload 4, 2) := by decide +kernel
theorem dX5_bestFor_46 : decode cX5_bestFor 46 = .ok (.invokevirtual 72, 3) := by decide +kernel
theorem dX5_bestFor_49 : decode cX5_bestFor 49 = .ok (.ifCond .eq 9, 3) := by decide +kernel
theorem dX5_bestFor_52 : decode cX5_bestFor 52 = .ok (.aload_n 2, 1) := by decide +kernel
theorem dX5_bestFor_53 : decode cX5_bestFor 53 = .ok (.iload 6, 2) := by decide +kernel
theorem dX5_bestFor_55 : decode cX5_bestFor 55 = .ok (.iaload, 1) := by decide +kernel
theorem dX5_bestFor_56 : decode cX5_bestFor 56 = .ok (.istore 4, 2) := by decide +kernel
theorem dX5_bestFor_58 : decode cX5_bestFor 58 = .ok (.iinc 5 1, 3) := by decide +kernel
theorem dX5_bestFor_61 : decode cX5_bestFor 61 = .ok (.goto (-47), 3) := by decide +kernel
theorem dX5_bestFor_64 : decode cX5_bestFor 64 = .ok (.iload 4, 2) := by decide +kernel
theorem dX5_bestFor_66 : decode cX5_bestFor 66 = .ok (.ireturn, 1) := by decide +kernel
theorem dX5_isBetter_0 : decode cX5_isBetter 0 = .ok (.iload_n 3, 1) := by decide +kernel
theorem dX5_isBetter_1 : decode cX5_isBetter 1 = .ok (.iconst (-1), 1) := by decide +kernel
theorem dX5_isBetter_2 : decode cX5_isBetter 2 = .ok (.if_icmp .ne 5, 3) := by decide +kernel
theorem dX5_isBetter_5 : decode cX5_isBetter 5 = .ok (.iconst 1, 1) := by decide +kernel
theorem dX5_isBetter_6 : decode cX5_isBetter 6 = .ok (.ireturn, 1) := by decide +kernel
theorem dX5_isBetter_7 : decode cX5_isBetter 7 = .ok (.aload_n 0, 1) := by decide +kernel
theorem dX5_isBetter_8 : decode cX5_isBetter 8 = .ok (.getfield 18, 3) := by decide +kernel
theorem dX5_isBetter_11 : decode cX5_isBetter 11 = .ok (.iload_n 1, 1) := by decide +kernel
theorem dX5_isBetter_12 : decode cX5_isBetter 12 = .ok (.iload_n 2, 1) := by decide +kernel
theorem dX5_isBetter_13 : decode cX5_isBetter 13 = .ok (.invokevirtual 39, 3) := by decide +kernel
theorem dX5_isBetter_16 : decode cX5_isBetter 16 = .ok (.aload_n 0, 1) := by decide +kernel
theorem dX5_isBetter_17 : decode cX5_isBetter 17 = .ok (.getfield 18, 3) := by decide +kernel
theorem dX5_isBetter_20 : decode cX5_isBetter 20 = .ok (.iload_n 1, 1) := by decide +kernel
theorem dX5_isBetter_21 : decode cX5_isBetter 21 = .ok (.iload_n 3, 1) := by decide +kernel
theorem dX5_isBetter_22 : decode cX5_isBetter 22 = .ok (.invokevirtual 39, 3) := by decide +kernel
theorem dX5_isBetter_25 : decode cX5_isBetter 25 = .ok (.isub, 1) := by decide +kernel
theorem dX5_isBetter_26 : decode cX5_isBetter 26 = .ok (.istore 4, 2) := by decide +kernel
theorem dX5_isBetter_28 : decode cX5_isBetter 28 = .ok (.iload 4, 2) := by decide +kernel
theorem dX5_isBetter_30 : decode cX5_isBetter 30 = .ok (.ifCond .gt 13, 3) := by decide +kernel
theorem dX5_isBetter_33 : decode cX5_isBetter 33 = .ok (.iload 4, 2) := by decide +kernel
theorem dX5_isBetter_35 : decode cX5_isBetter 35 = .ok (.ifCond .ne 12, 3) := by decide +kernel
theorem dX5_isBetter_38 : decode cX5_isBetter 38 = .ok (.iload_n 2, 1) := by decide +kernel
theorem dX5_isBetter_39 : decode cX5_isBetter 39 = .ok (.iload_n 3, 1) := by decide +kernel
theorem dX5_isBetter_40 : decode cX5_isBetter 40 = .ok (.if_icmp .ge 7, 3) := by decide +kernel
theorem dX5_isBetter_43 : decode cX5_isBetter 43 = .ok (.iconst 1, 1) := by decide +kernel
theorem dX5_isBetter_44 : decode cX5_isBetter 44 = .ok (.goto 4, 3) := by decide +kernel
theorem dX5_isBetter_47 : decode cX5_isBetter 47 = .ok (.iconst 0, 1) := by decide +kernel
theorem dX5_isBetter_48 : decode cX5_isBetter 48 = .ok (.ireturn, 1) := by decide +kernel
theorem dX5_giverTo_0 : decode cX5_giverTo 0 = .ok (.aload_n 0, 1) := by decide +kernel
theorem dX5_giverTo_1 : decode cX5_giverTo 1 = .ok (.getfield 15, 3) := by decide +kernel
theorem dX5_giverTo_4 : decode cX5_giverTo 4 = .ok (.iload_n 2, 1) := by decide +kernel
theorem dX5_giverTo_5 : decode cX5_giverTo 5 = .ok (.iconst 3, 1) := by decide +kernel
theorem dX5_giverTo_6 : decode cX5_giverTo 6 = .ok (.imul, 1) := by decide +kernel
theorem dX5_giverTo_7 : decode cX5_giverTo 7 = .ok (.iaload, 1) := by decide +kernel
theorem dX5_giverTo_8 : decode cX5_giverTo 8 = .ok (.istore_n 3, 1) := by decide +kernel
theorem dX5_giverTo_9 : decode cX5_giverTo 9 = .ok (.aload_n 0, 1) := by decide +kernel
theorem dX5_giverTo_10 : decode cX5_giverTo 10 = .ok (.getfield 15, 3) := by decide +kernel
theorem dX5_giverTo_13 : decode cX5_giverTo 13 = .ok (.iload_n 2, 1) := by decide +kernel
theorem dX5_giverTo_14 : decode cX5_giverTo 14 = .ok (.iconst 3, 1) := by decide +kernel
theorem dX5_giverTo_15 : decode cX5_giverTo 15 = .ok (.imul, 1) := by decide +kernel
theorem dX5_giverTo_16 : decode cX5_giverTo 16 = .ok (.iconst 1, 1) := by decide +kernel
theorem dX5_giverTo_17 : decode cX5_giverTo 17 = .ok (.iadd, 1) := by decide +kernel
theorem dX5_giverTo_18 : decode cX5_giverTo 18 = .ok (.iaload, 1) := by decide +kernel
theorem dX5_giverTo_19 : decode cX5_giverTo 19 = .ok (.istore 4, 2) := by decide +kernel
theorem dX5_giverTo_21 : decode cX5_giverTo 21 = .ok (.aload_n 0, 1) := by decide +kernel
theorem dX5_giverTo_22 : decode cX5_giverTo 22 = .ok (.getfield 15, 3) := by decide +kernel
theorem dX5_giverTo_25 : decode cX5_giverTo 25 = .ok (.iload_n 2, 1) := by decide +kernel
theorem dX5_giverTo_26 : decode cX5_giverTo 26 = .ok (.iconst 3, 1) := by decide +kernel
theorem dX5_giverTo_27 : decode cX5_giverTo 27 = .ok (.imul, 1) := by decide +kernel
theorem dX5_giverTo_28 : decode cX5_giverTo 28 = .ok (.iconst 2, 1) := by decide +kernel
theorem dX5_giverTo_29 : decode cX5_giverTo 29 = .ok (.iadd, 1) := by decide +kernel
theorem dX5_giverTo_30 : decode cX5_giverTo 30 = .ok (.iaload, 1) := by decide +kernel
theorem dX5_giverTo_31 : decode cX5_giverTo 31 = .ok (.istore 5, 2) := by decide +kernel
theorem dX5_giverTo_33 : decode cX5_giverTo 33 = .ok (.iload_n 1, 1) := by decide +kernel
theorem dX5_giverTo_34 : decode cX5_giverTo 34 = .ok (.iload_n 3, 1) := by decide +kernel
theorem dX5_giverTo_35 : decode cX5_giverTo 35 = .ok (.if_icmp .ne 6, 3) := by decide +kernel
theorem dX5_giverTo_38 : decode cX5_giverTo 38 = .ok (.iload 4, 2) := by decide +kernel
theorem dX5_giverTo_40 : decode cX5_giverTo 40 = .ok (.ireturn, 1) := by decide +kernel
theorem dX5_giverTo_41 : decode cX5_giverTo 41 = .ok (.iload_n 1, 1) := by decide +kernel
theorem dX5_giverTo_42 : decode cX5_giverTo 42 = .ok (.iload 4, 2) := by decide +kernel
theorem dX5_giverTo_44 : decode cX5_giverTo 44 = .ok (.if_icmp .ne 16, 3) := by decide +kernel
theorem dX5_giverTo_47 : decode cX5_giverTo 47 = .ok (.iload 5, 2) := by decide +kernel
theorem dX5_giverTo_49 : decode cX5_giverTo 49 = .ok (.iconst (-1), 1) := by decide +kernel
theorem dX5_giverTo_50 : decode cX5_giverTo 50 = .ok (.if_icmp .ne 7, 3) := by decide +kernel
theorem dX5_giverTo_53 : decode cX5_giverTo 53 = .ok (.iload_n 3, 1) := by decide +kernel
theorem dX5_giverTo_54 : decode cX5_giverTo 54 = .ok (.goto 5, 3) := by decide +kernel
theorem dX5_giverTo_57 : decode cX5_giverTo 57 = .ok (.iload 5, 2) := by decide +kernel
theorem dX5_giverTo_59 : decode cX5_giverTo 59 = .ok (.ireturn, 1) := by decide +kernel
theorem dX5_giverTo_60 : decode cX5_giverTo 60 = .ok (.iload_n 1, 1) := by decide +kernel
theorem dX5_giverTo_61 : decode cX5_giverTo 61 = .ok (.iload 5, 2) := by decide +kernel
theorem dX5_giverTo_63 : decode cX5_giverTo 63 = .ok (.if_icmp .ne 7, 3) := by decide +kernel
theorem dX5_giverTo_66 : decode cX5_giverTo 66 = .ok (.iload_n 3, 1) := by decide +kernel
theorem dX5_giverTo_67 : decode cX5_giverTo 67 = .ok (.goto 4, 3) := by decide +kernel
theorem dX5_giverTo_70 : decode cX5_giverTo 70 = .ok (.iconst (-1), 1) := by decide +kernel
theorem dX5_giverTo_71 : decode cX5_giverTo 71 = .ok (.ireturn, 1) := by decide +kernel
theorem dX6_init_0 : decode cX6_init 0 = .ok (.aload_n 0, 1) := by decide +kernel
theorem dX6_init_1 : decode cX6_init 1 = .ok (.invokespecial 3, 3) := by decide +kernel
theorem dX6_init_4 : decode cX6_init 4 = .ok (.aload_n 0, 1) := by decide +kernel
theorem dX6_init_5 : decode cX6_init 5 = .ok (.sipush 200, 3) := by decide +kernel
theorem dX6_init_8 : decode cX6_init 8 = .ok (.newarray .int, 2) := by decide +kernel
theorem dX6_init_10 : decode cX6_init 10 = .ok (.putfield 9, 3) := by decide +kernel
theorem dX6_init_13 : decode cX6_init 13 = .ok (.aload_n 0, 1) := by decide +kernel
theorem dX6_init_14 : decode cX6_init 14 = .ok (.bipush 56, 2) := by decide +kernel
theorem dX6_init_16 : decode cX6_init 16 = .ok (.newarray .int, 2) := by decide +kernel
theorem dX6_init_18 : decode cX6_init 18 = .ok (.putfield 15, 3) := by decide +kernel
theorem dX6_init_21 : decode cX6_init 21 = .ok (.return_, 1) := by decide +kernel
theorem dX6_add_0 : decode cX6_add 0 = .ok (.aload_n 0, 1) := by decide +kernel
theorem dX6_add_1 : decode cX6_add 1 = .ok (.getfield 18, 3) := by decide +kernel
theorem dX6_add_4 : decode cX6_add 4 = .ok (.sipush 200, 3) := by decide +kernel
theorem dX6_add_7 : decode cX6_add 7 = .ok (.if_icmp .ge 23, 3) := by decide +kernel
theorem dX6_add_10 : decode cX6_add 10 = .ok (.aload_n 0, 1) := by decide +kernel
theorem dX6_add_11 : decode cX6_add 11 = .ok (.getfield 9, 3) := by decide +kernel
theorem dX6_add_14 : decode cX6_add 14 = .ok (.aload_n 0, 1) := by decide +kernel
theorem dX6_add_15 : decode cX6_add 15 = .ok (.getfield 18, 3) := by decide +kernel
theorem dX6_add_18 : decode cX6_add 18 = .ok (.iload_n 1, 1) := by decide +kernel
theorem dX6_add_19 : decode cX6_add 19 = .ok (.iastore, 1) := by decide +kernel
theorem dX6_add_20 : decode cX6_add 20 = .ok (.aload_n 0, 1) := by decide +kernel
theorem dX6_add_21 : decode cX6_add 21 = .ok (.dup, 1) := by decide +kernel
theorem dX6_add_22 : decode cX6_add 22 = .ok (.getfield 18, 3) := by decide +kernel
theorem dX6_add_25 : decode cX6_add 25 = .ok (.iconst 1, 1) := by decide +kernel
theorem dX6_add_26 : decode cX6_add 26 = .ok (.iadd, 1) := by decide +kernel
theorem dX6_add_27 : decode cX6_add 27 = .ok (.putfield 18, 3) := by decide +kernel
theorem dX6_add_30 : decode cX6_add 30 = .ok (.return_, 1) := by decide +kernel
theorem dX6_read_0 : decode cX6_read 0 = .ok (.iload_n 1, 1) := by decide +kernel
theorem dX6_read_1 : decode cX6_read 1 = .ok (.istore_n 2, 1) := by decide +kernel
theorem dX6_read_2 : decode cX6_read 2 = .ok (.aload_n 0, 1) := by decide +kernel
theorem dX6_read_3 : decode cX6_read 3 = .ok (.iconst 0, 1) := by decide +kernel
theorem dX6_read_4 : decode cX6_read 4 = .ok (.putfield 22, 3) := by decide +kernel
theorem dX6_read_7 : decode cX6_read 7 = .ok (.aload_n 0, 1) := by decide +kernel
theorem dX6_read_8 : decode cX6_read 8 = .ok (.iconst 0, 1) := by decide +kernel
theorem dX6_read_9 : decode cX6_read 9 = .ok (.putfield 25, 3) := by decide +kernel
theorem dX6_read_12 : decode cX6_read 12 = .ok (.iconst 0, 1) := by decide +kernel
theorem dX6_read_13 : decode cX6_read 13 = .ok (.istore_n 3, 1) := by decide +kernel
theorem dX6_read_14 : decode cX6_read 14 = .ok (.iload_n 3, 1) := by decide +kernel
theorem dX6_read_15 : decode cX6_read 15 = .ok (.bipush 14, 2) := by decide +kernel
theorem dX6_read_17 : decode cX6_read 17 = .ok (.if_icmp .ge 90, 3) := by decide +kernel
theorem dX6_read_20 : decode cX6_read 20 = .ok (.aload_n 0, 1) := by decide +kernel
theorem dX6_read_21 : decode cX6_read 21 = .ok (.iload_n 3, 1) := by decide +kernel
theorem dX6_read_22 : decode cX6_read 22 = .ok (.iconst 4, 1) := by decide +kernel
theorem dX6_read_23 : decode cX6_read 23 = .ok (.imul, 1) := by decide +kernel
theorem dX6_read_24 : decode cX6_read 24 = .ok (.iload_n 2, 1) := by decide +kernel
theorem dX6_read_25 : decode cX6_read 25 = .ok (.invokevirtual 28, 3) := by decide +kernel
theorem dX6_read_28 : decode cX6_read 28 = .ok (.ifCond .ne 8, 3) := by decide +kernel
theorem dX6_read_31 : decode cX6_read 31 = .ok (.aload_n 0, 1) := by decide +kernel
theorem dX6_read_32 : decode cX6_read 32 = .ok (.getfield 32, 3) := by decide +kernel
theorem dX6_read_35 : decode cX6_read 35 = .ok (.ireturn, 1) := by decide +kernel
theorem dX6_read_36 : decode cX6_read 36 = .ok (.aload_n 0, 1) := by decide +kernel
theorem dX6_read_37 : decode cX6_read 37 = .ok (.iload_n 3, 1) := by decide +kernel
theorem dX6_read_38 : decode cX6_read 38 = .ok (.iconst 1, 1) := by decide +kernel
theorem dX6_read_39 : decode cX6_read 39 = .ok (.iadd, 1) := by decide +kernel
theorem dX6_read_40 : decode cX6_read 40 = .ok (.putfield 25, 3) := by decide +kernel
theorem dX6_read_43 : decode cX6_read 43 = .ok (.aload_n 0, 1) := by decide +kernel
theorem dX6_read_44 : decode cX6_read 44 = .ok (.getfield 15, 3) := by decide +kernel
theorem dX6_read_47 : decode cX6_read 47 = .ok (.iload_n 3, 1) := by decide +kernel
theorem dX6_read_48 : decode cX6_read 48 = .ok (.iconst 4, 1) := by decide +kernel
theorem dX6_read_49 : decode cX6_read 49 = .ok (.imul, 1) := by decide +kernel
theorem dX6_read_50 : decode cX6_read 50 = .ok (.iaload, 1) := by decide +kernel
theorem dX6_read_51 : decode cX6_read 51 = .ok (.ifCond .ne 14, 3) := by decide +kernel
theorem dX6_read_54 : decode cX6_read 54 = .ok (.aload_n 0, 1) := by decide +kernel
theorem dX6_read_55 : decode cX6_read 55 = .ok (.getfield 15, 3) := by decide +kernel
theorem dX6_read_58 : decode cX6_read 58 = .ok (.iload_n 3, 1) := by decide +kernel
theorem dX6_read_59 : decode cX6_read 59 = .ok (.iconst 4, 1) := by decide +kernel
theorem dX6_read_60 : decode cX6_read 60 = .ok (.imul, 1) := by decide +kernel
theorem dX6_read_61 : decode cX6_read 61 = .ok (.iconst 1, 1) := by decide +kernel
theorem dX6_read_62 : decode cX6_read 62 = .ok (.iadd, 1) := by decide +kernel
theorem dX6_read_63 : decode cX6_read 63 = .ok (.iaload, 1) := by decide +kernel
theorem dX6_read_64 : decode cX6_read 64 = .ok (.istore_n 2, 1) := by decide +kernel
theorem dX6_read_65 : decode cX6_read 65 = .ok (.aload_n 0, 1) := by decide +kernel
theorem dX6_read_66 : decode cX6_read 66 = .ok (.invokevirtual 35, 3) := by decide +kernel
theorem dX6_read_69 : decode cX6_read 69 = .ok (.aload_n 0, 1) := by decide +kernel
theorem dX6_read_70 : decode cX6_read 70 = .ok (.getfield 32, 3) := by decide +kernel
theorem dX6_read_73 : decode cX6_read 73 = .ok (.aload_n 0, 1) := by decide +kernel
theorem dX6_read_74 : decode cX6_read 74 = .ok (.getfield 18, 3) := by decide +kernel
theorem dX6_read_77 : decode cX6_read 77 = .ok (.if_icmp .lt 5, 3) := by decide +kernel
theorem dX6_read_80 : decode cX6_read 80 = .ok (.iconst (-1), 1) := by decide +kernel
theorem dX6_read_81 : decode cX6_read 81 = .ok (.ireturn, 1) := by decide +kernel
theorem dX6_read_82 : decode cX6_read 82 = .ok (.aload_n 0, 1) := by decide +kernel
theorem dX6_read_83 : decode cX6_read 83 = .ok (.getfield 9, 3) := by decide +kernel
theorem dX6_read_86 : decode cX6_read 86 = .ok (.aload_n 0, 1) := by decide +kernel
theorem dX6_read_87 : decode cX6_read 87 = .ok (.getfield 32, 3) := by decide +kernel
theorem dX6_read_90 : decode cX6_read 90 = .ok (.iaload, 1) := by decide +kernel
theorem dX6_read_91 : decode cX6_read 91 = .ok (.bipush 59, 2) := by decide +kernel
theorem dX6_read_93 : decode cX6_read 93 = .ok (.if_icmp .eq 8, 3) := by decide +kernel
theorem dX6_read_96 : decode cX6_read 96 = .ok (.aload_n 0, 1) := by decide +kernel
theorem dX6_read_97 : decode cX6_read 97 = .ok (.getfield 32, 3) := by decide +kernel
theorem dX6_read_100 : decode cX6_read 100 = .ok (.ireturn, 1) := by decide +kernel
theorem dX6_read_101 : decode cX6_read 101 = .ok (.iinc 3 1, 3) := by decide +kernel
theorem dX6_read_104 : decode cX6_read 104 = .ok (.goto (-90), 3) := by decide +kernel
theorem dX6_read_107 : decode cX6_read 107 = .ok (.aload_n 0, 1) := by decide +kernel
theorem dX6_read_108 : decode cX6_read 108 = .ok (.getfield 32, 3) := by decide +kernel
theorem dX6_read_111 : decode cX6_read 111 = .ok (.ireturn, 1) := by decide +kernel
theorem dX6_readLine_0 : decode cX6_readLine 0 = .ok (.aload_n 0, 1) := by decide +kernel
theorem dX6_readLine_1 : decode cX6_readLine 1 = .ok (.invokevirtual 35, 3) := by decide +kernel
theorem dX6_readLine_4 : decode cX6_readLine 4 = .ok (.aload_n 0, 1) := by decide +kernel
theorem dX6_readLine_5 : decode cX6_readLine 5 = .ok (.invokevirtual 38, 3) := by decide +kernel
theorem dX6_readLine_8 : decode cX6_readLine 8 = .ok (.istore_n 3, 1) := by decide +kernel
theorem dX6_readLine_9 : decode cX6_readLine 9 = .ok (.iload_n 3, 1) := by decide +kernel
theorem dX6_readLine_10 : decode cX6_readLine 10 = .ok (.iconst (-1), 1) := by decide +kernel
theorem dX6_readLine_11 : decode cX6_readLine 11 = .ok (.if_icmp .ne 5, 3) := by decide +kernel
theorem dX6_readLine_14 : decode cX6_readLine 14 = .ok (.iconst 0, 1) := by decide +kernel
theorem dX6_readLine_15 : decode cX6_readLine 15 = .ok (.ireturn, 1) := by decide +kernel
theorem dX6_readLine_16 : decode cX6_readLine 16 = .ok (.aload_n 0, 1) := by decide +kernel
theorem dX6_readLine_17 : decode cX6_readLine 17 = .ok (.getfield 15, 3) := by decide +kernel
theorem dX6_readLine_20 : decode cX6_readLine 20 = .ok (.iload_n 1, 1) := by decide +kernel
theorem dX6_readLine_21 : decode cX6_readLine 21 = .ok (.iload_n 3, 1) := by decide +kernel
theorem dX6_readLine_22 : decode cX6_readLine 22 = .ok (.iastore, 1) := by decide +kernel
theorem dX6_readLine_23 : decode cX6_readLine 23 = .ok (.iload_n 3, 1) := by decide +kernel
theorem dX6_readLine_24 : decode cX6_readLine 24 = .ok (.invokestatic 42, 3) := by decide +kernel
theorem dX6_readLine_27 : decode cX6_readLine 27 = .ok (.istore 4, 2) := by decide +kernel
theorem dX6_readLine_29 : decode cX6_readLine 29 = .ok (.iconst 1, 1) := by decide +kernel
theorem dX6_readLine_30 : decode cX6_readLine 30 = .ok (.istore 5, 2) := by decide +kernel
theorem dX6_readLine_32 : decode cX6_readLine 32 = .ok (.iload 5, 2) := by decide +kernel
theorem dX6_readLine_34 : decode cX6_readLine 34 = .ok (.iload 4, 2) := by decide +kernel
theorem dX6_readLine_36 : decode cX6_readLine 36 = .ok (.if_icmp .gt 44, 3) := by decide +kernel
theorem dX6_readLine_39 : decode cX6_readLine 39 = .ok (.aload_n 0, 1) := by decide +kernel
theorem dX6_readLine_40 : decode cX6_readLine 40 = .ok (.invokevirtual 35, 3) := by decide +kernel
theorem dX6_readLine_43 : decode cX6_readLine 43 = .ok (.aload_n 0, 1) := by decide +kernel
theorem dX6_readLine_44 : decode cX6_readLine 44 = .ok (.invokevirtual 46, 3) := by decide +kernel
theorem dX6_readLine_47 : decode cX6_readLine 47 = .ok (.istore 6, 2) := by decide +kernel
theorem dX6_readLine_49 : decode cX6_readLine 49 = .ok (.iload_n 3, 1) := by decide +kernel
theorem dX6_readLine_50 : decode cX6_readLine 50 = .ok (.iload 5, 2) := by decide +kernel
theorem dX6_readLine_52 : decode cX6_readLine 52 = .ok (.iload 6, 2) := by decide +kernel
theorem dX6_readLine_54 : decode cX6_readLine 54 = .ok (.iload_n 2, 1) := by decide +kernel
theorem dX6_readLine_55 : decode cX6_readLine 55 = .ok (.invokestatic 49, 3) := by decide +kernel
theorem dX6_readLine_58 : decode cX6_readLine 58 = .ok (.ifCond .ne 5, 3) := by decide +kernel
theorem dX6_readLine_61 : decode cX6_readLine 61 = .ok (.iconst 0, 1) := by decide +kernel
theorem dX6_readLine_62 : decode cX6_readLine 62 = .ok (.ireturn, 1) := by decide +kernel
theorem dX6_readLine_63 : decode cX6_readLine 63 = .ok (.aload_n 0, 1) := by decide +kernel
theorem dX6_readLine_64 : decode cX6_readLine 64 = .ok (.getfield 15, 3) := by decide +kernel
theorem dX6_readLine_67 : decode cX6_readLine 67 = .ok (.iload_n 1, 1) := by decide +kernel
theorem dX6_readLine_68 : decode cX6_readLine 68 = .ok (.iload 5, 2) := by decide +kernel
theorem dX6_readLine_70 : decode cX6_readLine 70 = .ok (.iadd, 1) := by decide +kernel
theorem dX6_readLine_71 : decode cX6_readLine 71 = .ok (.iload 6, 2) := by decide +kernel
theorem dX6_readLine_73 : decode cX6_readLine 73 = .ok (.iastore, 1) := by decide +kernel
theorem dX6_readLine_74 : decode cX6_readLine 74 = .ok (.iinc 5 1, 3) := by decide +kernel
theorem dX6_readLine_77 : decode cX6_readLine 77 = .ok (.goto (-45), 3) := by decide +kernel
theorem dX6_readLine_80 : decode cX6_readLine 80 = .ok (.iconst 1, 1) := by decide +kernel
theorem dX6_readLine_81 : decode cX6_readLine 81 = .ok (.ireturn, 1) := by decide +kernel
theorem dX6_nextToken_0 : decode cX6_nextToken 0 = .ok (.aload_n 0, 1) := by decide +kernel
theorem dX6_nextToken_1 : decode cX6_nextToken 1 = .ok (.getfield 22, 3) := by decide +kernel
theorem dX6_nextToken_4 : decode cX6_nextToken 4 = .ok (.istore_n 1, 1) := by decide +kernel
theorem dX6_nextToken_5 : decode cX6_nextToken 5 = .ok (.iload_n 1, 1) := by decide +kernel
theorem dX6_nextToken_6 : decode cX6_nextToken 6 = .ok (.aload_n 0, 1) := by decide +kernel
theorem dX6_nextToken_7 : decode cX6_nextToken 7 = .ok (.getfield 18, 3) := by decide +kernel
theorem dX6_nextToken_10 : decode cX6_nextToken 10 = .ok (.if_icmp .ge 20, 3) := by decide +kernel
theorem dX6_nextToken_13 : decode cX6_nextToken 13 = .ok (.aload_n 0, 1) := by decide +kernel
theorem dX6_nextToken_14 : decode cX6_nextToken 14 = .ok (.getfield 9, 3) := by decide +kernel
theorem dX6_nextToken_17 : decode cX6_nextToken 17 = .ok (.iload_n 1, 1) := by decide +kernel
theorem dX6_nextToken_18 : decode cX6_nextToken 18 = .ok (.iaload, 1) := by decide +kernel
theorem dX6_nextToken_19 : decode cX6_nextToken 19 = .ok (.bipush 32, 2) := by decide +kernel
theorem dX6_nextToken_21 : decode cX6_nextToken 21 = .ok (.if_icmp .ne 9, 3) := by decide +kernel
theorem dX6_nextToken_24 : decode cX6_nextToken 24 = .ok (.iinc 1 1, 3) := by decide +kernel
theorem dX6_nextToken_27 : decode cX6_nextToken 27 = .ok (.goto (-22), 3) := by decide +kernel
theorem dX6_nextToken_30 : decode cX6_nextToken 30 = .ok (.aload_n 0, 1) := by decide +kernel
theorem dX6_nextToken_31 : decode cX6_nextToken 31 = .ok (.iload_n 1, 1) := by decide +kernel
theorem dX6_nextToken_32 : decode cX6_nextToken 32 = .ok (.putfield 32, 3) := by decide +kernel
theorem dX6_nextToken_35 : decode cX6_nextToken 35 = .ok (.iload_n 1, 1) := by decide +kernel
theorem dX6_nextToken_36 : decode cX6_nextToken 36 = .ok (.aload_n 0, 1) := by decide +kernel
theorem dX6_nextToken_37 : decode cX6_nextToken 37 = .ok (.getfield 18, 3) := by decide +kernel
theorem dX6_nextToken_40 : decode cX6_nextToken 40 = .ok (.if_icmp .ge 41, 3) := by decide +kernel
theorem dX6_nextToken_43 : decode cX6_nextToken 43 = .ok (.aload_n 0, 1) := by decide +kernel
theorem dX6_nextToken_44 : decode cX6_nextToken 44 = .ok (.getfield 9, 3) := by decide +kernel
theorem dX6_nextToken_47 : decode cX6_nextToken 47 = .ok (.iload_n 1, 1) := by decide +kernel
theorem dX6_nextToken_48 : decode cX6_nextToken 48 = .ok (.iaload, 1) := by decide +kernel
theorem dX6_nextToken_49 : decode cX6_nextToken 49 = .ok (.invokestatic 53, 3) := by decide +kernel
theorem dX6_nextToken_52 : decode cX6_nextToken 52 = .ok (.ifCond .eq 29, 3) := by decide +kernel
theorem dX6_nextToken_55 : decode cX6_nextToken 55 = .ok (.iload_n 1, 1) := by decide +kernel
theorem dX6_nextToken_56 : decode cX6_nextToken 56 = .ok (.aload_n 0, 1) := by decide +kernel
theorem dX6_nextToken_57 : decode cX6_nextToken 57 = .ok (.getfield 18, 3) := by decide +kernel
theorem dX6_nextToken_60 : decode cX6_nextToken 60 = .ok (.if_icmp .ge 78, 3) := by decide +kernel
theorem dX6_nextToken_63 : decode cX6_nextToken 63 = .ok (.aload_n 0, 1) := by decide +kernel
theorem dX6_nextToken_64 : decode cX6_nextToken 64 = .ok (.getfield 9, 3) := by decide +kernel
theorem dX6_nextToken_67 : decode cX6_nextToken 67 = .ok (.iload_n 1, 1) := by decide +kernel
theorem dX6_nextToken_68 : decode cX6_nextToken 68 = .ok (.iaload, 1) := by decide +kernel
theorem dX6_nextToken_69 : decode cX6_nextToken 69 = .ok (.invokestatic 53, 3) := by decide +kernel
theorem dX6_nextToken_72 : decode cX6_nextToken 72 = .ok (.ifCond .eq 66, 3) := by decide +kernel
theorem dX6_nextToken_75 : decode cX6_nextToken 75 = .ok (.iinc 1 1, 3) := by decide +kernel
theorem dX6_nextToken_78 : decode cX6_nextToken 78 = .ok (.goto (-23), 3) := by decide +kernel
theorem dX6_nextToken_81 : decode cX6_nextToken 81 = .ok (.iload_n 1, 1) := by decide +kernel
theorem dX6_nextToken_82 : decode cX6_nextToken 82 = .ok (.aload_n 0, 1) := by decide +kernel
theorem dX6_nextToken_83 : decode cX6_nextToken 83 = .ok (.getfield 18, 3) := by decide +kernel
theorem dX6_nextToken_86 : decode cX6_nextToken 86 = .ok (.if_icmp .ge 41, 3) := by decide +kernel
theorem dX6_nextToken_89 : decode cX6_nextToken 89 = .ok (.aload_n 0, 1) := by decide +kernel
theorem dX6_nextToken_90 : decode cX6_nextToken 90 = .ok (.getfield 9, 3) := by decide +kernel
theorem dX6_nextToken_93 : decode cX6_nextToken 93 = .ok (.iload_n 1, 1) := by decide +kernel
theorem dX6_nextToken_94 : decode cX6_nextToken 94 = .ok (.iaload, 1) := by decide +kernel
theorem dX6_nextToken_95 : decode cX6_nextToken 95 = .ok (.invokestatic 57, 3) := by decide +kernel
theorem dX6_nextToken_98 : decode cX6_nextToken 98 = .ok (.ifCond .eq 29, 3) := by decide +kernel
theorem dX6_nextToken_101 : decode cX6_nextToken 101 = .ok (.iload_n 1, 1) := by decide +kernel
theorem dX6_nextToken_102 : decode cX6_nextToken 102 = .ok (.aload_n 0, 1) := by decide +kernel
theorem dX6_nextToken_103 : decode cX6_nextToken 103 = .ok (.getfield 18, 3) := by decide +kernel
theorem dX6_nextToken_106 : decode cX6_nextToken 106 = .ok (.if_icmp .ge 32, 3) := by decide +kernel
theorem dX6_nextToken_109 : decode cX6_nextToken 109 = .ok (.aload_n 0, 1) := by decide +kernel
theorem dX6_nextToken_110 : decode cX6_nextToken 110 = .ok (.getfield 9, 3) := by decide +kernel
theorem dX6_nextToken_113 : decode cX6_nextToken 113 = .ok (.iload_n 1, 1) := by decide +kernel
theorem dX6_nextToken_114 : decode cX6_nextToken 114 = .ok (.iaload, 1) := by decide +kernel
theorem dX6_nextToken_115 : decode cX6_nextToken 115 = .ok (.invokestatic 57, 3) := by decide +kernel
theorem dX6_nextToken_118 : decode cX6_nextToken 118 = .ok (.ifCond .eq 20, 3) := by decide +kernel
theorem dX6_nextToken_121 : decode cX6_nextToken 121 = .ok (.iinc 1 1, 3) := by decide +kernel
theorem dX6_nextToken_124 : decode cX6_nextToken 124 = .ok (.goto (-23), 3) := by decide +kernel
theorem dX6_nextToken_127 : decode cX6_nextToken 127 = .ok (.iload_n 1, 1) := by decide +kernel
theorem dX6_nextToken_128 : decode cX6_nextToken 128 = .ok (.aload_n 0, 1) := by decide +kernel
theorem dX6_nextToken_129 : decode cX6_nextToken 129 = .ok (.getfield 18, 3) := by decide +kernel
theorem dX6_nextToken_132 : decode cX6_nextToken 132 = .ok (.if_icmp .ge 6, 3) := by decide +kernel
theorem dX6_nextToken_135 : decode cX6_nextToken 135 = .ok (.iinc 1 1, 3) := by decide +kernel
theorem dX6_nextToken_138 : decode cX6_nextToken 138 = .ok (.aload_n 0, 1) := by decide +kernel
theorem dX6_nextToken_139 : decode cX6_nextToken 139 = .ok (.iload_n 1, 1) := by decide +kernel
theorem dX6_nextToken_140 : decode cX6_nextToken 140 = .ok (.putfield 22, 3) := by decide +kernel
theorem dX6_nextToken_143 : decode cX6_nextToken 143 = .ok (.return_, 1) := by decide +kernel
theorem dX6_isLetter_0 : decode cX6_isLetter 0 = .ok (.iload_n 0, 1) := by decide +kernel
theorem dX6_isLetter_1 : decode cX6_isLetter 1 = .ok (.bipush 97, 2) := by decide +kernel
theorem dX6_isLetter_3 : decode cX6_isLetter 3 = .ok (.if_icmp .lt 13, 3) := by decide +kernel
theorem dX6_isLetter_6 : decode cX6_isLetter 6 = .ok (.iload_n 0, 1) := by decide +kernel
theorem dX6_isLetter_7 : decode cX6_isLetter 7 = .ok (.bipush 122, 2) := by decide +kernel
theorem dX6_isLetter_9 : decode cX6_isLetter 9 = .ok (.if_icmp .gt 7, 3) := by decide +kernel
theorem dX6_isLetter_12 : decode cX6_isLetter 12 = .ok (.iconst 1, 1) := by decide +kernel
theorem dX6_isLetter_13 : decode cX6_isLetter 13 = .ok (.goto 4, 3) := by decide +kernel
theorem dX6_isLetter_16 : decode cX6_isLetter 16 = .ok (.iconst 0, 1) := by decide +kernel
theorem dX6_isLetter_17 : decode cX6_isLetter 17 = .ok (.ireturn, 1) := by decide +kernel
theorem dX6_isDigit_0 : decode cX6_isDigit 0 = .ok (.iload_n 0, 1) := by decide +kernel
theorem dX6_isDigit_1 : decode cX6_isDigit 1 = .ok (.bipush 48, 2) := by decide +kernel
theorem dX6_isDigit_3 : decode cX6_isDigit 3 = .ok (.if_icmp .lt 13, 3) := by decide +kernel
theorem dX6_isDigit_6 : decode cX6_isDigit 6 = .ok (.iload_n 0, 1) := by decide +kernel
theorem dX6_isDigit_7 : decode cX6_isDigit 7 = .ok (.bipush 57, 2) := by decide +kernel
theorem dX6_isDigit_9 : decode cX6_isDigit 9 = .ok (.if_icmp .gt 7, 3) := by decide +kernel
theorem dX6_isDigit_12 : decode cX6_isDigit 12 = .ok (.iconst 1, 1) := by decide +kernel
theorem dX6_isDigit_13 : decode cX6_isDigit 13 = .ok (.goto 4, 3) := by decide +kernel
theorem dX6_isDigit_16 : decode cX6_isDigit 16 = .ok (.iconst 0, 1) := by decide +kernel
theorem dX6_isDigit_17 : decode cX6_isDigit 17 = .ok (.ireturn, 1) := by decide +kernel
theorem dX6_verbHere_0 : decode cX6_verbHere 0 = .ok (.aload_n 0, 1) := by decide +kernel
theorem dX6_verbHere_1 : decode cX6_verbHere 1 = .ok (.ldc 60, 2) := by decide +kernel
theorem dX6_verbHere_3 : decode cX6_verbHere 3 = .ok (.invokevirtual 62, 3) := by decide +kernel
theorem dX6_verbHere_6 : decode cX6_verbHere 6 = .ok (.ifCond .eq 5, 3) := by decide +kernel
theorem dX6_verbHere_9 : decode cX6_verbHere 9 = .ok (.iconst 0, 1) := by decide +kernel
theorem dX6_verbHere_10 : decode cX6_verbHere 10 = .ok (.ireturn, 1) := by decide +kernel
theorem dX6_verbHere_11 : decode cX6_verbHere 11 = .ok (.aload_n 0, 1) := by decide +kernel
theorem dX6_verbHere_12 : decode cX6_verbHere 12 = .ok (.ldc 66, 2) := by decide +kernel
theorem dX6_verbHere_14 : decode cX6_verbHere 14 = .ok (.invokevirtual 62, 3) := by decide +kernel
theorem dX6_verbHere_17 : decode cX6_verbHere 17 = .ok (.ifCond .eq 5, 3) := by decide +kernel
theorem dX6_verbHere_20 : decode cX6_verbHere 20 = .ok (.iconst 5, 1) := by decide +kernel
theorem dX6_verbHere_21 : decode cX6_verbHere 21 = .ok (.ireturn, 1) := by decide +kernel
theorem dX6_verbHere_22 : decode cX6_verbHere 22 = .ok (.aload_n 0, 1) := by decide +kernel
theorem dX6_verbHere_23 : decode cX6_verbHere 23 = .ok (.ldc 68, 2) := by decide +kernel
theorem dX6_verbHere_25 : decode cX6_verbHere 25 = .ok (.invokevirtual 62, 3) := by decide +kernel
theorem dX6_verbHere_28 : decode cX6_verbHere 28 = .ok (.ifCond .eq 6, 3) := by decide +kernel
theorem dX6_verbHere_31 : decode cX6_verbHere 31 = .ok (.bipush 6, 2) := by decide +kernel
theorem dX6_verbHere_33 : decode cX6_verbHere 33 = .ok (.ireturn, 1) := by decide +kernel
theorem dX6_verbHere_34 : decode cX6_verbHere 34 = .ok (.aload_n 0, 1) := by decide +kernel
theorem dX6_verbHere_35 : decode cX6_verbHere 35 = .ok (.ldc 70, 2) := by decide +kernel
theorem dX6_verbHere_37 : decode cX6_verbHere 37 = .ok (.invokevirtual 62, 3) := by decide +kernel
theorem dX6_verbHere_40 : decode cX6_verbHere 40 = .ok (.ifCond .eq 5, 3) := by decide +kernel
theorem dX6_verbHere_43 : decode cX6_verbHere 43 = .ok (.iconst 1, 1) := by decide +kernel
theorem dX6_verbHere_44 : decode cX6_verbHere 44 = .ok (.ireturn, 1) := by decide +kernel
theorem dX6_verbHere_45 : decode cX6_verbHere 45 = .ok (.aload_n 0, 1) := by decide +kernel
theorem dX6_verbHere_46 : decode cX6_verbHere 46 = .ok (.ldc 72, 2) := by decide +kernel
theorem dX6_verbHere_48 : decode cX6_verbHere 48 = .ok (.invokevirtual 62, 3) := by decide +kernel
theorem dX6_verbHere_51 : decode cX6_verbHere 51 = .ok (.ifCond .eq 5, 3) := by decide +kernel
theorem dX6_verbHere_54 : decode cX6_verbHere 54 = .ok (.iconst 2, 1) := by decide +kernel
theorem dX6_verbHere_55 : decode cX6_verbHere 55 = .ok (.ireturn, 1) := by decide +kernel
theorem dX6_verbHere_56 : decode cX6_verbHere 56 = .ok (.aload_n 0, 1) := by decide +kernel
theorem dX6_verbHere_57 : decode cX6_verbHere 57 = .ok (.ldc 74, 2) := by decide +kernel
theorem dX6_verbHere_59 : decode cX6_verbHere 59 = .ok (.invokevirtual 62, 3) := by decide +kernel
theorem dX6_verbHere_62 : decode cX6_verbHere 62 = .ok (.ifCond .eq 5, 3) := by decide +kernel
theorem dX6_verbHere_65 : decode cX6_verbHere 65 = .ok (.iconst 3, 1) := by decide +kernel
theorem dX6_verbHere_66 : decode cX6_verbHere 66 = .ok (.ireturn, 1) := by decide +kernel
theorem dX6_verbHere_67 : decode cX6_verbHere 67 = .ok (.aload_n 0, 1) := by decide +kernel
theorem dX6_verbHere_68 : decode cX6_verbHere 68 = .ok (.ldc 76, 2) := by decide +kernel
theorem dX6_verbHere_70 : decode cX6_verbHere 70 = .ok (.invokevirtual 62, 3) := by decide +kernel
theorem dX6_verbHere_73 : decode cX6_verbHere 73 = .ok (.ifCond .eq 5, 3) := by decide +kernel
theorem dX6_verbHere_76 : decode cX6_verbHere 76 = .ok (.iconst 4, 1) := by decide +kernel
theorem dX6_verbHere_77 : decode cX6_verbHere 77 = .ok (.ireturn, 1) := by decide +kernel
theorem dX6_verbHere_78 : decode cX6_verbHere 78 = .ok (.aload_n 0, 1) := by decide +kernel
theorem dX6_verbHere_79 : decode cX6_verbHere 79 = .ok (.ldc 78, 2) := by decide +kernel
theorem dX6_verbHere_81 : decode cX6_verbHere 81 = .ok (.invokevirtual 62, 3) := by decide +kernel
theorem dX6_verbHere_84 : decode cX6_verbHere 84 = .ok (.ifCond .eq 6, 3) := by decide +kernel
theorem dX6_verbHere_87 : decode cX6_verbHere 87 = .ok (.bipush 7, 2) := by decide +kernel
theorem dX6_verbHere_89 : decode cX6_verbHere 89 = .ok (.ireturn, 1) := by decide +kernel
theorem dX6_verbHere_90 : decode cX6_verbHere 90 = .ok (.aload_n 0, 1) := by decide +kernel
theorem dX6_verbHere_91 : decode cX6_verbHere 91 = .ok (.ldc 80, 2) := by decide +kernel
theorem dX6_verbHere_93 : decode cX6_verbHere 93 = .ok (.invokevirtual 62, 3) := by decide +kernel
theorem dX6_verbHere_96 : decode cX6_verbHere 96 = .ok (.ifCond .eq 8, 3) := by decide +kernel
theorem dX6_verbHere_99 : decode cX6_verbHere 99 = .ok (.bipush 8, 2) := by decide +kernel
theorem dX6_verbHere_101 : decode cX6_verbHere 101 = .ok (.goto 4, 3) := by decide +kernel
theorem dX6_verbHere_104 : decode cX6_verbHere 104 = .ok (.iconst (-1), 1) := by decide +kernel
theorem dX6_verbHere_105 : decode cX6_verbHere 105 = .ok (.ireturn, 1) := by decide +kernel
theorem dX6_spells_0 : decode cX6_spells 0 = .ok (.aload_n 0, 1) := by decide +kernel
theorem dX6_spells_1 : decode cX6_spells 1 = .ok (.getfield 22, 3) := by decide +kernel
theorem dX6_spells_4 : decode cX6_spells 4 = .ok (.aload_n 0, 1) := by decide +kernel
theorem dX6_spells_5 : decode cX6_spells 5 = .ok (.getfield 32, 3) := by decide +kernel
theorem dX6_spells_8 : decode cX6_spells 8 = .ok (.isub, 1) := by decide +kernel
theorem dX6_spells_9 : decode cX6_spells 9 = .ok (.aload_n 1, 1) := by decide +kernel
theorem dX6_spells_10 : decode cX6_spells 10 = .ok (.invokevirtual 82, 3) := by decide +kernel
theorem dX6_spells_13 : decode cX6_spells 13 = .ok (.if_icmp .eq 5, 3) := by decide +kernel
theorem dX6_spells_16 : decode cX6_spells 16 = .ok (.iconst 0, 1) := by decide +kernel
theorem dX6_spells_17 : decode cX6_spells 17 = .ok (.ireturn, 1) := by decide +kernel
theorem dX6_spells_18 : decode cX6_spells 18 = .ok (.iconst 0, 1) := by decide +kernel
theorem dX6_spells_19 : decode cX6_spells 19 = .ok (.istore_n 2, 1) := by decide +kernel
theorem dX6_spells_20 : decode cX6_spells 20 = .ok (.iload_n 2, 1) := by decide +kernel
theorem dX6_spells_21 : decode cX6_spells 21 = .ok (.aload_n 1, 1) := by decide +kernel
theorem dX6_spells_22 : decode cX6_spells 22 = .ok (.invokevirtual 82, 3) := by decide +kernel
theorem dX6_spells_25 : decode cX6_spells 25 = .ok (.if_icmp .ge 30, 3) := by decide +kernel
theorem dX6_spells_28 : decode cX6_spells 28 = .ok (.aload_n 0, 1) := by decide +kernel
theorem dX6_spells_29 : decode cX6_spells 29 = .ok (.getfield 9, 3) := by decide +kernel
theorem dX6_spells_32 : decode cX6_spells 32 = .ok (.aload_n 0, 1) := by decide +kernel
theorem dX6_spells_33 : decode cX6_spells 33 = .ok (.getfield 32, 3) := by decide +kernel
theorem dX6_spells_36 : decode cX6_spells 36 = .ok (.iload_n 2, 1) := by decide +kernel
theorem dX6_spells_37 : decode cX6_spells 37 = .ok (.iadd, 1) := by decide +kernel
theorem dX6_spells_38 : decode cX6_spells 38 = .ok (.iaload, 1) := by decide +kernel
theorem dX6_spells_39 : decode cX6_spells 39 = .ok (.aload_n 1, 1) := by decide +kernel
theorem dX6_spells_40 : decode cX6_spells 40 = .ok (.iload_n 2, 1) := by decide +kernel
theorem dX6_spells_41 : decode cX6_spells 41 = .ok (.invokevirtual 86, 3) := by decide +kernel
theorem dX6_spells_44 : decode cX6_spells 44 = .ok (.if_icmp .eq 5, 3) := by decide +kernel
theorem dX6_spells_47 : decode cX6_spells 47 = .ok (.iconst 0, 1) := by decide +kernel
theorem dX6_spells_48 : decode cX6_spells 48 = .ok (.ireturn, 1) := by decide +kernel
theorem dX6_spells_49 : decode cX6_spells 49 = .ok (.iinc 2 1, 3) := by decide +kernel
theorem dX6_spells_52 : decode cX6_spells 52 = .ok (.goto (-32), 3) := by decide +kernel
theorem dX6_spells_55 : decode cX6_spells 55 = .ok (.iconst 1, 1) := by decide +kernel
theorem dX6_spells_56 : decode cX6_spells 56 = .ok (.ireturn, 1) := by decide +kernel
theorem dX6_numberHere_0 : decode cX6_numberHere 0 = .ok (.aload_n 0, 1) := by decide +kernel
theorem dX6_numberHere_1 : decode cX6_numberHere 1 = .ok (.getfield 22, 3) := by decide +kernel
theorem dX6_numberHere_4 : decode cX6_numberHere 4 = .ok (.aload_n 0, 1) := by decide +kernel
theorem dX6_numberHere_5 : decode cX6_numberHere 5 = .ok (.getfield 32, 3) := by decide +kernel
theorem dX6_numberHere_8 : decode cX6_numberHere 8 = .ok (.isub, 1) := by decide +kernel
theorem dX6_numberHere_9 : decode cX6_numberHere 9 = .ok (.istore_n 1, 1) := by decide +kernel
theorem dX6_numberHere_10 : decode cX6_numberHere 10 = .ok (.iload_n 1, 1) := by decide +kernel
theorem dX6_numberHere_11 : decode cX6_numberHere 11 = .ok (.iconst 1, 1) := by decide +kernel
theorem dX6_numberHere_12 : decode cX6_numberHere 12 = .ok (.if_icmp .lt 23, 3) := by decide +kernel
theorem dX6_numberHere_15 : decode cX6_numberHere 15 = .ok (.iload_n 1, 1) := by decide +kernel
theorem dX6_numberHere_16 : decode cX6_numberHere 16 = .ok (.iconst 2, 1) := by decide +kernel
theorem dX6_numberHere_17 : decode cX6_numberHere 17 = .ok (.if_icmp .gt 18, 3) := by decide +kernel
theorem dX6_numberHere_20 : decode cX6_numberHere 20 = .ok (.aload_n 0, 1) := by decide +kernel
theorem dX6_numberHere_21 : decode cX6_numberHere 21 = .ok (.getfield 9, 3) := by decide +kernel
theorem dX6_numberHere_24 : decode cX6_numberHere 24 = .ok (.aload_n 0, 1) := by decide +kernel
theorem dX6_numberHere_25 : decode cX6_numberHere 25 = .ok (.getfield 32, 3) := by decide +kernel
theorem dX6_numberHere_28 : decode cX6_numberHere 28 = .ok (.iaload, 1) := by decide +kernel
theorem dX6_numberHere_29 : decode cX6_numberHere 29 = .ok (.invokestatic 57, 3) := by decide +kernel
theorem dX6_numberHere_32 : decode cX6_numberHere 32 = .ok (.ifCond .ne 5, 3) := by decide +kernel
theorem dX6_numberHere_35 : decode cX6_numberHere 35 = .ok (.iconst (-1), 1) := by decide +kernel
theorem dX6_numberHere_36 : decode cX6_numberHere 36 = .ok (.ireturn, 1) := by decide +kernel
theorem dX6_numberHere_37 : decode cX6_numberHere 37 = .ok (.iconst 0, 1) := by decide +kernel
theorem dX6_numberHere_38 : decode cX6_numberHere 38 = .ok (.istore_n 2, 1) := by decide +kernel
theorem dX6_numberHere_39 : decode cX6_numberHere 39 = .ok (.aload_n 0, 1) := by decide +kernel
theorem dX6_numberHere_40 : decode cX6_numberHere 40 = .ok (.getfield 32, 3) := by decide +kernel
theorem dX6_numberHere_43 : decode cX6_numberHere 43 = .ok (.istore_n 3, 1) := by decide +kernel
theorem dX6_numberHere_44 : decode cX6_numberHere 44 = .ok (.iload_n 3, 1) := by decide +kernel
theorem dX6_numberHere_45 : decode cX6_numberHere 45 = .ok (.aload_n 0, 1) := by decide +kernel
theorem dX6_numberHere_46 : decode cX6_numberHere 46 = .ok (.getfield 22, 3) := by decide +kernel
theorem dX6_numberHere_49 : decode cX6_numberHere 49 = .ok (.if_icmp .ge 24, 3) := by decide +kernel
theorem dX6_numberHere_52 : decode cX6_numberHere 52 = .ok (.bipush 10, 2) := by decide +kernel
theorem dX6_numberHere_54 : decode cX6_numberHere 54 = .ok (.iload_n 2, 1) := by decide +kernel
theorem dX6_numberHere_55 : decode cX6_numberHere 55 = .ok (.imul, 1) := by decide +kernel
theorem dX6_numberHere_56 : decode cX6_numberHere 56 = .ok (.aload_n 0, 1) := by decide +kernel
theorem dX6_numberHere_57 : decode cX6_numberHere 57 = .ok (.getfield 9, 3) := by decide +kernel
theorem dX6_numberHere_60 : decode cX6_numberHere 60 = .ok (.iload_n 3, 1) := by decide +kernel
theorem dX6_numberHere_61 : decode cX6_numberHere 61 = .ok (.iaload, 1) := by decide +kernel
theorem dX6_numberHere_62 : decode cX6_numberHere 62 = .ok (.iadd, 1) := by decide +kernel
theorem dX6_numberHere_63 : decode cX6_numberHere 63 = .ok (.bipush 48, 2) := by decide +kernel
theorem dX6_numberHere_65 : decode cX6_numberHere 65 = .ok (.isub, 1) := by decide +kernel
theorem dX6_numberHere_66 : decode cX6_numberHere 66 = .ok (.istore_n 2, 1) := by decide +kernel
theorem dX6_numberHere_67 : decode cX6_numberHere 67 = .ok (.iinc 3 1, 3) := by decide +kernel
theorem dX6_numberHere_70 : decode cX6_numberHere 70 = .ok (.goto (-26), 3) := by decide +kernel
theorem dX6_numberHere_73 : decode cX6_numberHere 73 = .ok (.iload_n 2, 1) := by decide +kernel
theorem dX6_numberHere_74 : decode cX6_numberHere 74 = .ok (.ireturn, 1) := by decide +kernel
theorem dX6_numbersOf_0 : decode cX6_numbersOf 0 = .ok (.iload_n 0, 1) := by decide +kernel
theorem dX6_numbersOf_1 : decode cX6_numbersOf 1 = .ok (.tableswitch 35 5 8 #[31, 31, 35, 33], 31) := by decide +kernel
theorem dX6_numbersOf_32 : decode cX6_numbersOf 32 = .ok (.iconst 3, 1) := by decide +kernel
theorem dX6_numbersOf_33 : decode cX6_numbersOf 33 = .ok (.ireturn, 1) := by decide +kernel
end
section
theorem dX6_numbersOf_34 : decode cX6_numbersOf 34 = .ok (.iconst 2, 1) := by decide +kernel
theorem dX6_numbersOf_35 : decode cX6_numbersOf 35 = .ok (.ireturn, 1) := by decide +kernel
theorem dX6_numbersOf_36 : decode cX6_numbersOf 36 = .ok (.iconst 1, 1) := by decide +kernel
theorem dX6_numbersOf_37 : decode cX6_numbersOf 37 = .ok (.ireturn, 1) := by decide +kernel
theorem dX6_fits_0 : decode cX6_fits 0 = .ok (.iload_n 0, 1) := by decide +kernel
theorem dX6_fits_1 : decode cX6_fits 1 = .ok (.ifCond .ne 20, 3) := by decide +kernel
theorem dX6_fits_4 : decode cX6_fits 4 = .ok (.iload_n 2, 1) := by decide +kernel
theorem dX6_fits_5 : decode cX6_fits 5 = .ok (.iconst 2, 1) := by decide +kernel
theorem dX6_fits_6 : decode cX6_fits 6 = .ok (.if_icmp .lt 13, 3) := by decide +kernel
theorem dX6_fits_9 : decode cX6_fits 9 = .ok (.iload_n 2, 1) := by decide +kernel
theorem dX6_fits_10 : decode cX6_fits 10 = .ok (.bipush 7, 2) := by decide +kernel
theorem dX6_fits_12 : decode cX6_fits 12 = .ok (.if_icmp .gt 7, 3) := by decide +kernel
theorem dX6_fits_15 : decode cX6_fits 15 = .ok (.iconst 1, 1) := by decide +kernel
theorem dX6_fits_16 : decode cX6_fits 16 = .ok (.goto 4, 3) := by decide +kernel
theorem dX6_fits_19 : decode cX6_fits 19 = .ok (.iconst 0, 1) := by decide +kernel
theorem dX6_fits_20 : decode cX6_fits 20 = .ok (.ireturn, 1) := by decide +kernel
theorem dX6_fits_21 : decode cX6_fits 21 = .ok (.iload_n 0, 1) := by decide +kernel
theorem dX6_fits_22 : decode cX6_fits 22 = .ok (.bipush 7, 2) := by decide +kernel
theorem dX6_fits_24 : decode cX6_fits 24 = .ok (.if_icmp .ne 8, 3) := by decide +kernel
theorem dX6_fits_27 : decode cX6_fits 27 = .ok (.iload_n 2, 1) := by decide +kernel
theorem dX6_fits_28 : decode cX6_fits 28 = .ok (.invokestatic 90, 3) := by decide +kernel
theorem dX6_fits_31 : decode cX6_fits 31 = .ok (.ireturn, 1) := by decide +kernel
theorem dX6_fits_32 : decode cX6_fits 32 = .ok (.iload_n 1, 1) := by decide +kernel
theorem dX6_fits_33 : decode cX6_fits 33 = .ok (.iconst 3, 1) := by decide +kernel
theorem dX6_fits_34 : decode cX6_fits 34 = .ok (.if_icmp .ne 19, 3) := by decide +kernel
theorem dX6_fits_37 : decode cX6_fits 37 = .ok (.iload_n 2, 1) := by decide +kernel
theorem dX6_fits_38 : decode cX6_fits 38 = .ok (.ifCond .lt 13, 3) := by decide +kernel
theorem dX6_fits_41 : decode cX6_fits 41 = .ok (.iload_n 2, 1) := by decide +kernel
theorem dX6_fits_42 : decode cX6_fits 42 = .ok (.bipush 9, 2) := by decide +kernel
theorem dX6_fits_44 : decode cX6_fits 44 = .ok (.if_icmp .gt 7, 3) := by decide +kernel
theorem dX6_fits_47 : decode cX6_fits 47 = .ok (.iconst 1, 1) := by decide +kernel
theorem dX6_fits_48 : decode cX6_fits 48 = .ok (.goto 4, 3) := by decide +kernel
theorem dX6_fits_51 : decode cX6_fits 51 = .ok (.iconst 0, 1) := by decide +kernel
theorem dX6_fits_52 : decode cX6_fits 52 = .ok (.ireturn, 1) := by decide +kernel
theorem dX6_fits_53 : decode cX6_fits 53 = .ok (.iload_n 2, 1) := by decide +kernel
theorem dX6_fits_54 : decode cX6_fits 54 = .ok (.ifCond .lt 12, 3) := by decide +kernel
theorem dX6_fits_57 : decode cX6_fits 57 = .ok (.iload_n 2, 1) := by decide +kernel
theorem dX6_fits_58 : decode cX6_fits 58 = .ok (.iload_n 3, 1) := by decide +kernel
theorem dX6_fits_59 : decode cX6_fits 59 = .ok (.if_icmp .ge 7, 3) := by decide +kernel
theorem dX6_fits_62 : decode cX6_fits 62 = .ok (.iconst 1, 1) := by decide +kernel
theorem dX6_fits_63 : decode cX6_fits 63 = .ok (.goto 4, 3) := by decide +kernel
theorem dX6_fits_66 : decode cX6_fits 66 = .ok (.iconst 0, 1) := by decide +kernel
theorem dX6_fits_67 : decode cX6_fits 67 = .ok (.ireturn, 1) := by decide +kernel
theorem dX7_init_0 : decode cX7_init 0 = .ok (.aload_n 0, 1) := by decide +kernel
theorem dX7_init_1 : decode cX7_init 1 = .ok (.invokespecial 3, 3) := by decide +kernel
theorem dX7_init_4 : decode cX7_init 4 = .ok (.aload_n 0, 1) := by decide +kernel
theorem dX7_init_5 : decode cX7_init 5 = .ok (.bipush 7, 2) := by decide +kernel
theorem dX7_init_7 : decode cX7_init 7 = .ok (.newarray .int, 2) := by decide +kernel
theorem dX7_init_9 : decode cX7_init 9 = .ok (.putfield 9, 3) := by decide +kernel
theorem dX7_init_12 : decode cX7_init 12 = .ok (.aload_n 0, 1) := by decide +kernel
theorem dX7_init_13 : decode cX7_init 13 = .ok (.bipush 7, 2) := by decide +kernel
theorem dX7_init_15 : decode cX7_init 15 = .ok (.newarray .int, 2) := by decide +kernel
theorem dX7_init_17 : decode cX7_init 17 = .ok (.putfield 15, 3) := by decide +kernel
theorem dX7_init_20 : decode cX7_init 20 = .ok (.aload_n 0, 1) := by decide +kernel
theorem dX7_init_21 : decode cX7_init 21 = .ok (.bipush 79, 2) := by decide +kernel
theorem dX7_init_23 : decode cX7_init 23 = .ok (.newarray .long, 2) := by decide +kernel
theorem dX7_init_25 : decode cX7_init 25 = .ok (.putfield 18, 3) := by decide +kernel
theorem dX7_init_28 : decode cX7_init 28 = .ok (.aload_n 0, 1) := by decide +kernel
theorem dX7_init_29 : decode cX7_init 29 = .ok (.bipush 79, 2) := by decide +kernel
theorem dX7_init_31 : decode cX7_init 31 = .ok (.newarray .long, 2) := by decide +kernel
theorem dX7_init_33 : decode cX7_init 33 = .ok (.putfield 22, 3) := by decide +kernel
theorem dX7_init_36 : decode cX7_init 36 = .ok (.aload_n 0, 1) := by decide +kernel
theorem dX7_init_37 : decode cX7_init 37 = .ok (.aload_n 1, 1) := by decide +kernel
theorem dX7_init_38 : decode cX7_init 38 = .ok (.putfield 25, 3) := by decide +kernel
theorem dX7_init_41 : decode cX7_init 41 = .ok (.return_, 1) := by decide +kernel
theorem dX7_from_0 : decode cX7_from 0 = .ok (.aload_n 0, 1) := by decide +kernel
theorem dX7_from_1 : decode cX7_from 1 = .ok (.iconst 0, 1) := by decide +kernel
theorem dX7_from_2 : decode cX7_from 2 = .ok (.putfield 29, 3) := by decide +kernel
theorem dX7_from_5 : decode cX7_from 5 = .ok (.aload_n 0, 1) := by decide +kernel
theorem dX7_from_6 : decode cX7_from 6 = .ok (.iconst (-1), 1) := by decide +kernel
theorem dX7_from_7 : decode cX7_from 7 = .ok (.putfield 33, 3) := by decide +kernel
theorem dX7_from_10 : decode cX7_from 10 = .ok (.aload_n 0, 1) := by decide +kernel
theorem dX7_from_11 : decode cX7_from 11 = .ok (.iconst (-1), 1) := by decide +kernel
theorem dX7_from_12 : decode cX7_from 12 = .ok (.putfield 36, 3) := by decide +kernel
theorem dX7_from_15 : decode cX7_from 15 = .ok (.iconst 0, 1) := by decide +kernel
theorem dX7_from_16 : decode cX7_from 16 = .ok (.istore_n 3, 1) := by decide +kernel
theorem dX7_from_17 : decode cX7_from 17 = .ok (.iload_n 3, 1) := by decide +kernel
theorem dX7_from_18 : decode cX7_from 18 = .ok (.bipush 79, 2) := by decide +kernel
theorem dX7_from_20 : decode cX7_from 20 = .ok (.if_icmp .ge 23, 3) := by decide +kernel
theorem dX7_from_23 : decode cX7_from 23 = .ok (.aload_n 0, 1) := by decide +kernel
theorem dX7_from_24 : decode cX7_from 24 = .ok (.getfield 18, 3) := by decide +kernel
theorem dX7_from_27 : decode cX7_from 27 = .ok (.iload_n 3, 1) := by decide +kernel
theorem dX7_from_28 : decode cX7_from 28 = .ok (.lconst 0, 1) := by decide +kernel
theorem dX7_from_29 : decode cX7_from 29 = .ok (.lastore, 1) := by decide +kernel
theorem dX7_from_30 : decode cX7_from 30 = .ok (.aload_n 0, 1) := by decide +kernel
theorem dX7_from_31 : decode cX7_from 31 = .ok (.getfield 22, 3) := by decide +kernel
theorem dX7_from_34 : decode cX7_from 34 = .ok (.iload_n 3, 1) := by decide +kernel
theorem dX7_from_35 : decode cX7_from 35 = .ok (.lconst 0, 1) := by decide +kernel
theorem dX7_from_36 : decode cX7_from 36 = .ok (.lastore, 1) := by decide +kernel
theorem dX7_from_37 : decode cX7_from 37 = .ok (.iinc 3 1, 3) := by decide +kernel
theorem dX7_from_40 : decode cX7_from 40 = .ok (.goto (-23), 3) := by decide +kernel
theorem dX7_from_43 : decode cX7_from 43 = .ok (.aload_n 0, 1) := by decide +kernel
theorem dX7_from_44 : decode cX7_from 44 = .ok (.aload_n 1, 1) := by decide +kernel
theorem dX7_from_45 : decode cX7_from 45 = .ok (.aload_n 0, 1) := by decide +kernel
theorem dX7_from_46 : decode cX7_from 46 = .ok (.getfield 25, 3) := by decide +kernel
theorem dX7_from_49 : decode cX7_from 49 = .ok (.getfield 39, 3) := by decide +kernel
theorem dX7_from_52 : decode cX7_from 52 = .ok (.getfield 45, 3) := by decide +kernel
theorem dX7_from_55 : decode cX7_from 55 = .ok (.invokestatic 50, 3) := by decide +kernel
theorem dX7_from_58 : decode cX7_from 58 = .ok (.invokevirtual 56, 3) := by decide +kernel
theorem dX7_from_61 : decode cX7_from 61 = .ok (.iconst 0, 1) := by decide +kernel
theorem dX7_from_62 : decode cX7_from 62 = .ok (.istore_n 3, 1) := by decide +kernel
theorem dX7_from_63 : decode cX7_from 63 = .ok (.iload_n 3, 1) := by decide +kernel
theorem dX7_from_64 : decode cX7_from 64 = .ok (.sipush 5040, 3) := by decide +kernel
theorem dX7_from_67 : decode cX7_from 67 = .ok (.if_icmp .ge 29, 3) := by decide +kernel
theorem dX7_from_70 : decode cX7_from 70 = .ok (.aload_n 0, 1) := by decide +kernel
theorem dX7_from_71 : decode cX7_from 71 = .ok (.invokevirtual 60, 3) := by decide +kernel
theorem dX7_from_74 : decode cX7_from 74 = .ok (.istore 4, 2) := by decide +kernel
theorem dX7_from_76 : decode cX7_from 76 = .ok (.iload 4, 2) := by decide +kernel
theorem dX7_from_78 : decode cX7_from 78 = .ok (.iconst (-1), 1) := by decide +kernel
theorem dX7_from_79 : decode cX7_from 79 = .ok (.if_icmp .ne 4, 3) := by decide +kernel
theorem dX7_from_82 : decode cX7_from 82 = .ok (.return_, 1) := by decide +kernel
theorem dX7_from_83 : decode cX7_from 83 = .ok (.aload_n 0, 1) := by decide +kernel
theorem dX7_from_84 : decode cX7_from 84 = .ok (.iload 4, 2) := by decide +kernel
theorem dX7_from_86 : decode cX7_from 86 = .ok (.iload_n 2, 1) := by decide +kernel
theorem dX7_from_87 : decode cX7_from 87 = .ok (.invokevirtual 64, 3) := by decide +kernel
theorem dX7_from_90 : decode cX7_from 90 = .ok (.iinc 3 1, 3) := by decide +kernel
theorem dX7_from_93 : decode cX7_from 93 = .ok (.goto (-30), 3) := by decide +kernel
theorem dX7_from_96 : decode cX7_from 96 = .ok (.return_, 1) := by decide +kernel
theorem dX7_reach_0 : decode cX7_reach 0 = .ok (.lconst 1, 1) := by decide +kernel
theorem dX7_reach_1 : decode cX7_reach 1 = .ok (.iload_n 1, 1) := by decide +kernel
theorem dX7_reach_2 : decode cX7_reach 2 = .ok (.bipush 63, 2) := by decide +kernel
theorem dX7_reach_4 : decode cX7_reach 4 = .ok (.iand, 1) := by decide +kernel
theorem dX7_reach_5 : decode cX7_reach 5 = .ok (.lshl, 1) := by decide +kernel
theorem dX7_reach_6 : decode cX7_reach 6 = .ok (.lstore_n 2, 1) := by decide +kernel
theorem dX7_reach_7 : decode cX7_reach 7 = .ok (.aload_n 0, 1) := by decide +kernel
theorem dX7_reach_8 : decode cX7_reach 8 = .ok (.getfield 18, 3) := by decide +kernel
theorem dX7_reach_11 : decode cX7_reach 11 = .ok (.iload_n 1, 1) := by decide +kernel
theorem dX7_reach_12 : decode cX7_reach 12 = .ok (.bipush 6, 2) := by decide +kernel
theorem dX7_reach_14 : decode cX7_reach 14 = .ok (.ishr, 1) := by decide +kernel
theorem dX7_reach_15 : decode cX7_reach 15 = .ok (.laload, 1) := by decide +kernel
theorem dX7_reach_16 : decode cX7_reach 16 = .ok (.lload_n 2, 1) := by decide +kernel
theorem dX7_reach_17 : decode cX7_reach 17 = .ok (.land, 1) := by decide +kernel
theorem dX7_reach_18 : decode cX7_reach 18 = .ok (.lconst 0, 1) := by decide +kernel
theorem dX7_reach_19 : decode cX7_reach 19 = .ok (.lcmp, 1) := by decide +kernel
theorem dX7_reach_20 : decode cX7_reach 20 = .ok (.ifCond .ne 29, 3) := by decide +kernel
theorem dX7_reach_23 : decode cX7_reach 23 = .ok (.aload_n 0, 1) := by decide +kernel
theorem dX7_reach_24 : decode cX7_reach 24 = .ok (.getfield 18, 3) := by decide +kernel
theorem dX7_reach_27 : decode cX7_reach 27 = .ok (.iload_n 1, 1) := by decide +kernel
theorem dX7_reach_28 : decode cX7_reach 28 = .ok (.bipush 6, 2) := by decide +kernel
theorem dX7_reach_30 : decode cX7_reach 30 = .ok (.ishr, 1) := by decide +kernel
theorem dX7_reach_31 : decode cX7_reach 31 = .ok (.dup2, 1) := by decide +kernel
theorem dX7_reach_32 : decode cX7_reach 32 = .ok (.laload, 1) := by decide +kernel
theorem dX7_reach_33 : decode cX7_reach 33 = .ok (.lload_n 2, 1) := by decide +kernel
theorem dX7_reach_34 : decode cX7_reach 34 = .ok (.lor, 1) := by decide +kernel
theorem dX7_reach_35 : decode cX7_reach 35 = .ok (.lastore, 1) := by decide +kernel
theorem dX7_reach_36 : decode cX7_reach 36 = .ok (.aload_n 0, 1) := by decide +kernel
theorem dX7_reach_37 : decode cX7_reach 37 = .ok (.getfield 22, 3) := by decide +kernel
theorem dX7_reach_40 : decode cX7_reach 40 = .ok (.iload_n 1, 1) := by decide +kernel
theorem dX7_reach_41 : decode cX7_reach 41 = .ok (.bipush 6, 2) := by decide +kernel
theorem dX7_reach_43 : decode cX7_reach 43 = .ok (.ishr, 1) := by decide +kernel
theorem dX7_reach_44 : decode cX7_reach 44 = .ok (.dup2, 1) := by decide +kernel
theorem dX7_reach_45 : decode cX7_reach 45 = .ok (.laload, 1) := by decide +kernel
theorem dX7_reach_46 : decode cX7_reach 46 = .ok (.lload_n 2, 1) := by decide +kernel
theorem dX7_reach_47 : decode cX7_reach 47 = .ok (.lor, 1) := by decide +kernel
theorem dX7_reach_48 : decode cX7_reach 48 = .ok (.lastore, 1) := by decide +kernel
theorem dX7_reach_49 : decode cX7_reach 49 = .ok (.return_, 1) := by decide +kernel
theorem dX7_takeWaiting_0 : decode cX7_takeWaiting 0 = .ok (.iconst 0, 1) := by decide +kernel
theorem dX7_takeWaiting_1 : decode cX7_takeWaiting 1 = .ok (.istore_n 1, 1) := by decide +kernel
theorem dX7_takeWaiting_2 : decode cX7_takeWaiting 2 = .ok (.iload_n 1, 1) := by decide +kernel
theorem dX7_takeWaiting_3 : decode cX7_takeWaiting 3 = .ok (.bipush 79, 2) := by decide +kernel
theorem dX7_takeWaiting_5 : decode cX7_takeWaiting 5 = .ok (.if_icmp .ge 54, 3) := by decide +kernel
theorem dX7_takeWaiting_8 : decode cX7_takeWaiting 8 = .ok (.aload_n 0, 1) := by decide +kernel
theorem dX7_takeWaiting_9 : decode cX7_takeWaiting 9 = .ok (.getfield 22, 3) := by decide +kernel
theorem dX7_takeWaiting_12 : decode cX7_takeWaiting 12 = .ok (.iload_n 1, 1) := by decide +kernel
theorem dX7_takeWaiting_13 : decode cX7_takeWaiting 13 = .ok (.laload, 1) := by decide +kernel
theorem dX7_takeWaiting_14 : decode cX7_takeWaiting 14 = .ok (.lconst 0, 1) := by decide +kernel
theorem dX7_takeWaiting_15 : decode cX7_takeWaiting 15 = .ok (.lcmp, 1) := by decide +kernel
theorem dX7_takeWaiting_16 : decode cX7_takeWaiting 16 = .ok (.ifCond .eq 37, 3) := by decide +kernel
theorem dX7_takeWaiting_19 : decode cX7_takeWaiting 19 = .ok (.iload_n 1, 1) := by decide +kernel
theorem dX7_takeWaiting_20 : decode cX7_takeWaiting 20 = .ok (.bipush 64, 2) := by decide +kernel
theorem dX7_takeWaiting_22 : decode cX7_takeWaiting 22 = .ok (.imul, 1) := by decide +kernel
theorem dX7_takeWaiting_23 : decode cX7_takeWaiting 23 = .ok (.aload_n 0, 1) := by decide +kernel
theorem dX7_takeWaiting_24 : decode cX7_takeWaiting 24 = .ok (.getfield 22, 3) := by decide +kernel
theorem dX7_takeWaiting_27 : decode cX7_takeWaiting 27 = .ok (.iload_n 1, 1) := by decide +kernel
theorem dX7_takeWaiting_28 : decode cX7_takeWaiting 28 = .ok (.laload, 1) := by decide +kernel
theorem dX7_takeWaiting_29 : decode cX7_takeWaiting 29 = .ok (.invokestatic 68, 3) := by decide +kernel
theorem dX7_takeWaiting_32 : decode cX7_takeWaiting 32 = .ok (.iadd, 1) := by decide +kernel
theorem dX7_takeWaiting_33 : decode cX7_takeWaiting 33 = .ok (.istore_n 2, 1) := by decide +kernel
theorem dX7_takeWaiting_34 : decode cX7_takeWaiting 34 = .ok (.aload_n 0, 1) := by decide +kernel
theorem dX7_takeWaiting_35 : decode cX7_takeWaiting 35 = .ok (.getfield 22, 3) := by decide +kernel
theorem dX7_takeWaiting_38 : decode cX7_takeWaiting 38 = .ok (.iload_n 1, 1) := by decide +kernel
theorem dX7_takeWaiting_39 : decode cX7_takeWaiting 39 = .ok (.dup2, 1) := by decide +kernel
theorem dX7_takeWaiting_40 : decode cX7_takeWaiting 40 = .ok (.laload, 1) := by decide +kernel
theorem dX7_takeWaiting_41 : decode cX7_takeWaiting 41 = .ok (.aload_n 0, 1) := by decide +kernel
theorem dX7_takeWaiting_42 : decode cX7_takeWaiting 42 = .ok (.getfield 22, 3) := by decide +kernel
theorem dX7_takeWaiting_45 : decode cX7_takeWaiting 45 = .ok (.iload_n 1, 1) := by decide +kernel
theorem dX7_takeWaiting_46 : decode cX7_takeWaiting 46 = .ok (.laload, 1) := by decide +kernel
theorem dX7_takeWaiting_47 : decode cX7_takeWaiting 47 = .ok (.lconst 1, 1) := by decide +kernel
theorem dX7_takeWaiting_48 : decode cX7_takeWaiting 48 = .ok (.lsub, 1) := by decide +kernel
theorem dX7_takeWaiting_49 : decode cX7_takeWaiting 49 = .ok (.land, 1) := by decide +kernel
theorem dX7_takeWaiting_50 : decode cX7_takeWaiting 50 = .ok (.lastore, 1) := by decide +kernel
theorem dX7_takeWaiting_51 : decode cX7_takeWaiting 51 = .ok (.iload_n 2, 1) := by decide +kernel
theorem dX7_takeWaiting_52 : decode cX7_takeWaiting 52 = .ok (.ireturn, 1) := by decide +kernel
theorem dX7_takeWaiting_53 : decode cX7_takeWaiting 53 = .ok (.iinc 1 1, 3) := by decide +kernel
theorem dX7_takeWaiting_56 : decode cX7_takeWaiting 56 = .ok (.goto (-54), 3) := by decide +kernel
theorem dX7_takeWaiting_59 : decode cX7_takeWaiting 59 = .ok (.iconst (-1), 1) := by decide +kernel
theorem dX7_takeWaiting_60 : decode cX7_takeWaiting 60 = .ok (.ireturn, 1) := by decide +kernel
theorem dX7_lookAt_0 : decode cX7_lookAt 0 = .ok (.aload_n 0, 1) := by decide +kernel
theorem dX7_lookAt_1 : decode cX7_lookAt 1 = .ok (.getfield 25, 3) := by decide +kernel
theorem dX7_lookAt_4 : decode cX7_lookAt 4 = .ok (.getfield 39, 3) := by decide +kernel
theorem dX7_lookAt_7 : decode cX7_lookAt 7 = .ok (.getfield 45, 3) := by decide +kernel
theorem dX7_lookAt_10 : decode cX7_lookAt 10 = .ok (.istore_n 3, 1) := by decide +kernel
theorem dX7_lookAt_11 : decode cX7_lookAt 11 = .ok (.aload_n 0, 1) := by decide +kernel
theorem dX7_lookAt_12 : decode cX7_lookAt 12 = .ok (.getfield 9, 3) := by decide +kernel
theorem dX7_lookAt_15 : decode cX7_lookAt 15 = .ok (.iload_n 3, 1) := by decide +kernel
theorem dX7_lookAt_16 : decode cX7_lookAt 16 = .ok (.iload_n 1, 1) := by decide +kernel
theorem dX7_lookAt_17 : decode cX7_lookAt 17 = .ok (.invokestatic 74, 3) := by decide +kernel
theorem dX7_lookAt_20 : decode cX7_lookAt 20 = .ok (.aload_n 0, 1) := by decide +kernel
theorem dX7_lookAt_21 : decode cX7_lookAt 21 = .ok (.getfield 25, 3) := by decide +kernel
theorem dX7_lookAt_24 : decode cX7_lookAt 24 = .ok (.aload_n 0, 1) := by decide +kernel
theorem dX7_lookAt_25 : decode cX7_lookAt 25 = .ok (.getfield 9, 3) := by decide +kernel
theorem dX7_lookAt_28 : decode cX7_lookAt 28 = .ok (.iload_n 2, 1) := by decide +kernel
theorem dX7_lookAt_29 : decode cX7_lookAt 29 = .ok (.bipush 70, 2) := by decide +kernel
theorem dX7_lookAt_31 : decode cX7_lookAt 31 = .ok (.invokevirtual 78, 3) := by decide +kernel
theorem dX7_lookAt_34 : decode cX7_lookAt 34 = .ok (.aload_n 0, 1) := by decide +kernel
theorem dX7_lookAt_35 : decode cX7_lookAt 35 = .ok (.getfield 25, 3) := by decide +kernel
theorem dX7_lookAt_38 : decode cX7_lookAt 38 = .ok (.getfield 81, 3) := by decide +kernel
theorem dX7_lookAt_41 : decode cX7_lookAt 41 = .ok (.ifCond .ne 8, 3) := by decide +kernel
theorem dX7_lookAt_44 : decode cX7_lookAt 44 = .ok (.aload_n 0, 1) := by decide +kernel
theorem dX7_lookAt_45 : decode cX7_lookAt 45 = .ok (.iload_n 1, 1) := by decide +kernel
theorem dX7_lookAt_46 : decode cX7_lookAt 46 = .ok (.invokevirtual 84, 3) := by decide +kernel
theorem dX7_lookAt_49 : decode cX7_lookAt 49 = .ok (.iconst 0, 1) := by decide +kernel
theorem dX7_lookAt_50 : decode cX7_lookAt 50 = .ok (.istore 4, 2) := by decide +kernel
theorem dX7_lookAt_52 : decode cX7_lookAt 52 = .ok (.iload 4, 2) := by decide +kernel
theorem dX7_lookAt_54 : decode cX7_lookAt 54 = .ok (.aload_n 0, 1) := by decide +kernel
theorem dX7_lookAt_55 : decode cX7_lookAt 55 = .ok (.getfield 25, 3) := by decide +kernel
theorem dX7_lookAt_58 : decode cX7_lookAt 58 = .ok (.getfield 81, 3) := by decide +kernel
theorem dX7_lookAt_61 : decode cX7_lookAt 61 = .ok (.if_icmp .ge 49, 3) := by decide +kernel
theorem dX7_lookAt_64 : decode cX7_lookAt 64 = .ok (.aload_n 0, 1) := by decide +kernel
theorem dX7_lookAt_65 : decode cX7_lookAt 65 = .ok (.getfield 9, 3) := by decide +kernel
theorem dX7_lookAt_68 : decode cX7_lookAt 68 = .ok (.iconst 0, 1) := by decide +kernel
theorem dX7_lookAt_69 : decode cX7_lookAt 69 = .ok (.aload_n 0, 1) := by decide +kernel
theorem dX7_lookAt_70 : decode cX7_lookAt 70 = .ok (.getfield 15, 3) := by decide +kernel
theorem dX7_lookAt_73 : decode cX7_lookAt 73 = .ok (.iconst 0, 1) := by decide +kernel
theorem dX7_lookAt_74 : decode cX7_lookAt 74 = .ok (.bipush 7, 2) := by decide +kernel
theorem dX7_lookAt_76 : decode cX7_lookAt 76 = .ok (.invokestatic 87, 3) := by decide +kernel
theorem dX7_lookAt_79 : decode cX7_lookAt 79 = .ok (.aload_n 0, 1) := by decide +kernel
theorem dX7_lookAt_80 : decode cX7_lookAt 80 = .ok (.getfield 25, 3) := by decide +kernel
theorem dX7_lookAt_83 : decode cX7_lookAt 83 = .ok (.aload_n 0, 1) := by decide +kernel
theorem dX7_lookAt_84 : decode cX7_lookAt 84 = .ok (.getfield 15, 3) := by decide +kernel
theorem dX7_lookAt_87 : decode cX7_lookAt 87 = .ok (.iload 4, 2) := by decide +kernel
theorem dX7_lookAt_89 : decode cX7_lookAt 89 = .ok (.invokevirtual 93, 3) := by decide +kernel
theorem dX7_lookAt_92 : decode cX7_lookAt 92 = .ok (.aload_n 0, 1) := by decide +kernel
theorem dX7_lookAt_93 : decode cX7_lookAt 93 = .ok (.aload_n 0, 1) := by decide +kernel
theorem dX7_lookAt_94 : decode cX7_lookAt 94 = .ok (.getfield 15, 3) := by decide +kernel
theorem dX7_lookAt_97 : decode cX7_lookAt 97 = .ok (.iload_n 3, 1) := by decide +kernel
theorem dX7_lookAt_98 : decode cX7_lookAt 98 = .ok (.invokestatic 50, 3) := by decide +kernel
theorem dX7_lookAt_101 : decode cX7_lookAt 101 = .ok (.invokevirtual 56, 3) := by decide +kernel
theorem dX7_lookAt_104 : decode cX7_lookAt 104 = .ok (.iinc 4 1, 3) := by decide +kernel
theorem dX7_lookAt_107 : decode cX7_lookAt 107 = .ok (.goto (-55), 3) := by decide +kernel
theorem dX7_lookAt_110 : decode cX7_lookAt 110 = .ok (.return_, 1) := by decide +kernel
theorem dX7_addEnd_0 : decode cX7_addEnd 0 = .ok (.aload_n 0, 1) := by decide +kernel
theorem dX7_addEnd_1 : decode cX7_addEnd 1 = .ok (.getfield 25, 3) := by decide +kernel
theorem dX7_addEnd_4 : decode cX7_addEnd 4 = .ok (.getfield 39, 3) := by decide +kernel
theorem dX7_addEnd_7 : decode cX7_addEnd 7 = .ok (.aload_n 0, 1) := by decide +kernel
theorem dX7_addEnd_8 : decode cX7_addEnd 8 = .ok (.getfield 9, 3) := by decide +kernel
theorem dX7_addEnd_11 : decode cX7_addEnd 11 = .ok (.invokevirtual 97, 3) := by decide +kernel
theorem dX7_addEnd_14 : decode cX7_addEnd 14 = .ok (.istore_n 2, 1) := by decide +kernel
theorem dX7_addEnd_15 : decode cX7_addEnd 15 = .ok (.aload_n 0, 1) := by decide +kernel
theorem dX7_addEnd_16 : decode cX7_addEnd 16 = .ok (.dup, 1) := by decide +kernel
theorem dX7_addEnd_17 : decode cX7_addEnd 17 = .ok (.getfield 29, 3) := by decide +kernel
theorem dX7_addEnd_20 : decode cX7_addEnd 20 = .ok (.iconst 1, 1) := by decide +kernel
theorem dX7_addEnd_21 : decode cX7_addEnd 21 = .ok (.iadd, 1) := by decide +kernel
theorem dX7_addEnd_22 : decode cX7_addEnd 22 = .ok (.putfield 29, 3) := by decide +kernel
theorem dX7_addEnd_25 : decode cX7_addEnd 25 = .ok (.iload_n 2, 1) := by decide +kernel
theorem dX7_addEnd_26 : decode cX7_addEnd 26 = .ok (.aload_n 0, 1) := by decide +kernel
theorem dX7_addEnd_27 : decode cX7_addEnd 27 = .ok (.getfield 33, 3) := by decide +kernel
theorem dX7_addEnd_30 : decode cX7_addEnd 30 = .ok (.if_icmp .gt 19, 3) := by decide +kernel
theorem dX7_addEnd_33 : decode cX7_addEnd 33 = .ok (.iload_n 2, 1) := by decide +kernel
theorem dX7_addEnd_34 : decode cX7_addEnd 34 = .ok (.aload_n 0, 1) := by decide +kernel
theorem dX7_addEnd_35 : decode cX7_addEnd 35 = .ok (.getfield 33, 3) := by decide +kernel
theorem dX7_addEnd_38 : decode cX7_addEnd 38 = .ok (.if_icmp .ne 21, 3) := by decide +kernel
theorem dX7_addEnd_41 : decode cX7_addEnd 41 = .ok (.iload_n 1, 1) := by decide +kernel
theorem dX7_addEnd_42 : decode cX7_addEnd 42 = .ok (.aload_n 0, 1) := by decide +kernel
theorem dX7_addEnd_43 : decode cX7_addEnd 43 = .ok (.getfield 36, 3) := by decide +kernel
theorem dX7_addEnd_46 : decode cX7_addEnd 46 = .ok (.if_icmp .ge 13, 3) := by decide +kernel
theorem dX7_addEnd_49 : decode cX7_addEnd 49 = .ok (.aload_n 0, 1) := by decide +kernel
theorem dX7_addEnd_50 : decode cX7_addEnd 50 = .ok (.iload_n 2, 1) := by decide +kernel
theorem dX7_addEnd_51 : decode cX7_addEnd 51 = .ok (.putfield 33, 3) := by decide +kernel
theorem dX7_addEnd_54 : decode cX7_addEnd 54 = .ok (.aload_n 0, 1) := by decide +kernel
theorem dX7_addEnd_55 : decode cX7_addEnd 55 = .ok (.iload_n 1, 1) := by decide +kernel
theorem dX7_addEnd_56 : decode cX7_addEnd 56 = .ok (.putfield 36, 3) := by decide +kernel
theorem dX7_addEnd_59 : decode cX7_addEnd 59 = .ok (.return_, 1) := by decide +kernel
theorem dX8_init_0 : decode cX8_init 0 = .ok (.aload_n 0, 1) := by decide +kernel
theorem dX8_init_1 : decode cX8_init 1 = .ok (.invokespecial 3, 3) := by decide +kernel
theorem dX8_init_4 : decode cX8_init 4 = .ok (.aload_n 0, 1) := by decide +kernel
theorem dX8_init_5 : decode cX8_init 5 = .ok (.bipush 7, 2) := by decide +kernel
theorem dX8_init_7 : decode cX8_init 7 = .ok (.newarray .int, 2) := by decide +kernel
theorem dX8_init_9 : decode cX8_init 9 = .ok (.putfield 9, 3) := by decide +kernel
theorem dX8_init_12 : decode cX8_init 12 = .ok (.aload_n 0, 1) := by decide +kernel
theorem dX8_init_13 : decode cX8_init 13 = .ok (.bipush 49, 2) := by decide +kernel
theorem dX8_init_15 : decode cX8_init 15 = .ok (.newarray .int, 2) := by decide +kernel
theorem dX8_init_17 : decode cX8_init 17 = .ok (.putfield 15, 3) := by decide +kernel
theorem dX8_init_20 : decode cX8_init 20 = .ok (.aload_n 0, 1) := by decide +kernel
theorem dX8_init_21 : decode cX8_init 21 = .ok (.aload_n 1, 1) := by decide +kernel
theorem dX8_init_22 : decode cX8_init 22 = .ok (.putfield 18, 3) := by decide +kernel
theorem dX8_init_25 : decode cX8_init 25 = .ok (.aload_n 0, 1) := by decide +kernel
theorem dX8_init_26 : decode cX8_init 26 = .ok (.iload_n 2, 1) := by decide +kernel
theorem dX8_init_27 : decode cX8_init 27 = .ok (.putfield 22, 3) := by decide +kernel
theorem dX8_init_30 : decode cX8_init 30 = .ok (.return_, 1) := by decide +kernel
theorem dX8_make_0 : decode cX8_make 0 = .ok (.aload_n 0, 1) := by decide +kernel
theorem dX8_make_1 : decode cX8_make 1 = .ok (.iconst 0, 1) := by decide +kernel
theorem dX8_make_2 : decode cX8_make 2 = .ok (.putfield 26, 3) := by decide +kernel
theorem dX8_make_5 : decode cX8_make 5 = .ok (.aload_n 0, 1) := by decide +kernel
theorem dX8_make_6 : decode cX8_make 6 = .ok (.iconst 0, 1) := by decide +kernel
theorem dX8_make_7 : decode cX8_make 7 = .ok (.putfield 29, 3) := by decide +kernel
theorem dX8_make_10 : decode cX8_make 10 = .ok (.aload_n 0, 1) := by decide +kernel
theorem dX8_make_11 : decode cX8_make 11 = .ok (.iconst 0, 1) := by decide +kernel
theorem dX8_make_12 : decode cX8_make 12 = .ok (.putfield 32, 3) := by decide +kernel
theorem dX8_make_15 : decode cX8_make 15 = .ok (.iconst 0, 1) := by decide +kernel
theorem dX8_make_16 : decode cX8_make 16 = .ok (.istore_n 1, 1) := by decide +kernel
theorem dX8_make_17 : decode cX8_make 17 = .ok (.iload_n 1, 1) := by decide +kernel
theorem dX8_make_18 : decode cX8_make 18 = .ok (.aload_n 0, 1) := by decide +kernel
theorem dX8_make_19 : decode cX8_make 19 = .ok (.getfield 15, 3) := by decide +kernel
theorem dX8_make_22 : decode cX8_make 22 = .ok (.arraylength, 1) := by decide +kernel
theorem dX8_make_23 : decode cX8_make 23 = .ok (.if_icmp .ge 16, 3) := by decide +kernel
theorem dX8_make_26 : decode cX8_make 26 = .ok (.aload_n 0, 1) := by decide +kernel
theorem dX8_make_27 : decode cX8_make 27 = .ok (.getfield 15, 3) := by decide +kernel
theorem dX8_make_30 : decode cX8_make 30 = .ok (.iload_n 1, 1) := by decide +kernel
theorem dX8_make_31 : decode cX8_make 31 = .ok (.iconst 0, 1) := by decide +kernel
theorem dX8_make_32 : decode cX8_make 32 = .ok (.iastore, 1) := by decide +kernel
theorem dX8_make_33 : decode cX8_make 33 = .ok (.iinc 1 1, 3) := by decide +kernel
theorem dX8_make_36 : decode cX8_make 36 = .ok (.goto (-19), 3) := by decide +kernel
theorem dX8_make_39 : decode cX8_make 39 = .ok (.aload_n 0, 1) := by decide +kernel
theorem dX8_make_40 : decode cX8_make 40 = .ok (.getfield 18, 3) := by decide +kernel
theorem dX8_make_43 : decode cX8_make 43 = .ok (.getfield 35, 3) := by decide +kernel
theorem dX8_make_46 : decode cX8_make 46 = .ok (.getfield 41, 3) := by decide +kernel
theorem dX8_make_49 : decode cX8_make 49 = .ok (.istore_n 1, 1) := by decide +kernel
theorem dX8_make_50 : decode cX8_make 50 = .ok (.iconst 0, 1) := by decide +kernel
theorem dX8_make_51 : decode cX8_make 51 = .ok (.istore_n 2, 1) := by decide +kernel
theorem dX8_make_52 : decode cX8_make 52 = .ok (.iload_n 2, 1) := by decide +kernel
theorem dX8_make_53 : decode cX8_make 53 = .ok (.getstatic 46, 3) := by decide +kernel
theorem dX8_make_56 : decode cX8_make 56 = .ok (.iload_n 1, 1) := by decide +kernel
theorem dX8_make_57 : decode cX8_make 57 = .ok (.iaload, 1) := by decide +kernel
theorem dX8_make_58 : decode cX8_make 58 = .ok (.if_icmp .ge 53, 3) := by decide +kernel
theorem dX8_make_61 : decode cX8_make 61 = .ok (.aload_n 0, 1) := by decide +kernel
theorem dX8_make_62 : decode cX8_make 62 = .ok (.getfield 9, 3) := by decide +kernel
theorem dX8_make_65 : decode cX8_make 65 = .ok (.iload_n 1, 1) := by decide +kernel
theorem dX8_make_66 : decode cX8_make 66 = .ok (.iload_n 2, 1) := by decide +kernel
theorem dX8_make_67 : decode cX8_make 67 = .ok (.invokestatic 49, 3) := by decide +kernel
theorem dX8_make_70 : decode cX8_make 70 = .ok (.aload_n 0, 1) := by decide +kernel
theorem dX8_make_71 : decode cX8_make 71 = .ok (.getfield 18, 3) := by decide +kernel
theorem dX8_make_74 : decode cX8_make 74 = .ok (.aload_n 0, 1) := by decide +kernel
theorem dX8_make_75 : decode cX8_make 75 = .ok (.getfield 9, 3) := by decide +kernel
theorem dX8_make_78 : decode cX8_make 78 = .ok (.invokevirtual 55, 3) := by decide +kernel
theorem dX8_make_81 : decode cX8_make 81 = .ok (.ifCond .eq 24, 3) := by decide +kernel
theorem dX8_make_84 : decode cX8_make 84 = .ok (.aload_n 0, 1) := by decide +kernel
theorem dX8_make_85 : decode cX8_make 85 = .ok (.getfield 18, 3) := by decide +kernel
theorem dX8_make_88 : decode cX8_make 88 = .ok (.aload_n 0, 1) := by decide +kernel
theorem dX8_make_89 : decode cX8_make 89 = .ok (.getfield 9, 3) := by decide +kernel
theorem dX8_make_92 : decode cX8_make 92 = .ok (.aload_n 0, 1) := by decide +kernel
theorem dX8_make_93 : decode cX8_make 93 = .ok (.getfield 22, 3) := by decide +kernel
theorem dX8_make_96 : decode cX8_make 96 = .ok (.invokevirtual 59, 3) := by decide +kernel
theorem dX8_make_99 : decode cX8_make 99 = .ok (.pop, 1) := by decide +kernel
theorem dX8_make_100 : decode cX8_make 100 = .ok (.aload_n 0, 1) := by decide +kernel
theorem dX8_make_101 : decode cX8_make 101 = .ok (.iload_n 1, 1) := by decide +kernel
theorem dX8_make_102 : decode cX8_make 102 = .ok (.invokevirtual 63, 3) := by decide +kernel
theorem dX8_make_105 : decode cX8_make 105 = .ok (.iinc 2 1, 3) := by decide +kernel
theorem dX8_make_108 : decode cX8_make 108 = .ok (.goto (-56), 3) := by decide +kernel
theorem dX8_make_111 : decode cX8_make 111 = .ok (.aload_n 0, 1) := by decide +kernel
theorem dX8_make_112 : decode cX8_make 112 = .ok (.iconst 1, 1) := by decide +kernel
theorem dX8_make_113 : decode cX8_make 113 = .ok (.putfield 67, 3) := by decide +kernel
theorem dX8_make_116 : decode cX8_make 116 = .ok (.return_, 1) := by decide +kernel
theorem dX8_addRow_0 : decode cX8_addRow 0 = .ok (.aload_n 0, 1) := by decide +kernel
theorem dX8_addRow_1 : decode cX8_addRow 1 = .ok (.dup, 1) := by decide +kernel
theorem dX8_addRow_2 : decode cX8_addRow 2 = .ok (.getfield 26, 3) := by decide +kernel
theorem dX8_addRow_5 : decode cX8_addRow 5 = .ok (.iconst 1, 1) := by decide +kernel
theorem dX8_addRow_6 : decode cX8_addRow 6 = .ok (.iadd, 1) := by decide +kernel
theorem dX8_addRow_7 : decode cX8_addRow 7 = .ok (.putfield 26, 3) := by decide +kernel
theorem dX8_addRow_10 : decode cX8_addRow 10 = .ok (.aload_n 0, 1) := by decide +kernel
theorem dX8_addRow_11 : decode cX8_addRow 11 = .ok (.dup, 1) := by decide +kernel
theorem dX8_addRow_12 : decode cX8_addRow 12 = .ok (.getfield 29, 3) := by decide +kernel
theorem dX8_addRow_15 : decode cX8_addRow 15 = .ok (.aload_n 0, 1) := by decide +kernel
theorem dX8_addRow_16 : decode cX8_addRow 16 = .ok (.getfield 18, 3) := by decide +kernel
theorem dX8_addRow_19 : decode cX8_addRow 19 = .ok (.getfield 35, 3) := by decide +kernel
theorem dX8_addRow_22 : decode cX8_addRow 22 = .ok (.aload_n 0, 1) := by decide +kernel
theorem dX8_addRow_23 : decode cX8_addRow 23 = .ok (.getfield 9, 3) := by decide +kernel
theorem dX8_addRow_26 : decode cX8_addRow 26 = .ok (.invokevirtual 71, 3) := by decide +kernel
theorem dX8_addRow_29 : decode cX8_addRow 29 = .ok (.iadd, 1) := by decide +kernel
theorem dX8_addRow_30 : decode cX8_addRow 30 = .ok (.putfield 29, 3) := by decide +kernel
theorem dX8_addRow_33 : decode cX8_addRow 33 = .ok (.aload_n 0, 1) := by decide +kernel
theorem dX8_addRow_34 : decode cX8_addRow 34 = .ok (.dup, 1) := by decide +kernel
theorem dX8_addRow_35 : decode cX8_addRow 35 = .ok (.getfield 32, 3) := by decide +kernel
theorem dX8_addRow_38 : decode cX8_addRow 38 = .ok (.aload_n 0, 1) := by decide +kernel
theorem dX8_addRow_39 : decode cX8_addRow 39 = .ok (.getfield 18, 3) := by decide +kernel
theorem dX8_addRow_42 : decode cX8_addRow 42 = .ok (.getfield 35, 3) := by decide +kernel
theorem dX8_addRow_45 : decode cX8_addRow 45 = .ok (.aload_n 0, 1) := by decide +kernel
theorem dX8_addRow_46 : decode cX8_addRow 46 = .ok (.getfield 9, 3) := by decide +kernel
theorem dX8_addRow_49 : decode cX8_addRow 49 = .ok (.invokevirtual 75, 3) := by decide +kernel
theorem dX8_addRow_52 : decode cX8_addRow 52 = .ok (.iadd, 1) := by decide +kernel
theorem dX8_addRow_53 : decode cX8_addRow 53 = .ok (.putfield 32, 3) := by decide +kernel
theorem dX8_addRow_56 : decode cX8_addRow 56 = .ok (.iconst 0, 1) := by decide +kernel
theorem dX8_addRow_57 : decode cX8_addRow 57 = .ok (.istore_n 2, 1) := by decide +kernel
theorem dX8_addRow_58 : decode cX8_addRow 58 = .ok (.iload_n 2, 1) := by decide +kernel
theorem dX8_addRow_59 : decode cX8_addRow 59 = .ok (.iload_n 1, 1) := by decide +kernel
theorem dX8_addRow_60 : decode cX8_addRow 60 = .ok (.if_icmp .ge 28, 3) := by decide +kernel
theorem dX8_addRow_63 : decode cX8_addRow 63 = .ok (.aload_n 0, 1) := by decide +kernel
theorem dX8_addRow_64 : decode cX8_addRow 64 = .ok (.getfield 15, 3) := by decide +kernel
theorem dX8_addRow_67 : decode cX8_addRow 67 = .ok (.iload_n 2, 1) := by decide +kernel
theorem dX8_addRow_68 : decode cX8_addRow 68 = .ok (.aload_n 0, 1) := by decide +kernel
theorem dX8_addRow_69 : decode cX8_addRow 69 = .ok (.getfield 9, 3) := by decide +kernel
theorem dX8_addRow_72 : decode cX8_addRow 72 = .ok (.iload_n 2, 1) := by decide +kernel
theorem dX8_addRow_73 : decode cX8_addRow 73 = .ok (.iaload, 1) := by decide +kernel
theorem dX8_addRow_74 : decode cX8_addRow 74 = .ok (.invokestatic 78, 3) := by decide +kernel
theorem dX8_addRow_77 : decode cX8_addRow 77 = .ok (.dup2, 1) := by decide +kernel
theorem dX8_addRow_78 : decode cX8_addRow 78 = .ok (.iaload, 1) := by decide +kernel
theorem dX8_addRow_79 : decode cX8_addRow 79 = .ok (.iconst 1, 1) := by decide +kernel
theorem dX8_addRow_80 : decode cX8_addRow 80 = .ok (.iadd, 1) := by decide +kernel
theorem dX8_addRow_81 : decode cX8_addRow 81 = .ok (.iastore, 1) := by decide +kernel
theorem dX8_addRow_82 : decode cX8_addRow 82 = .ok (.iinc 2 1, 3) := by decide +kernel
theorem dX8_addRow_85 : decode cX8_addRow 85 = .ok (.goto (-27), 3) := by decide +kernel
theorem dX8_addRow_88 : decode cX8_addRow 88 = .ok (.return_, 1) := by decide +kernel
theorem dX9_init_0 : decode cX9_init 0 = .ok (.aload_n 0, 1) := by decide +kernel
theorem dX9_init_1 : decode cX9_init 1 = .ok (.invokespecial 1, 3) := by decide +kernel
theorem dX9_init_4 : decode cX9_init 4 = .ok (.aload_n 0, 1) := by decide +kernel
theorem dX9_init_5 : decode cX9_init 5 = .ok (.new 7, 3) := by decide +kernel
theorem dX9_init_8 : decode cX9_init 8 = .ok (.dup, 1) := by decide +kernel
theorem dX9_init_9 : decode cX9_init 9 = .ok (.invokespecial 9, 3) := by decide +kernel
theorem dX9_init_12 : decode cX9_init 12 = .ok (.putfield 10, 3) := by decide +kernel
theorem dX9_init_15 : decode cX9_init 15 = .ok (.aload_n 0, 1) := by decide +kernel
theorem dX9_init_16 : decode cX9_init 16 = .ok (.new 16, 3) := by decide +kernel
theorem dX9_init_19 : decode cX9_init 19 = .ok (.dup, 1) := by decide +kernel
theorem dX9_init_20 : decode cX9_init 20 = .ok (.invokespecial 18, 3) := by decide +kernel
theorem dX9_init_23 : decode cX9_init 23 = .ok (.putfield 19, 3) := by decide +kernel
theorem dX9_init_26 : decode cX9_init 26 = .ok (.aload_n 0, 1) := by decide +kernel
theorem dX9_init_27 : decode cX9_init 27 = .ok (.new 23, 3) := by decide +kernel
theorem dX9_init_30 : decode cX9_init 30 = .ok (.dup, 1) := by decide +kernel
theorem dX9_init_31 : decode cX9_init 31 = .ok (.invokespecial 25, 3) := by decide +kernel
theorem dX9_init_34 : decode cX9_init 34 = .ok (.putfield 26, 3) := by decide +kernel
theorem dX9_init_37 : decode cX9_init 37 = .ok (.aload_n 0, 1) := by decide +kernel
theorem dX9_init_38 : decode cX9_init 38 = .ok (.iconst 2, 1) := by decide +kernel
theorem dX9_init_39 : decode cX9_init 39 = .ok (.anewarray 23, 3) := by decide +kernel
theorem dX9_init_42 : decode cX9_init 42 = .ok (.dup, 1) := by decide +kernel
theorem dX9_init_43 : decode cX9_init 43 = .ok (.iconst 0, 1) := by decide +kernel
theorem dX9_init_44 : decode cX9_init 44 = .ok (.new 23, 3) := by decide +kernel
theorem dX9_init_47 : decode cX9_init 47 = .ok (.dup, 1) := by decide +kernel
theorem dX9_init_48 : decode cX9_init 48 = .ok (.invokespecial 25, 3) := by decide +kernel
theorem dX9_init_51 : decode cX9_init 51 = .ok (.aastore, 1) := by decide +kernel
theorem dX9_init_52 : decode cX9_init 52 = .ok (.dup, 1) := by decide +kernel
theorem dX9_init_53 : decode cX9_init 53 = .ok (.iconst 1, 1) := by decide +kernel
theorem dX9_init_54 : decode cX9_init 54 = .ok (.new 23, 3) := by decide +kernel
theorem dX9_init_57 : decode cX9_init 57 = .ok (.dup, 1) := by decide +kernel
theorem dX9_init_58 : decode cX9_init 58 = .ok (.invokespecial 25, 3) := by decide +kernel
theorem dX9_init_61 : decode cX9_init 61 = .ok (.aastore, 1) := by decide +kernel
theorem dX9_init_62 : decode cX9_init 62 = .ok (.putfield 30, 3) := by decide +kernel
theorem dX9_init_65 : decode cX9_init 65 = .ok (.aload_n 0, 1) := by decide +kernel
theorem dX9_init_66 : decode cX9_init 66 = .ok (.iconst 2, 1) := by decide +kernel
theorem dX9_init_67 : decode cX9_init 67 = .ok (.newarray .boolean, 2) := by decide +kernel
theorem dX9_init_69 : decode cX9_init 69 = .ok (.putfield 34, 3) := by decide +kernel
theorem dX9_init_72 : decode cX9_init 72 = .ok (.aload_n 0, 1) := by decide +kernel
theorem dX9_init_73 : decode cX9_init 73 = .ok (.new 38, 3) := by decide +kernel
theorem dX9_init_76 : decode cX9_init 76 = .ok (.dup, 1) := by decide +kernel
theorem dX9_init_77 : decode cX9_init 77 = .ok (.aload_n 0, 1) := by decide +kernel
theorem dX9_init_78 : decode cX9_init 78 = .ok (.getfield 19, 3) := by decide +kernel
theorem dX9_init_81 : decode cX9_init 81 = .ok (.invokespecial 40, 3) := by decide +kernel
theorem dX9_init_84 : decode cX9_init 84 = .ok (.putfield 43, 3) := by decide +kernel
theorem dX9_init_87 : decode cX9_init 87 = .ok (.aload_n 0, 1) := by decide +kernel
theorem dX9_init_88 : decode cX9_init 88 = .ok (.iconst 3, 1) := by decide +kernel
theorem dX9_init_89 : decode cX9_init 89 = .ok (.anewarray 47, 3) := by decide +kernel
theorem dX9_init_92 : decode cX9_init 92 = .ok (.dup, 1) := by decide +kernel
theorem dX9_init_93 : decode cX9_init 93 = .ok (.iconst 0, 1) := by decide +kernel
theorem dX9_init_94 : decode cX9_init 94 = .ok (.new 47, 3) := by decide +kernel
theorem dX9_init_97 : decode cX9_init 97 = .ok (.dup, 1) := by decide +kernel
theorem dX9_init_98 : decode cX9_init 98 = .ok (.aload_n 0, 1) := by decide +kernel
theorem dX9_init_99 : decode cX9_init 99 = .ok (.getfield 43, 3) := by decide +kernel
theorem dX9_init_102 : decode cX9_init 102 = .ok (.iconst 0, 1) := by decide +kernel
theorem dX9_init_103 : decode cX9_init 103 = .ok (.invokespecial 49, 3) := by decide +kernel
theorem dX9_init_106 : decode cX9_init 106 = .ok (.aastore, 1) := by decide +kernel
theorem dX9_init_107 : decode cX9_init 107 = .ok (.dup, 1) := by decide +kernel
theorem dX9_init_108 : decode cX9_init 108 = .ok (.iconst 1, 1) := by decide +kernel
theorem dX9_init_109 : decode cX9_init 109 = .ok (.new 47, 3) := by decide +kernel
theorem dX9_init_112 : decode cX9_init 112 = .ok (.dup, 1) := by decide +kernel
theorem dX9_init_113 : decode cX9_init 113 = .ok (.aload_n 0, 1) := by decide +kernel
theorem dX9_init_114 : decode cX9_init 114 = .ok (.getfield 43, 3) := by decide +kernel
theorem dX9_init_117 : decode cX9_init 117 = .ok (.iconst 2, 1) := by decide +kernel
theorem dX9_init_118 : decode cX9_init 118 = .ok (.invokespecial 49, 3) := by decide +kernel
theorem dX9_init_121 : decode cX9_init 121 = .ok (.aastore, 1) := by decide +kernel
theorem dX9_init_122 : decode cX9_init 122 = .ok (.dup, 1) := by decide +kernel
theorem dX9_init_123 : decode cX9_init 123 = .ok (.iconst 2, 1) := by decide +kernel
theorem dX9_init_124 : decode cX9_init 124 = .ok (.new 47, 3) := by decide +kernel
theorem dX9_init_127 : decode cX9_init 127 = .ok (.dup, 1) := by decide +kernel
theorem dX9_init_128 : decode cX9_init 128 = .ok (.aload_n 0, 1) := by decide +kernel
theorem dX9_init_129 : decode cX9_init 129 = .ok (.getfield 43, 3) := by decide +kernel
theorem dX9_init_132 : decode cX9_init 132 = .ok (.iconst 3, 1) := by decide +kernel
theorem dX9_init_133 : decode cX9_init 133 = .ok (.invokespecial 49, 3) := by decide +kernel
theorem dX9_init_136 : decode cX9_init 136 = .ok (.aastore, 1) := by decide +kernel
theorem dX9_init_137 : decode cX9_init 137 = .ok (.putfield 52, 3) := by decide +kernel
theorem dX9_init_140 : decode cX9_init 140 = .ok (.aload_n 0, 1) := by decide +kernel
theorem dX9_init_141 : decode cX9_init 141 = .ok (.new 56, 3) := by decide +kernel
theorem dX9_init_144 : decode cX9_init 144 = .ok (.dup, 1) := by decide +kernel
theorem dX9_init_145 : decode cX9_init 145 = .ok (.aload_n 0, 1) := by decide +kernel
theorem dX9_init_146 : decode cX9_init 146 = .ok (.getfield 43, 3) := by decide +kernel
theorem dX9_init_149 : decode cX9_init 149 = .ok (.invokespecial 58, 3) := by decide +kernel
theorem dX9_init_152 : decode cX9_init 152 = .ok (.putfield 61, 3) := by decide +kernel
theorem dX9_init_155 : decode cX9_init 155 = .ok (.aload_n 0, 1) := by decide +kernel
theorem dX9_init_156 : decode cX9_init 156 = .ok (.new 65, 3) := by decide +kernel
theorem dX9_init_159 : decode cX9_init 159 = .ok (.dup, 1) := by decide +kernel
theorem dX9_init_160 : decode cX9_init 160 = .ok (.aload_n 0, 1) := by decide +kernel
theorem dX9_init_161 : decode cX9_init 161 = .ok (.getfield 19, 3) := by decide +kernel
theorem dX9_init_164 : decode cX9_init 164 = .ok (.invokespecial 67, 3) := by decide +kernel
end
section
theorem dX9_init_167 : decode cX9_init 167 = .ok (.putfield 68, 3) := by decide +kernel
theorem dX9_init_170 : decode cX9_init 170 = .ok (.aload_n 0, 1) := by decide +kernel
theorem dX9_init_171 : decode cX9_init 171 = .ok (.bipush 7, 2) := by decide +kernel
theorem dX9_init_173 : decode cX9_init 173 = .ok (.newarray .int, 2) := by decide +kernel
theorem dX9_init_175 : decode cX9_init 175 = .ok (.putfield 72, 3) := by decide +kernel
theorem dX9_init_178 : decode cX9_init 178 = .ok (.aload_n 0, 1) := by decide +kernel
theorem dX9_init_179 : decode cX9_init 179 = .ok (.getfield 19, 3) := by decide +kernel
theorem dX9_init_182 : decode cX9_init 182 = .ok (.iconst 4, 1) := by decide +kernel
theorem dX9_init_183 : decode cX9_init 183 = .ok (.invokevirtual 76, 3) := by decide +kernel
theorem dX9_init_186 : decode cX9_init 186 = .ok (.aload_n 0, 1) := by decide +kernel
theorem dX9_init_187 : decode cX9_init 187 = .ok (.getfield 26, 3) := by decide +kernel
theorem dX9_init_190 : decode cX9_init 190 = .ok (.aload_n 0, 1) := by decide +kernel
theorem dX9_init_191 : decode cX9_init 191 = .ok (.getfield 19, 3) := by decide +kernel
theorem dX9_init_194 : decode cX9_init 194 = .ok (.getfield 80, 3) := by decide +kernel
theorem dX9_init_197 : decode cX9_init 197 = .ok (.invokevirtual 83, 3) := by decide +kernel
theorem dX9_init_200 : decode cX9_init 200 = .ok (.aload_n 0, 1) := by decide +kernel
theorem dX9_init_201 : decode cX9_init 201 = .ok (.getfield 43, 3) := by decide +kernel
theorem dX9_init_204 : decode cX9_init 204 = .ok (.aload_n 0, 1) := by decide +kernel
theorem dX9_init_205 : decode cX9_init 205 = .ok (.getfield 26, 3) := by decide +kernel
theorem dX9_init_208 : decode cX9_init 208 = .ok (.getfield 87, 3) := by decide +kernel
theorem dX9_init_211 : decode cX9_init 211 = .ok (.invokevirtual 90, 3) := by decide +kernel
theorem dX9_init_214 : decode cX9_init 214 = .ok (.return_, 1) := by decide +kernel
theorem dX9_write_0 : decode cX9_write 0 = .ok (.iload_n 3, 1) := by decide +kernel
theorem dX9_write_1 : decode cX9_write 1 = .ok (.iconst 1, 1) := by decide +kernel
theorem dX9_write_2 : decode cX9_write 2 = .ok (.if_icmp .lt 9, 3) := by decide +kernel
theorem dX9_write_5 : decode cX9_write 5 = .ok (.iload_n 3, 1) := by decide +kernel
theorem dX9_write_6 : decode cX9_write 6 = .ok (.bipush 8, 2) := by decide +kernel
theorem dX9_write_8 : decode cX9_write 8 = .ok (.if_icmp .le 6, 3) := by decide +kernel
theorem dX9_write_11 : decode cX9_write 11 = .ok (.bipush (-3), 2) := by decide +kernel
theorem dX9_write_13 : decode cX9_write 13 = .ok (.ireturn, 1) := by decide +kernel
theorem dX9_write_14 : decode cX9_write 14 = .ok (.aload_n 0, 1) := by decide +kernel
theorem dX9_write_15 : decode cX9_write 15 = .ok (.getfield 10, 3) := by decide +kernel
theorem dX9_write_18 : decode cX9_write 18 = .ok (.getfield 93, 3) := by decide +kernel
theorem dX9_write_21 : decode cX9_write 21 = .ok (.iload_n 3, 1) := by decide +kernel
theorem dX9_write_22 : decode cX9_write 22 = .ok (.iadd, 1) := by decide +kernel
theorem dX9_write_23 : decode cX9_write 23 = .ok (.sipush 200, 3) := by decide +kernel
theorem dX9_write_26 : decode cX9_write 26 = .ok (.if_icmp .le 6, 3) := by decide +kernel
theorem dX9_write_29 : decode cX9_write 29 = .ok (.bipush (-5), 2) := by decide +kernel
theorem dX9_write_31 : decode cX9_write 31 = .ok (.ireturn, 1) := by decide +kernel
theorem dX9_write_32 : decode cX9_write 32 = .ok (.iconst 0, 1) := by decide +kernel
theorem dX9_write_33 : decode cX9_write 33 = .ok (.istore 4, 2) := by decide +kernel
theorem dX9_write_35 : decode cX9_write 35 = .ok (.iload 4, 2) := by decide +kernel
theorem dX9_write_37 : decode cX9_write 37 = .ok (.iload_n 3, 1) := by decide +kernel
theorem dX9_write_38 : decode cX9_write 38 = .ok (.if_icmp .ge 28, 3) := by decide +kernel
theorem dX9_write_41 : decode cX9_write 41 = .ok (.aload_n 0, 1) := by decide +kernel
theorem dX9_write_42 : decode cX9_write 42 = .ok (.getfield 10, 3) := by decide +kernel
theorem dX9_write_45 : decode cX9_write 45 = .ok (.lload_n 1, 1) := by decide +kernel
theorem dX9_write_46 : decode cX9_write 46 = .ok (.bipush 8, 2) := by decide +kernel
theorem dX9_write_48 : decode cX9_write 48 = .ok (.iload 4, 2) := by decide +kernel
theorem dX9_write_50 : decode cX9_write 50 = .ok (.imul, 1) := by decide +kernel
theorem dX9_write_51 : decode cX9_write 51 = .ok (.lshr, 1) := by decide +kernel
theorem dX9_write_52 : decode cX9_write 52 = .ok (.ldc2_w 97, 3) := by decide +kernel
theorem dX9_write_55 : decode cX9_write 55 = .ok (.land, 1) := by decide +kernel
theorem dX9_write_56 : decode cX9_write 56 = .ok (.l2i, 1) := by decide +kernel
theorem dX9_write_57 : decode cX9_write 57 = .ok (.invokevirtual 99, 3) := by decide +kernel
theorem dX9_write_60 : decode cX9_write 60 = .ok (.iinc 4 1, 3) := by decide +kernel
theorem dX9_write_63 : decode cX9_write 63 = .ok (.goto (-28), 3) := by decide +kernel
theorem dX9_write_66 : decode cX9_write 66 = .ok (.aload_n 0, 1) := by decide +kernel
theorem dX9_write_67 : decode cX9_write 67 = .ok (.getfield 10, 3) := by decide +kernel
theorem dX9_write_70 : decode cX9_write 70 = .ok (.getfield 93, 3) := by decide +kernel
theorem dX9_write_73 : decode cX9_write 73 = .ok (.ireturn, 1) := by decide +kernel
theorem dX9_erase_0 : decode cX9_erase 0 = .ok (.aload_n 0, 1) := by decide +kernel
theorem dX9_erase_1 : decode cX9_erase 1 = .ok (.getfield 10, 3) := by decide +kernel
theorem dX9_erase_4 : decode cX9_erase 4 = .ok (.getfield 93, 3) := by decide +kernel
theorem dX9_erase_7 : decode cX9_erase 7 = .ok (.istore_n 1, 1) := by decide +kernel
theorem dX9_erase_8 : decode cX9_erase 8 = .ok (.aload_n 0, 1) := by decide +kernel
theorem dX9_erase_9 : decode cX9_erase 9 = .ok (.getfield 10, 3) := by decide +kernel
theorem dX9_erase_12 : decode cX9_erase 12 = .ok (.iconst 0, 1) := by decide +kernel
theorem dX9_erase_13 : decode cX9_erase 13 = .ok (.putfield 93, 3) := by decide +kernel
theorem dX9_erase_16 : decode cX9_erase 16 = .ok (.iload_n 1, 1) := by decide +kernel
theorem dX9_erase_17 : decode cX9_erase 17 = .ok (.ireturn, 1) := by decide +kernel
theorem dX9_fault_0 : decode cX9_fault 0 = .ok (.aload_n 0, 1) := by decide +kernel
theorem dX9_fault_1 : decode cX9_fault 1 = .ok (.getfield 10, 3) := by decide +kernel
theorem dX9_fault_4 : decode cX9_fault 4 = .ok (.aload_n 0, 1) := by decide +kernel
theorem dX9_fault_5 : decode cX9_fault 5 = .ok (.getfield 19, 3) := by decide +kernel
theorem dX9_fault_8 : decode cX9_fault 8 = .ok (.getfield 102, 3) := by decide +kernel
theorem dX9_fault_11 : decode cX9_fault 11 = .ok (.invokevirtual 105, 3) := by decide +kernel
theorem dX9_fault_14 : decode cX9_fault 14 = .ok (.ireturn, 1) := by decide +kernel
theorem dX9_hall_0 : decode cX9_hall 0 = .ok (.aload_n 0, 1) := by decide +kernel
theorem dX9_hall_1 : decode cX9_hall 1 = .ok (.getfield 10, 3) := by decide +kernel
theorem dX9_hall_4 : decode cX9_hall 4 = .ok (.aload_n 0, 1) := by decide +kernel
theorem dX9_hall_5 : decode cX9_hall 5 = .ok (.getfield 19, 3) := by decide +kernel
theorem dX9_hall_8 : decode cX9_hall 8 = .ok (.getfield 102, 3) := by decide +kernel
theorem dX9_hall_11 : decode cX9_hall 11 = .ok (.invokevirtual 105, 3) := by decide +kernel
theorem dX9_hall_14 : decode cX9_hall 14 = .ok (.iconst (-1), 1) := by decide +kernel
theorem dX9_hall_15 : decode cX9_hall 15 = .ok (.if_icmp .eq 6, 3) := by decide +kernel
theorem dX9_hall_18 : decode cX9_hall 18 = .ok (.bipush (-4), 2) := by decide +kernel
theorem dX9_hall_20 : decode cX9_hall 20 = .ok (.ireturn, 1) := by decide +kernel
theorem dX9_hall_21 : decode cX9_hall 21 = .ok (.iconst 0, 1) := by decide +kernel
theorem dX9_hall_22 : decode cX9_hall 22 = .ok (.istore_n 1, 1) := by decide +kernel
theorem dX9_hall_23 : decode cX9_hall 23 = .ok (.iload_n 1, 1) := by decide +kernel
theorem dX9_hall_24 : decode cX9_hall 24 = .ok (.aload_n 0, 1) := by decide +kernel
theorem dX9_hall_25 : decode cX9_hall 25 = .ok (.getfield 10, 3) := by decide +kernel
theorem dX9_hall_28 : decode cX9_hall 28 = .ok (.getfield 109, 3) := by decide +kernel
theorem dX9_hall_31 : decode cX9_hall 31 = .ok (.if_icmp .ge 26, 3) := by decide +kernel
theorem dX9_hall_34 : decode cX9_hall 34 = .ok (.aload_n 0, 1) := by decide +kernel
theorem dX9_hall_35 : decode cX9_hall 35 = .ok (.getfield 19, 3) := by decide +kernel
theorem dX9_hall_38 : decode cX9_hall 38 = .ok (.aload_n 0, 1) := by decide +kernel
theorem dX9_hall_39 : decode cX9_hall 39 = .ok (.getfield 10, 3) := by decide +kernel
theorem dX9_hall_42 : decode cX9_hall 42 = .ok (.getfield 112, 3) := by decide +kernel
theorem dX9_hall_45 : decode cX9_hall 45 = .ok (.iload_n 1, 1) := by decide +kernel
theorem dX9_hall_46 : decode cX9_hall 46 = .ok (.iconst 4, 1) := by decide +kernel
theorem dX9_hall_47 : decode cX9_hall 47 = .ok (.imul, 1) := by decide +kernel
theorem dX9_hall_48 : decode cX9_hall 48 = .ok (.invokevirtual 115, 3) := by decide +kernel
theorem dX9_hall_51 : decode cX9_hall 51 = .ok (.iinc 1 1, 3) := by decide +kernel
theorem dX9_hall_54 : decode cX9_hall 54 = .ok (.goto (-31), 3) := by decide +kernel
theorem dX9_hall_57 : decode cX9_hall 57 = .ok (.aload_n 0, 1) := by decide +kernel
theorem dX9_hall_58 : decode cX9_hall 58 = .ok (.getfield 10, 3) := by decide +kernel
theorem dX9_hall_61 : decode cX9_hall 61 = .ok (.iconst 0, 1) := by decide +kernel
theorem dX9_hall_62 : decode cX9_hall 62 = .ok (.putfield 93, 3) := by decide +kernel
theorem dX9_hall_65 : decode cX9_hall 65 = .ok (.aload_n 0, 1) := by decide +kernel
theorem dX9_hall_66 : decode cX9_hall 66 = .ok (.getfield 26, 3) := by decide +kernel
theorem dX9_hall_69 : decode cX9_hall 69 = .ok (.aload_n 0, 1) := by decide +kernel
theorem dX9_hall_70 : decode cX9_hall 70 = .ok (.getfield 19, 3) := by decide +kernel
theorem dX9_hall_73 : decode cX9_hall 73 = .ok (.getfield 80, 3) := by decide +kernel
theorem dX9_hall_76 : decode cX9_hall 76 = .ok (.invokevirtual 83, 3) := by decide +kernel
theorem dX9_hall_79 : decode cX9_hall 79 = .ok (.iconst 0, 1) := by decide +kernel
theorem dX9_hall_80 : decode cX9_hall 80 = .ok (.istore_n 1, 1) := by decide +kernel
theorem dX9_hall_81 : decode cX9_hall 81 = .ok (.iload_n 1, 1) := by decide +kernel
theorem dX9_hall_82 : decode cX9_hall 82 = .ok (.iconst 2, 1) := by decide +kernel
theorem dX9_hall_83 : decode cX9_hall 83 = .ok (.if_icmp .ge 16, 3) := by decide +kernel
theorem dX9_hall_86 : decode cX9_hall 86 = .ok (.aload_n 0, 1) := by decide +kernel
theorem dX9_hall_87 : decode cX9_hall 87 = .ok (.getfield 34, 3) := by decide +kernel
theorem dX9_hall_90 : decode cX9_hall 90 = .ok (.iload_n 1, 1) := by decide +kernel
theorem dX9_hall_91 : decode cX9_hall 91 = .ok (.iconst 0, 1) := by decide +kernel
theorem dX9_hall_92 : decode cX9_hall 92 = .ok (.bastore, 1) := by decide +kernel
theorem dX9_hall_93 : decode cX9_hall 93 = .ok (.iinc 1 1, 3) := by decide +kernel
theorem dX9_hall_96 : decode cX9_hall 96 = .ok (.goto (-15), 3) := by decide +kernel
theorem dX9_hall_99 : decode cX9_hall 99 = .ok (.aload_n 0, 1) := by decide +kernel
theorem dX9_hall_100 : decode cX9_hall 100 = .ok (.invokevirtual 119, 3) := by decide +kernel
theorem dX9_hall_103 : decode cX9_hall 103 = .ok (.aload_n 0, 1) := by decide +kernel
theorem dX9_hall_104 : decode cX9_hall 104 = .ok (.getfield 10, 3) := by decide +kernel
theorem dX9_hall_107 : decode cX9_hall 107 = .ok (.getfield 109, 3) := by decide +kernel
theorem dX9_hall_110 : decode cX9_hall 110 = .ok (.ireturn, 1) := by decide +kernel
theorem dX9_monk_0 : decode cX9_monk 0 = .ok (.aload_n 0, 1) := by decide +kernel
theorem dX9_monk_1 : decode cX9_monk 1 = .ok (.iload_n 1, 1) := by decide +kernel
theorem dX9_monk_2 : decode cX9_monk 2 = .ok (.invokevirtual 122, 3) := by decide +kernel
theorem dX9_monk_5 : decode cX9_monk 5 = .ok (.ifCond .eq 11, 3) := by decide +kernel
theorem dX9_monk_8 : decode cX9_monk 8 = .ok (.aload_n 0, 1) := by decide +kernel
theorem dX9_monk_9 : decode cX9_monk 9 = .ok (.iload_n 2, 1) := by decide +kernel
theorem dX9_monk_10 : decode cX9_monk 10 = .ok (.invokevirtual 122, 3) := by decide +kernel
theorem dX9_monk_13 : decode cX9_monk 13 = .ok (.ifCond .ne 6, 3) := by decide +kernel
theorem dX9_monk_16 : decode cX9_monk 16 = .ok (.bipush (-2), 2) := by decide +kernel
theorem dX9_monk_18 : decode cX9_monk 18 = .ok (.ireturn, 1) := by decide +kernel
theorem dX9_monk_19 : decode cX9_monk 19 = .ok (.iload_n 3, 1) := by decide +kernel
theorem dX9_monk_20 : decode cX9_monk 20 = .ok (.tableswitch 66 0 2 #[28, 38, 48], 28) := by decide +kernel
theorem dX9_monk_48 : decode cX9_monk 48 = .ok (.aload_n 0, 1) := by decide +kernel
theorem dX9_monk_49 : decode cX9_monk 49 = .ok (.getfield 19, 3) := by decide +kernel
theorem dX9_monk_52 : decode cX9_monk 52 = .ok (.iload_n 1, 1) := by decide +kernel
theorem dX9_monk_53 : decode cX9_monk 53 = .ok (.iload_n 2, 1) := by decide +kernel
theorem dX9_monk_54 : decode cX9_monk 54 = .ok (.invokevirtual 126, 3) := by decide +kernel
theorem dX9_monk_57 : decode cX9_monk 57 = .ok (.ireturn, 1) := by decide +kernel
theorem dX9_monk_58 : decode cX9_monk 58 = .ok (.aload_n 0, 1) := by decide +kernel
theorem dX9_monk_59 : decode cX9_monk 59 = .ok (.getfield 19, 3) := by decide +kernel
theorem dX9_monk_62 : decode cX9_monk 62 = .ok (.iload_n 1, 1) := by decide +kernel
theorem dX9_monk_63 : decode cX9_monk 63 = .ok (.iload_n 2, 1) := by decide +kernel
theorem dX9_monk_64 : decode cX9_monk 64 = .ok (.invokevirtual 130, 3) := by decide +kernel
theorem dX9_monk_67 : decode cX9_monk 67 = .ok (.ireturn, 1) := by decide +kernel
theorem dX9_monk_68 : decode cX9_monk 68 = .ok (.aload_n 0, 1) := by decide +kernel
theorem dX9_monk_69 : decode cX9_monk 69 = .ok (.getfield 43, 3) := by decide +kernel
theorem dX9_monk_72 : decode cX9_monk 72 = .ok (.iload_n 1, 1) := by decide +kernel
theorem dX9_monk_73 : decode cX9_monk 73 = .ok (.iload_n 2, 1) := by decide +kernel
theorem dX9_monk_74 : decode cX9_monk 74 = .ok (.invokevirtual 133, 3) := by decide +kernel
theorem dX9_monk_77 : decode cX9_monk 77 = .ok (.ifCond .eq 7, 3) := by decide +kernel
theorem dX9_monk_80 : decode cX9_monk 80 = .ok (.iconst 1, 1) := by decide +kernel
theorem dX9_monk_81 : decode cX9_monk 81 = .ok (.goto 4, 3) := by decide +kernel
theorem dX9_monk_84 : decode cX9_monk 84 = .ok (.iconst 0, 1) := by decide +kernel
theorem dX9_monk_85 : decode cX9_monk 85 = .ok (.ireturn, 1) := by decide +kernel
theorem dX9_monk_86 : decode cX9_monk 86 = .ok (.bipush (-3), 2) := by decide +kernel
theorem dX9_monk_88 : decode cX9_monk 88 = .ok (.ireturn, 1) := by decide +kernel
theorem dX9_as_0 : decode cX9_as 0 = .ok (.aload_n 0, 1) := by decide +kernel
theorem dX9_as_1 : decode cX9_as 1 = .ok (.iload_n 1, 1) := by decide +kernel
theorem dX9_as_2 : decode cX9_as 2 = .ok (.invokevirtual 122, 3) := by decide +kernel
theorem dX9_as_5 : decode cX9_as 5 = .ok (.ifCond .ne 6, 3) := by decide +kernel
theorem dX9_as_8 : decode cX9_as 8 = .ok (.bipush (-2), 2) := by decide +kernel
theorem dX9_as_10 : decode cX9_as 10 = .ok (.ireturn, 1) := by decide +kernel
theorem dX9_as_11 : decode cX9_as 11 = .ok (.iload_n 2, 1) := by decide +kernel
theorem dX9_as_12 : decode cX9_as 12 = .ok (.ifCond .lt 8, 3) := by decide +kernel
theorem dX9_as_15 : decode cX9_as 15 = .ok (.iload_n 2, 1) := by decide +kernel
theorem dX9_as_16 : decode cX9_as 16 = .ok (.iconst 5, 1) := by decide +kernel
theorem dX9_as_17 : decode cX9_as 17 = .ok (.if_icmp .lt 6, 3) := by decide +kernel
theorem dX9_as_20 : decode cX9_as 20 = .ok (.bipush (-3), 2) := by decide +kernel
theorem dX9_as_22 : decode cX9_as 22 = .ok (.ireturn, 1) := by decide +kernel
theorem dX9_as_23 : decode cX9_as 23 = .ok (.aload_n 0, 1) := by decide +kernel
theorem dX9_as_24 : decode cX9_as 24 = .ok (.getfield 19, 3) := by decide +kernel
theorem dX9_as_27 : decode cX9_as 27 = .ok (.iload_n 1, 1) := by decide +kernel
theorem dX9_as_28 : decode cX9_as 28 = .ok (.iload_n 2, 1) := by decide +kernel
theorem dX9_as_29 : decode cX9_as 29 = .ok (.invokevirtual 137, 3) := by decide +kernel
theorem dX9_as_32 : decode cX9_as 32 = .ok (.ifCond .ne 6, 3) := by decide +kernel
theorem dX9_as_35 : decode cX9_as 35 = .ok (.bipush (-4), 2) := by decide +kernel
theorem dX9_as_37 : decode cX9_as 37 = .ok (.ireturn, 1) := by decide +kernel
theorem dX9_as_38 : decode cX9_as 38 = .ok (.iconst 0, 1) := by decide +kernel
theorem dX9_as_39 : decode cX9_as 39 = .ok (.istore_n 3, 1) := by decide +kernel
theorem dX9_as_40 : decode cX9_as 40 = .ok (.iconst 0, 1) := by decide +kernel
theorem dX9_as_41 : decode cX9_as 41 = .ok (.istore 4, 2) := by decide +kernel
theorem dX9_as_43 : decode cX9_as 43 = .ok (.iload 4, 2) := by decide +kernel
theorem dX9_as_45 : decode cX9_as 45 = .ok (.aload_n 0, 1) := by decide +kernel
theorem dX9_as_46 : decode cX9_as 46 = .ok (.getfield 19, 3) := by decide +kernel
theorem dX9_as_49 : decode cX9_as 49 = .ok (.getfield 102, 3) := by decide +kernel
theorem dX9_as_52 : decode cX9_as 52 = .ok (.if_icmp .ge 25, 3) := by decide +kernel
theorem dX9_as_55 : decode cX9_as 55 = .ok (.aload_n 0, 1) := by decide +kernel
theorem dX9_as_56 : decode cX9_as 56 = .ok (.getfield 43, 3) := by decide +kernel
theorem dX9_as_59 : decode cX9_as 59 = .ok (.iload 4, 2) := by decide +kernel
theorem dX9_as_61 : decode cX9_as 61 = .ok (.iload_n 1, 1) := by decide +kernel
theorem dX9_as_62 : decode cX9_as 62 = .ok (.invokevirtual 133, 3) := by decide +kernel
theorem dX9_as_65 : decode cX9_as 65 = .ok (.ifCond .eq 6, 3) := by decide +kernel
theorem dX9_as_68 : decode cX9_as 68 = .ok (.iinc 3 1, 3) := by decide +kernel
theorem dX9_as_71 : decode cX9_as 71 = .ok (.iinc 4 1, 3) := by decide +kernel
theorem dX9_as_74 : decode cX9_as 74 = .ok (.goto (-31), 3) := by decide +kernel
theorem dX9_as_77 : decode cX9_as 77 = .ok (.iload_n 3, 1) := by decide +kernel
theorem dX9_as_78 : decode cX9_as 78 = .ok (.ireturn, 1) := by decide +kernel
theorem dX9_lay_0 : decode cX9_lay 0 = .ok (.iload_n 1, 1) := by decide +kernel
theorem dX9_lay_1 : decode cX9_lay 1 = .ok (.ifCond .lt 18, 3) := by decide +kernel
theorem dX9_lay_4 : decode cX9_lay 4 = .ok (.iload_n 1, 1) := by decide +kernel
theorem dX9_lay_5 : decode cX9_lay 5 = .ok (.getstatic 140, 3) := by decide +kernel
theorem dX9_lay_8 : decode cX9_lay 8 = .ok (.aload_n 0, 1) := by decide +kernel
theorem dX9_lay_9 : decode cX9_lay 9 = .ok (.getfield 19, 3) := by decide +kernel
theorem dX9_lay_12 : decode cX9_lay 12 = .ok (.getfield 102, 3) := by decide +kernel
theorem dX9_lay_15 : decode cX9_lay 15 = .ok (.iaload, 1) := by decide +kernel
theorem dX9_lay_16 : decode cX9_lay 16 = .ok (.if_icmp .lt 6, 3) := by decide +kernel
theorem dX9_lay_19 : decode cX9_lay 19 = .ok (.bipush (-3), 2) := by decide +kernel
theorem dX9_lay_21 : decode cX9_lay 21 = .ok (.ireturn, 1) := by decide +kernel
theorem dX9_lay_22 : decode cX9_lay 22 = .ok (.aload_n 0, 1) := by decide +kernel
theorem dX9_lay_23 : decode cX9_lay 23 = .ok (.getfield 72, 3) := by decide +kernel
theorem dX9_lay_26 : decode cX9_lay 26 = .ok (.aload_n 0, 1) := by decide +kernel
theorem dX9_lay_27 : decode cX9_lay 27 = .ok (.getfield 19, 3) := by decide +kernel
theorem dX9_lay_30 : decode cX9_lay 30 = .ok (.getfield 102, 3) := by decide +kernel
theorem dX9_lay_33 : decode cX9_lay 33 = .ok (.iload_n 1, 1) := by decide +kernel
theorem dX9_lay_34 : decode cX9_lay 34 = .ok (.invokestatic 143, 3) := by decide +kernel
theorem dX9_lay_37 : decode cX9_lay 37 = .ok (.aload_n 0, 1) := by decide +kernel
theorem dX9_lay_38 : decode cX9_lay 38 = .ok (.getfield 43, 3) := by decide +kernel
theorem dX9_lay_41 : decode cX9_lay 41 = .ok (.aload_n 0, 1) := by decide +kernel
theorem dX9_lay_42 : decode cX9_lay 42 = .ok (.getfield 72, 3) := by decide +kernel
theorem dX9_lay_45 : decode cX9_lay 45 = .ok (.invokevirtual 149, 3) := by decide +kernel
theorem dX9_lay_48 : decode cX9_lay 48 = .ok (.ifCond .ne 6, 3) := by decide +kernel
theorem dX9_lay_51 : decode cX9_lay 51 = .ok (.bipush (-4), 2) := by decide +kernel
theorem dX9_lay_53 : decode cX9_lay 53 = .ok (.ireturn, 1) := by decide +kernel
theorem dX9_lay_54 : decode cX9_lay 54 = .ok (.aload_n 0, 1) := by decide +kernel
theorem dX9_lay_55 : decode cX9_lay 55 = .ok (.getfield 26, 3) := by decide +kernel
theorem dX9_lay_58 : decode cX9_lay 58 = .ok (.aload_n 0, 1) := by decide +kernel
theorem dX9_lay_59 : decode cX9_lay 59 = .ok (.getfield 72, 3) := by decide +kernel
theorem dX9_lay_62 : decode cX9_lay 62 = .ok (.invokevirtual 153, 3) := by decide +kernel
theorem dX9_lay_65 : decode cX9_lay 65 = .ok (.iconst 1, 1) := by decide +kernel
theorem dX9_lay_66 : decode cX9_lay 66 = .ok (.ireturn, 1) := by decide +kernel
theorem dX9_draw_0 : decode cX9_draw 0 = .ok (.iload_n 1, 1) := by decide +kernel
theorem dX9_draw_1 : decode cX9_draw 1 = .ok (.iconst 1, 1) := by decide +kernel
theorem dX9_draw_2 : decode cX9_draw 2 = .ok (.if_icmp .lt 10, 3) := by decide +kernel
theorem dX9_draw_5 : decode cX9_draw 5 = .ok (.iload_n 1, 1) := by decide +kernel
theorem dX9_draw_6 : decode cX9_draw 6 = .ok (.sipush 9999, 3) := by decide +kernel
theorem dX9_draw_9 : decode cX9_draw 9 = .ok (.if_icmp .le 6, 3) := by decide +kernel
theorem dX9_draw_12 : decode cX9_draw 12 = .ok (.bipush (-3), 2) := by decide +kernel
theorem dX9_draw_14 : decode cX9_draw 14 = .ok (.ireturn, 1) := by decide +kernel
theorem dX9_draw_15 : decode cX9_draw 15 = .ok (.iload_n 1, 1) := by decide +kernel
theorem dX9_draw_16 : decode cX9_draw 16 = .ok (.istore_n 2, 1) := by decide +kernel
theorem dX9_draw_17 : decode cX9_draw 17 = .ok (.iconst 1, 1) := by decide +kernel
theorem dX9_draw_18 : decode cX9_draw 18 = .ok (.istore_n 3, 1) := by decide +kernel
theorem dX9_draw_19 : decode cX9_draw 19 = .ok (.iload_n 3, 1) := by decide +kernel
theorem dX9_draw_20 : decode cX9_draw 20 = .ok (.bipush 50, 2) := by decide +kernel
theorem dX9_draw_22 : decode cX9_draw 22 = .ok (.if_icmp .gt 52, 3) := by decide +kernel
theorem dX9_draw_25 : decode cX9_draw 25 = .ok (.aload_n 0, 1) := by decide +kernel
theorem dX9_draw_26 : decode cX9_draw 26 = .ok (.getfield 72, 3) := by decide +kernel
theorem dX9_draw_29 : decode cX9_draw 29 = .ok (.aload_n 0, 1) := by decide +kernel
theorem dX9_draw_30 : decode cX9_draw 30 = .ok (.getfield 19, 3) := by decide +kernel
theorem dX9_draw_33 : decode cX9_draw 33 = .ok (.getfield 102, 3) := by decide +kernel
theorem dX9_draw_36 : decode cX9_draw 36 = .ok (.iload_n 2, 1) := by decide +kernel
theorem dX9_draw_37 : decode cX9_draw 37 = .ok (.invokestatic 156, 3) := by decide +kernel
theorem dX9_draw_40 : decode cX9_draw 40 = .ok (.istore_n 2, 1) := by decide +kernel
theorem dX9_draw_41 : decode cX9_draw 41 = .ok (.aload_n 0, 1) := by decide +kernel
theorem dX9_draw_42 : decode cX9_draw 42 = .ok (.getfield 43, 3) := by decide +kernel
theorem dX9_draw_45 : decode cX9_draw 45 = .ok (.aload_n 0, 1) := by decide +kernel
theorem dX9_draw_46 : decode cX9_draw 46 = .ok (.getfield 72, 3) := by decide +kernel
theorem dX9_draw_49 : decode cX9_draw 49 = .ok (.invokevirtual 149, 3) := by decide +kernel
theorem dX9_draw_52 : decode cX9_draw 52 = .ok (.ifCond .eq 16, 3) := by decide +kernel
theorem dX9_draw_55 : decode cX9_draw 55 = .ok (.aload_n 0, 1) := by decide +kernel
theorem dX9_draw_56 : decode cX9_draw 56 = .ok (.getfield 26, 3) := by decide +kernel
theorem dX9_draw_59 : decode cX9_draw 59 = .ok (.aload_n 0, 1) := by decide +kernel
theorem dX9_draw_60 : decode cX9_draw 60 = .ok (.getfield 72, 3) := by decide +kernel
theorem dX9_draw_63 : decode cX9_draw 63 = .ok (.invokevirtual 153, 3) := by decide +kernel
theorem dX9_draw_66 : decode cX9_draw 66 = .ok (.iload_n 3, 1) := by decide +kernel
theorem dX9_draw_67 : decode cX9_draw 67 = .ok (.ireturn, 1) := by decide +kernel
theorem dX9_draw_68 : decode cX9_draw 68 = .ok (.iinc 3 1, 3) := by decide +kernel
theorem dX9_draw_71 : decode cX9_draw 71 = .ok (.goto (-52), 3) := by decide +kernel
theorem dX9_draw_74 : decode cX9_draw 74 = .ok (.bipush (-4), 2) := by decide +kernel
theorem dX9_draw_76 : decode cX9_draw 76 = .ok (.ireturn, 1) := by decide +kernel
theorem dX9_has_0 : decode cX9_has 0 = .ok (.aload_n 0, 1) := by decide +kernel
theorem dX9_has_1 : decode cX9_has 1 = .ok (.iload_n 1, 1) := by decide +kernel
theorem dX9_has_2 : decode cX9_has 2 = .ok (.invokevirtual 122, 3) := by decide +kernel
theorem dX9_has_5 : decode cX9_has 5 = .ok (.ifCond .ne 6, 3) := by decide +kernel
theorem dX9_has_8 : decode cX9_has 8 = .ok (.bipush (-2), 2) := by decide +kernel
theorem dX9_has_10 : decode cX9_has 10 = .ok (.ireturn, 1) := by decide +kernel
theorem dX9_has_11 : decode cX9_has 11 = .ok (.iload_n 2, 1) := by decide +kernel
theorem dX9_has_12 : decode cX9_has 12 = .ok (.ifCond .lt 8, 3) := by decide +kernel
theorem dX9_has_15 : decode cX9_has 15 = .ok (.iload_n 2, 1) := by decide +kernel
theorem dX9_has_16 : decode cX9_has 16 = .ok (.iconst 1, 1) := by decide +kernel
theorem dX9_has_17 : decode cX9_has 17 = .ok (.if_icmp .le 6, 3) := by decide +kernel
theorem dX9_has_20 : decode cX9_has 20 = .ok (.bipush (-3), 2) := by decide +kernel
theorem dX9_has_22 : decode cX9_has 22 = .ok (.ireturn, 1) := by decide +kernel
theorem dX9_has_23 : decode cX9_has 23 = .ok (.iload_n 2, 1) := by decide +kernel
theorem dX9_has_24 : decode cX9_has 24 = .ok (.iconst 1, 1) := by decide +kernel
theorem dX9_has_25 : decode cX9_has 25 = .ok (.if_icmp .ne 13, 3) := by decide +kernel
theorem dX9_has_28 : decode cX9_has 28 = .ok (.aload_n 0, 1) := by decide +kernel
theorem dX9_has_29 : decode cX9_has 29 = .ok (.getfield 26, 3) := by decide +kernel
theorem dX9_has_32 : decode cX9_has 32 = .ok (.getfield 87, 3) := by decide +kernel
theorem dX9_has_35 : decode cX9_has 35 = .ok (.iload_n 1, 1) := by decide +kernel
theorem dX9_has_36 : decode cX9_has 36 = .ok (.iaload, 1) := by decide +kernel
theorem dX9_has_37 : decode cX9_has 37 = .ok (.ireturn, 1) := by decide +kernel
theorem dX9_has_38 : decode cX9_has 38 = .ok (.aload_n 0, 1) := by decide +kernel
theorem dX9_has_39 : decode cX9_has 39 = .ok (.getfield 26, 3) := by decide +kernel
theorem dX9_has_42 : decode cX9_has 42 = .ok (.getfield 160, 3) := by decide +kernel
theorem dX9_has_45 : decode cX9_has 45 = .ok (.ifCond .eq 15, 3) := by decide +kernel
theorem dX9_has_48 : decode cX9_has 48 = .ok (.aload_n 0, 1) := by decide +kernel
theorem dX9_has_49 : decode cX9_has 49 = .ok (.getfield 26, 3) := by decide +kernel
theorem dX9_has_52 : decode cX9_has 52 = .ok (.getfield 164, 3) := by decide +kernel
theorem dX9_has_55 : decode cX9_has 55 = .ok (.iload_n 1, 1) := by decide +kernel
theorem dX9_has_56 : decode cX9_has 56 = .ok (.iaload, 1) := by decide +kernel
theorem dX9_has_57 : decode cX9_has 57 = .ok (.goto 4, 3) := by decide +kernel
theorem dX9_has_60 : decode cX9_has 60 = .ok (.iconst (-1), 1) := by decide +kernel
theorem dX9_has_61 : decode cX9_has 61 = .ok (.ireturn, 1) := by decide +kernel
theorem dX9_trade_0 : decode cX9_trade 0 = .ok (.aload_n 0, 1) := by decide +kernel
theorem dX9_trade_1 : decode cX9_trade 1 = .ok (.iload_n 1, 1) := by decide +kernel
theorem dX9_trade_2 : decode cX9_trade 2 = .ok (.invokevirtual 122, 3) := by decide +kernel
theorem dX9_trade_5 : decode cX9_trade 5 = .ok (.ifCond .eq 30, 3) := by decide +kernel
theorem dX9_trade_8 : decode cX9_trade 8 = .ok (.aload_n 0, 1) := by decide +kernel
theorem dX9_trade_9 : decode cX9_trade 9 = .ok (.iload_n 2, 1) := by decide +kernel
theorem dX9_trade_10 : decode cX9_trade 10 = .ok (.invokevirtual 122, 3) := by decide +kernel
theorem dX9_trade_13 : decode cX9_trade 13 = .ok (.ifCond .eq 22, 3) := by decide +kernel
theorem dX9_trade_16 : decode cX9_trade 16 = .ok (.aload_n 0, 1) := by decide +kernel
theorem dX9_trade_17 : decode cX9_trade 17 = .ok (.getfield 19, 3) := by decide +kernel
theorem dX9_trade_20 : decode cX9_trade 20 = .ok (.getfield 167, 3) := by decide +kernel
theorem dX9_trade_23 : decode cX9_trade 23 = .ok (.iconst 3, 1) := by decide +kernel
theorem dX9_trade_24 : decode cX9_trade 24 = .ok (.if_icmp .ne 14, 3) := by decide +kernel
theorem dX9_trade_27 : decode cX9_trade 27 = .ok (.aload_n 0, 1) := by decide +kernel
theorem dX9_trade_28 : decode cX9_trade 28 = .ok (.iload_n 3, 1) := by decide +kernel
theorem dX9_trade_29 : decode cX9_trade 29 = .ok (.invokevirtual 122, 3) := by decide +kernel
theorem dX9_trade_32 : decode cX9_trade 32 = .ok (.ifCond .ne 6, 3) := by decide +kernel
theorem dX9_trade_35 : decode cX9_trade 35 = .ok (.bipush (-2), 2) := by decide +kernel
theorem dX9_trade_37 : decode cX9_trade 37 = .ok (.ireturn, 1) := by decide +kernel
theorem dX9_trade_38 : decode cX9_trade 38 = .ok (.aload_n 0, 1) := by decide +kernel
theorem dX9_trade_39 : decode cX9_trade 39 = .ok (.getfield 19, 3) := by decide +kernel
theorem dX9_trade_42 : decode cX9_trade 42 = .ok (.getfield 167, 3) := by decide +kernel
theorem dX9_trade_45 : decode cX9_trade 45 = .ok (.iconst 3, 1) := by decide +kernel
theorem dX9_trade_46 : decode cX9_trade 46 = .ok (.if_icmp .eq 8, 3) := by decide +kernel
theorem dX9_trade_49 : decode cX9_trade 49 = .ok (.iload_n 3, 1) := by decide +kernel
theorem dX9_trade_50 : decode cX9_trade 50 = .ok (.iconst (-1), 1) := by decide +kernel
theorem dX9_trade_51 : decode cX9_trade 51 = .ok (.if_icmp .ne 18, 3) := by decide +kernel
theorem dX9_trade_54 : decode cX9_trade 54 = .ok (.iload_n 1, 1) := by decide +kernel
theorem dX9_trade_55 : decode cX9_trade 55 = .ok (.iload_n 2, 1) := by decide +kernel
theorem dX9_trade_56 : decode cX9_trade 56 = .ok (.if_icmp .eq 13, 3) := by decide +kernel
theorem dX9_trade_59 : decode cX9_trade 59 = .ok (.iload_n 1, 1) := by decide +kernel
theorem dX9_trade_60 : decode cX9_trade 60 = .ok (.iload_n 3, 1) := by decide +kernel
theorem dX9_trade_61 : decode cX9_trade 61 = .ok (.if_icmp .eq 8, 3) := by decide +kernel
theorem dX9_trade_64 : decode cX9_trade 64 = .ok (.iload_n 2, 1) := by decide +kernel
theorem dX9_trade_65 : decode cX9_trade 65 = .ok (.iload_n 3, 1) := by decide +kernel
theorem dX9_trade_66 : decode cX9_trade 66 = .ok (.if_icmp .ne 6, 3) := by decide +kernel
theorem dX9_trade_69 : decode cX9_trade 69 = .ok (.bipush (-3), 2) := by decide +kernel
theorem dX9_trade_71 : decode cX9_trade 71 = .ok (.ireturn, 1) := by decide +kernel
theorem dX9_trade_72 : decode cX9_trade 72 = .ok (.aload_n 0, 1) := by decide +kernel
theorem dX9_trade_73 : decode cX9_trade 73 = .ok (.getfield 26, 3) := by decide +kernel
theorem dX9_trade_76 : decode cX9_trade 76 = .ok (.getfield 160, 3) := by decide +kernel
theorem dX9_trade_79 : decode cX9_trade 79 = .ok (.ifCond .eq 33, 3) := by decide +kernel
theorem dX9_trade_82 : decode cX9_trade 82 = .ok (.aload_n 0, 1) := by decide +kernel
theorem dX9_trade_83 : decode cX9_trade 83 = .ok (.getfield 19, 3) := by decide +kernel
theorem dX9_trade_86 : decode cX9_trade 86 = .ok (.getfield 167, 3) := by decide +kernel
theorem dX9_trade_89 : decode cX9_trade 89 = .ok (.ifCond .eq 23, 3) := by decide +kernel
theorem dX9_trade_92 : decode cX9_trade 92 = .ok (.aload_n 0, 1) := by decide +kernel
theorem dX9_trade_93 : decode cX9_trade 93 = .ok (.getfield 43, 3) := by decide +kernel
theorem dX9_trade_96 : decode cX9_trade 96 = .ok (.aload_n 0, 1) := by decide +kernel
theorem dX9_trade_97 : decode cX9_trade 97 = .ok (.getfield 26, 3) := by decide +kernel
theorem dX9_trade_100 : decode cX9_trade 100 = .ok (.getfield 164, 3) := by decide +kernel
theorem dX9_trade_103 : decode cX9_trade 103 = .ok (.iload_n 1, 1) := by decide +kernel
theorem dX9_trade_104 : decode cX9_trade 104 = .ok (.iload_n 2, 1) := by decide +kernel
theorem dX9_trade_105 : decode cX9_trade 105 = .ok (.iload_n 3, 1) := by decide +kernel
theorem dX9_trade_106 : decode cX9_trade 106 = .ok (.invokevirtual 170, 3) := by decide +kernel
theorem dX9_trade_109 : decode cX9_trade 109 = .ok (.ifCond .ne 6, 3) := by decide +kernel
theorem dX9_trade_112 : decode cX9_trade 112 = .ok (.bipush (-4), 2) := by decide +kernel
theorem dX9_trade_114 : decode cX9_trade 114 = .ok (.ireturn, 1) := by decide +kernel
theorem dX9_trade_115 : decode cX9_trade 115 = .ok (.aload_n 0, 1) := by decide +kernel
theorem dX9_trade_116 : decode cX9_trade 116 = .ok (.getfield 26, 3) := by decide +kernel
theorem dX9_trade_119 : decode cX9_trade 119 = .ok (.getfield 164, 3) := by decide +kernel
theorem dX9_trade_122 : decode cX9_trade 122 = .ok (.iload_n 1, 1) := by decide +kernel
theorem dX9_trade_123 : decode cX9_trade 123 = .ok (.iload_n 2, 1) := by decide +kernel
theorem dX9_trade_124 : decode cX9_trade 124 = .ok (.iload_n 3, 1) := by decide +kernel
theorem dX9_trade_125 : decode cX9_trade 125 = .ok (.invokestatic 174, 3) := by decide +kernel
theorem dX9_trade_128 : decode cX9_trade 128 = .ok (.aload_n 0, 1) := by decide +kernel
theorem dX9_trade_129 : decode cX9_trade 129 = .ok (.getfield 19, 3) := by decide +kernel
theorem dX9_trade_132 : decode cX9_trade 132 = .ok (.aload_n 0, 1) := by decide +kernel
theorem dX9_trade_133 : decode cX9_trade 133 = .ok (.getfield 26, 3) := by decide +kernel
theorem dX9_trade_136 : decode cX9_trade 136 = .ok (.getfield 164, 3) := by decide +kernel
theorem dX9_trade_139 : decode cX9_trade 139 = .ok (.invokevirtual 178, 3) := by decide +kernel
theorem dX9_trade_142 : decode cX9_trade 142 = .ok (.ireturn, 1) := by decide +kernel
theorem dX9_settle_0 : decode cX9_settle 0 = .ok (.aload_n 0, 1) := by decide +kernel
theorem dX9_settle_1 : decode cX9_settle 1 = .ok (.getfield 26, 3) := by decide +kernel
theorem dX9_settle_4 : decode cX9_settle 4 = .ok (.getfield 160, 3) := by decide +kernel
theorem dX9_settle_7 : decode cX9_settle 7 = .ok (.ifCond .ne 6, 3) := by decide +kernel
theorem dX9_settle_10 : decode cX9_settle 10 = .ok (.bipush (-4), 2) := by decide +kernel
theorem dX9_settle_12 : decode cX9_settle 12 = .ok (.ireturn, 1) := by decide +kernel
theorem dX9_settle_13 : decode cX9_settle 13 = .ok (.aload_n 0, 1) := by decide +kernel
theorem dX9_settle_14 : decode cX9_settle 14 = .ok (.getfield 43, 3) := by decide +kernel
theorem dX9_settle_17 : decode cX9_settle 17 = .ok (.aload_n 0, 1) := by decide +kernel
theorem dX9_settle_18 : decode cX9_settle 18 = .ok (.getfield 26, 3) := by decide +kernel
theorem dX9_settle_21 : decode cX9_settle 21 = .ok (.getfield 164, 3) := by decide +kernel
theorem dX9_settle_24 : decode cX9_settle 24 = .ok (.aload_n 0, 1) := by decide +kernel
theorem dX9_settle_25 : decode cX9_settle 25 = .ok (.getfield 19, 3) := by decide +kernel
theorem dX9_settle_28 : decode cX9_settle 28 = .ok (.getfield 167, 3) := by decide +kernel
theorem dX9_settle_31 : decode cX9_settle 31 = .ok (.invokevirtual 182, 3) := by decide +kernel
theorem dX9_settle_34 : decode cX9_settle 34 = .ok (.ireturn, 1) := by decide +kernel
theorem dX9_dawn_0 : decode cX9_dawn 0 = .ok (.aload_n 0, 1) := by decide +kernel
theorem dX9_dawn_1 : decode cX9_dawn 1 = .ok (.getfield 26, 3) := by decide +kernel
theorem dX9_dawn_4 : decode cX9_dawn 4 = .ok (.getfield 160, 3) := by decide +kernel
theorem dX9_dawn_7 : decode cX9_dawn 7 = .ok (.ifCond .ne 6, 3) := by decide +kernel
theorem dX9_dawn_10 : decode cX9_dawn 10 = .ok (.bipush (-4), 2) := by decide +kernel
theorem dX9_dawn_12 : decode cX9_dawn 12 = .ok (.ireturn, 1) := by decide +kernel
theorem dX9_dawn_13 : decode cX9_dawn 13 = .ok (.aload_n 0, 1) := by decide +kernel
theorem dX9_dawn_14 : decode cX9_dawn 14 = .ok (.getfield 26, 3) := by decide +kernel
theorem dX9_dawn_17 : decode cX9_dawn 17 = .ok (.getfield 186, 3) := by decide +kernel
theorem dX9_dawn_20 : decode cX9_dawn 20 = .ok (.bipush 16, 2) := by decide +kernel
theorem dX9_dawn_22 : decode cX9_dawn 22 = .ok (.if_icmp .lt 6, 3) := by decide +kernel
theorem dX9_dawn_25 : decode cX9_dawn 25 = .ok (.bipush (-5), 2) := by decide +kernel
theorem dX9_dawn_27 : decode cX9_dawn 27 = .ok (.ireturn, 1) := by decide +kernel
theorem dX9_dawn_28 : decode cX9_dawn 28 = .ok (.aload_n 0, 1) := by decide +kernel
theorem dX9_dawn_29 : decode cX9_dawn 29 = .ok (.getfield 26, 3) := by decide +kernel
theorem dX9_dawn_32 : decode cX9_dawn 32 = .ok (.invokevirtual 189, 3) := by decide +kernel
theorem dX9_dawn_35 : decode cX9_dawn 35 = .ok (.aload_n 0, 1) := by decide +kernel
theorem dX9_dawn_36 : decode cX9_dawn 36 = .ok (.invokevirtual 119, 3) := by decide +kernel
theorem dX9_dawn_39 : decode cX9_dawn 39 = .ok (.aload_n 0, 1) := by decide +kernel
theorem dX9_dawn_40 : decode cX9_dawn 40 = .ok (.getfield 26, 3) := by decide +kernel
theorem dX9_dawn_43 : decode cX9_dawn 43 = .ok (.getfield 186, 3) := by decide +kernel
theorem dX9_dawn_46 : decode cX9_dawn 46 = .ok (.ireturn, 1) := by decide +kernel
theorem dX9_today_0 : decode cX9_today 0 = .ok (.iload_n 1, 1) := by decide +kernel
theorem dX9_today_1 : decode cX9_today 1 = .ok (.ifCond .lt 8, 3) := by decide +kernel
theorem dX9_today_4 : decode cX9_today 4 = .ok (.iload_n 1, 1) := by decide +kernel
theorem dX9_today_5 : decode cX9_today 5 = .ok (.iconst 2, 1) := by decide +kernel
theorem dX9_today_6 : decode cX9_today 6 = .ok (.if_icmp .le 6, 3) := by decide +kernel
theorem dX9_today_9 : decode cX9_today 9 = .ok (.bipush (-3), 2) := by decide +kernel
theorem dX9_today_11 : decode cX9_today 11 = .ok (.ireturn, 1) := by decide +kernel
theorem dX9_today_12 : decode cX9_today 12 = .ok (.aload_n 0, 1) := by decide +kernel
theorem dX9_today_13 : decode cX9_today 13 = .ok (.getfield 26, 3) := by decide +kernel
theorem dX9_today_16 : decode cX9_today 16 = .ok (.getfield 160, 3) := by decide +kernel
theorem dX9_today_19 : decode cX9_today 19 = .ok (.ifCond .ne 6, 3) := by decide +kernel
theorem dX9_today_22 : decode cX9_today 22 = .ok (.bipush (-4), 2) := by decide +kernel
theorem dX9_today_24 : decode cX9_today 24 = .ok (.ireturn, 1) := by decide +kernel
theorem dX9_today_25 : decode cX9_today 25 = .ok (.iload_n 1, 1) := by decide +kernel
theorem dX9_today_26 : decode cX9_today 26 = .ok (.lookupswitch 59 #[(0, 26), (1, 44)], 26) := by decide +kernel
theorem dX9_today_52 : decode cX9_today 52 = .ok (.aload_n 0, 1) := by decide +kernel
theorem dX9_today_53 : decode cX9_today 53 = .ok (.getfield 26, 3) := by decide +kernel
theorem dX9_today_56 : decode cX9_today 56 = .ok (.getfield 164, 3) := by decide +kernel
theorem dX9_today_59 : decode cX9_today 59 = .ok (.aload_n 0, 1) := by decide +kernel
theorem dX9_today_60 : decode cX9_today 60 = .ok (.getfield 19, 3) := by decide +kernel
theorem dX9_today_63 : decode cX9_today 63 = .ok (.getfield 102, 3) := by decide +kernel
theorem dX9_today_66 : decode cX9_today 66 = .ok (.invokestatic 192, 3) := by decide +kernel
theorem dX9_today_69 : decode cX9_today 69 = .ok (.ireturn, 1) := by decide +kernel
theorem dX9_today_70 : decode cX9_today 70 = .ok (.aload_n 0, 1) := by decide +kernel
theorem dX9_today_71 : decode cX9_today 71 = .ok (.getfield 19, 3) := by decide +kernel
theorem dX9_today_74 : decode cX9_today 74 = .ok (.aload_n 0, 1) := by decide +kernel
theorem dX9_today_75 : decode cX9_today 75 = .ok (.getfield 26, 3) := by decide +kernel
theorem dX9_today_78 : decode cX9_today 78 = .ok (.getfield 164, 3) := by decide +kernel
theorem dX9_today_81 : decode cX9_today 81 = .ok (.invokevirtual 195, 3) := by decide +kernel
theorem dX9_today_84 : decode cX9_today 84 = .ok (.ireturn, 1) := by decide +kernel
theorem dX9_today_85 : decode cX9_today 85 = .ok (.aload_n 0, 1) := by decide +kernel
theorem dX9_today_86 : decode cX9_today 86 = .ok (.getfield 19, 3) := by decide +kernel
theorem dX9_today_89 : decode cX9_today 89 = .ok (.aload_n 0, 1) := by decide +kernel
theorem dX9_today_90 : decode cX9_today 90 = .ok (.getfield 26, 3) := by decide +kernel
theorem dX9_today_93 : decode cX9_today 93 = .ok (.getfield 164, 3) := by decide +kernel
theorem dX9_today_96 : decode cX9_today 96 = .ok (.invokevirtual 178, 3) := by decide +kernel
theorem dX9_today_99 : decode cX9_today 99 = .ok (.ireturn, 1) := by decide +kernel
theorem dX9_ends_0 : decode cX9_ends 0 = .ok (.iload_n 1, 1) := by decide +kernel
theorem dX9_ends_1 : decode cX9_ends 1 = .ok (.ifCond .lt 8, 3) := by decide +kernel
theorem dX9_ends_4 : decode cX9_ends 4 = .ok (.iload_n 1, 1) := by decide +kernel
theorem dX9_ends_5 : decode cX9_ends 5 = .ok (.iconst 2, 1) := by decide +kernel
theorem dX9_ends_6 : decode cX9_ends 6 = .ok (.if_icmp .le 6, 3) := by decide +kernel
theorem dX9_ends_9 : decode cX9_ends 9 = .ok (.bipush (-3), 2) := by decide +kernel
theorem dX9_ends_11 : decode cX9_ends 11 = .ok (.ireturn, 1) := by decide +kernel
theorem dX9_ends_12 : decode cX9_ends 12 = .ok (.aload_n 0, 1) := by decide +kernel
theorem dX9_ends_13 : decode cX9_ends 13 = .ok (.getfield 26, 3) := by decide +kernel
theorem dX9_ends_16 : decode cX9_ends 16 = .ok (.getfield 160, 3) := by decide +kernel
theorem dX9_ends_19 : decode cX9_ends 19 = .ok (.ifCond .ne 6, 3) := by decide +kernel
theorem dX9_ends_22 : decode cX9_ends 22 = .ok (.bipush (-4), 2) := by decide +kernel
theorem dX9_ends_24 : decode cX9_ends 24 = .ok (.ireturn, 1) := by decide +kernel
theorem dX9_ends_25 : decode cX9_ends 25 = .ok (.aload_n 0, 1) := by decide +kernel
theorem dX9_ends_26 : decode cX9_ends 26 = .ok (.getfield 61, 3) := by decide +kernel
theorem dX9_ends_29 : decode cX9_ends 29 = .ok (.aload_n 0, 1) := by decide +kernel
theorem dX9_ends_30 : decode cX9_ends 30 = .ok (.getfield 26, 3) := by decide +kernel
theorem dX9_ends_33 : decode cX9_ends 33 = .ok (.getfield 164, 3) := by decide +kernel
theorem dX9_ends_36 : decode cX9_ends 36 = .ok (.aload_n 0, 1) := by decide +kernel
theorem dX9_ends_37 : decode cX9_ends 37 = .ok (.getfield 19, 3) := by decide +kernel
theorem dX9_ends_40 : decode cX9_ends 40 = .ok (.getfield 167, 3) := by decide +kernel
theorem dX9_ends_43 : decode cX9_ends 43 = .ok (.invokevirtual 198, 3) := by decide +kernel
theorem dX9_ends_46 : decode cX9_ends 46 = .ok (.iload_n 1, 1) := by decide +kernel
theorem dX9_ends_47 : decode cX9_ends 47 = .ok (.lookupswitch 41 #[(0, 25), (1, 33)], 25) := by decide +kernel
theorem dX9_ends_72 : decode cX9_ends 72 = .ok (.aload_n 0, 1) := by decide +kernel
theorem dX9_ends_73 : decode cX9_ends 73 = .ok (.getfield 61, 3) := by decide +kernel
theorem dX9_ends_76 : decode cX9_ends 76 = .ok (.getfield 201, 3) := by decide +kernel
theorem dX9_ends_79 : decode cX9_ends 79 = .ok (.ireturn, 1) := by decide +kernel
theorem dX9_ends_80 : decode cX9_ends 80 = .ok (.aload_n 0, 1) := by decide +kernel
theorem dX9_ends_81 : decode cX9_ends 81 = .ok (.getfield 61, 3) := by decide +kernel
theorem dX9_ends_84 : decode cX9_ends 84 = .ok (.getfield 204, 3) := by decide +kernel
theorem dX9_ends_87 : decode cX9_ends 87 = .ok (.ireturn, 1) := by decide +kernel
theorem dX9_ends_88 : decode cX9_ends 88 = .ok (.aload_n 0, 1) := by decide +kernel
theorem dX9_ends_89 : decode cX9_ends 89 = .ok (.getfield 61, 3) := by decide +kernel
theorem dX9_ends_92 : decode cX9_ends 92 = .ok (.getfield 207, 3) := by decide +kernel
end
section
theorem dX9_ends_95 : decode cX9_ends 95 = .ok (.ireturn, 1) := by decide +kernel
theorem dX9_hint_0 : decode cX9_hint 0 = .ok (.aload_n 0, 1) := by decide +kernel
theorem dX9_hint_1 : decode cX9_hint 1 = .ok (.iload_n 1, 1) := by decide +kernel
theorem dX9_hint_2 : decode cX9_hint 2 = .ok (.invokevirtual 122, 3) := by decide +kernel
theorem dX9_hint_5 : decode cX9_hint 5 = .ok (.ifCond .ne 6, 3) := by decide +kernel
theorem dX9_hint_8 : decode cX9_hint 8 = .ok (.bipush (-2), 2) := by decide +kernel
theorem dX9_hint_10 : decode cX9_hint 10 = .ok (.ireturn, 1) := by decide +kernel
theorem dX9_hint_11 : decode cX9_hint 11 = .ok (.aload_n 0, 1) := by decide +kernel
theorem dX9_hint_12 : decode cX9_hint 12 = .ok (.getfield 26, 3) := by decide +kernel
theorem dX9_hint_15 : decode cX9_hint 15 = .ok (.getfield 160, 3) := by decide +kernel
theorem dX9_hint_18 : decode cX9_hint 18 = .ok (.ifCond .ne 6, 3) := by decide +kernel
theorem dX9_hint_21 : decode cX9_hint 21 = .ok (.bipush (-4), 2) := by decide +kernel
theorem dX9_hint_23 : decode cX9_hint 23 = .ok (.ireturn, 1) := by decide +kernel
theorem dX9_hint_24 : decode cX9_hint 24 = .ok (.aload_n 0, 1) := by decide +kernel
theorem dX9_hint_25 : decode cX9_hint 25 = .ok (.getfield 43, 3) := by decide +kernel
theorem dX9_hint_28 : decode cX9_hint 28 = .ok (.iload_n 1, 1) := by decide +kernel
theorem dX9_hint_29 : decode cX9_hint 29 = .ok (.aload_n 0, 1) := by decide +kernel
theorem dX9_hint_30 : decode cX9_hint 30 = .ok (.getfield 26, 3) := by decide +kernel
theorem dX9_hint_33 : decode cX9_hint 33 = .ok (.getfield 164, 3) := by decide +kernel
theorem dX9_hint_36 : decode cX9_hint 36 = .ok (.aload_n 0, 1) := by decide +kernel
theorem dX9_hint_37 : decode cX9_hint 37 = .ok (.getfield 19, 3) := by decide +kernel
theorem dX9_hint_40 : decode cX9_hint 40 = .ok (.getfield 167, 3) := by decide +kernel
theorem dX9_hint_43 : decode cX9_hint 43 = .ok (.invokevirtual 210, 3) := by decide +kernel
theorem dX9_hint_46 : decode cX9_hint 46 = .ok (.ireturn, 1) := by decide +kernel
theorem dX9_lawful_0 : decode cX9_lawful 0 = .ok (.aload_n 0, 1) := by decide +kernel
theorem dX9_lawful_1 : decode cX9_lawful 1 = .ok (.iconst 0, 1) := by decide +kernel
theorem dX9_lawful_2 : decode cX9_lawful 2 = .ok (.invokevirtual 214, 3) := by decide +kernel
theorem dX9_lawful_5 : decode cX9_lawful 5 = .ok (.getfield 218, 3) := by decide +kernel
theorem dX9_lawful_8 : decode cX9_lawful 8 = .ok (.ireturn, 1) := by decide +kernel
theorem dX9_mean_0 : decode cX9_mean 0 = .ok (.iload_n 1, 1) := by decide +kernel
theorem dX9_mean_1 : decode cX9_mean 1 = .ok (.invokestatic 221, 3) := by decide +kernel
theorem dX9_mean_4 : decode cX9_mean 4 = .ok (.ifCond .eq 19, 3) := by decide +kernel
theorem dX9_mean_7 : decode cX9_mean 7 = .ok (.iload_n 2, 1) := by decide +kernel
theorem dX9_mean_8 : decode cX9_mean 8 = .ok (.ifCond .lt 15, 3) := by decide +kernel
theorem dX9_mean_11 : decode cX9_mean 11 = .ok (.iload_n 2, 1) := by decide +kernel
theorem dX9_mean_12 : decode cX9_mean 12 = .ok (.iconst 1, 1) := by decide +kernel
theorem dX9_mean_13 : decode cX9_mean 13 = .ok (.if_icmp .gt 10, 3) := by decide +kernel
theorem dX9_mean_16 : decode cX9_mean 16 = .ok (.iload_n 3, 1) := by decide +kernel
theorem dX9_mean_17 : decode cX9_mean 17 = .ok (.invokestatic 224, 3) := by decide +kernel
theorem dX9_mean_20 : decode cX9_mean 20 = .ok (.ifCond .ne 6, 3) := by decide +kernel
theorem dX9_mean_23 : decode cX9_mean 23 = .ok (.bipush (-3), 2) := by decide +kernel
theorem dX9_mean_25 : decode cX9_mean 25 = .ok (.ireturn, 1) := by decide +kernel
theorem dX9_mean_26 : decode cX9_mean 26 = .ok (.aload_n 0, 1) := by decide +kernel
theorem dX9_mean_27 : decode cX9_mean 27 = .ok (.iload_n 1, 1) := by decide +kernel
theorem dX9_mean_28 : decode cX9_mean 28 = .ok (.invokevirtual 214, 3) := by decide +kernel
theorem dX9_mean_31 : decode cX9_mean 31 = .ok (.astore 4, 2) := by decide +kernel
theorem dX9_mean_33 : decode cX9_mean 33 = .ok (.aload 4, 2) := by decide +kernel
theorem dX9_mean_35 : decode cX9_mean 35 = .ok (.getfield 218, 3) := by decide +kernel
theorem dX9_mean_38 : decode cX9_mean 38 = .ok (.ifCond .ne 6, 3) := by decide +kernel
theorem dX9_mean_41 : decode cX9_mean 41 = .ok (.bipush (-4), 2) := by decide +kernel
theorem dX9_mean_43 : decode cX9_mean 43 = .ok (.ireturn, 1) := by decide +kernel
theorem dX9_mean_44 : decode cX9_mean 44 = .ok (.iload_n 2, 1) := by decide +kernel
theorem dX9_mean_45 : decode cX9_mean 45 = .ok (.ifCond .ne 12, 3) := by decide +kernel
theorem dX9_mean_48 : decode cX9_mean 48 = .ok (.aload 4, 2) := by decide +kernel
theorem dX9_mean_50 : decode cX9_mean 50 = .ok (.getfield 227, 3) := by decide +kernel
theorem dX9_mean_53 : decode cX9_mean 53 = .ok (.i2l, 1) := by decide +kernel
theorem dX9_mean_54 : decode cX9_mean 54 = .ok (.goto 9, 3) := by decide +kernel
theorem dX9_mean_57 : decode cX9_mean 57 = .ok (.aload 4, 2) := by decide +kernel
theorem dX9_mean_59 : decode cX9_mean 59 = .ok (.getfield 230, 3) := by decide +kernel
theorem dX9_mean_62 : decode cX9_mean 62 = .ok (.i2l, 1) := by decide +kernel
theorem dX9_mean_63 : decode cX9_mean 63 = .ok (.aload 4, 2) := by decide +kernel
theorem dX9_mean_65 : decode cX9_mean 65 = .ok (.getfield 218, 3) := by decide +kernel
theorem dX9_mean_68 : decode cX9_mean 68 = .ok (.i2l, 1) := by decide +kernel
theorem dX9_mean_69 : decode cX9_mean 69 = .ok (.iload_n 3, 1) := by decide +kernel
theorem dX9_mean_70 : decode cX9_mean 70 = .ok (.invokestatic 231, 3) := by decide +kernel
theorem dX9_mean_73 : decode cX9_mean 73 = .ok (.l2i, 1) := by decide +kernel
theorem dX9_mean_74 : decode cX9_mean 74 = .ok (.ireturn, 1) := by decide +kernel
theorem dX9_odds_0 : decode cX9_odds 0 = .ok (.aload_n 0, 1) := by decide +kernel
theorem dX9_odds_1 : decode cX9_odds 1 = .ok (.iload_n 1, 1) := by decide +kernel
theorem dX9_odds_2 : decode cX9_odds 2 = .ok (.invokevirtual 122, 3) := by decide +kernel
theorem dX9_odds_5 : decode cX9_odds 5 = .ok (.ifCond .eq 11, 3) := by decide +kernel
theorem dX9_odds_8 : decode cX9_odds 8 = .ok (.aload_n 0, 1) := by decide +kernel
theorem dX9_odds_9 : decode cX9_odds 9 = .ok (.iload_n 2, 1) := by decide +kernel
theorem dX9_odds_10 : decode cX9_odds 10 = .ok (.invokevirtual 122, 3) := by decide +kernel
theorem dX9_odds_13 : decode cX9_odds 13 = .ok (.ifCond .ne 6, 3) := by decide +kernel
theorem dX9_odds_16 : decode cX9_odds 16 = .ok (.bipush (-2), 2) := by decide +kernel
theorem dX9_odds_18 : decode cX9_odds 18 = .ok (.ireturn, 1) := by decide +kernel
theorem dX9_odds_19 : decode cX9_odds 19 = .ok (.iload_n 3, 1) := by decide +kernel
theorem dX9_odds_20 : decode cX9_odds 20 = .ok (.invokestatic 221, 3) := by decide +kernel
theorem dX9_odds_23 : decode cX9_odds 23 = .ok (.ifCond .eq 11, 3) := by decide +kernel
theorem dX9_odds_26 : decode cX9_odds 26 = .ok (.iload 4, 2) := by decide +kernel
theorem dX9_odds_28 : decode cX9_odds 28 = .ok (.invokestatic 224, 3) := by decide +kernel
theorem dX9_odds_31 : decode cX9_odds 31 = .ok (.ifCond .ne 6, 3) := by decide +kernel
theorem dX9_odds_34 : decode cX9_odds 34 = .ok (.bipush (-3), 2) := by decide +kernel
theorem dX9_odds_36 : decode cX9_odds 36 = .ok (.ireturn, 1) := by decide +kernel
theorem dX9_odds_37 : decode cX9_odds 37 = .ok (.aload_n 0, 1) := by decide +kernel
theorem dX9_odds_38 : decode cX9_odds 38 = .ok (.iload_n 3, 1) := by decide +kernel
theorem dX9_odds_39 : decode cX9_odds 39 = .ok (.invokevirtual 214, 3) := by decide +kernel
theorem dX9_odds_42 : decode cX9_odds 42 = .ok (.astore 5, 2) := by decide +kernel
theorem dX9_odds_44 : decode cX9_odds 44 = .ok (.aload 5, 2) := by decide +kernel
theorem dX9_odds_46 : decode cX9_odds 46 = .ok (.getfield 218, 3) := by decide +kernel
theorem dX9_odds_49 : decode cX9_odds 49 = .ok (.ifCond .ne 6, 3) := by decide +kernel
theorem dX9_odds_52 : decode cX9_odds 52 = .ok (.bipush (-4), 2) := by decide +kernel
theorem dX9_odds_54 : decode cX9_odds 54 = .ok (.ireturn, 1) := by decide +kernel
theorem dX9_odds_55 : decode cX9_odds 55 = .ok (.aload 5, 2) := by decide +kernel
theorem dX9_odds_57 : decode cX9_odds 57 = .ok (.getfield 237, 3) := by decide +kernel
theorem dX9_odds_60 : decode cX9_odds 60 = .ok (.iload_n 1, 1) := by decide +kernel
theorem dX9_odds_61 : decode cX9_odds 61 = .ok (.iload_n 2, 1) := by decide +kernel
theorem dX9_odds_62 : decode cX9_odds 62 = .ok (.invokestatic 240, 3) := by decide +kernel
theorem dX9_odds_65 : decode cX9_odds 65 = .ok (.iaload, 1) := by decide +kernel
theorem dX9_odds_66 : decode cX9_odds 66 = .ok (.i2l, 1) := by decide +kernel
theorem dX9_odds_67 : decode cX9_odds 67 = .ok (.aload 5, 2) := by decide +kernel
theorem dX9_odds_69 : decode cX9_odds 69 = .ok (.getfield 218, 3) := by decide +kernel
theorem dX9_odds_72 : decode cX9_odds 72 = .ok (.i2l, 1) := by decide +kernel
theorem dX9_odds_73 : decode cX9_odds 73 = .ok (.iload 4, 2) := by decide +kernel
theorem dX9_odds_75 : decode cX9_odds 75 = .ok (.invokestatic 231, 3) := by decide +kernel
theorem dX9_odds_78 : decode cX9_odds 78 = .ok (.l2i, 1) := by decide +kernel
theorem dX9_odds_79 : decode cX9_odds 79 = .ok (.ireturn, 1) := by decide +kernel
theorem dX9_week_0 : decode cX9_week 0 = .ok (.iload_n 1, 1) := by decide +kernel
theorem dX9_week_1 : decode cX9_week 1 = .ok (.iconst 1, 1) := by decide +kernel
theorem dX9_week_2 : decode cX9_week 2 = .ok (.if_icmp .lt 9, 3) := by decide +kernel
theorem dX9_week_5 : decode cX9_week 5 = .ok (.iload_n 1, 1) := by decide +kernel
theorem dX9_week_6 : decode cX9_week 6 = .ok (.bipush 7, 2) := by decide +kernel
theorem dX9_week_8 : decode cX9_week 8 = .ok (.if_icmp .le 6, 3) := by decide +kernel
theorem dX9_week_11 : decode cX9_week 11 = .ok (.bipush (-3), 2) := by decide +kernel
theorem dX9_week_13 : decode cX9_week 13 = .ok (.ireturn, 1) := by decide +kernel
theorem dX9_week_14 : decode cX9_week 14 = .ok (.aload_n 0, 1) := by decide +kernel
theorem dX9_week_15 : decode cX9_week 15 = .ok (.getfield 19, 3) := by decide +kernel
theorem dX9_week_18 : decode cX9_week 18 = .ok (.getfield 102, 3) := by decide +kernel
theorem dX9_week_21 : decode cX9_week 21 = .ok (.iconst 5, 1) := by decide +kernel
theorem dX9_week_22 : decode cX9_week 22 = .ok (.if_icmp .le 6, 3) := by decide +kernel
theorem dX9_week_25 : decode cX9_week 25 = .ok (.bipush (-4), 2) := by decide +kernel
theorem dX9_week_27 : decode cX9_week 27 = .ok (.ireturn, 1) := by decide +kernel
theorem dX9_week_28 : decode cX9_week 28 = .ok (.aload_n 0, 1) := by decide +kernel
theorem dX9_week_29 : decode cX9_week 29 = .ok (.getfield 68, 3) := by decide +kernel
theorem dX9_week_32 : decode cX9_week 32 = .ok (.aload_n 0, 1) := by decide +kernel
theorem dX9_week_33 : decode cX9_week 33 = .ok (.getfield 26, 3) := by decide +kernel
theorem dX9_week_36 : decode cX9_week 36 = .ok (.getfield 87, 3) := by decide +kernel
theorem dX9_week_39 : decode cX9_week 39 = .ok (.iload_n 1, 1) := by decide +kernel
theorem dX9_week_40 : decode cX9_week 40 = .ok (.invokevirtual 243, 3) := by decide +kernel
theorem dX9_week_43 : decode cX9_week 43 = .ok (.ireturn, 1) := by decide +kernel
theorem dX9_often_0 : decode cX9_often 0 = .ok (.aload_n 0, 1) := by decide +kernel
theorem dX9_often_1 : decode cX9_often 1 = .ok (.iload_n 1, 1) := by decide +kernel
theorem dX9_often_2 : decode cX9_often 2 = .ok (.invokevirtual 122, 3) := by decide +kernel
theorem dX9_often_5 : decode cX9_often 5 = .ok (.ifCond .eq 11, 3) := by decide +kernel
theorem dX9_often_8 : decode cX9_often 8 = .ok (.aload_n 0, 1) := by decide +kernel
theorem dX9_often_9 : decode cX9_often 9 = .ok (.iload_n 2, 1) := by decide +kernel
theorem dX9_often_10 : decode cX9_often 10 = .ok (.invokevirtual 122, 3) := by decide +kernel
theorem dX9_often_13 : decode cX9_often 13 = .ok (.ifCond .ne 6, 3) := by decide +kernel
theorem dX9_often_16 : decode cX9_often 16 = .ok (.bipush (-2), 2) := by decide +kernel
theorem dX9_often_18 : decode cX9_often 18 = .ok (.ireturn, 1) := by decide +kernel
theorem dX9_often_19 : decode cX9_often 19 = .ok (.aload_n 0, 1) := by decide +kernel
theorem dX9_often_20 : decode cX9_often 20 = .ok (.getfield 26, 3) := by decide +kernel
theorem dX9_often_23 : decode cX9_often 23 = .ok (.iload_n 1, 1) := by decide +kernel
theorem dX9_often_24 : decode cX9_often 24 = .ok (.iload_n 2, 1) := by decide +kernel
theorem dX9_often_25 : decode cX9_often 25 = .ok (.invokevirtual 246, 3) := by decide +kernel
theorem dX9_often_28 : decode cX9_often 28 = .ok (.ireturn, 1) := by decide +kernel
theorem dX9_tail_0 : decode cX9_tail 0 = .ok (.aload_n 0, 1) := by decide +kernel
theorem dX9_tail_1 : decode cX9_tail 1 = .ok (.iload_n 1, 1) := by decide +kernel
theorem dX9_tail_2 : decode cX9_tail 2 = .ok (.invokevirtual 122, 3) := by decide +kernel
theorem dX9_tail_5 : decode cX9_tail 5 = .ok (.ifCond .eq 11, 3) := by decide +kernel
theorem dX9_tail_8 : decode cX9_tail 8 = .ok (.aload_n 0, 1) := by decide +kernel
theorem dX9_tail_9 : decode cX9_tail 9 = .ok (.iload_n 2, 1) := by decide +kernel
theorem dX9_tail_10 : decode cX9_tail 10 = .ok (.invokevirtual 122, 3) := by decide +kernel
theorem dX9_tail_13 : decode cX9_tail 13 = .ok (.ifCond .ne 7, 3) := by decide +kernel
theorem dX9_tail_16 : decode cX9_tail 16 = .ok (.ldc2_w 249, 3) := by decide +kernel
theorem dX9_tail_19 : decode cX9_tail 19 = .ok (.lreturn, 1) := by decide +kernel
theorem dX9_tail_20 : decode cX9_tail 20 = .ok (.iload_n 3, 1) := by decide +kernel
theorem dX9_tail_21 : decode cX9_tail 21 = .ok (.invokestatic 224, 3) := by decide +kernel
theorem dX9_tail_24 : decode cX9_tail 24 = .ok (.ifCond .ne 7, 3) := by decide +kernel
theorem dX9_tail_27 : decode cX9_tail 27 = .ok (.ldc2_w 251, 3) := by decide +kernel
theorem dX9_tail_30 : decode cX9_tail 30 = .ok (.lreturn, 1) := by decide +kernel
theorem dX9_tail_31 : decode cX9_tail 31 = .ok (.aload_n 0, 1) := by decide +kernel
theorem dX9_tail_32 : decode cX9_tail 32 = .ok (.getfield 26, 3) := by decide +kernel
theorem dX9_tail_35 : decode cX9_tail 35 = .ok (.iload_n 1, 1) := by decide +kernel
theorem dX9_tail_36 : decode cX9_tail 36 = .ok (.iload_n 2, 1) := by decide +kernel
theorem dX9_tail_37 : decode cX9_tail 37 = .ok (.invokevirtual 246, 3) := by decide +kernel
theorem dX9_tail_40 : decode cX9_tail 40 = .ok (.aload_n 0, 1) := by decide +kernel
theorem dX9_tail_41 : decode cX9_tail 41 = .ok (.getfield 26, 3) := by decide +kernel
theorem dX9_tail_44 : decode cX9_tail 44 = .ok (.getfield 186, 3) := by decide +kernel
theorem dX9_tail_47 : decode cX9_tail 47 = .ok (.aload_n 0, 1) := by decide +kernel
theorem dX9_tail_48 : decode cX9_tail 48 = .ok (.getfield 19, 3) := by decide +kernel
theorem dX9_tail_51 : decode cX9_tail 51 = .ok (.getfield 102, 3) := by decide +kernel
theorem dX9_tail_54 : decode cX9_tail 54 = .ok (.invokestatic 253, 3) := by decide +kernel
theorem dX9_tail_57 : decode cX9_tail 57 = .ok (.lstore 4, 2) := by decide +kernel
theorem dX9_tail_59 : decode cX9_tail 59 = .ok (.lload 4, 2) := by decide +kernel
theorem dX9_tail_61 : decode cX9_tail 61 = .ok (.aload_n 0, 1) := by decide +kernel
theorem dX9_tail_62 : decode cX9_tail 62 = .ok (.getfield 19, 3) := by decide +kernel
theorem dX9_tail_65 : decode cX9_tail 65 = .ok (.getfield 102, 3) := by decide +kernel
theorem dX9_tail_68 : decode cX9_tail 68 = .ok (.i2l, 1) := by decide +kernel
theorem dX9_tail_69 : decode cX9_tail 69 = .ok (.aload_n 0, 1) := by decide +kernel
theorem dX9_tail_70 : decode cX9_tail 70 = .ok (.getfield 26, 3) := by decide +kernel
theorem dX9_tail_73 : decode cX9_tail 73 = .ok (.getfield 186, 3) := by decide +kernel
theorem dX9_tail_76 : decode cX9_tail 76 = .ok (.invokestatic 257, 3) := by decide +kernel
theorem dX9_tail_79 : decode cX9_tail 79 = .ok (.iload_n 3, 1) := by decide +kernel
theorem dX9_tail_80 : decode cX9_tail 80 = .ok (.invokestatic 231, 3) := by decide +kernel
theorem dX9_tail_83 : decode cX9_tail 83 = .ok (.lreturn, 1) := by decide +kernel
theorem dX9_named_0 : decode cX9_named 0 = .ok (.iload_n 1, 1) := by decide +kernel
theorem dX9_named_1 : decode cX9_named 1 = .ok (.ifCond .lt 10, 3) := by decide +kernel
theorem dX9_named_4 : decode cX9_named 4 = .ok (.iload_n 1, 1) := by decide +kernel
theorem dX9_named_5 : decode cX9_named 5 = .ok (.sipush 1000, 3) := by decide +kernel
theorem dX9_named_8 : decode cX9_named 8 = .ok (.if_icmp .le 6, 3) := by decide +kernel
theorem dX9_named_11 : decode cX9_named 11 = .ok (.bipush (-3), 2) := by decide +kernel
theorem dX9_named_13 : decode cX9_named 13 = .ok (.ireturn, 1) := by decide +kernel
theorem dX9_named_14 : decode cX9_named 14 = .ok (.aload_n 0, 1) := by decide +kernel
theorem dX9_named_15 : decode cX9_named 15 = .ok (.getfield 19, 3) := by decide +kernel
theorem dX9_named_18 : decode cX9_named 18 = .ok (.getfield 102, 3) := by decide +kernel
theorem dX9_named_21 : decode cX9_named 21 = .ok (.i2l, 1) := by decide +kernel
theorem dX9_named_22 : decode cX9_named 22 = .ok (.aload_n 0, 1) := by decide +kernel
theorem dX9_named_23 : decode cX9_named 23 = .ok (.getfield 26, 3) := by decide +kernel
theorem dX9_named_26 : decode cX9_named 26 = .ok (.getfield 186, 3) := by decide +kernel
theorem dX9_named_29 : decode cX9_named 29 = .ok (.invokestatic 257, 3) := by decide +kernel
theorem dX9_named_32 : decode cX9_named 32 = .ok (.lstore_n 2, 1) := by decide +kernel
theorem dX9_named_33 : decode cX9_named 33 = .ok (.iconst 0, 1) := by decide +kernel
theorem dX9_named_34 : decode cX9_named 34 = .ok (.istore 4, 2) := by decide +kernel
theorem dX9_named_36 : decode cX9_named 36 = .ok (.iload 4, 2) := by decide +kernel
theorem dX9_named_38 : decode cX9_named 38 = .ok (.aload_n 0, 1) := by decide +kernel
theorem dX9_named_39 : decode cX9_named 39 = .ok (.getfield 19, 3) := by decide +kernel
theorem dX9_named_42 : decode cX9_named 42 = .ok (.getfield 102, 3) := by decide +kernel
theorem dX9_named_45 : decode cX9_named 45 = .ok (.if_icmp .ge 83, 3) := by decide +kernel
theorem dX9_named_48 : decode cX9_named 48 = .ok (.iconst 0, 1) := by decide +kernel
theorem dX9_named_49 : decode cX9_named 49 = .ok (.istore 5, 2) := by decide +kernel
theorem dX9_named_51 : decode cX9_named 51 = .ok (.iload 5, 2) := by decide +kernel
theorem dX9_named_53 : decode cX9_named 53 = .ok (.aload_n 0, 1) := by decide +kernel
theorem dX9_named_54 : decode cX9_named 54 = .ok (.getfield 19, 3) := by decide +kernel
theorem dX9_named_57 : decode cX9_named 57 = .ok (.getfield 102, 3) := by decide +kernel
theorem dX9_named_60 : decode cX9_named 60 = .ok (.if_icmp .ge 62, 3) := by decide +kernel
theorem dX9_named_63 : decode cX9_named 63 = .ok (.aload_n 0, 1) := by decide +kernel
theorem dX9_named_64 : decode cX9_named 64 = .ok (.getfield 26, 3) := by decide +kernel
theorem dX9_named_67 : decode cX9_named 67 = .ok (.iload 4, 2) := by decide +kernel
theorem dX9_named_69 : decode cX9_named 69 = .ok (.iload 5, 2) := by decide +kernel
theorem dX9_named_71 : decode cX9_named 71 = .ok (.invokevirtual 246, 3) := by decide +kernel
theorem dX9_named_74 : decode cX9_named 74 = .ok (.aload_n 0, 1) := by decide +kernel
theorem dX9_named_75 : decode cX9_named 75 = .ok (.getfield 26, 3) := by decide +kernel
theorem dX9_named_78 : decode cX9_named 78 = .ok (.getfield 186, 3) := by decide +kernel
theorem dX9_named_81 : decode cX9_named 81 = .ok (.aload_n 0, 1) := by decide +kernel
theorem dX9_named_82 : decode cX9_named 82 = .ok (.getfield 19, 3) := by decide +kernel
theorem dX9_named_85 : decode cX9_named 85 = .ok (.getfield 102, 3) := by decide +kernel
theorem dX9_named_88 : decode cX9_named 88 = .ok (.invokestatic 253, 3) := by decide +kernel
theorem dX9_named_91 : decode cX9_named 91 = .ok (.lstore 6, 2) := by decide +kernel
theorem dX9_named_93 : decode cX9_named 93 = .ok (.ldc2_w 261, 3) := by decide +kernel
theorem dX9_named_96 : decode cX9_named 96 = .ok (.lload 6, 2) := by decide +kernel
theorem dX9_named_98 : decode cX9_named 98 = .ok (.lmul, 1) := by decide +kernel
theorem dX9_named_99 : decode cX9_named 99 = .ok (.iload_n 1, 1) := by decide +kernel
theorem dX9_named_100 : decode cX9_named 100 = .ok (.i2l, 1) := by decide +kernel
theorem dX9_named_101 : decode cX9_named 101 = .ok (.lload_n 2, 1) := by decide +kernel
theorem dX9_named_102 : decode cX9_named 102 = .ok (.lmul, 1) := by decide +kernel
theorem dX9_named_103 : decode cX9_named 103 = .ok (.lcmp, 1) := by decide +kernel
theorem dX9_named_104 : decode cX9_named 104 = .ok (.ifCond .ge 12, 3) := by decide +kernel
theorem dX9_named_107 : decode cX9_named 107 = .ok (.bipush 10, 2) := by decide +kernel
theorem dX9_named_109 : decode cX9_named 109 = .ok (.iload 4, 2) := by decide +kernel
theorem dX9_named_111 : decode cX9_named 111 = .ok (.imul, 1) := by decide +kernel
theorem dX9_named_112 : decode cX9_named 112 = .ok (.iload 5, 2) := by decide +kernel
theorem dX9_named_114 : decode cX9_named 114 = .ok (.iadd, 1) := by decide +kernel
theorem dX9_named_115 : decode cX9_named 115 = .ok (.ireturn, 1) := by decide +kernel
theorem dX9_named_116 : decode cX9_named 116 = .ok (.iinc 5 1, 3) := by decide +kernel
theorem dX9_named_119 : decode cX9_named 119 = .ok (.goto (-68), 3) := by decide +kernel
theorem dX9_named_122 : decode cX9_named 122 = .ok (.iinc 4 1, 3) := by decide +kernel
theorem dX9_named_125 : decode cX9_named 125 = .ok (.goto (-89), 3) := by decide +kernel
theorem dX9_named_128 : decode cX9_named 128 = .ok (.iconst (-1), 1) := by decide +kernel
theorem dX9_named_129 : decode cX9_named 129 = .ok (.ireturn, 1) := by decide +kernel
theorem dX9_keep_0 : decode cX9_keep 0 = .ok (.iload_n 1, 1) := by decide +kernel
theorem dX9_keep_1 : decode cX9_keep 1 = .ok (.ifCond .lt 8, 3) := by decide +kernel
theorem dX9_keep_4 : decode cX9_keep 4 = .ok (.iload_n 1, 1) := by decide +kernel
theorem dX9_keep_5 : decode cX9_keep 5 = .ok (.iconst 2, 1) := by decide +kernel
theorem dX9_keep_6 : decode cX9_keep 6 = .ok (.if_icmp .lt 6, 3) := by decide +kernel
theorem dX9_keep_9 : decode cX9_keep 9 = .ok (.bipush (-2), 2) := by decide +kernel
theorem dX9_keep_11 : decode cX9_keep 11 = .ok (.ireturn, 1) := by decide +kernel
theorem dX9_keep_12 : decode cX9_keep 12 = .ok (.aload_n 0, 1) := by decide +kernel
theorem dX9_keep_13 : decode cX9_keep 13 = .ok (.getfield 30, 3) := by decide +kernel
theorem dX9_keep_16 : decode cX9_keep 16 = .ok (.iload_n 1, 1) := by decide +kernel
theorem dX9_keep_17 : decode cX9_keep 17 = .ok (.aaload, 1) := by decide +kernel
theorem dX9_keep_18 : decode cX9_keep 18 = .ok (.aload_n 0, 1) := by decide +kernel
theorem dX9_keep_19 : decode cX9_keep 19 = .ok (.getfield 26, 3) := by decide +kernel
theorem dX9_keep_22 : decode cX9_keep 22 = .ok (.invokevirtual 263, 3) := by decide +kernel
theorem dX9_keep_25 : decode cX9_keep 25 = .ok (.aload_n 0, 1) := by decide +kernel
theorem dX9_keep_26 : decode cX9_keep 26 = .ok (.getfield 34, 3) := by decide +kernel
theorem dX9_keep_29 : decode cX9_keep 29 = .ok (.iload_n 1, 1) := by decide +kernel
theorem dX9_keep_30 : decode cX9_keep 30 = .ok (.iconst 1, 1) := by decide +kernel
theorem dX9_keep_31 : decode cX9_keep 31 = .ok (.bastore, 1) := by decide +kernel
theorem dX9_keep_32 : decode cX9_keep 32 = .ok (.aload_n 0, 1) := by decide +kernel
theorem dX9_keep_33 : decode cX9_keep 33 = .ok (.getfield 26, 3) := by decide +kernel
theorem dX9_keep_36 : decode cX9_keep 36 = .ok (.getfield 186, 3) := by decide +kernel
theorem dX9_keep_39 : decode cX9_keep 39 = .ok (.ireturn, 1) := by decide +kernel
theorem dX9_back_0 : decode cX9_back 0 = .ok (.iload_n 1, 1) := by decide +kernel
theorem dX9_back_1 : decode cX9_back 1 = .ok (.ifCond .lt 8, 3) := by decide +kernel
theorem dX9_back_4 : decode cX9_back 4 = .ok (.iload_n 1, 1) := by decide +kernel
theorem dX9_back_5 : decode cX9_back 5 = .ok (.iconst 2, 1) := by decide +kernel
theorem dX9_back_6 : decode cX9_back 6 = .ok (.if_icmp .lt 6, 3) := by decide +kernel
theorem dX9_back_9 : decode cX9_back 9 = .ok (.bipush (-2), 2) := by decide +kernel
theorem dX9_back_11 : decode cX9_back 11 = .ok (.ireturn, 1) := by decide +kernel
theorem dX9_back_12 : decode cX9_back 12 = .ok (.aload_n 0, 1) := by decide +kernel
theorem dX9_back_13 : decode cX9_back 13 = .ok (.getfield 34, 3) := by decide +kernel
theorem dX9_back_16 : decode cX9_back 16 = .ok (.iload_n 1, 1) := by decide +kernel
theorem dX9_back_17 : decode cX9_back 17 = .ok (.baload, 1) := by decide +kernel
theorem dX9_back_18 : decode cX9_back 18 = .ok (.ifCond .ne 6, 3) := by decide +kernel
theorem dX9_back_21 : decode cX9_back 21 = .ok (.bipush (-4), 2) := by decide +kernel
theorem dX9_back_23 : decode cX9_back 23 = .ok (.ireturn, 1) := by decide +kernel
theorem dX9_back_24 : decode cX9_back 24 = .ok (.aload_n 0, 1) := by decide +kernel
theorem dX9_back_25 : decode cX9_back 25 = .ok (.getfield 26, 3) := by decide +kernel
theorem dX9_back_28 : decode cX9_back 28 = .ok (.aload_n 0, 1) := by decide +kernel
theorem dX9_back_29 : decode cX9_back 29 = .ok (.getfield 30, 3) := by decide +kernel
theorem dX9_back_32 : decode cX9_back 32 = .ok (.iload_n 1, 1) := by decide +kernel
theorem dX9_back_33 : decode cX9_back 33 = .ok (.aaload, 1) := by decide +kernel
theorem dX9_back_34 : decode cX9_back 34 = .ok (.invokevirtual 263, 3) := by decide +kernel
theorem dX9_back_37 : decode cX9_back 37 = .ok (.aload_n 0, 1) := by decide +kernel
theorem dX9_back_38 : decode cX9_back 38 = .ok (.invokevirtual 119, 3) := by decide +kernel
theorem dX9_back_41 : decode cX9_back 41 = .ok (.aload_n 0, 1) := by decide +kernel
theorem dX9_back_42 : decode cX9_back 42 = .ok (.getfield 26, 3) := by decide +kernel
theorem dX9_back_45 : decode cX9_back 45 = .ok (.getfield 186, 3) := by decide +kernel
theorem dX9_back_48 : decode cX9_back 48 = .ok (.ireturn, 1) := by decide +kernel
theorem dX9_count_0 : decode cX9_count 0 = .ok (.iload_n 1, 1) := by decide +kernel
theorem dX9_count_1 : decode cX9_count 1 = .ok (.tableswitch 83 0 4 #[35, 43, 51, 59, 67], 35) := by decide +kernel
theorem dX9_count_36 : decode cX9_count 36 = .ok (.aload_n 0, 1) := by decide +kernel
theorem dX9_count_37 : decode cX9_count 37 = .ok (.getfield 19, 3) := by decide +kernel
theorem dX9_count_40 : decode cX9_count 40 = .ok (.getfield 102, 3) := by decide +kernel
theorem dX9_count_43 : decode cX9_count 43 = .ok (.ireturn, 1) := by decide +kernel
theorem dX9_count_44 : decode cX9_count 44 = .ok (.aload_n 0, 1) := by decide +kernel
theorem dX9_count_45 : decode cX9_count 45 = .ok (.getfield 19, 3) := by decide +kernel
theorem dX9_count_48 : decode cX9_count 48 = .ok (.getfield 167, 3) := by decide +kernel
theorem dX9_count_51 : decode cX9_count 51 = .ok (.ireturn, 1) := by decide +kernel
theorem dX9_count_52 : decode cX9_count 52 = .ok (.aload_n 0, 1) := by decide +kernel
theorem dX9_count_53 : decode cX9_count 53 = .ok (.getfield 26, 3) := by decide +kernel
theorem dX9_count_56 : decode cX9_count 56 = .ok (.getfield 186, 3) := by decide +kernel
theorem dX9_count_59 : decode cX9_count 59 = .ok (.ireturn, 1) := by decide +kernel
theorem dX9_count_60 : decode cX9_count 60 = .ok (.aload_n 0, 1) := by decide +kernel
theorem dX9_count_61 : decode cX9_count 61 = .ok (.getfield 10, 3) := by decide +kernel
theorem dX9_count_64 : decode cX9_count 64 = .ok (.getfield 93, 3) := by decide +kernel
theorem dX9_count_67 : decode cX9_count 67 = .ok (.ireturn, 1) := by decide +kernel
theorem dX9_count_68 : decode cX9_count 68 = .ok (.aload_n 0, 1) := by decide +kernel
theorem dX9_count_69 : decode cX9_count 69 = .ok (.getfield 26, 3) := by decide +kernel
theorem dX9_count_72 : decode cX9_count 72 = .ok (.getfield 160, 3) := by decide +kernel
theorem dX9_count_75 : decode cX9_count 75 = .ok (.ifCond .eq 7, 3) := by decide +kernel
theorem dX9_count_78 : decode cX9_count 78 = .ok (.iconst 1, 1) := by decide +kernel
theorem dX9_count_79 : decode cX9_count 79 = .ok (.goto 4, 3) := by decide +kernel
theorem dX9_count_82 : decode cX9_count 82 = .ok (.iconst 0, 1) := by decide +kernel
theorem dX9_count_83 : decode cX9_count 83 = .ok (.ireturn, 1) := by decide +kernel
theorem dX9_count_84 : decode cX9_count 84 = .ok (.bipush (-3), 2) := by decide +kernel
theorem dX9_count_86 : decode cX9_count 86 = .ok (.ireturn, 1) := by decide +kernel
theorem dX9_isThere_0 : decode cX9_isThere 0 = .ok (.iload_n 1, 1) := by decide +kernel
theorem dX9_isThere_1 : decode cX9_isThere 1 = .ok (.ifCond .lt 18, 3) := by decide +kernel
theorem dX9_isThere_4 : decode cX9_isThere 4 = .ok (.iload_n 1, 1) := by decide +kernel
theorem dX9_isThere_5 : decode cX9_isThere 5 = .ok (.aload_n 0, 1) := by decide +kernel
theorem dX9_isThere_6 : decode cX9_isThere 6 = .ok (.getfield 19, 3) := by decide +kernel
theorem dX9_isThere_9 : decode cX9_isThere 9 = .ok (.getfield 102, 3) := by decide +kernel
theorem dX9_isThere_12 : decode cX9_isThere 12 = .ok (.if_icmp .ge 7, 3) := by decide +kernel
theorem dX9_isThere_15 : decode cX9_isThere 15 = .ok (.iconst 1, 1) := by decide +kernel
theorem dX9_isThere_16 : decode cX9_isThere 16 = .ok (.goto 4, 3) := by decide +kernel
theorem dX9_isThere_19 : decode cX9_isThere 19 = .ok (.iconst 0, 1) := by decide +kernel
theorem dX9_isThere_20 : decode cX9_isThere 20 = .ok (.ireturn, 1) := by decide +kernel
theorem dX9_isRing_0 : decode cX9_isRing 0 = .ok (.iload_n 0, 1) := by decide +kernel
theorem dX9_isRing_1 : decode cX9_isRing 1 = .ok (.ifCond .eq 13, 3) := by decide +kernel
theorem dX9_isRing_4 : decode cX9_isRing 4 = .ok (.iload_n 0, 1) := by decide +kernel
theorem dX9_isRing_5 : decode cX9_isRing 5 = .ok (.iconst 2, 1) := by decide +kernel
theorem dX9_isRing_6 : decode cX9_isRing 6 = .ok (.if_icmp .eq 8, 3) := by decide +kernel
theorem dX9_isRing_9 : decode cX9_isRing 9 = .ok (.iload_n 0, 1) := by decide +kernel
theorem dX9_isRing_10 : decode cX9_isRing 10 = .ok (.iconst 3, 1) := by decide +kernel
theorem dX9_isRing_11 : decode cX9_isRing 11 = .ok (.if_icmp .ne 7, 3) := by decide +kernel
theorem dX9_isRing_14 : decode cX9_isRing 14 = .ok (.iconst 1, 1) := by decide +kernel
theorem dX9_isRing_15 : decode cX9_isRing 15 = .ok (.goto 4, 3) := by decide +kernel
theorem dX9_isRing_18 : decode cX9_isRing 18 = .ok (.iconst 0, 1) := by decide +kernel
theorem dX9_isRing_19 : decode cX9_isRing 19 = .ok (.ireturn, 1) := by decide +kernel
theorem dX9_isPart_0 : decode cX9_isPart 0 = .ok (.iload_n 0, 1) := by decide +kernel
theorem dX9_isPart_1 : decode cX9_isPart 1 = .ok (.ifCond .eq 8, 3) := by decide +kernel
theorem dX9_isPart_4 : decode cX9_isPart 4 = .ok (.iload_n 0, 1) := by decide +kernel
theorem dX9_isPart_5 : decode cX9_isPart 5 = .ok (.iconst 1, 1) := by decide +kernel
theorem dX9_isPart_6 : decode cX9_isPart 6 = .ok (.if_icmp .ne 7, 3) := by decide +kernel
theorem dX9_isPart_9 : decode cX9_isPart 9 = .ok (.iconst 1, 1) := by decide +kernel
theorem dX9_isPart_10 : decode cX9_isPart 10 = .ok (.goto 4, 3) := by decide +kernel
theorem dX9_isPart_13 : decode cX9_isPart 13 = .ok (.iconst 0, 1) := by decide +kernel
theorem dX9_isPart_14 : decode cX9_isPart 14 = .ok (.ireturn, 1) := by decide +kernel
theorem dX9_yesterdayChanged_0 : decode cX9_yesterdayChanged 0 = .ok (.aload_n 0, 1) := by decide +kernel
theorem dX9_yesterdayChanged_1 : decode cX9_yesterdayChanged 1 = .ok (.getfield 43, 3) := by decide +kernel
theorem dX9_yesterdayChanged_4 : decode cX9_yesterdayChanged 4 = .ok (.aload_n 0, 1) := by decide +kernel
theorem dX9_yesterdayChanged_5 : decode cX9_yesterdayChanged 5 = .ok (.getfield 26, 3) := by decide +kernel
theorem dX9_yesterdayChanged_8 : decode cX9_yesterdayChanged 8 = .ok (.getfield 87, 3) := by decide +kernel
theorem dX9_yesterdayChanged_11 : decode cX9_yesterdayChanged 11 = .ok (.invokevirtual 90, 3) := by decide +kernel
theorem dX9_yesterdayChanged_14 : decode cX9_yesterdayChanged 14 = .ok (.iconst 0, 1) := by decide +kernel
theorem dX9_yesterdayChanged_15 : decode cX9_yesterdayChanged 15 = .ok (.istore_n 1, 1) := by decide +kernel
theorem dX9_yesterdayChanged_16 : decode cX9_yesterdayChanged 16 = .ok (.iload_n 1, 1) := by decide +kernel
theorem dX9_yesterdayChanged_17 : decode cX9_yesterdayChanged 17 = .ok (.aload_n 0, 1) := by decide +kernel
theorem dX9_yesterdayChanged_18 : decode cX9_yesterdayChanged 18 = .ok (.getfield 52, 3) := by decide +kernel
theorem dX9_yesterdayChanged_21 : decode cX9_yesterdayChanged 21 = .ok (.arraylength, 1) := by decide +kernel
theorem dX9_yesterdayChanged_22 : decode cX9_yesterdayChanged 22 = .ok (.if_icmp .ge 19, 3) := by decide +kernel
theorem dX9_yesterdayChanged_25 : decode cX9_yesterdayChanged 25 = .ok (.aload_n 0, 1) := by decide +kernel
theorem dX9_yesterdayChanged_26 : decode cX9_yesterdayChanged 26 = .ok (.getfield 52, 3) := by decide +kernel
theorem dX9_yesterdayChanged_29 : decode cX9_yesterdayChanged 29 = .ok (.iload_n 1, 1) := by decide +kernel
theorem dX9_yesterdayChanged_30 : decode cX9_yesterdayChanged 30 = .ok (.aaload, 1) := by decide +kernel
theorem dX9_yesterdayChanged_31 : decode cX9_yesterdayChanged 31 = .ok (.iconst 0, 1) := by decide +kernel
theorem dX9_yesterdayChanged_32 : decode cX9_yesterdayChanged 32 = .ok (.putfield 267, 3) := by decide +kernel
theorem dX9_yesterdayChanged_35 : decode cX9_yesterdayChanged 35 = .ok (.iinc 1 1, 3) := by decide +kernel
theorem dX9_yesterdayChanged_38 : decode cX9_yesterdayChanged 38 = .ok (.goto (-22), 3) := by decide +kernel
theorem dX9_yesterdayChanged_41 : decode cX9_yesterdayChanged 41 = .ok (.return_, 1) := by decide +kernel
theorem dX9_tallyOf_0 : decode cX9_tallyOf 0 = .ok (.aload_n 0, 1) := by decide +kernel
theorem dX9_tallyOf_1 : decode cX9_tallyOf 1 = .ok (.getfield 52, 3) := by decide +kernel
theorem dX9_tallyOf_4 : decode cX9_tallyOf 4 = .ok (.iload_n 1, 1) := by decide +kernel
theorem dX9_tallyOf_5 : decode cX9_tallyOf 5 = .ok (.ifCond .ne 7, 3) := by decide +kernel
theorem dX9_tallyOf_8 : decode cX9_tallyOf 8 = .ok (.iconst 0, 1) := by decide +kernel
theorem dX9_tallyOf_9 : decode cX9_tallyOf 9 = .ok (.goto 13, 3) := by decide +kernel
theorem dX9_tallyOf_12 : decode cX9_tallyOf 12 = .ok (.iload_n 1, 1) := by decide +kernel
theorem dX9_tallyOf_13 : decode cX9_tallyOf 13 = .ok (.iconst 2, 1) := by decide +kernel
theorem dX9_tallyOf_14 : decode cX9_tallyOf 14 = .ok (.if_icmp .ne 7, 3) := by decide +kernel
theorem dX9_tallyOf_17 : decode cX9_tallyOf 17 = .ok (.iconst 1, 1) := by decide +kernel
theorem dX9_tallyOf_18 : decode cX9_tallyOf 18 = .ok (.goto 4, 3) := by decide +kernel
theorem dX9_tallyOf_21 : decode cX9_tallyOf 21 = .ok (.iconst 2, 1) := by decide +kernel
theorem dX9_tallyOf_22 : decode cX9_tallyOf 22 = .ok (.aaload, 1) := by decide +kernel
theorem dX9_tallyOf_23 : decode cX9_tallyOf 23 = .ok (.astore_n 2, 1) := by decide +kernel
theorem dX9_tallyOf_24 : decode cX9_tallyOf 24 = .ok (.aload_n 2, 1) := by decide +kernel
theorem dX9_tallyOf_25 : decode cX9_tallyOf 25 = .ok (.getfield 267, 3) := by decide +kernel
theorem dX9_tallyOf_28 : decode cX9_tallyOf 28 = .ok (.ifCond .ne 7, 3) := by decide +kernel
theorem dX9_tallyOf_31 : decode cX9_tallyOf 31 = .ok (.aload_n 2, 1) := by decide +kernel
theorem dX9_tallyOf_32 : decode cX9_tallyOf 32 = .ok (.invokevirtual 270, 3) := by decide +kernel
theorem dX9_tallyOf_35 : decode cX9_tallyOf 35 = .ok (.aload_n 2, 1) := by decide +kernel
theorem dX9_tallyOf_36 : decode cX9_tallyOf 36 = .ok (.areturn, 1) := by decide +kernel
theorem dX10_init_0 : decode cX10_init 0 = .ok (.aload_n 0, 1) := by decide +kernel
theorem dX10_init_1 : decode cX10_init 1 = .ok (.invokespecial 1, 3) := by decide +kernel
theorem dX10_init_4 : decode cX10_init 4 = .ok (.aload_n 0, 1) := by decide +kernel
theorem dX10_init_5 : decode cX10_init 5 = .ok (.iconst 4, 1) := by decide +kernel
theorem dX10_init_6 : decode cX10_init 6 = .ok (.putfield 7, 3) := by decide +kernel
theorem dX10_init_9 : decode cX10_init 9 = .ok (.aload_n 0, 1) := by decide +kernel
theorem dX10_init_10 : decode cX10_init 10 = .ok (.iconst 3, 1) := by decide +kernel
theorem dX10_init_11 : decode cX10_init 11 = .ok (.putfield 13, 3) := by decide +kernel
theorem dX10_init_14 : decode cX10_init 14 = .ok (.aload_n 0, 1) := by decide +kernel
theorem dX10_init_15 : decode cX10_init 15 = .ok (.bipush 49, 2) := by decide +kernel
theorem dX10_init_17 : decode cX10_init 17 = .ok (.newarray .int, 2) := by decide +kernel
theorem dX10_init_19 : decode cX10_init 19 = .ok (.putfield 16, 3) := by decide +kernel
theorem dX10_init_22 : decode cX10_init 22 = .ok (.aload_n 0, 1) := by decide +kernel
theorem dX10_init_23 : decode cX10_init 23 = .ok (.bipush 49, 2) := by decide +kernel
theorem dX10_init_25 : decode cX10_init 25 = .ok (.newarray .int, 2) := by decide +kernel
theorem dX10_init_27 : decode cX10_init 27 = .ok (.putfield 20, 3) := by decide +kernel
theorem dX10_init_30 : decode cX10_init 30 = .ok (.aload_n 0, 1) := by decide +kernel
theorem dX10_init_31 : decode cX10_init 31 = .ok (.bipush 7, 2) := by decide +kernel
theorem dX10_init_33 : decode cX10_init 33 = .ok (.newarray .int, 2) := by decide +kernel
theorem dX10_init_35 : decode cX10_init 35 = .ok (.putfield 23, 3) := by decide +kernel
theorem dX10_init_38 : decode cX10_init 38 = .ok (.aload_n 0, 1) := by decide +kernel
theorem dX10_init_39 : decode cX10_init 39 = .ok (.bipush 7, 2) := by decide +kernel
theorem dX10_init_41 : decode cX10_init 41 = .ok (.newarray .int, 2) := by decide +kernel
theorem dX10_init_43 : decode cX10_init 43 = .ok (.putfield 26, 3) := by decide +kernel
theorem dX10_init_46 : decode cX10_init 46 = .ok (.aload_n 0, 1) := by decide +kernel
theorem dX10_init_47 : decode cX10_init 47 = .ok (.sipush 200, 3) := by decide +kernel
theorem dX10_init_50 : decode cX10_init 50 = .ok (.newarray .int, 2) := by decide +kernel
theorem dX10_init_52 : decode cX10_init 52 = .ok (.putfield 29, 3) := by decide +kernel
theorem dX10_init_55 : decode cX10_init 55 = .ok (.aload_n 0, 1) := by decide +kernel
theorem dX10_init_56 : decode cX10_init 56 = .ok (.bipush 56, 2) := by decide +kernel
theorem dX10_init_58 : decode cX10_init 58 = .ok (.newarray .int, 2) := by decide +kernel
theorem dX10_init_60 : decode cX10_init 60 = .ok (.putfield 32, 3) := by decide +kernel
theorem dX10_init_63 : decode cX10_init 63 = .ok (.aload_n 0, 1) := by decide +kernel
theorem dX10_init_64 : decode cX10_init 64 = .ok (.sipush 128, 3) := by decide +kernel
theorem dX10_init_67 : decode cX10_init 67 = .ok (.newarray .int, 2) := by decide +kernel
theorem dX10_init_69 : decode cX10_init 69 = .ok (.putfield 35, 3) := by decide +kernel
theorem dX10_init_72 : decode cX10_init 72 = .ok (.aload_n 0, 1) := by decide +kernel
theorem dX10_init_73 : decode cX10_init 73 = .ok (.sipush 256, 3) := by decide +kernel
theorem dX10_init_76 : decode cX10_init 76 = .ok (.newarray .int, 2) := by decide +kernel
theorem dX10_init_78 : decode cX10_init 78 = .ok (.putfield 38, 3) := by decide +kernel
theorem dX10_init_81 : decode cX10_init 81 = .ok (.aload_n 0, 1) := by decide +kernel
theorem dX10_init_82 : decode cX10_init 82 = .ok (.iconst 2, 1) := by decide +kernel
theorem dX10_init_83 : decode cX10_init 83 = .ok (.newarray .boolean, 2) := by decide +kernel
theorem dX10_init_85 : decode cX10_init 85 = .ok (.putfield 41, 3) := by decide +kernel
theorem dX10_init_88 : decode cX10_init 88 = .ok (.aload_n 0, 1) := by decide +kernel
theorem dX10_init_89 : decode cX10_init 89 = .ok (.bipush 7, 2) := by decide +kernel
theorem dX10_init_91 : decode cX10_init 91 = .ok (.newarray .int, 2) := by decide +kernel
theorem dX10_init_93 : decode cX10_init 93 = .ok (.putfield 45, 3) := by decide +kernel
theorem dX10_init_96 : decode cX10_init 96 = .ok (.aload_n 0, 1) := by decide +kernel
theorem dX10_init_97 : decode cX10_init 97 = .ok (.bipush 7, 2) := by decide +kernel
theorem dX10_init_99 : decode cX10_init 99 = .ok (.newarray .int, 2) := by decide +kernel
theorem dX10_init_101 : decode cX10_init 101 = .ok (.putfield 48, 3) := by decide +kernel
theorem dX10_init_104 : decode cX10_init 104 = .ok (.aload_n 0, 1) := by decide +kernel
theorem dX10_init_105 : decode cX10_init 105 = .ok (.sipush 5040, 3) := by decide +kernel
theorem dX10_init_108 : decode cX10_init 108 = .ok (.newarray .boolean, 2) := by decide +kernel
theorem dX10_init_110 : decode cX10_init 110 = .ok (.putfield 51, 3) := by decide +kernel
theorem dX10_init_113 : decode cX10_init 113 = .ok (.aload_n 0, 1) := by decide +kernel
theorem dX10_init_114 : decode cX10_init 114 = .ok (.sipush 5040, 3) := by decide +kernel
theorem dX10_init_117 : decode cX10_init 117 = .ok (.newarray .int, 2) := by decide +kernel
theorem dX10_init_119 : decode cX10_init 119 = .ok (.putfield 54, 3) := by decide +kernel
theorem dX10_init_122 : decode cX10_init 122 = .ok (.aload_n 0, 1) := by decide +kernel
theorem dX10_init_123 : decode cX10_init 123 = .ok (.bipush 120, 2) := by decide +kernel
theorem dX10_init_125 : decode cX10_init 125 = .ok (.newarray .int, 2) := by decide +kernel
theorem dX10_init_127 : decode cX10_init 127 = .ok (.putfield 57, 3) := by decide +kernel
theorem dX10_init_130 : decode cX10_init 130 = .ok (.aload_n 0, 1) := by decide +kernel
theorem dX10_init_131 : decode cX10_init 131 = .ok (.bipush 120, 2) := by decide +kernel
theorem dX10_init_133 : decode cX10_init 133 = .ok (.newarray .int, 2) := by decide +kernel
theorem dX10_init_135 : decode cX10_init 135 = .ok (.putfield 60, 3) := by decide +kernel
theorem dX10_init_138 : decode cX10_init 138 = .ok (.aload_n 0, 1) := by decide +kernel
theorem dX10_init_139 : decode cX10_init 139 = .ok (.invokevirtual 63, 3) := by decide +kernel
theorem dX10_init_142 : decode cX10_init 142 = .ok (.aload_n 0, 1) := by decide +kernel
theorem dX10_init_143 : decode cX10_init 143 = .ok (.invokevirtual 66, 3) := by decide +kernel
theorem dX10_init_146 : decode cX10_init 146 = .ok (.return_, 1) := by decide +kernel
theorem dX10_in_0 : decode cX10_in 0 = .ok (.iload_n 0, 1) := by decide +kernel
theorem dX10_in_1 : decode cX10_in 1 = .ok (.iload_n 1, 1) := by decide +kernel
theorem dX10_in_2 : decode cX10_in 2 = .ok (.if_icmp .lt 12, 3) := by decide +kernel
theorem dX10_in_5 : decode cX10_in 5 = .ok (.iload_n 0, 1) := by decide +kernel
theorem dX10_in_6 : decode cX10_in 6 = .ok (.iload_n 2, 1) := by decide +kernel
theorem dX10_in_7 : decode cX10_in 7 = .ok (.if_icmp .gt 7, 3) := by decide +kernel
theorem dX10_in_10 : decode cX10_in 10 = .ok (.iconst 1, 1) := by decide +kernel
theorem dX10_in_11 : decode cX10_in 11 = .ok (.goto 4, 3) := by decide +kernel
theorem dX10_in_14 : decode cX10_in 14 = .ok (.iconst 0, 1) := by decide +kernel
theorem dX10_in_15 : decode cX10_in 15 = .ok (.ireturn, 1) := by decide +kernel
theorem dX10_isMonk_0 : decode cX10_isMonk 0 = .ok (.iload_n 1, 1) := by decide +kernel
theorem dX10_isMonk_1 : decode cX10_isMonk 1 = .ok (.iconst 0, 1) := by decide +kernel
theorem dX10_isMonk_2 : decode cX10_isMonk 2 = .ok (.aload_n 0, 1) := by decide +kernel
theorem dX10_isMonk_3 : decode cX10_isMonk 3 = .ok (.getfield 7, 3) := by decide +kernel
theorem dX10_isMonk_6 : decode cX10_isMonk 6 = .ok (.iconst 1, 1) := by decide +kernel
theorem dX10_isMonk_7 : decode cX10_isMonk 7 = .ok (.isub, 1) := by decide +kernel
theorem dX10_isMonk_8 : decode cX10_isMonk 8 = .ok (.invokestatic 69, 3) := by decide +kernel
theorem dX10_isMonk_11 : decode cX10_isMonk 11 = .ok (.ireturn, 1) := by decide +kernel
theorem dX10_plain_0 : decode cX10_plain 0 = .ok (.iconst 0, 1) := by decide +kernel
theorem dX10_plain_1 : decode cX10_plain 1 = .ok (.istore_n 1, 1) := by decide +kernel
theorem dX10_plain_2 : decode cX10_plain 2 = .ok (.iload_n 1, 1) := by decide +kernel
theorem dX10_plain_3 : decode cX10_plain 3 = .ok (.bipush 49, 2) := by decide +kernel
theorem dX10_plain_5 : decode cX10_plain 5 = .ok (.if_icmp .ge 23, 3) := by decide +kernel
end
section
theorem dX10_plain_8 : decode cX10_plain 8 = .ok (.aload_n 0, 1) := by decide +kernel
theorem dX10_plain_9 : decode cX10_plain 9 = .ok (.getfield 16, 3) := by decide +kernel
theorem dX10_plain_12 : decode cX10_plain 12 = .ok (.iload_n 1, 1) := by decide +kernel
theorem dX10_plain_13 : decode cX10_plain 13 = .ok (.iconst 5, 1) := by decide +kernel
theorem dX10_plain_14 : decode cX10_plain 14 = .ok (.iastore, 1) := by decide +kernel
theorem dX10_plain_15 : decode cX10_plain 15 = .ok (.aload_n 0, 1) := by decide +kernel
theorem dX10_plain_16 : decode cX10_plain 16 = .ok (.getfield 20, 3) := by decide +kernel
theorem dX10_plain_19 : decode cX10_plain 19 = .ok (.iload_n 1, 1) := by decide +kernel
theorem dX10_plain_20 : decode cX10_plain 20 = .ok (.iconst 5, 1) := by decide +kernel
theorem dX10_plain_21 : decode cX10_plain 21 = .ok (.iastore, 1) := by decide +kernel
theorem dX10_plain_22 : decode cX10_plain 22 = .ok (.iinc 1 1, 3) := by decide +kernel
theorem dX10_plain_25 : decode cX10_plain 25 = .ok (.goto (-23), 3) := by decide +kernel
theorem dX10_plain_28 : decode cX10_plain 28 = .ok (.iconst 0, 1) := by decide +kernel
theorem dX10_plain_29 : decode cX10_plain 29 = .ok (.istore_n 1, 1) := by decide +kernel
theorem dX10_plain_30 : decode cX10_plain 30 = .ok (.iload_n 1, 1) := by decide +kernel
theorem dX10_plain_31 : decode cX10_plain 31 = .ok (.bipush 7, 2) := by decide +kernel
theorem dX10_plain_33 : decode cX10_plain 33 = .ok (.if_icmp .ge 23, 3) := by decide +kernel
theorem dX10_plain_36 : decode cX10_plain 36 = .ok (.aload_n 0, 1) := by decide +kernel
theorem dX10_plain_37 : decode cX10_plain 37 = .ok (.getfield 23, 3) := by decide +kernel
theorem dX10_plain_40 : decode cX10_plain 40 = .ok (.iload_n 1, 1) := by decide +kernel
theorem dX10_plain_41 : decode cX10_plain 41 = .ok (.iconst 0, 1) := by decide +kernel
theorem dX10_plain_42 : decode cX10_plain 42 = .ok (.iastore, 1) := by decide +kernel
theorem dX10_plain_43 : decode cX10_plain 43 = .ok (.aload_n 0, 1) := by decide +kernel
theorem dX10_plain_44 : decode cX10_plain 44 = .ok (.getfield 26, 3) := by decide +kernel
theorem dX10_plain_47 : decode cX10_plain 47 = .ok (.iload_n 1, 1) := by decide +kernel
theorem dX10_plain_48 : decode cX10_plain 48 = .ok (.iconst (-1), 1) := by decide +kernel
theorem dX10_plain_49 : decode cX10_plain 49 = .ok (.iastore, 1) := by decide +kernel
theorem dX10_plain_50 : decode cX10_plain 50 = .ok (.iinc 1 1, 3) := by decide +kernel
theorem dX10_plain_53 : decode cX10_plain 53 = .ok (.goto (-23), 3) := by decide +kernel
theorem dX10_plain_56 : decode cX10_plain 56 = .ok (.aload_n 0, 1) := by decide +kernel
theorem dX10_plain_57 : decode cX10_plain 57 = .ok (.iconst 3, 1) := by decide +kernel
theorem dX10_plain_58 : decode cX10_plain 58 = .ok (.putfield 13, 3) := by decide +kernel
theorem dX10_plain_61 : decode cX10_plain 61 = .ok (.return_, 1) := by decide +kernel
theorem dX10_begin_0 : decode cX10_begin 0 = .ok (.iconst 0, 1) := by decide +kernel
theorem dX10_begin_1 : decode cX10_begin 1 = .ok (.istore_n 1, 1) := by decide +kernel
theorem dX10_begin_2 : decode cX10_begin 2 = .ok (.iload_n 1, 1) := by decide +kernel
theorem dX10_begin_3 : decode cX10_begin 3 = .ok (.sipush 128, 3) := by decide +kernel
theorem dX10_begin_6 : decode cX10_begin 6 = .ok (.if_icmp .ge 16, 3) := by decide +kernel
theorem dX10_begin_9 : decode cX10_begin 9 = .ok (.aload_n 0, 1) := by decide +kernel
theorem dX10_begin_10 : decode cX10_begin 10 = .ok (.getfield 35, 3) := by decide +kernel
theorem dX10_begin_13 : decode cX10_begin 13 = .ok (.iload_n 1, 1) := by decide +kernel
theorem dX10_begin_14 : decode cX10_begin 14 = .ok (.iconst 0, 1) := by decide +kernel
theorem dX10_begin_15 : decode cX10_begin 15 = .ok (.iastore, 1) := by decide +kernel
theorem dX10_begin_16 : decode cX10_begin 16 = .ok (.iinc 1 1, 3) := by decide +kernel
theorem dX10_begin_19 : decode cX10_begin 19 = .ok (.goto (-17), 3) := by decide +kernel
theorem dX10_begin_22 : decode cX10_begin 22 = .ok (.iconst 0, 1) := by decide +kernel
theorem dX10_begin_23 : decode cX10_begin 23 = .ok (.istore_n 1, 1) := by decide +kernel
theorem dX10_begin_24 : decode cX10_begin 24 = .ok (.iload_n 1, 1) := by decide +kernel
theorem dX10_begin_25 : decode cX10_begin 25 = .ok (.bipush 7, 2) := by decide +kernel
theorem dX10_begin_27 : decode cX10_begin 27 = .ok (.if_icmp .ge 24, 3) := by decide +kernel
theorem dX10_begin_30 : decode cX10_begin 30 = .ok (.aload_n 0, 1) := by decide +kernel
theorem dX10_begin_31 : decode cX10_begin 31 = .ok (.getfield 35, 3) := by decide +kernel
theorem dX10_begin_34 : decode cX10_begin 34 = .ok (.bipush 8, 2) := by decide +kernel
theorem dX10_begin_36 : decode cX10_begin 36 = .ok (.iload_n 1, 1) := by decide +kernel
theorem dX10_begin_37 : decode cX10_begin 37 = .ok (.iadd, 1) := by decide +kernel
theorem dX10_begin_38 : decode cX10_begin 38 = .ok (.aload_n 0, 1) := by decide +kernel
theorem dX10_begin_39 : decode cX10_begin 39 = .ok (.getfield 26, 3) := by decide +kernel
theorem dX10_begin_42 : decode cX10_begin 42 = .ok (.iload_n 1, 1) := by decide +kernel
theorem dX10_begin_43 : decode cX10_begin 43 = .ok (.iaload, 1) := by decide +kernel
theorem dX10_begin_44 : decode cX10_begin 44 = .ok (.iastore, 1) := by decide +kernel
theorem dX10_begin_45 : decode cX10_begin 45 = .ok (.iinc 1 1, 3) := by decide +kernel
theorem dX10_begin_48 : decode cX10_begin 48 = .ok (.goto (-24), 3) := by decide +kernel
theorem dX10_begin_51 : decode cX10_begin 51 = .ok (.return_, 1) := by decide +kernel
theorem dX10_write_0 : decode cX10_write 0 = .ok (.iload_n 3, 1) := by decide +kernel
theorem dX10_write_1 : decode cX10_write 1 = .ok (.iconst 1, 1) := by decide +kernel
theorem dX10_write_2 : decode cX10_write 2 = .ok (.bipush 8, 2) := by decide +kernel
theorem dX10_write_4 : decode cX10_write 4 = .ok (.invokestatic 69, 3) := by decide +kernel
theorem dX10_write_7 : decode cX10_write 7 = .ok (.ifCond .ne 6, 3) := by decide +kernel
theorem dX10_write_10 : decode cX10_write 10 = .ok (.bipush (-3), 2) := by decide +kernel
theorem dX10_write_12 : decode cX10_write 12 = .ok (.ireturn, 1) := by decide +kernel
theorem dX10_write_13 : decode cX10_write 13 = .ok (.aload_n 0, 1) := by decide +kernel
theorem dX10_write_14 : decode cX10_write 14 = .ok (.getfield 73, 3) := by decide +kernel
theorem dX10_write_17 : decode cX10_write 17 = .ok (.iload_n 3, 1) := by decide +kernel
theorem dX10_write_18 : decode cX10_write 18 = .ok (.iadd, 1) := by decide +kernel
theorem dX10_write_19 : decode cX10_write 19 = .ok (.sipush 200, 3) := by decide +kernel
theorem dX10_write_22 : decode cX10_write 22 = .ok (.if_icmp .le 6, 3) := by decide +kernel
theorem dX10_write_25 : decode cX10_write 25 = .ok (.bipush (-5), 2) := by decide +kernel
theorem dX10_write_27 : decode cX10_write 27 = .ok (.ireturn, 1) := by decide +kernel
theorem dX10_write_28 : decode cX10_write 28 = .ok (.iconst 0, 1) := by decide +kernel
theorem dX10_write_29 : decode cX10_write 29 = .ok (.istore 4, 2) := by decide +kernel
theorem dX10_write_31 : decode cX10_write 31 = .ok (.iload 4, 2) := by decide +kernel
theorem dX10_write_33 : decode cX10_write 33 = .ok (.iload_n 3, 1) := by decide +kernel
theorem dX10_write_34 : decode cX10_write 34 = .ok (.if_icmp .ge 33, 3) := by decide +kernel
theorem dX10_write_37 : decode cX10_write 37 = .ok (.aload_n 0, 1) := by decide +kernel
theorem dX10_write_38 : decode cX10_write 38 = .ok (.getfield 29, 3) := by decide +kernel
theorem dX10_write_41 : decode cX10_write 41 = .ok (.aload_n 0, 1) := by decide +kernel
theorem dX10_write_42 : decode cX10_write 42 = .ok (.getfield 73, 3) := by decide +kernel
theorem dX10_write_45 : decode cX10_write 45 = .ok (.iload 4, 2) := by decide +kernel
theorem dX10_write_47 : decode cX10_write 47 = .ok (.iadd, 1) := by decide +kernel
theorem dX10_write_48 : decode cX10_write 48 = .ok (.lload_n 1, 1) := by decide +kernel
theorem dX10_write_49 : decode cX10_write 49 = .ok (.bipush 8, 2) := by decide +kernel
theorem dX10_write_51 : decode cX10_write 51 = .ok (.iload 4, 2) := by decide +kernel
theorem dX10_write_53 : decode cX10_write 53 = .ok (.imul, 1) := by decide +kernel
theorem dX10_write_54 : decode cX10_write 54 = .ok (.lshr, 1) := by decide +kernel
theorem dX10_write_55 : decode cX10_write 55 = .ok (.ldc2_w 76, 3) := by decide +kernel
theorem dX10_write_58 : decode cX10_write 58 = .ok (.land, 1) := by decide +kernel
theorem dX10_write_59 : decode cX10_write 59 = .ok (.l2i, 1) := by decide +kernel
theorem dX10_write_60 : decode cX10_write 60 = .ok (.iastore, 1) := by decide +kernel
theorem dX10_write_61 : decode cX10_write 61 = .ok (.iinc 4 1, 3) := by decide +kernel
theorem dX10_write_64 : decode cX10_write 64 = .ok (.goto (-33), 3) := by decide +kernel
theorem dX10_write_67 : decode cX10_write 67 = .ok (.aload_n 0, 1) := by decide +kernel
theorem dX10_write_68 : decode cX10_write 68 = .ok (.dup, 1) := by decide +kernel
theorem dX10_write_69 : decode cX10_write 69 = .ok (.getfield 73, 3) := by decide +kernel
theorem dX10_write_72 : decode cX10_write 72 = .ok (.iload_n 3, 1) := by decide +kernel
theorem dX10_write_73 : decode cX10_write 73 = .ok (.iadd, 1) := by decide +kernel
theorem dX10_write_74 : decode cX10_write 74 = .ok (.putfield 73, 3) := by decide +kernel
theorem dX10_write_77 : decode cX10_write 77 = .ok (.aload_n 0, 1) := by decide +kernel
theorem dX10_write_78 : decode cX10_write 78 = .ok (.getfield 73, 3) := by decide +kernel
theorem dX10_write_81 : decode cX10_write 81 = .ok (.ireturn, 1) := by decide +kernel
theorem dX10_erase_0 : decode cX10_erase 0 = .ok (.aload_n 0, 1) := by decide +kernel
theorem dX10_erase_1 : decode cX10_erase 1 = .ok (.getfield 73, 3) := by decide +kernel
theorem dX10_erase_4 : decode cX10_erase 4 = .ok (.istore_n 1, 1) := by decide +kernel
theorem dX10_erase_5 : decode cX10_erase 5 = .ok (.aload_n 0, 1) := by decide +kernel
theorem dX10_erase_6 : decode cX10_erase 6 = .ok (.iconst 0, 1) := by decide +kernel
theorem dX10_erase_7 : decode cX10_erase 7 = .ok (.putfield 73, 3) := by decide +kernel
theorem dX10_erase_10 : decode cX10_erase 10 = .ok (.iload_n 1, 1) := by decide +kernel
theorem dX10_erase_11 : decode cX10_erase 11 = .ok (.ireturn, 1) := by decide +kernel
theorem dX10_nextToken_0 : decode cX10_nextToken 0 = .ok (.aload_n 0, 1) := by decide +kernel
theorem dX10_nextToken_1 : decode cX10_nextToken 1 = .ok (.getfield 78, 3) := by decide +kernel
theorem dX10_nextToken_4 : decode cX10_nextToken 4 = .ok (.aload_n 0, 1) := by decide +kernel
theorem dX10_nextToken_5 : decode cX10_nextToken 5 = .ok (.getfield 73, 3) := by decide +kernel
theorem dX10_nextToken_8 : decode cX10_nextToken 8 = .ok (.if_icmp .ge 30, 3) := by decide +kernel
theorem dX10_nextToken_11 : decode cX10_nextToken 11 = .ok (.aload_n 0, 1) := by decide +kernel
theorem dX10_nextToken_12 : decode cX10_nextToken 12 = .ok (.getfield 29, 3) := by decide +kernel
theorem dX10_nextToken_15 : decode cX10_nextToken 15 = .ok (.aload_n 0, 1) := by decide +kernel
theorem dX10_nextToken_16 : decode cX10_nextToken 16 = .ok (.getfield 78, 3) := by decide +kernel
theorem dX10_nextToken_19 : decode cX10_nextToken 19 = .ok (.iaload, 1) := by decide +kernel
theorem dX10_nextToken_20 : decode cX10_nextToken 20 = .ok (.bipush 32, 2) := by decide +kernel
theorem dX10_nextToken_22 : decode cX10_nextToken 22 = .ok (.if_icmp .ne 16, 3) := by decide +kernel
theorem dX10_nextToken_25 : decode cX10_nextToken 25 = .ok (.aload_n 0, 1) := by decide +kernel
theorem dX10_nextToken_26 : decode cX10_nextToken 26 = .ok (.dup, 1) := by decide +kernel
theorem dX10_nextToken_27 : decode cX10_nextToken 27 = .ok (.getfield 78, 3) := by decide +kernel
theorem dX10_nextToken_30 : decode cX10_nextToken 30 = .ok (.iconst 1, 1) := by decide +kernel
theorem dX10_nextToken_31 : decode cX10_nextToken 31 = .ok (.iadd, 1) := by decide +kernel
theorem dX10_nextToken_32 : decode cX10_nextToken 32 = .ok (.putfield 78, 3) := by decide +kernel
theorem dX10_nextToken_35 : decode cX10_nextToken 35 = .ok (.goto (-35), 3) := by decide +kernel
theorem dX10_nextToken_38 : decode cX10_nextToken 38 = .ok (.aload_n 0, 1) := by decide +kernel
theorem dX10_nextToken_39 : decode cX10_nextToken 39 = .ok (.aload_n 0, 1) := by decide +kernel
theorem dX10_nextToken_40 : decode cX10_nextToken 40 = .ok (.getfield 78, 3) := by decide +kernel
theorem dX10_nextToken_43 : decode cX10_nextToken 43 = .ok (.putfield 81, 3) := by decide +kernel
theorem dX10_nextToken_46 : decode cX10_nextToken 46 = .ok (.aload_n 0, 1) := by decide +kernel
theorem dX10_nextToken_47 : decode cX10_nextToken 47 = .ok (.iconst 0, 1) := by decide +kernel
theorem dX10_nextToken_48 : decode cX10_nextToken 48 = .ok (.putfield 84, 3) := by decide +kernel
theorem dX10_nextToken_51 : decode cX10_nextToken 51 = .ok (.aload_n 0, 1) := by decide +kernel
theorem dX10_nextToken_52 : decode cX10_nextToken 52 = .ok (.iconst 0, 1) := by decide +kernel
theorem dX10_nextToken_53 : decode cX10_nextToken 53 = .ok (.putfield 87, 3) := by decide +kernel
theorem dX10_nextToken_56 : decode cX10_nextToken 56 = .ok (.aload_n 0, 1) := by decide +kernel
theorem dX10_nextToken_57 : decode cX10_nextToken 57 = .ok (.getfield 78, 3) := by decide +kernel
theorem dX10_nextToken_60 : decode cX10_nextToken 60 = .ok (.aload_n 0, 1) := by decide +kernel
theorem dX10_nextToken_61 : decode cX10_nextToken 61 = .ok (.getfield 73, 3) := by decide +kernel
theorem dX10_nextToken_64 : decode cX10_nextToken 64 = .ok (.if_icmp .ne 13, 3) := by decide +kernel
theorem dX10_nextToken_67 : decode cX10_nextToken 67 = .ok (.aload_n 0, 1) := by decide +kernel
theorem dX10_nextToken_68 : decode cX10_nextToken 68 = .ok (.ldc2_w 90, 3) := by decide +kernel
theorem dX10_nextToken_71 : decode cX10_nextToken 71 = .ok (.putfield 92, 3) := by decide +kernel
theorem dX10_nextToken_74 : decode cX10_nextToken 74 = .ok (.goto 320, 3) := by decide +kernel
theorem dX10_nextToken_77 : decode cX10_nextToken 77 = .ok (.aload_n 0, 1) := by decide +kernel
theorem dX10_nextToken_78 : decode cX10_nextToken 78 = .ok (.getfield 29, 3) := by decide +kernel
theorem dX10_nextToken_81 : decode cX10_nextToken 81 = .ok (.aload_n 0, 1) := by decide +kernel
theorem dX10_nextToken_82 : decode cX10_nextToken 82 = .ok (.getfield 78, 3) := by decide +kernel
theorem dX10_nextToken_85 : decode cX10_nextToken 85 = .ok (.iaload, 1) := by decide +kernel
theorem dX10_nextToken_86 : decode cX10_nextToken 86 = .ok (.bipush 97, 2) := by decide +kernel
theorem dX10_nextToken_88 : decode cX10_nextToken 88 = .ok (.bipush 122, 2) := by decide +kernel
theorem dX10_nextToken_90 : decode cX10_nextToken 90 = .ok (.invokestatic 69, 3) := by decide +kernel
theorem dX10_nextToken_93 : decode cX10_nextToken 93 = .ok (.ifCond .eq 129, 3) := by decide +kernel
theorem dX10_nextToken_96 : decode cX10_nextToken 96 = .ok (.aload_n 0, 1) := by decide +kernel
theorem dX10_nextToken_97 : decode cX10_nextToken 97 = .ok (.lconst 0, 1) := by decide +kernel
theorem dX10_nextToken_98 : decode cX10_nextToken 98 = .ok (.putfield 92, 3) := by decide +kernel
theorem dX10_nextToken_101 : decode cX10_nextToken 101 = .ok (.aload_n 0, 1) := by decide +kernel
theorem dX10_nextToken_102 : decode cX10_nextToken 102 = .ok (.getfield 78, 3) := by decide +kernel
theorem dX10_nextToken_105 : decode cX10_nextToken 105 = .ok (.aload_n 0, 1) := by decide +kernel
theorem dX10_nextToken_106 : decode cX10_nextToken 106 = .ok (.getfield 73, 3) := by decide +kernel
theorem dX10_nextToken_109 : decode cX10_nextToken 109 = .ok (.if_icmp .ge 82, 3) := by decide +kernel
theorem dX10_nextToken_112 : decode cX10_nextToken 112 = .ok (.aload_n 0, 1) := by decide +kernel
theorem dX10_nextToken_113 : decode cX10_nextToken 113 = .ok (.getfield 29, 3) := by decide +kernel
theorem dX10_nextToken_116 : decode cX10_nextToken 116 = .ok (.aload_n 0, 1) := by decide +kernel
theorem dX10_nextToken_117 : decode cX10_nextToken 117 = .ok (.getfield 78, 3) := by decide +kernel
theorem dX10_nextToken_120 : decode cX10_nextToken 120 = .ok (.iaload, 1) := by decide +kernel
theorem dX10_nextToken_121 : decode cX10_nextToken 121 = .ok (.bipush 97, 2) := by decide +kernel
theorem dX10_nextToken_123 : decode cX10_nextToken 123 = .ok (.bipush 122, 2) := by decide +kernel
theorem dX10_nextToken_125 : decode cX10_nextToken 125 = .ok (.invokestatic 69, 3) := by decide +kernel
theorem dX10_nextToken_128 : decode cX10_nextToken 128 = .ok (.ifCond .eq 63, 3) := by decide +kernel
theorem dX10_nextToken_131 : decode cX10_nextToken 131 = .ok (.aload_n 0, 1) := by decide +kernel
theorem dX10_nextToken_132 : decode cX10_nextToken 132 = .ok (.aload_n 0, 1) := by decide +kernel
theorem dX10_nextToken_133 : decode cX10_nextToken 133 = .ok (.getfield 78, 3) := by decide +kernel
theorem dX10_nextToken_136 : decode cX10_nextToken 136 = .ok (.aload_n 0, 1) := by decide +kernel
theorem dX10_nextToken_137 : decode cX10_nextToken 137 = .ok (.getfield 81, 3) := by decide +kernel
theorem dX10_nextToken_140 : decode cX10_nextToken 140 = .ok (.isub, 1) := by decide +kernel
theorem dX10_nextToken_141 : decode cX10_nextToken 141 = .ok (.bipush 9, 2) := by decide +kernel
theorem dX10_nextToken_143 : decode cX10_nextToken 143 = .ok (.if_icmp .ge 29, 3) := by decide +kernel
theorem dX10_nextToken_146 : decode cX10_nextToken 146 = .ok (.ldc2_w 96, 3) := by decide +kernel
theorem dX10_nextToken_149 : decode cX10_nextToken 149 = .ok (.aload_n 0, 1) := by decide +kernel
theorem dX10_nextToken_150 : decode cX10_nextToken 150 = .ok (.getfield 92, 3) := by decide +kernel
theorem dX10_nextToken_153 : decode cX10_nextToken 153 = .ok (.lmul, 1) := by decide +kernel
theorem dX10_nextToken_154 : decode cX10_nextToken 154 = .ok (.aload_n 0, 1) := by decide +kernel
theorem dX10_nextToken_155 : decode cX10_nextToken 155 = .ok (.getfield 29, 3) := by decide +kernel
theorem dX10_nextToken_158 : decode cX10_nextToken 158 = .ok (.aload_n 0, 1) := by decide +kernel
theorem dX10_nextToken_159 : decode cX10_nextToken 159 = .ok (.getfield 78, 3) := by decide +kernel
theorem dX10_nextToken_162 : decode cX10_nextToken 162 = .ok (.iaload, 1) := by decide +kernel
theorem dX10_nextToken_163 : decode cX10_nextToken 163 = .ok (.i2l, 1) := by decide +kernel
theorem dX10_nextToken_164 : decode cX10_nextToken 164 = .ok (.ladd, 1) := by decide +kernel
theorem dX10_nextToken_165 : decode cX10_nextToken 165 = .ok (.ldc2_w 98, 3) := by decide +kernel
theorem dX10_nextToken_168 : decode cX10_nextToken 168 = .ok (.lsub, 1) := by decide +kernel
theorem dX10_nextToken_169 : decode cX10_nextToken 169 = .ok (.goto 6, 3) := by decide +kernel
theorem dX10_nextToken_172 : decode cX10_nextToken 172 = .ok (.ldc2_w 100, 3) := by decide +kernel
theorem dX10_nextToken_175 : decode cX10_nextToken 175 = .ok (.putfield 92, 3) := by decide +kernel
theorem dX10_nextToken_178 : decode cX10_nextToken 178 = .ok (.aload_n 0, 1) := by decide +kernel
theorem dX10_nextToken_179 : decode cX10_nextToken 179 = .ok (.dup, 1) := by decide +kernel
theorem dX10_nextToken_180 : decode cX10_nextToken 180 = .ok (.getfield 78, 3) := by decide +kernel
theorem dX10_nextToken_183 : decode cX10_nextToken 183 = .ok (.iconst 1, 1) := by decide +kernel
theorem dX10_nextToken_184 : decode cX10_nextToken 184 = .ok (.iadd, 1) := by decide +kernel
theorem dX10_nextToken_185 : decode cX10_nextToken 185 = .ok (.putfield 78, 3) := by decide +kernel
theorem dX10_nextToken_188 : decode cX10_nextToken 188 = .ok (.goto (-87), 3) := by decide +kernel
theorem dX10_nextToken_191 : decode cX10_nextToken 191 = .ok (.aload_n 0, 1) := by decide +kernel
theorem dX10_nextToken_192 : decode cX10_nextToken 192 = .ok (.aload_n 0, 1) := by decide +kernel
theorem dX10_nextToken_193 : decode cX10_nextToken 193 = .ok (.getfield 78, 3) := by decide +kernel
theorem dX10_nextToken_196 : decode cX10_nextToken 196 = .ok (.aload_n 0, 1) := by decide +kernel
theorem dX10_nextToken_197 : decode cX10_nextToken 197 = .ok (.getfield 81, 3) := by decide +kernel
theorem dX10_nextToken_200 : decode cX10_nextToken 200 = .ok (.isub, 1) := by decide +kernel
theorem dX10_nextToken_201 : decode cX10_nextToken 201 = .ok (.bipush 9, 2) := by decide +kernel
theorem dX10_nextToken_203 : decode cX10_nextToken 203 = .ok (.if_icmp .le 9, 3) := by decide +kernel
theorem dX10_nextToken_206 : decode cX10_nextToken 206 = .ok (.ldc2_w 100, 3) := by decide +kernel
theorem dX10_nextToken_209 : decode cX10_nextToken 209 = .ok (.goto 7, 3) := by decide +kernel
theorem dX10_nextToken_212 : decode cX10_nextToken 212 = .ok (.aload_n 0, 1) := by decide +kernel
theorem dX10_nextToken_213 : decode cX10_nextToken 213 = .ok (.getfield 92, 3) := by decide +kernel
theorem dX10_nextToken_216 : decode cX10_nextToken 216 = .ok (.putfield 92, 3) := by decide +kernel
theorem dX10_nextToken_219 : decode cX10_nextToken 219 = .ok (.goto 175, 3) := by decide +kernel
theorem dX10_nextToken_222 : decode cX10_nextToken 222 = .ok (.aload_n 0, 1) := by decide +kernel
theorem dX10_nextToken_223 : decode cX10_nextToken 223 = .ok (.getfield 29, 3) := by decide +kernel
theorem dX10_nextToken_226 : decode cX10_nextToken 226 = .ok (.aload_n 0, 1) := by decide +kernel
theorem dX10_nextToken_227 : decode cX10_nextToken 227 = .ok (.getfield 78, 3) := by decide +kernel
theorem dX10_nextToken_230 : decode cX10_nextToken 230 = .ok (.iaload, 1) := by decide +kernel
theorem dX10_nextToken_231 : decode cX10_nextToken 231 = .ok (.bipush 48, 2) := by decide +kernel
theorem dX10_nextToken_233 : decode cX10_nextToken 233 = .ok (.bipush 57, 2) := by decide +kernel
theorem dX10_nextToken_235 : decode cX10_nextToken 235 = .ok (.invokestatic 69, 3) := by decide +kernel
theorem dX10_nextToken_238 : decode cX10_nextToken 238 = .ok (.ifCond .eq 119, 3) := by decide +kernel
theorem dX10_nextToken_241 : decode cX10_nextToken 241 = .ok (.aload_n 0, 1) := by decide +kernel
theorem dX10_nextToken_242 : decode cX10_nextToken 242 = .ok (.getfield 78, 3) := by decide +kernel
theorem dX10_nextToken_245 : decode cX10_nextToken 245 = .ok (.aload_n 0, 1) := by decide +kernel
theorem dX10_nextToken_246 : decode cX10_nextToken 246 = .ok (.getfield 73, 3) := by decide +kernel
theorem dX10_nextToken_249 : decode cX10_nextToken 249 = .ok (.if_icmp .ge 84, 3) := by decide +kernel
theorem dX10_nextToken_252 : decode cX10_nextToken 252 = .ok (.aload_n 0, 1) := by decide +kernel
theorem dX10_nextToken_253 : decode cX10_nextToken 253 = .ok (.getfield 29, 3) := by decide +kernel
theorem dX10_nextToken_256 : decode cX10_nextToken 256 = .ok (.aload_n 0, 1) := by decide +kernel
theorem dX10_nextToken_257 : decode cX10_nextToken 257 = .ok (.getfield 78, 3) := by decide +kernel
theorem dX10_nextToken_260 : decode cX10_nextToken 260 = .ok (.iaload, 1) := by decide +kernel
theorem dX10_nextToken_261 : decode cX10_nextToken 261 = .ok (.bipush 48, 2) := by decide +kernel
theorem dX10_nextToken_263 : decode cX10_nextToken 263 = .ok (.bipush 57, 2) := by decide +kernel
theorem dX10_nextToken_265 : decode cX10_nextToken 265 = .ok (.invokestatic 69, 3) := by decide +kernel
theorem dX10_nextToken_268 : decode cX10_nextToken 268 = .ok (.ifCond .eq 65, 3) := by decide +kernel
theorem dX10_nextToken_271 : decode cX10_nextToken 271 = .ok (.aload_n 0, 1) := by decide +kernel
theorem dX10_nextToken_272 : decode cX10_nextToken 272 = .ok (.aload_n 0, 1) := by decide +kernel
theorem dX10_nextToken_273 : decode cX10_nextToken 273 = .ok (.getfield 84, 3) := by decide +kernel
theorem dX10_nextToken_276 : decode cX10_nextToken 276 = .ok (.iconst 2, 1) := by decide +kernel
theorem dX10_nextToken_277 : decode cX10_nextToken 277 = .ok (.if_icmp .ge 26, 3) := by decide +kernel
theorem dX10_nextToken_280 : decode cX10_nextToken 280 = .ok (.bipush 10, 2) := by decide +kernel
theorem dX10_nextToken_282 : decode cX10_nextToken 282 = .ok (.aload_n 0, 1) := by decide +kernel
theorem dX10_nextToken_283 : decode cX10_nextToken 283 = .ok (.getfield 87, 3) := by decide +kernel
theorem dX10_nextToken_286 : decode cX10_nextToken 286 = .ok (.imul, 1) := by decide +kernel
theorem dX10_nextToken_287 : decode cX10_nextToken 287 = .ok (.aload_n 0, 1) := by decide +kernel
theorem dX10_nextToken_288 : decode cX10_nextToken 288 = .ok (.getfield 29, 3) := by decide +kernel
theorem dX10_nextToken_291 : decode cX10_nextToken 291 = .ok (.aload_n 0, 1) := by decide +kernel
theorem dX10_nextToken_292 : decode cX10_nextToken 292 = .ok (.getfield 78, 3) := by decide +kernel
theorem dX10_nextToken_295 : decode cX10_nextToken 295 = .ok (.iaload, 1) := by decide +kernel
theorem dX10_nextToken_296 : decode cX10_nextToken 296 = .ok (.iadd, 1) := by decide +kernel
theorem dX10_nextToken_297 : decode cX10_nextToken 297 = .ok (.bipush 48, 2) := by decide +kernel
theorem dX10_nextToken_299 : decode cX10_nextToken 299 = .ok (.isub, 1) := by decide +kernel
theorem dX10_nextToken_300 : decode cX10_nextToken 300 = .ok (.goto 7, 3) := by decide +kernel
theorem dX10_nextToken_303 : decode cX10_nextToken 303 = .ok (.aload_n 0, 1) := by decide +kernel
theorem dX10_nextToken_304 : decode cX10_nextToken 304 = .ok (.getfield 87, 3) := by decide +kernel
theorem dX10_nextToken_307 : decode cX10_nextToken 307 = .ok (.putfield 87, 3) := by decide +kernel
theorem dX10_nextToken_310 : decode cX10_nextToken 310 = .ok (.aload_n 0, 1) := by decide +kernel
theorem dX10_nextToken_311 : decode cX10_nextToken 311 = .ok (.dup, 1) := by decide +kernel
theorem dX10_nextToken_312 : decode cX10_nextToken 312 = .ok (.getfield 84, 3) := by decide +kernel
theorem dX10_nextToken_315 : decode cX10_nextToken 315 = .ok (.iconst 1, 1) := by decide +kernel
theorem dX10_nextToken_316 : decode cX10_nextToken 316 = .ok (.iadd, 1) := by decide +kernel
theorem dX10_nextToken_317 : decode cX10_nextToken 317 = .ok (.putfield 84, 3) := by decide +kernel
theorem dX10_nextToken_320 : decode cX10_nextToken 320 = .ok (.aload_n 0, 1) := by decide +kernel
theorem dX10_nextToken_321 : decode cX10_nextToken 321 = .ok (.dup, 1) := by decide +kernel
theorem dX10_nextToken_322 : decode cX10_nextToken 322 = .ok (.getfield 78, 3) := by decide +kernel
theorem dX10_nextToken_325 : decode cX10_nextToken 325 = .ok (.iconst 1, 1) := by decide +kernel
theorem dX10_nextToken_326 : decode cX10_nextToken 326 = .ok (.iadd, 1) := by decide +kernel
theorem dX10_nextToken_327 : decode cX10_nextToken 327 = .ok (.putfield 78, 3) := by decide +kernel
theorem dX10_nextToken_330 : decode cX10_nextToken 330 = .ok (.goto (-89), 3) := by decide +kernel
theorem dX10_nextToken_333 : decode cX10_nextToken 333 = .ok (.aload_n 0, 1) := by decide +kernel
theorem dX10_nextToken_334 : decode cX10_nextToken 334 = .ok (.aload_n 0, 1) := by decide +kernel
theorem dX10_nextToken_335 : decode cX10_nextToken 335 = .ok (.getfield 84, 3) := by decide +kernel
theorem dX10_nextToken_338 : decode cX10_nextToken 338 = .ok (.iconst 2, 1) := by decide +kernel
theorem dX10_nextToken_339 : decode cX10_nextToken 339 = .ok (.if_icmp .le 9, 3) := by decide +kernel
theorem dX10_nextToken_342 : decode cX10_nextToken 342 = .ok (.ldc2_w 100, 3) := by decide +kernel
theorem dX10_nextToken_345 : decode cX10_nextToken 345 = .ok (.goto 6, 3) := by decide +kernel
theorem dX10_nextToken_348 : decode cX10_nextToken 348 = .ok (.ldc2_w 102, 3) := by decide +kernel
theorem dX10_nextToken_351 : decode cX10_nextToken 351 = .ok (.putfield 92, 3) := by decide +kernel
theorem dX10_nextToken_354 : decode cX10_nextToken 354 = .ok (.goto 40, 3) := by decide +kernel
theorem dX10_nextToken_357 : decode cX10_nextToken 357 = .ok (.aload_n 0, 1) := by decide +kernel
theorem dX10_nextToken_358 : decode cX10_nextToken 358 = .ok (.aload_n 0, 1) := by decide +kernel
theorem dX10_nextToken_359 : decode cX10_nextToken 359 = .ok (.getfield 29, 3) := by decide +kernel
theorem dX10_nextToken_362 : decode cX10_nextToken 362 = .ok (.aload_n 0, 1) := by decide +kernel
theorem dX10_nextToken_363 : decode cX10_nextToken 363 = .ok (.getfield 78, 3) := by decide +kernel
theorem dX10_nextToken_366 : decode cX10_nextToken 366 = .ok (.iaload, 1) := by decide +kernel
theorem dX10_nextToken_367 : decode cX10_nextToken 367 = .ok (.bipush 59, 2) := by decide +kernel
theorem dX10_nextToken_369 : decode cX10_nextToken 369 = .ok (.if_icmp .ne 9, 3) := by decide +kernel
theorem dX10_nextToken_372 : decode cX10_nextToken 372 = .ok (.ldc2_w 104, 3) := by decide +kernel
theorem dX10_nextToken_375 : decode cX10_nextToken 375 = .ok (.goto 6, 3) := by decide +kernel
theorem dX10_nextToken_378 : decode cX10_nextToken 378 = .ok (.ldc2_w 100, 3) := by decide +kernel
theorem dX10_nextToken_381 : decode cX10_nextToken 381 = .ok (.putfield 92, 3) := by decide +kernel
theorem dX10_nextToken_384 : decode cX10_nextToken 384 = .ok (.aload_n 0, 1) := by decide +kernel
theorem dX10_nextToken_385 : decode cX10_nextToken 385 = .ok (.dup, 1) := by decide +kernel
theorem dX10_nextToken_386 : decode cX10_nextToken 386 = .ok (.getfield 78, 3) := by decide +kernel
theorem dX10_nextToken_389 : decode cX10_nextToken 389 = .ok (.iconst 1, 1) := by decide +kernel
theorem dX10_nextToken_390 : decode cX10_nextToken 390 = .ok (.iadd, 1) := by decide +kernel
theorem dX10_nextToken_391 : decode cX10_nextToken 391 = .ok (.putfield 78, 3) := by decide +kernel
theorem dX10_nextToken_394 : decode cX10_nextToken 394 = .ok (.return_, 1) := by decide +kernel
theorem dX10_fails_0 : decode cX10_fails 0 = .ok (.aload_n 0, 1) := by decide +kernel
theorem dX10_fails_1 : decode cX10_fails 1 = .ok (.aload_n 0, 1) := by decide +kernel
theorem dX10_fails_2 : decode cX10_fails 2 = .ok (.getfield 81, 3) := by decide +kernel
theorem dX10_fails_5 : decode cX10_fails 5 = .ok (.putfield 106, 3) := by decide +kernel
theorem dX10_fails_8 : decode cX10_fails 8 = .ok (.iconst 0, 1) := by decide +kernel
theorem dX10_fails_9 : decode cX10_fails 9 = .ok (.ireturn, 1) := by decide +kernel
theorem dX10_isNumber_0 : decode cX10_isNumber 0 = .ok (.aload_n 0, 1) := by decide +kernel
theorem dX10_isNumber_1 : decode cX10_isNumber 1 = .ok (.invokevirtual 109, 3) := by decide +kernel
theorem dX10_isNumber_4 : decode cX10_isNumber 4 = .ok (.aload_n 0, 1) := by decide +kernel
theorem dX10_isNumber_5 : decode cX10_isNumber 5 = .ok (.getfield 92, 3) := by decide +kernel
theorem dX10_isNumber_8 : decode cX10_isNumber 8 = .ok (.ldc2_w 102, 3) := by decide +kernel
theorem dX10_isNumber_11 : decode cX10_isNumber 11 = .ok (.lcmp, 1) := by decide +kernel
theorem dX10_isNumber_12 : decode cX10_isNumber 12 = .ok (.ifCond .ne 15, 3) := by decide +kernel
theorem dX10_isNumber_15 : decode cX10_isNumber 15 = .ok (.aload_n 0, 1) := by decide +kernel
theorem dX10_isNumber_16 : decode cX10_isNumber 16 = .ok (.getfield 87, 3) := by decide +kernel
theorem dX10_isNumber_19 : decode cX10_isNumber 19 = .ok (.iload_n 2, 1) := by decide +kernel
theorem dX10_isNumber_20 : decode cX10_isNumber 20 = .ok (.iload_n 3, 1) := by decide +kernel
theorem dX10_isNumber_21 : decode cX10_isNumber 21 = .ok (.invokestatic 69, 3) := by decide +kernel
theorem dX10_isNumber_24 : decode cX10_isNumber 24 = .ok (.ifCond .ne 8, 3) := by decide +kernel
theorem dX10_isNumber_27 : decode cX10_isNumber 27 = .ok (.aload_n 0, 1) := by decide +kernel
theorem dX10_isNumber_28 : decode cX10_isNumber 28 = .ok (.invokevirtual 112, 3) := by decide +kernel
theorem dX10_isNumber_31 : decode cX10_isNumber 31 = .ok (.ireturn, 1) := by decide +kernel
theorem dX10_isNumber_32 : decode cX10_isNumber 32 = .ok (.aload_n 0, 1) := by decide +kernel
theorem dX10_isNumber_33 : decode cX10_isNumber 33 = .ok (.getfield 32, 3) := by decide +kernel
theorem dX10_isNumber_36 : decode cX10_isNumber 36 = .ok (.iload_n 1, 1) := by decide +kernel
theorem dX10_isNumber_37 : decode cX10_isNumber 37 = .ok (.aload_n 0, 1) := by decide +kernel
theorem dX10_isNumber_38 : decode cX10_isNumber 38 = .ok (.getfield 87, 3) := by decide +kernel
theorem dX10_isNumber_41 : decode cX10_isNumber 41 = .ok (.iastore, 1) := by decide +kernel
theorem dX10_isNumber_42 : decode cX10_isNumber 42 = .ok (.iconst 1, 1) := by decide +kernel
theorem dX10_isNumber_43 : decode cX10_isNumber 43 = .ok (.ireturn, 1) := by decide +kernel
theorem dX10_isThere_0 : decode cX10_isThere 0 = .ok (.aload_n 0, 1) := by decide +kernel
theorem dX10_isThere_1 : decode cX10_isThere 1 = .ok (.iload_n 1, 1) := by decide +kernel
theorem dX10_isThere_2 : decode cX10_isThere 2 = .ok (.iconst 0, 1) := by decide +kernel
theorem dX10_isThere_3 : decode cX10_isThere 3 = .ok (.aload_n 0, 1) := by decide +kernel
theorem dX10_isThere_4 : decode cX10_isThere 4 = .ok (.getfield 116, 3) := by decide +kernel
theorem dX10_isThere_7 : decode cX10_isThere 7 = .ok (.iconst 1, 1) := by decide +kernel
theorem dX10_isThere_8 : decode cX10_isThere 8 = .ok (.isub, 1) := by decide +kernel
theorem dX10_isThere_9 : decode cX10_isThere 9 = .ok (.invokevirtual 119, 3) := by decide +kernel
theorem dX10_isThere_12 : decode cX10_isThere 12 = .ok (.ireturn, 1) := by decide +kernel
theorem dX10_isHall_0 : decode cX10_isHall 0 = .ok (.aload_n 0, 1) := by decide +kernel
theorem dX10_isHall_1 : decode cX10_isHall 1 = .ok (.iload_n 1, 1) := by decide +kernel
theorem dX10_isHall_2 : decode cX10_isHall 2 = .ok (.iconst 1, 1) := by decide +kernel
theorem dX10_isHall_3 : decode cX10_isHall 3 = .ok (.iadd, 1) := by decide +kernel
theorem dX10_isHall_4 : decode cX10_isHall 4 = .ok (.iconst 2, 1) := by decide +kernel
theorem dX10_isHall_5 : decode cX10_isHall 5 = .ok (.bipush 7, 2) := by decide +kernel
theorem dX10_isHall_7 : decode cX10_isHall 7 = .ok (.invokevirtual 119, 3) := by decide +kernel
theorem dX10_isHall_10 : decode cX10_isHall 10 = .ok (.ifCond .ne 5, 3) := by decide +kernel
theorem dX10_isHall_13 : decode cX10_isHall 13 = .ok (.iconst 0, 1) := by decide +kernel
theorem dX10_isHall_14 : decode cX10_isHall 14 = .ok (.ireturn, 1) := by decide +kernel
theorem dX10_isHall_15 : decode cX10_isHall 15 = .ok (.aload_n 0, 1) := by decide +kernel
theorem dX10_isHall_16 : decode cX10_isHall 16 = .ok (.aload_n 0, 1) := by decide +kernel
theorem dX10_isHall_17 : decode cX10_isHall 17 = .ok (.getfield 32, 3) := by decide +kernel
theorem dX10_isHall_20 : decode cX10_isHall 20 = .ok (.iload_n 1, 1) := by decide +kernel
theorem dX10_isHall_21 : decode cX10_isHall 21 = .ok (.iconst 1, 1) := by decide +kernel
theorem dX10_isHall_22 : decode cX10_isHall 22 = .ok (.iadd, 1) := by decide +kernel
theorem dX10_isHall_23 : decode cX10_isHall 23 = .ok (.iaload, 1) := by decide +kernel
theorem dX10_isHall_24 : decode cX10_isHall 24 = .ok (.putfield 116, 3) := by decide +kernel
theorem dX10_isHall_27 : decode cX10_isHall 27 = .ok (.iconst 1, 1) := by decide +kernel
theorem dX10_isHall_28 : decode cX10_isHall 28 = .ok (.ireturn, 1) := by decide +kernel
theorem dX10_isRing_0 : decode cX10_isRing 0 = .ok (.aload_n 0, 1) := by decide +kernel
theorem dX10_isRing_1 : decode cX10_isRing 1 = .ok (.iload_n 1, 1) := by decide +kernel
theorem dX10_isRing_2 : decode cX10_isRing 2 = .ok (.iconst 1, 1) := by decide +kernel
theorem dX10_isRing_3 : decode cX10_isRing 3 = .ok (.iadd, 1) := by decide +kernel
theorem dX10_isRing_4 : decode cX10_isRing 4 = .ok (.iconst 0, 1) := by decide +kernel
theorem dX10_isRing_5 : decode cX10_isRing 5 = .ok (.iconst 3, 1) := by decide +kernel
theorem dX10_isRing_6 : decode cX10_isRing 6 = .ok (.invokevirtual 119, 3) := by decide +kernel
theorem dX10_isRing_9 : decode cX10_isRing 9 = .ok (.ifCond .ne 5, 3) := by decide +kernel
theorem dX10_isRing_12 : decode cX10_isRing 12 = .ok (.iconst 0, 1) := by decide +kernel
theorem dX10_isRing_13 : decode cX10_isRing 13 = .ok (.ireturn, 1) := by decide +kernel
theorem dX10_isRing_14 : decode cX10_isRing 14 = .ok (.aload_n 0, 1) := by decide +kernel
theorem dX10_isRing_15 : decode cX10_isRing 15 = .ok (.getfield 32, 3) := by decide +kernel
theorem dX10_isRing_18 : decode cX10_isRing 18 = .ok (.iload_n 1, 1) := by decide +kernel
theorem dX10_isRing_19 : decode cX10_isRing 19 = .ok (.iconst 1, 1) := by decide +kernel
theorem dX10_isRing_20 : decode cX10_isRing 20 = .ok (.iadd, 1) := by decide +kernel
theorem dX10_isRing_21 : decode cX10_isRing 21 = .ok (.iaload, 1) := by decide +kernel
theorem dX10_isRing_22 : decode cX10_isRing 22 = .ok (.iconst 1, 1) := by decide +kernel
theorem dX10_isRing_23 : decode cX10_isRing 23 = .ok (.if_icmp .ne 10, 3) := by decide +kernel
theorem dX10_isRing_26 : decode cX10_isRing 26 = .ok (.aload_n 0, 1) := by decide +kernel
theorem dX10_isRing_27 : decode cX10_isRing 27 = .ok (.invokevirtual 112, 3) := by decide +kernel
theorem dX10_isRing_30 : decode cX10_isRing 30 = .ok (.ifCond .eq 7, 3) := by decide +kernel
theorem dX10_isRing_33 : decode cX10_isRing 33 = .ok (.iconst 1, 1) := by decide +kernel
theorem dX10_isRing_34 : decode cX10_isRing 34 = .ok (.goto 4, 3) := by decide +kernel
theorem dX10_isRing_37 : decode cX10_isRing 37 = .ok (.iconst 0, 1) := by decide +kernel
theorem dX10_isRing_38 : decode cX10_isRing 38 = .ok (.ireturn, 1) := by decide +kernel
theorem dX10_isLine_0 : decode cX10_isLine 0 = .ok (.aload_n 0, 1) := by decide +kernel
theorem dX10_isLine_1 : decode cX10_isLine 1 = .ok (.invokevirtual 109, 3) := by decide +kernel
theorem dX10_isLine_4 : decode cX10_isLine 4 = .ok (.aload_n 0, 1) := by decide +kernel
theorem dX10_isLine_5 : decode cX10_isLine 5 = .ok (.getfield 92, 3) := by decide +kernel
theorem dX10_isLine_8 : decode cX10_isLine 8 = .ok (.ldc2_w 122, 3) := by decide +kernel
theorem dX10_isLine_11 : decode cX10_isLine 11 = .ok (.lcmp, 1) := by decide +kernel
theorem dX10_isLine_12 : decode cX10_isLine 12 = .ok (.ifCond .ne 7, 3) := by decide +kernel
theorem dX10_isLine_15 : decode cX10_isLine 15 = .ok (.iconst 0, 1) := by decide +kernel
theorem dX10_isLine_16 : decode cX10_isLine 16 = .ok (.goto 64, 3) := by decide +kernel
theorem dX10_isLine_19 : decode cX10_isLine 19 = .ok (.aload_n 0, 1) := by decide +kernel
theorem dX10_isLine_20 : decode cX10_isLine 20 = .ok (.getfield 92, 3) := by decide +kernel
theorem dX10_isLine_23 : decode cX10_isLine 23 = .ok (.ldc2_w 124, 3) := by decide +kernel
theorem dX10_isLine_26 : decode cX10_isLine 26 = .ok (.lcmp, 1) := by decide +kernel
theorem dX10_isLine_27 : decode cX10_isLine 27 = .ok (.ifCond .ne 7, 3) := by decide +kernel
theorem dX10_isLine_30 : decode cX10_isLine 30 = .ok (.iconst 1, 1) := by decide +kernel
theorem dX10_isLine_31 : decode cX10_isLine 31 = .ok (.goto 49, 3) := by decide +kernel
theorem dX10_isLine_34 : decode cX10_isLine 34 = .ok (.aload_n 0, 1) := by decide +kernel
theorem dX10_isLine_35 : decode cX10_isLine 35 = .ok (.getfield 92, 3) := by decide +kernel
theorem dX10_isLine_38 : decode cX10_isLine 38 = .ok (.ldc2_w 126, 3) := by decide +kernel
theorem dX10_isLine_41 : decode cX10_isLine 41 = .ok (.lcmp, 1) := by decide +kernel
theorem dX10_isLine_42 : decode cX10_isLine 42 = .ok (.ifCond .ne 7, 3) := by decide +kernel
theorem dX10_isLine_45 : decode cX10_isLine 45 = .ok (.iconst 2, 1) := by decide +kernel
theorem dX10_isLine_46 : decode cX10_isLine 46 = .ok (.goto 34, 3) := by decide +kernel
theorem dX10_isLine_49 : decode cX10_isLine 49 = .ok (.aload_n 0, 1) := by decide +kernel
theorem dX10_isLine_50 : decode cX10_isLine 50 = .ok (.getfield 92, 3) := by decide +kernel
theorem dX10_isLine_53 : decode cX10_isLine 53 = .ok (.ldc2_w 128, 3) := by decide +kernel
theorem dX10_isLine_56 : decode cX10_isLine 56 = .ok (.lcmp, 1) := by decide +kernel
theorem dX10_isLine_57 : decode cX10_isLine 57 = .ok (.ifCond .ne 7, 3) := by decide +kernel
theorem dX10_isLine_60 : decode cX10_isLine 60 = .ok (.iconst 3, 1) := by decide +kernel
theorem dX10_isLine_61 : decode cX10_isLine 61 = .ok (.goto 19, 3) := by decide +kernel
theorem dX10_isLine_64 : decode cX10_isLine 64 = .ok (.aload_n 0, 1) := by decide +kernel
theorem dX10_isLine_65 : decode cX10_isLine 65 = .ok (.getfield 92, 3) := by decide +kernel
theorem dX10_isLine_68 : decode cX10_isLine 68 = .ok (.ldc2_w 130, 3) := by decide +kernel
theorem dX10_isLine_71 : decode cX10_isLine 71 = .ok (.lcmp, 1) := by decide +kernel
theorem dX10_isLine_72 : decode cX10_isLine 72 = .ok (.ifCond .ne 7, 3) := by decide +kernel
theorem dX10_isLine_75 : decode cX10_isLine 75 = .ok (.iconst 4, 1) := by decide +kernel
theorem dX10_isLine_76 : decode cX10_isLine 76 = .ok (.goto 4, 3) := by decide +kernel
theorem dX10_isLine_79 : decode cX10_isLine 79 = .ok (.iconst (-1), 1) := by decide +kernel
theorem dX10_isLine_80 : decode cX10_isLine 80 = .ok (.istore_n 2, 1) := by decide +kernel
theorem dX10_isLine_81 : decode cX10_isLine 81 = .ok (.aload_n 0, 1) := by decide +kernel
theorem dX10_isLine_82 : decode cX10_isLine 82 = .ok (.getfield 92, 3) := by decide +kernel
theorem dX10_isLine_85 : decode cX10_isLine 85 = .ok (.ldc2_w 132, 3) := by decide +kernel
theorem dX10_isLine_88 : decode cX10_isLine 88 = .ok (.lcmp, 1) := by decide +kernel
theorem dX10_isLine_89 : decode cX10_isLine 89 = .ok (.ifCond .ne 7, 3) := by decide +kernel
theorem dX10_isLine_92 : decode cX10_isLine 92 = .ok (.iconst 5, 1) := by decide +kernel
theorem dX10_isLine_93 : decode cX10_isLine 93 = .ok (.goto 52, 3) := by decide +kernel
theorem dX10_isLine_96 : decode cX10_isLine 96 = .ok (.aload_n 0, 1) := by decide +kernel
theorem dX10_isLine_97 : decode cX10_isLine 97 = .ok (.getfield 92, 3) := by decide +kernel
theorem dX10_isLine_100 : decode cX10_isLine 100 = .ok (.ldc2_w 134, 3) := by decide +kernel
theorem dX10_isLine_103 : decode cX10_isLine 103 = .ok (.lcmp, 1) := by decide +kernel
theorem dX10_isLine_104 : decode cX10_isLine 104 = .ok (.ifCond .ne 8, 3) := by decide +kernel
theorem dX10_isLine_107 : decode cX10_isLine 107 = .ok (.bipush 6, 2) := by decide +kernel
theorem dX10_isLine_109 : decode cX10_isLine 109 = .ok (.goto 36, 3) := by decide +kernel
theorem dX10_isLine_112 : decode cX10_isLine 112 = .ok (.aload_n 0, 1) := by decide +kernel
theorem dX10_isLine_113 : decode cX10_isLine 113 = .ok (.getfield 92, 3) := by decide +kernel
theorem dX10_isLine_116 : decode cX10_isLine 116 = .ok (.ldc2_w 136, 3) := by decide +kernel
theorem dX10_isLine_119 : decode cX10_isLine 119 = .ok (.lcmp, 1) := by decide +kernel
theorem dX10_isLine_120 : decode cX10_isLine 120 = .ok (.ifCond .ne 8, 3) := by decide +kernel
theorem dX10_isLine_123 : decode cX10_isLine 123 = .ok (.bipush 7, 2) := by decide +kernel
theorem dX10_isLine_125 : decode cX10_isLine 125 = .ok (.goto 20, 3) := by decide +kernel
theorem dX10_isLine_128 : decode cX10_isLine 128 = .ok (.aload_n 0, 1) := by decide +kernel
theorem dX10_isLine_129 : decode cX10_isLine 129 = .ok (.getfield 92, 3) := by decide +kernel
theorem dX10_isLine_132 : decode cX10_isLine 132 = .ok (.ldc2_w 138, 3) := by decide +kernel
theorem dX10_isLine_135 : decode cX10_isLine 135 = .ok (.lcmp, 1) := by decide +kernel
theorem dX10_isLine_136 : decode cX10_isLine 136 = .ok (.ifCond .ne 8, 3) := by decide +kernel
theorem dX10_isLine_139 : decode cX10_isLine 139 = .ok (.bipush 8, 2) := by decide +kernel
theorem dX10_isLine_141 : decode cX10_isLine 141 = .ok (.goto 4, 3) := by decide +kernel
theorem dX10_isLine_144 : decode cX10_isLine 144 = .ok (.iconst (-1), 1) := by decide +kernel
theorem dX10_isLine_145 : decode cX10_isLine 145 = .ok (.istore_n 3, 1) := by decide +kernel
theorem dX10_isLine_146 : decode cX10_isLine 146 = .ok (.aload_n 0, 1) := by decide +kernel
theorem dX10_isLine_147 : decode cX10_isLine 147 = .ok (.getfield 32, 3) := by decide +kernel
theorem dX10_isLine_150 : decode cX10_isLine 150 = .ok (.iload_n 1, 1) := by decide +kernel
theorem dX10_isLine_151 : decode cX10_isLine 151 = .ok (.iload_n 2, 1) := by decide +kernel
theorem dX10_isLine_152 : decode cX10_isLine 152 = .ok (.iconst (-1), 1) := by decide +kernel
theorem dX10_isLine_153 : decode cX10_isLine 153 = .ok (.if_icmp .ne 7, 3) := by decide +kernel
theorem dX10_isLine_156 : decode cX10_isLine 156 = .ok (.iload_n 3, 1) := by decide +kernel
theorem dX10_isLine_157 : decode cX10_isLine 157 = .ok (.goto 4, 3) := by decide +kernel
theorem dX10_isLine_160 : decode cX10_isLine 160 = .ok (.iload_n 2, 1) := by decide +kernel
theorem dX10_isLine_161 : decode cX10_isLine 161 = .ok (.iastore, 1) := by decide +kernel
theorem dX10_isLine_162 : decode cX10_isLine 162 = .ok (.aload_n 0, 1) := by decide +kernel
theorem dX10_isLine_163 : decode cX10_isLine 163 = .ok (.getfield 32, 3) := by decide +kernel
theorem dX10_isLine_166 : decode cX10_isLine 166 = .ok (.iload_n 1, 1) := by decide +kernel
theorem dX10_isLine_167 : decode cX10_isLine 167 = .ok (.iaload, 1) := by decide +kernel
theorem dX10_isLine_168 : decode cX10_isLine 168 = .ok (.tableswitch 137 0 8 #[52, 58, 58, 97, 123, 129, 129, 129, 129], 52) := by decide +kernel
theorem dX10_isLine_220 : decode cX10_isLine 220 = .ok (.aload_n 0, 1) := by decide +kernel
theorem dX10_isLine_221 : decode cX10_isLine 221 = .ok (.iload_n 1, 1) := by decide +kernel
theorem dX10_isLine_222 : decode cX10_isLine 222 = .ok (.invokevirtual 140, 3) := by decide +kernel
theorem dX10_isLine_225 : decode cX10_isLine 225 = .ok (.ireturn, 1) := by decide +kernel
theorem dX10_isLine_226 : decode cX10_isLine 226 = .ok (.aload_n 0, 1) := by decide +kernel
theorem dX10_isLine_227 : decode cX10_isLine 227 = .ok (.iload_n 1, 1) := by decide +kernel
theorem dX10_isLine_228 : decode cX10_isLine 228 = .ok (.iconst 1, 1) := by decide +kernel
theorem dX10_isLine_229 : decode cX10_isLine 229 = .ok (.iadd, 1) := by decide +kernel
theorem dX10_isLine_230 : decode cX10_isLine 230 = .ok (.invokevirtual 144, 3) := by decide +kernel
theorem dX10_isLine_233 : decode cX10_isLine 233 = .ok (.ifCond .eq 30, 3) := by decide +kernel
theorem dX10_isLine_236 : decode cX10_isLine 236 = .ok (.aload_n 0, 1) := by decide +kernel
theorem dX10_isLine_237 : decode cX10_isLine 237 = .ok (.iload_n 1, 1) := by decide +kernel
theorem dX10_isLine_238 : decode cX10_isLine 238 = .ok (.iconst 2, 1) := by decide +kernel
theorem dX10_isLine_239 : decode cX10_isLine 239 = .ok (.iadd, 1) := by decide +kernel
theorem dX10_isLine_240 : decode cX10_isLine 240 = .ok (.invokevirtual 144, 3) := by decide +kernel
theorem dX10_isLine_243 : decode cX10_isLine 243 = .ok (.ifCond .eq 20, 3) := by decide +kernel
theorem dX10_isLine_246 : decode cX10_isLine 246 = .ok (.aload_n 0, 1) := by decide +kernel
theorem dX10_isLine_247 : decode cX10_isLine 247 = .ok (.iload_n 1, 1) := by decide +kernel
theorem dX10_isLine_248 : decode cX10_isLine 248 = .ok (.iconst 3, 1) := by decide +kernel
theorem dX10_isLine_249 : decode cX10_isLine 249 = .ok (.iadd, 1) := by decide +kernel
end
section
theorem dX10_isLine_250 : decode cX10_isLine 250 = .ok (.iconst 0, 1) := by decide +kernel
theorem dX10_isLine_251 : decode cX10_isLine 251 = .ok (.bipush 9, 2) := by decide +kernel
theorem dX10_isLine_253 : decode cX10_isLine 253 = .ok (.invokevirtual 119, 3) := by decide +kernel
theorem dX10_isLine_256 : decode cX10_isLine 256 = .ok (.ifCond .eq 7, 3) := by decide +kernel
theorem dX10_isLine_259 : decode cX10_isLine 259 = .ok (.iconst 1, 1) := by decide +kernel
theorem dX10_isLine_260 : decode cX10_isLine 260 = .ok (.goto 4, 3) := by decide +kernel
theorem dX10_isLine_263 : decode cX10_isLine 263 = .ok (.iconst 0, 1) := by decide +kernel
theorem dX10_isLine_264 : decode cX10_isLine 264 = .ok (.ireturn, 1) := by decide +kernel
theorem dX10_isLine_265 : decode cX10_isLine 265 = .ok (.aload_n 0, 1) := by decide +kernel
theorem dX10_isLine_266 : decode cX10_isLine 266 = .ok (.iload_n 1, 1) := by decide +kernel
theorem dX10_isLine_267 : decode cX10_isLine 267 = .ok (.iconst 1, 1) := by decide +kernel
theorem dX10_isLine_268 : decode cX10_isLine 268 = .ok (.iadd, 1) := by decide +kernel
theorem dX10_isLine_269 : decode cX10_isLine 269 = .ok (.invokevirtual 144, 3) := by decide +kernel
theorem dX10_isLine_272 : decode cX10_isLine 272 = .ok (.ifCond .eq 17, 3) := by decide +kernel
theorem dX10_isLine_275 : decode cX10_isLine 275 = .ok (.aload_n 0, 1) := by decide +kernel
theorem dX10_isLine_276 : decode cX10_isLine 276 = .ok (.iload_n 1, 1) := by decide +kernel
theorem dX10_isLine_277 : decode cX10_isLine 277 = .ok (.iconst 2, 1) := by decide +kernel
theorem dX10_isLine_278 : decode cX10_isLine 278 = .ok (.iadd, 1) := by decide +kernel
theorem dX10_isLine_279 : decode cX10_isLine 279 = .ok (.invokevirtual 144, 3) := by decide +kernel
theorem dX10_isLine_282 : decode cX10_isLine 282 = .ok (.ifCond .eq 7, 3) := by decide +kernel
theorem dX10_isLine_285 : decode cX10_isLine 285 = .ok (.iconst 1, 1) := by decide +kernel
theorem dX10_isLine_286 : decode cX10_isLine 286 = .ok (.goto 4, 3) := by decide +kernel
theorem dX10_isLine_289 : decode cX10_isLine 289 = .ok (.iconst 0, 1) := by decide +kernel
theorem dX10_isLine_290 : decode cX10_isLine 290 = .ok (.ireturn, 1) := by decide +kernel
theorem dX10_isLine_291 : decode cX10_isLine 291 = .ok (.aload_n 0, 1) := by decide +kernel
theorem dX10_isLine_292 : decode cX10_isLine 292 = .ok (.iload_n 1, 1) := by decide +kernel
theorem dX10_isLine_293 : decode cX10_isLine 293 = .ok (.invokevirtual 147, 3) := by decide +kernel
theorem dX10_isLine_296 : decode cX10_isLine 296 = .ok (.ireturn, 1) := by decide +kernel
theorem dX10_isLine_297 : decode cX10_isLine 297 = .ok (.aload_n 0, 1) := by decide +kernel
theorem dX10_isLine_298 : decode cX10_isLine 298 = .ok (.iload_n 1, 1) := by decide +kernel
theorem dX10_isLine_299 : decode cX10_isLine 299 = .ok (.iconst 1, 1) := by decide +kernel
theorem dX10_isLine_300 : decode cX10_isLine 300 = .ok (.iadd, 1) := by decide +kernel
theorem dX10_isLine_301 : decode cX10_isLine 301 = .ok (.invokevirtual 144, 3) := by decide +kernel
theorem dX10_isLine_304 : decode cX10_isLine 304 = .ok (.ireturn, 1) := by decide +kernel
theorem dX10_isLine_305 : decode cX10_isLine 305 = .ok (.aload_n 0, 1) := by decide +kernel
theorem dX10_isLine_306 : decode cX10_isLine 306 = .ok (.invokevirtual 112, 3) := by decide +kernel
theorem dX10_isLine_309 : decode cX10_isLine 309 = .ok (.ireturn, 1) := by decide +kernel
theorem dX10_isRead_0 : decode cX10_isRead 0 = .ok (.aload_n 0, 1) := by decide +kernel
theorem dX10_isRead_1 : decode cX10_isRead 1 = .ok (.iconst 0, 1) := by decide +kernel
theorem dX10_isRead_2 : decode cX10_isRead 2 = .ok (.putfield 78, 3) := by decide +kernel
theorem dX10_isRead_5 : decode cX10_isRead 5 = .ok (.aload_n 0, 1) := by decide +kernel
theorem dX10_isRead_6 : decode cX10_isRead 6 = .ok (.iconst 0, 1) := by decide +kernel
theorem dX10_isRead_7 : decode cX10_isRead 7 = .ok (.putfield 150, 3) := by decide +kernel
theorem dX10_isRead_10 : decode cX10_isRead 10 = .ok (.aload_n 0, 1) := by decide +kernel
theorem dX10_isRead_11 : decode cX10_isRead 11 = .ok (.aload_n 0, 1) := by decide +kernel
theorem dX10_isRead_12 : decode cX10_isRead 12 = .ok (.getfield 7, 3) := by decide +kernel
theorem dX10_isRead_15 : decode cX10_isRead 15 = .ok (.putfield 116, 3) := by decide +kernel
theorem dX10_isRead_18 : decode cX10_isRead 18 = .ok (.iconst 1, 1) := by decide +kernel
theorem dX10_isRead_19 : decode cX10_isRead 19 = .ok (.istore_n 1, 1) := by decide +kernel
theorem dX10_isRead_20 : decode cX10_isRead 20 = .ok (.iload_n 1, 1) := by decide +kernel
theorem dX10_isRead_21 : decode cX10_isRead 21 = .ok (.ifCond .eq 61, 3) := by decide +kernel
theorem dX10_isRead_24 : decode cX10_isRead 24 = .ok (.aload_n 0, 1) := by decide +kernel
theorem dX10_isRead_25 : decode cX10_isRead 25 = .ok (.iconst 4, 1) := by decide +kernel
theorem dX10_isRead_26 : decode cX10_isRead 26 = .ok (.aload_n 0, 1) := by decide +kernel
theorem dX10_isRead_27 : decode cX10_isRead 27 = .ok (.getfield 150, 3) := by decide +kernel
theorem dX10_isRead_30 : decode cX10_isRead 30 = .ok (.imul, 1) := by decide +kernel
theorem dX10_isRead_31 : decode cX10_isRead 31 = .ok (.invokevirtual 153, 3) := by decide +kernel
theorem dX10_isRead_34 : decode cX10_isRead 34 = .ok (.ifCond .ne 5, 3) := by decide +kernel
theorem dX10_isRead_37 : decode cX10_isRead 37 = .ok (.iconst 0, 1) := by decide +kernel
theorem dX10_isRead_38 : decode cX10_isRead 38 = .ok (.ireturn, 1) := by decide +kernel
theorem dX10_isRead_39 : decode cX10_isRead 39 = .ok (.aload_n 0, 1) := by decide +kernel
theorem dX10_isRead_40 : decode cX10_isRead 40 = .ok (.dup, 1) := by decide +kernel
theorem dX10_isRead_41 : decode cX10_isRead 41 = .ok (.getfield 150, 3) := by decide +kernel
theorem dX10_isRead_44 : decode cX10_isRead 44 = .ok (.iconst 1, 1) := by decide +kernel
theorem dX10_isRead_45 : decode cX10_isRead 45 = .ok (.iadd, 1) := by decide +kernel
theorem dX10_isRead_46 : decode cX10_isRead 46 = .ok (.putfield 150, 3) := by decide +kernel
theorem dX10_isRead_49 : decode cX10_isRead 49 = .ok (.aload_n 0, 1) := by decide +kernel
theorem dX10_isRead_50 : decode cX10_isRead 50 = .ok (.invokevirtual 109, 3) := by decide +kernel
theorem dX10_isRead_53 : decode cX10_isRead 53 = .ok (.aload_n 0, 1) := by decide +kernel
theorem dX10_isRead_54 : decode cX10_isRead 54 = .ok (.getfield 92, 3) := by decide +kernel
theorem dX10_isRead_57 : decode cX10_isRead 57 = .ok (.ldc2_w 104, 3) := by decide +kernel
theorem dX10_isRead_60 : decode cX10_isRead 60 = .ok (.lcmp, 1) := by decide +kernel
theorem dX10_isRead_61 : decode cX10_isRead 61 = .ok (.ifCond .ne 16, 3) := by decide +kernel
theorem dX10_isRead_64 : decode cX10_isRead 64 = .ok (.aload_n 0, 1) := by decide +kernel
theorem dX10_isRead_65 : decode cX10_isRead 65 = .ok (.getfield 150, 3) := by decide +kernel
theorem dX10_isRead_68 : decode cX10_isRead 68 = .ok (.bipush 14, 2) := by decide +kernel
theorem dX10_isRead_70 : decode cX10_isRead 70 = .ok (.if_icmp .ge 7, 3) := by decide +kernel
theorem dX10_isRead_73 : decode cX10_isRead 73 = .ok (.iconst 1, 1) := by decide +kernel
theorem dX10_isRead_74 : decode cX10_isRead 74 = .ok (.goto 4, 3) := by decide +kernel
theorem dX10_isRead_77 : decode cX10_isRead 77 = .ok (.iconst 0, 1) := by decide +kernel
theorem dX10_isRead_78 : decode cX10_isRead 78 = .ok (.istore_n 1, 1) := by decide +kernel
theorem dX10_isRead_79 : decode cX10_isRead 79 = .ok (.goto (-59), 3) := by decide +kernel
theorem dX10_isRead_82 : decode cX10_isRead 82 = .ok (.aload_n 0, 1) := by decide +kernel
theorem dX10_isRead_83 : decode cX10_isRead 83 = .ok (.getfield 92, 3) := by decide +kernel
theorem dX10_isRead_86 : decode cX10_isRead 86 = .ok (.ldc2_w 90, 3) := by decide +kernel
theorem dX10_isRead_89 : decode cX10_isRead 89 = .ok (.lcmp, 1) := by decide +kernel
theorem dX10_isRead_90 : decode cX10_isRead 90 = .ok (.ifCond .eq 10, 3) := by decide +kernel
theorem dX10_isRead_93 : decode cX10_isRead 93 = .ok (.aload_n 0, 1) := by decide +kernel
theorem dX10_isRead_94 : decode cX10_isRead 94 = .ok (.invokevirtual 112, 3) := by decide +kernel
theorem dX10_isRead_97 : decode cX10_isRead 97 = .ok (.ifCond .eq 7, 3) := by decide +kernel
theorem dX10_isRead_100 : decode cX10_isRead 100 = .ok (.iconst 1, 1) := by decide +kernel
theorem dX10_isRead_101 : decode cX10_isRead 101 = .ok (.goto 4, 3) := by decide +kernel
theorem dX10_isRead_104 : decode cX10_isRead 104 = .ok (.iconst 0, 1) := by decide +kernel
theorem dX10_isRead_105 : decode cX10_isRead 105 = .ok (.ireturn, 1) := by decide +kernel
theorem dX10_fault_0 : decode cX10_fault 0 = .ok (.aload_n 0, 1) := by decide +kernel
theorem dX10_fault_1 : decode cX10_fault 1 = .ok (.invokevirtual 156, 3) := by decide +kernel
theorem dX10_fault_4 : decode cX10_fault 4 = .ok (.ifCond .eq 7, 3) := by decide +kernel
theorem dX10_fault_7 : decode cX10_fault 7 = .ok (.iconst (-1), 1) := by decide +kernel
theorem dX10_fault_8 : decode cX10_fault 8 = .ok (.goto 7, 3) := by decide +kernel
theorem dX10_fault_11 : decode cX10_fault 11 = .ok (.aload_n 0, 1) := by decide +kernel
theorem dX10_fault_12 : decode cX10_fault 12 = .ok (.getfield 106, 3) := by decide +kernel
theorem dX10_fault_15 : decode cX10_fault 15 = .ok (.ireturn, 1) := by decide +kernel
theorem dX10_doLine_0 : decode cX10_doLine 0 = .ok (.aload_n 0, 1) := by decide +kernel
theorem dX10_doLine_1 : decode cX10_doLine 1 = .ok (.getfield 32, 3) := by decide +kernel
theorem dX10_doLine_4 : decode cX10_doLine 4 = .ok (.iload_n 1, 1) := by decide +kernel
theorem dX10_doLine_5 : decode cX10_doLine 5 = .ok (.iconst 1, 1) := by decide +kernel
theorem dX10_doLine_6 : decode cX10_doLine 6 = .ok (.iadd, 1) := by decide +kernel
theorem dX10_doLine_7 : decode cX10_doLine 7 = .ok (.iaload, 1) := by decide +kernel
theorem dX10_doLine_8 : decode cX10_doLine 8 = .ok (.istore_n 2, 1) := by decide +kernel
theorem dX10_doLine_9 : decode cX10_doLine 9 = .ok (.aload_n 0, 1) := by decide +kernel
theorem dX10_doLine_10 : decode cX10_doLine 10 = .ok (.getfield 32, 3) := by decide +kernel
theorem dX10_doLine_13 : decode cX10_doLine 13 = .ok (.iload_n 1, 1) := by decide +kernel
theorem dX10_doLine_14 : decode cX10_doLine 14 = .ok (.iaload, 1) := by decide +kernel
theorem dX10_doLine_15 : decode cX10_doLine 15 = .ok (.tableswitch 128 0 4 #[33, 45, 74, 103, 120], 33) := by decide +kernel
theorem dX10_doLine_48 : decode cX10_doLine 48 = .ok (.aload_n 0, 1) := by decide +kernel
theorem dX10_doLine_49 : decode cX10_doLine 49 = .ok (.invokevirtual 63, 3) := by decide +kernel
theorem dX10_doLine_52 : decode cX10_doLine 52 = .ok (.aload_n 0, 1) := by decide +kernel
theorem dX10_doLine_53 : decode cX10_doLine 53 = .ok (.iload_n 2, 1) := by decide +kernel
theorem dX10_doLine_54 : decode cX10_doLine 54 = .ok (.putfield 7, 3) := by decide +kernel
theorem dX10_doLine_57 : decode cX10_doLine 57 = .ok (.goto 100, 3) := by decide +kernel
theorem dX10_doLine_60 : decode cX10_doLine 60 = .ok (.aload_n 0, 1) := by decide +kernel
theorem dX10_doLine_61 : decode cX10_doLine 61 = .ok (.getfield 16, 3) := by decide +kernel
theorem dX10_doLine_64 : decode cX10_doLine 64 = .ok (.bipush 7, 2) := by decide +kernel
theorem dX10_doLine_66 : decode cX10_doLine 66 = .ok (.iload_n 2, 1) := by decide +kernel
theorem dX10_doLine_67 : decode cX10_doLine 67 = .ok (.imul, 1) := by decide +kernel
theorem dX10_doLine_68 : decode cX10_doLine 68 = .ok (.aload_n 0, 1) := by decide +kernel
theorem dX10_doLine_69 : decode cX10_doLine 69 = .ok (.getfield 32, 3) := by decide +kernel
theorem dX10_doLine_72 : decode cX10_doLine 72 = .ok (.iload_n 1, 1) := by decide +kernel
theorem dX10_doLine_73 : decode cX10_doLine 73 = .ok (.iconst 2, 1) := by decide +kernel
theorem dX10_doLine_74 : decode cX10_doLine 74 = .ok (.iadd, 1) := by decide +kernel
theorem dX10_doLine_75 : decode cX10_doLine 75 = .ok (.iaload, 1) := by decide +kernel
theorem dX10_doLine_76 : decode cX10_doLine 76 = .ok (.iadd, 1) := by decide +kernel
theorem dX10_doLine_77 : decode cX10_doLine 77 = .ok (.aload_n 0, 1) := by decide +kernel
theorem dX10_doLine_78 : decode cX10_doLine 78 = .ok (.getfield 32, 3) := by decide +kernel
theorem dX10_doLine_81 : decode cX10_doLine 81 = .ok (.iload_n 1, 1) := by decide +kernel
theorem dX10_doLine_82 : decode cX10_doLine 82 = .ok (.iconst 3, 1) := by decide +kernel
theorem dX10_doLine_83 : decode cX10_doLine 83 = .ok (.iadd, 1) := by decide +kernel
theorem dX10_doLine_84 : decode cX10_doLine 84 = .ok (.iaload, 1) := by decide +kernel
theorem dX10_doLine_85 : decode cX10_doLine 85 = .ok (.iastore, 1) := by decide +kernel
theorem dX10_doLine_86 : decode cX10_doLine 86 = .ok (.goto 71, 3) := by decide +kernel
theorem dX10_doLine_89 : decode cX10_doLine 89 = .ok (.aload_n 0, 1) := by decide +kernel
theorem dX10_doLine_90 : decode cX10_doLine 90 = .ok (.getfield 20, 3) := by decide +kernel
theorem dX10_doLine_93 : decode cX10_doLine 93 = .ok (.bipush 7, 2) := by decide +kernel
theorem dX10_doLine_95 : decode cX10_doLine 95 = .ok (.iload_n 2, 1) := by decide +kernel
theorem dX10_doLine_96 : decode cX10_doLine 96 = .ok (.imul, 1) := by decide +kernel
theorem dX10_doLine_97 : decode cX10_doLine 97 = .ok (.aload_n 0, 1) := by decide +kernel
theorem dX10_doLine_98 : decode cX10_doLine 98 = .ok (.getfield 32, 3) := by decide +kernel
theorem dX10_doLine_101 : decode cX10_doLine 101 = .ok (.iload_n 1, 1) := by decide +kernel
theorem dX10_doLine_102 : decode cX10_doLine 102 = .ok (.iconst 2, 1) := by decide +kernel
theorem dX10_doLine_103 : decode cX10_doLine 103 = .ok (.iadd, 1) := by decide +kernel
theorem dX10_doLine_104 : decode cX10_doLine 104 = .ok (.iaload, 1) := by decide +kernel
theorem dX10_doLine_105 : decode cX10_doLine 105 = .ok (.iadd, 1) := by decide +kernel
theorem dX10_doLine_106 : decode cX10_doLine 106 = .ok (.aload_n 0, 1) := by decide +kernel
theorem dX10_doLine_107 : decode cX10_doLine 107 = .ok (.getfield 32, 3) := by decide +kernel
theorem dX10_doLine_110 : decode cX10_doLine 110 = .ok (.iload_n 1, 1) := by decide +kernel
theorem dX10_doLine_111 : decode cX10_doLine 111 = .ok (.iconst 3, 1) := by decide +kernel
theorem dX10_doLine_112 : decode cX10_doLine 112 = .ok (.iadd, 1) := by decide +kernel
theorem dX10_doLine_113 : decode cX10_doLine 113 = .ok (.iaload, 1) := by decide +kernel
theorem dX10_doLine_114 : decode cX10_doLine 114 = .ok (.iastore, 1) := by decide +kernel
theorem dX10_doLine_115 : decode cX10_doLine 115 = .ok (.goto 42, 3) := by decide +kernel
theorem dX10_doLine_118 : decode cX10_doLine 118 = .ok (.aload_n 0, 1) := by decide +kernel
theorem dX10_doLine_119 : decode cX10_doLine 119 = .ok (.getfield 26, 3) := by decide +kernel
theorem dX10_doLine_122 : decode cX10_doLine 122 = .ok (.iload_n 2, 1) := by decide +kernel
theorem dX10_doLine_123 : decode cX10_doLine 123 = .ok (.aload_n 0, 1) := by decide +kernel
theorem dX10_doLine_124 : decode cX10_doLine 124 = .ok (.getfield 32, 3) := by decide +kernel
theorem dX10_doLine_127 : decode cX10_doLine 127 = .ok (.iload_n 1, 1) := by decide +kernel
theorem dX10_doLine_128 : decode cX10_doLine 128 = .ok (.iconst 2, 1) := by decide +kernel
theorem dX10_doLine_129 : decode cX10_doLine 129 = .ok (.iadd, 1) := by decide +kernel
theorem dX10_doLine_130 : decode cX10_doLine 130 = .ok (.iaload, 1) := by decide +kernel
theorem dX10_doLine_131 : decode cX10_doLine 131 = .ok (.iastore, 1) := by decide +kernel
theorem dX10_doLine_132 : decode cX10_doLine 132 = .ok (.goto 25, 3) := by decide +kernel
theorem dX10_doLine_135 : decode cX10_doLine 135 = .ok (.aload_n 0, 1) := by decide +kernel
theorem dX10_doLine_136 : decode cX10_doLine 136 = .ok (.iload_n 2, 1) := by decide +kernel
theorem dX10_doLine_137 : decode cX10_doLine 137 = .ok (.putfield 13, 3) := by decide +kernel
theorem dX10_doLine_140 : decode cX10_doLine 140 = .ok (.goto 17, 3) := by decide +kernel
theorem dX10_doLine_143 : decode cX10_doLine 143 = .ok (.aload_n 0, 1) := by decide +kernel
theorem dX10_doLine_144 : decode cX10_doLine 144 = .ok (.getfield 23, 3) := by decide +kernel
theorem dX10_doLine_147 : decode cX10_doLine 147 = .ok (.iload_n 2, 1) := by decide +kernel
theorem dX10_doLine_148 : decode cX10_doLine 148 = .ok (.aload_n 0, 1) := by decide +kernel
theorem dX10_doLine_149 : decode cX10_doLine 149 = .ok (.getfield 32, 3) := by decide +kernel
theorem dX10_doLine_152 : decode cX10_doLine 152 = .ok (.iload_n 1, 1) := by decide +kernel
theorem dX10_doLine_153 : decode cX10_doLine 153 = .ok (.iaload, 1) := by decide +kernel
theorem dX10_doLine_154 : decode cX10_doLine 154 = .ok (.iconst 5, 1) := by decide +kernel
theorem dX10_doLine_155 : decode cX10_doLine 155 = .ok (.isub, 1) := by decide +kernel
theorem dX10_doLine_156 : decode cX10_doLine 156 = .ok (.iastore, 1) := by decide +kernel
theorem dX10_doLine_157 : decode cX10_doLine 157 = .ok (.return_, 1) := by decide +kernel
theorem dX10_hall_0 : decode cX10_hall 0 = .ok (.aload_n 0, 1) := by decide +kernel
theorem dX10_hall_1 : decode cX10_hall 1 = .ok (.invokevirtual 156, 3) := by decide +kernel
theorem dX10_hall_4 : decode cX10_hall 4 = .ok (.ifCond .ne 6, 3) := by decide +kernel
theorem dX10_hall_7 : decode cX10_hall 7 = .ok (.bipush (-4), 2) := by decide +kernel
theorem dX10_hall_9 : decode cX10_hall 9 = .ok (.ireturn, 1) := by decide +kernel
theorem dX10_hall_10 : decode cX10_hall 10 = .ok (.iconst 0, 1) := by decide +kernel
theorem dX10_hall_11 : decode cX10_hall 11 = .ok (.istore_n 1, 1) := by decide +kernel
theorem dX10_hall_12 : decode cX10_hall 12 = .ok (.iload_n 1, 1) := by decide +kernel
theorem dX10_hall_13 : decode cX10_hall 13 = .ok (.aload_n 0, 1) := by decide +kernel
theorem dX10_hall_14 : decode cX10_hall 14 = .ok (.getfield 150, 3) := by decide +kernel
theorem dX10_hall_17 : decode cX10_hall 17 = .ok (.if_icmp .ge 16, 3) := by decide +kernel
theorem dX10_hall_20 : decode cX10_hall 20 = .ok (.aload_n 0, 1) := by decide +kernel
theorem dX10_hall_21 : decode cX10_hall 21 = .ok (.iconst 4, 1) := by decide +kernel
theorem dX10_hall_22 : decode cX10_hall 22 = .ok (.iload_n 1, 1) := by decide +kernel
theorem dX10_hall_23 : decode cX10_hall 23 = .ok (.imul, 1) := by decide +kernel
theorem dX10_hall_24 : decode cX10_hall 24 = .ok (.invokevirtual 159, 3) := by decide +kernel
theorem dX10_hall_27 : decode cX10_hall 27 = .ok (.iinc 1 1, 3) := by decide +kernel
theorem dX10_hall_30 : decode cX10_hall 30 = .ok (.goto (-18), 3) := by decide +kernel
theorem dX10_hall_33 : decode cX10_hall 33 = .ok (.aload_n 0, 1) := by decide +kernel
theorem dX10_hall_34 : decode cX10_hall 34 = .ok (.iconst 0, 1) := by decide +kernel
theorem dX10_hall_35 : decode cX10_hall 35 = .ok (.putfield 73, 3) := by decide +kernel
theorem dX10_hall_38 : decode cX10_hall 38 = .ok (.aload_n 0, 1) := by decide +kernel
theorem dX10_hall_39 : decode cX10_hall 39 = .ok (.invokevirtual 66, 3) := by decide +kernel
theorem dX10_hall_42 : decode cX10_hall 42 = .ok (.aload_n 0, 1) := by decide +kernel
theorem dX10_hall_43 : decode cX10_hall 43 = .ok (.getfield 41, 3) := by decide +kernel
theorem dX10_hall_46 : decode cX10_hall 46 = .ok (.iconst 0, 1) := by decide +kernel
theorem dX10_hall_47 : decode cX10_hall 47 = .ok (.iconst 0, 1) := by decide +kernel
theorem dX10_hall_48 : decode cX10_hall 48 = .ok (.bastore, 1) := by decide +kernel
theorem dX10_hall_49 : decode cX10_hall 49 = .ok (.aload_n 0, 1) := by decide +kernel
theorem dX10_hall_50 : decode cX10_hall 50 = .ok (.getfield 41, 3) := by decide +kernel
theorem dX10_hall_53 : decode cX10_hall 53 = .ok (.iconst 1, 1) := by decide +kernel
theorem dX10_hall_54 : decode cX10_hall 54 = .ok (.iconst 0, 1) := by decide +kernel
theorem dX10_hall_55 : decode cX10_hall 55 = .ok (.bastore, 1) := by decide +kernel
theorem dX10_hall_56 : decode cX10_hall 56 = .ok (.aload_n 0, 1) := by decide +kernel
theorem dX10_hall_57 : decode cX10_hall 57 = .ok (.getfield 150, 3) := by decide +kernel
theorem dX10_hall_60 : decode cX10_hall 60 = .ok (.ireturn, 1) := by decide +kernel
theorem dX10_mayBehind_0 : decode cX10_mayBehind 0 = .ok (.aload_n 0, 1) := by decide +kernel
theorem dX10_mayBehind_1 : decode cX10_mayBehind 1 = .ok (.getfield 23, 3) := by decide +kernel
theorem dX10_mayBehind_4 : decode cX10_mayBehind 4 = .ok (.iload_n 2, 1) := by decide +kernel
theorem dX10_mayBehind_5 : decode cX10_mayBehind 5 = .ok (.iaload, 1) := by decide +kernel
theorem dX10_mayBehind_6 : decode cX10_mayBehind 6 = .ok (.iconst 1, 1) := by decide +kernel
theorem dX10_mayBehind_7 : decode cX10_mayBehind 7 = .ok (.if_icmp .ne 22, 3) := by decide +kernel
theorem dX10_mayBehind_10 : decode cX10_mayBehind 10 = .ok (.iload_n 3, 1) := by decide +kernel
theorem dX10_mayBehind_11 : decode cX10_mayBehind 11 = .ok (.iconst (-1), 1) := by decide +kernel
theorem dX10_mayBehind_12 : decode cX10_mayBehind 12 = .ok (.if_icmp .eq 17, 3) := by decide +kernel
theorem dX10_mayBehind_15 : decode cX10_mayBehind 15 = .ok (.aload_n 0, 1) := by decide +kernel
theorem dX10_mayBehind_16 : decode cX10_mayBehind 16 = .ok (.getfield 23, 3) := by decide +kernel
theorem dX10_mayBehind_19 : decode cX10_mayBehind 19 = .ok (.iload_n 3, 1) := by decide +kernel
theorem dX10_mayBehind_20 : decode cX10_mayBehind 20 = .ok (.iaload, 1) := by decide +kernel
theorem dX10_mayBehind_21 : decode cX10_mayBehind 21 = .ok (.iconst 1, 1) := by decide +kernel
theorem dX10_mayBehind_22 : decode cX10_mayBehind 22 = .ok (.if_icmp .ne 7, 3) := by decide +kernel
theorem dX10_mayBehind_25 : decode cX10_mayBehind 25 = .ok (.iconst 1, 1) := by decide +kernel
theorem dX10_mayBehind_26 : decode cX10_mayBehind 26 = .ok (.goto 4, 3) := by decide +kernel
theorem dX10_mayBehind_29 : decode cX10_mayBehind 29 = .ok (.iconst 0, 1) := by decide +kernel
theorem dX10_mayBehind_30 : decode cX10_mayBehind 30 = .ok (.istore 4, 2) := by decide +kernel
theorem dX10_mayBehind_32 : decode cX10_mayBehind 32 = .ok (.aload_n 0, 1) := by decide +kernel
theorem dX10_mayBehind_33 : decode cX10_mayBehind 33 = .ok (.getfield 16, 3) := by decide +kernel
theorem dX10_mayBehind_36 : decode cX10_mayBehind 36 = .ok (.bipush 7, 2) := by decide +kernel
theorem dX10_mayBehind_38 : decode cX10_mayBehind 38 = .ok (.iload_n 1, 1) := by decide +kernel
theorem dX10_mayBehind_39 : decode cX10_mayBehind 39 = .ok (.imul, 1) := by decide +kernel
theorem dX10_mayBehind_40 : decode cX10_mayBehind 40 = .ok (.iload_n 2, 1) := by decide +kernel
theorem dX10_mayBehind_41 : decode cX10_mayBehind 41 = .ok (.iadd, 1) := by decide +kernel
theorem dX10_mayBehind_42 : decode cX10_mayBehind 42 = .ok (.iaload, 1) := by decide +kernel
theorem dX10_mayBehind_43 : decode cX10_mayBehind 43 = .ok (.ifCond .le 27, 3) := by decide +kernel
theorem dX10_mayBehind_46 : decode cX10_mayBehind 46 = .ok (.iload 4, 2) := by decide +kernel
theorem dX10_mayBehind_48 : decode cX10_mayBehind 48 = .ok (.ifCond .ne 22, 3) := by decide +kernel
theorem dX10_mayBehind_51 : decode cX10_mayBehind 51 = .ok (.aload_n 0, 1) := by decide +kernel
theorem dX10_mayBehind_52 : decode cX10_mayBehind 52 = .ok (.getfield 23, 3) := by decide +kernel
theorem dX10_mayBehind_55 : decode cX10_mayBehind 55 = .ok (.iload_n 2, 1) := by decide +kernel
theorem dX10_mayBehind_56 : decode cX10_mayBehind 56 = .ok (.iaload, 1) := by decide +kernel
theorem dX10_mayBehind_57 : decode cX10_mayBehind 57 = .ok (.iconst 2, 1) := by decide +kernel
theorem dX10_mayBehind_58 : decode cX10_mayBehind 58 = .ok (.if_icmp .ne 8, 3) := by decide +kernel
theorem dX10_mayBehind_61 : decode cX10_mayBehind 61 = .ok (.iload_n 3, 1) := by decide +kernel
theorem dX10_mayBehind_62 : decode cX10_mayBehind 62 = .ok (.iload_n 2, 1) := by decide +kernel
theorem dX10_mayBehind_63 : decode cX10_mayBehind 63 = .ok (.if_icmp .eq 7, 3) := by decide +kernel
theorem dX10_mayBehind_66 : decode cX10_mayBehind 66 = .ok (.iconst 1, 1) := by decide +kernel
theorem dX10_mayBehind_67 : decode cX10_mayBehind 67 = .ok (.goto 4, 3) := by decide +kernel
theorem dX10_mayBehind_70 : decode cX10_mayBehind 70 = .ok (.iconst 0, 1) := by decide +kernel
theorem dX10_mayBehind_71 : decode cX10_mayBehind 71 = .ok (.ireturn, 1) := by decide +kernel
theorem dX10_may_0 : decode cX10_may 0 = .ok (.aload_n 0, 1) := by decide +kernel
theorem dX10_may_1 : decode cX10_may 1 = .ok (.iload_n 1, 1) := by decide +kernel
theorem dX10_may_2 : decode cX10_may 2 = .ok (.iload_n 2, 1) := by decide +kernel
theorem dX10_may_3 : decode cX10_may 3 = .ok (.aload_n 0, 1) := by decide +kernel
theorem dX10_may_4 : decode cX10_may 4 = .ok (.getfield 35, 3) := by decide +kernel
theorem dX10_may_7 : decode cX10_may 7 = .ok (.bipush 8, 2) := by decide +kernel
theorem dX10_may_9 : decode cX10_may 9 = .ok (.iload_n 1, 1) := by decide +kernel
theorem dX10_may_10 : decode cX10_may 10 = .ok (.iadd, 1) := by decide +kernel
theorem dX10_may_11 : decode cX10_may 11 = .ok (.iaload, 1) := by decide +kernel
theorem dX10_may_12 : decode cX10_may 12 = .ok (.invokevirtual 163, 3) := by decide +kernel
theorem dX10_may_15 : decode cX10_may 15 = .ok (.ireturn, 1) := by decide +kernel
theorem dX10_monk_0 : decode cX10_monk 0 = .ok (.aload_n 0, 1) := by decide +kernel
theorem dX10_monk_1 : decode cX10_monk 1 = .ok (.iload_n 1, 1) := by decide +kernel
theorem dX10_monk_2 : decode cX10_monk 2 = .ok (.invokevirtual 166, 3) := by decide +kernel
theorem dX10_monk_5 : decode cX10_monk 5 = .ok (.ifCond .eq 11, 3) := by decide +kernel
theorem dX10_monk_8 : decode cX10_monk 8 = .ok (.aload_n 0, 1) := by decide +kernel
theorem dX10_monk_9 : decode cX10_monk 9 = .ok (.iload_n 2, 1) := by decide +kernel
theorem dX10_monk_10 : decode cX10_monk 10 = .ok (.invokevirtual 166, 3) := by decide +kernel
theorem dX10_monk_13 : decode cX10_monk 13 = .ok (.ifCond .ne 6, 3) := by decide +kernel
theorem dX10_monk_16 : decode cX10_monk 16 = .ok (.bipush (-2), 2) := by decide +kernel
theorem dX10_monk_18 : decode cX10_monk 18 = .ok (.ireturn, 1) := by decide +kernel
theorem dX10_monk_19 : decode cX10_monk 19 = .ok (.iload_n 3, 1) := by decide +kernel
theorem dX10_monk_20 : decode cX10_monk 20 = .ok (.ifCond .ne 17, 3) := by decide +kernel
theorem dX10_monk_23 : decode cX10_monk 23 = .ok (.aload_n 0, 1) := by decide +kernel
theorem dX10_monk_24 : decode cX10_monk 24 = .ok (.getfield 16, 3) := by decide +kernel
theorem dX10_monk_27 : decode cX10_monk 27 = .ok (.bipush 7, 2) := by decide +kernel
theorem dX10_monk_29 : decode cX10_monk 29 = .ok (.iload_n 1, 1) := by decide +kernel
theorem dX10_monk_30 : decode cX10_monk 30 = .ok (.imul, 1) := by decide +kernel
theorem dX10_monk_31 : decode cX10_monk 31 = .ok (.iload_n 2, 1) := by decide +kernel
theorem dX10_monk_32 : decode cX10_monk 32 = .ok (.iadd, 1) := by decide +kernel
theorem dX10_monk_33 : decode cX10_monk 33 = .ok (.iaload, 1) := by decide +kernel
theorem dX10_monk_34 : decode cX10_monk 34 = .ok (.goto 46, 3) := by decide +kernel
theorem dX10_monk_37 : decode cX10_monk 37 = .ok (.iload_n 3, 1) := by decide +kernel
theorem dX10_monk_38 : decode cX10_monk 38 = .ok (.iconst 1, 1) := by decide +kernel
theorem dX10_monk_39 : decode cX10_monk 39 = .ok (.if_icmp .ne 17, 3) := by decide +kernel
theorem dX10_monk_42 : decode cX10_monk 42 = .ok (.aload_n 0, 1) := by decide +kernel
theorem dX10_monk_43 : decode cX10_monk 43 = .ok (.getfield 20, 3) := by decide +kernel
theorem dX10_monk_46 : decode cX10_monk 46 = .ok (.bipush 7, 2) := by decide +kernel
theorem dX10_monk_48 : decode cX10_monk 48 = .ok (.iload_n 1, 1) := by decide +kernel
theorem dX10_monk_49 : decode cX10_monk 49 = .ok (.imul, 1) := by decide +kernel
theorem dX10_monk_50 : decode cX10_monk 50 = .ok (.iload_n 2, 1) := by decide +kernel
theorem dX10_monk_51 : decode cX10_monk 51 = .ok (.iadd, 1) := by decide +kernel
theorem dX10_monk_52 : decode cX10_monk 52 = .ok (.iaload, 1) := by decide +kernel
theorem dX10_monk_53 : decode cX10_monk 53 = .ok (.goto 27, 3) := by decide +kernel
theorem dX10_monk_56 : decode cX10_monk 56 = .ok (.iload_n 3, 1) := by decide +kernel
theorem dX10_monk_57 : decode cX10_monk 57 = .ok (.iconst 2, 1) := by decide +kernel
theorem dX10_monk_58 : decode cX10_monk 58 = .ok (.if_icmp .ne 20, 3) := by decide +kernel
theorem dX10_monk_61 : decode cX10_monk 61 = .ok (.aload_n 0, 1) := by decide +kernel
theorem dX10_monk_62 : decode cX10_monk 62 = .ok (.iload_n 1, 1) := by decide +kernel
theorem dX10_monk_63 : decode cX10_monk 63 = .ok (.iload_n 2, 1) := by decide +kernel
theorem dX10_monk_64 : decode cX10_monk 64 = .ok (.invokevirtual 169, 3) := by decide +kernel
theorem dX10_monk_67 : decode cX10_monk 67 = .ok (.ifCond .eq 7, 3) := by decide +kernel
theorem dX10_monk_70 : decode cX10_monk 70 = .ok (.iconst 1, 1) := by decide +kernel
theorem dX10_monk_71 : decode cX10_monk 71 = .ok (.goto 9, 3) := by decide +kernel
theorem dX10_monk_74 : decode cX10_monk 74 = .ok (.iconst 0, 1) := by decide +kernel
theorem dX10_monk_75 : decode cX10_monk 75 = .ok (.goto 5, 3) := by decide +kernel
theorem dX10_monk_78 : decode cX10_monk 78 = .ok (.bipush (-3), 2) := by decide +kernel
theorem dX10_monk_80 : decode cX10_monk 80 = .ok (.ireturn, 1) := by decide +kernel
theorem dX10_as_0 : decode cX10_as 0 = .ok (.aload_n 0, 1) := by decide +kernel
theorem dX10_as_1 : decode cX10_as 1 = .ok (.iload_n 1, 1) := by decide +kernel
theorem dX10_as_2 : decode cX10_as 2 = .ok (.invokevirtual 166, 3) := by decide +kernel
theorem dX10_as_5 : decode cX10_as 5 = .ok (.ifCond .ne 6, 3) := by decide +kernel
theorem dX10_as_8 : decode cX10_as 8 = .ok (.bipush (-2), 2) := by decide +kernel
theorem dX10_as_10 : decode cX10_as 10 = .ok (.ireturn, 1) := by decide +kernel
theorem dX10_as_11 : decode cX10_as 11 = .ok (.iload_n 2, 1) := by decide +kernel
theorem dX10_as_12 : decode cX10_as 12 = .ok (.iconst 0, 1) := by decide +kernel
theorem dX10_as_13 : decode cX10_as 13 = .ok (.iconst 4, 1) := by decide +kernel
theorem dX10_as_14 : decode cX10_as 14 = .ok (.invokestatic 69, 3) := by decide +kernel
theorem dX10_as_17 : decode cX10_as 17 = .ok (.ifCond .ne 6, 3) := by decide +kernel
theorem dX10_as_20 : decode cX10_as 20 = .ok (.bipush (-3), 2) := by decide +kernel
theorem dX10_as_22 : decode cX10_as 22 = .ok (.ireturn, 1) := by decide +kernel
theorem dX10_as_23 : decode cX10_as 23 = .ok (.iload_n 2, 1) := by decide +kernel
theorem dX10_as_24 : decode cX10_as 24 = .ok (.ifCond .eq 67, 3) := by decide +kernel
theorem dX10_as_27 : decode cX10_as 27 = .ok (.iload_n 2, 1) := by decide +kernel
theorem dX10_as_28 : decode cX10_as 28 = .ok (.iconst 1, 1) := by decide +kernel
theorem dX10_as_29 : decode cX10_as 29 = .ok (.if_icmp .ne 16, 3) := by decide +kernel
theorem dX10_as_32 : decode cX10_as 32 = .ok (.aload_n 0, 1) := by decide +kernel
theorem dX10_as_33 : decode cX10_as 33 = .ok (.getfield 23, 3) := by decide +kernel
theorem dX10_as_36 : decode cX10_as 36 = .ok (.iload_n 1, 1) := by decide +kernel
theorem dX10_as_37 : decode cX10_as 37 = .ok (.iaload, 1) := by decide +kernel
theorem dX10_as_38 : decode cX10_as 38 = .ok (.iconst 2, 1) := by decide +kernel
theorem dX10_as_39 : decode cX10_as 39 = .ok (.if_icmp .ge 56, 3) := by decide +kernel
theorem dX10_as_42 : decode cX10_as 42 = .ok (.goto 49, 3) := by decide +kernel
theorem dX10_as_45 : decode cX10_as 45 = .ok (.iload_n 2, 1) := by decide +kernel
theorem dX10_as_46 : decode cX10_as 46 = .ok (.iconst 2, 1) := by decide +kernel
theorem dX10_as_47 : decode cX10_as 47 = .ok (.if_icmp .ne 16, 3) := by decide +kernel
theorem dX10_as_50 : decode cX10_as 50 = .ok (.aload_n 0, 1) := by decide +kernel
theorem dX10_as_51 : decode cX10_as 51 = .ok (.getfield 23, 3) := by decide +kernel
theorem dX10_as_54 : decode cX10_as 54 = .ok (.iload_n 1, 1) := by decide +kernel
theorem dX10_as_55 : decode cX10_as 55 = .ok (.iaload, 1) := by decide +kernel
theorem dX10_as_56 : decode cX10_as 56 = .ok (.iconst 1, 1) := by decide +kernel
theorem dX10_as_57 : decode cX10_as 57 = .ok (.if_icmp .ne 38, 3) := by decide +kernel
theorem dX10_as_60 : decode cX10_as 60 = .ok (.goto 31, 3) := by decide +kernel
theorem dX10_as_63 : decode cX10_as 63 = .ok (.iload_n 2, 1) := by decide +kernel
theorem dX10_as_64 : decode cX10_as 64 = .ok (.iconst 3, 1) := by decide +kernel
theorem dX10_as_65 : decode cX10_as 65 = .ok (.if_icmp .ne 16, 3) := by decide +kernel
theorem dX10_as_68 : decode cX10_as 68 = .ok (.aload_n 0, 1) := by decide +kernel
theorem dX10_as_69 : decode cX10_as 69 = .ok (.getfield 23, 3) := by decide +kernel
theorem dX10_as_72 : decode cX10_as 72 = .ok (.iload_n 1, 1) := by decide +kernel
theorem dX10_as_73 : decode cX10_as 73 = .ok (.iaload, 1) := by decide +kernel
theorem dX10_as_74 : decode cX10_as 74 = .ok (.iconst 1, 1) := by decide +kernel
theorem dX10_as_75 : decode cX10_as 75 = .ok (.if_icmp .le 20, 3) := by decide +kernel
theorem dX10_as_78 : decode cX10_as 78 = .ok (.goto 13, 3) := by decide +kernel
theorem dX10_as_81 : decode cX10_as 81 = .ok (.aload_n 0, 1) := by decide +kernel
theorem dX10_as_82 : decode cX10_as 82 = .ok (.getfield 23, 3) := by decide +kernel
theorem dX10_as_85 : decode cX10_as 85 = .ok (.iload_n 1, 1) := by decide +kernel
theorem dX10_as_86 : decode cX10_as 86 = .ok (.iaload, 1) := by decide +kernel
theorem dX10_as_87 : decode cX10_as 87 = .ok (.iconst 3, 1) := by decide +kernel
theorem dX10_as_88 : decode cX10_as 88 = .ok (.if_icmp .ne 7, 3) := by decide +kernel
theorem dX10_as_91 : decode cX10_as 91 = .ok (.iconst 1, 1) := by decide +kernel
theorem dX10_as_92 : decode cX10_as 92 = .ok (.goto 4, 3) := by decide +kernel
theorem dX10_as_95 : decode cX10_as 95 = .ok (.iconst 0, 1) := by decide +kernel
theorem dX10_as_96 : decode cX10_as 96 = .ok (.istore_n 3, 1) := by decide +kernel
theorem dX10_as_97 : decode cX10_as 97 = .ok (.iconst 0, 1) := by decide +kernel
theorem dX10_as_98 : decode cX10_as 98 = .ok (.istore 4, 2) := by decide +kernel
theorem dX10_as_100 : decode cX10_as 100 = .ok (.iconst 0, 1) := by decide +kernel
theorem dX10_as_101 : decode cX10_as 101 = .ok (.istore 5, 2) := by decide +kernel
theorem dX10_as_103 : decode cX10_as 103 = .ok (.iload 5, 2) := by decide +kernel
theorem dX10_as_105 : decode cX10_as 105 = .ok (.aload_n 0, 1) := by decide +kernel
theorem dX10_as_106 : decode cX10_as 106 = .ok (.getfield 7, 3) := by decide +kernel
theorem dX10_as_109 : decode cX10_as 109 = .ok (.if_icmp .ge 29, 3) := by decide +kernel
theorem dX10_as_112 : decode cX10_as 112 = .ok (.iload 4, 2) := by decide +kernel
theorem dX10_as_114 : decode cX10_as 114 = .ok (.aload_n 0, 1) := by decide +kernel
theorem dX10_as_115 : decode cX10_as 115 = .ok (.iload 5, 2) := by decide +kernel
theorem dX10_as_117 : decode cX10_as 117 = .ok (.iload_n 1, 1) := by decide +kernel
theorem dX10_as_118 : decode cX10_as 118 = .ok (.invokevirtual 169, 3) := by decide +kernel
theorem dX10_as_121 : decode cX10_as 121 = .ok (.ifCond .eq 7, 3) := by decide +kernel
theorem dX10_as_124 : decode cX10_as 124 = .ok (.iconst 1, 1) := by decide +kernel
theorem dX10_as_125 : decode cX10_as 125 = .ok (.goto 4, 3) := by decide +kernel
theorem dX10_as_128 : decode cX10_as 128 = .ok (.iconst 0, 1) := by decide +kernel
theorem dX10_as_129 : decode cX10_as 129 = .ok (.iadd, 1) := by decide +kernel
theorem dX10_as_130 : decode cX10_as 130 = .ok (.istore 4, 2) := by decide +kernel
theorem dX10_as_132 : decode cX10_as 132 = .ok (.iinc 5 1, 3) := by decide +kernel
theorem dX10_as_135 : decode cX10_as 135 = .ok (.goto (-32), 3) := by decide +kernel
theorem dX10_as_138 : decode cX10_as 138 = .ok (.iload_n 3, 1) := by decide +kernel
theorem dX10_as_139 : decode cX10_as 139 = .ok (.ifCond .eq 8, 3) := by decide +kernel
theorem dX10_as_142 : decode cX10_as 142 = .ok (.iload 4, 2) := by decide +kernel
theorem dX10_as_144 : decode cX10_as 144 = .ok (.goto 5, 3) := by decide +kernel
theorem dX10_as_147 : decode cX10_as 147 = .ok (.bipush (-4), 2) := by decide +kernel
theorem dX10_as_149 : decode cX10_as 149 = .ok (.ireturn, 1) := by decide +kernel
theorem dX10_draws_0 : decode cX10_draws 0 = .ok (.iconst 1, 1) := by decide +kernel
theorem dX10_draws_1 : decode cX10_draws 1 = .ok (.istore_n 1, 1) := by decide +kernel
theorem dX10_draws_2 : decode cX10_draws 2 = .ok (.iconst 2, 1) := by decide +kernel
theorem dX10_draws_3 : decode cX10_draws 3 = .ok (.istore_n 2, 1) := by decide +kernel
theorem dX10_draws_4 : decode cX10_draws 4 = .ok (.iload_n 2, 1) := by decide +kernel
theorem dX10_draws_5 : decode cX10_draws 5 = .ok (.iload_n 0, 1) := by decide +kernel
theorem dX10_draws_6 : decode cX10_draws 6 = .ok (.if_icmp .gt 13, 3) := by decide +kernel
theorem dX10_draws_9 : decode cX10_draws 9 = .ok (.iload_n 1, 1) := by decide +kernel
theorem dX10_draws_10 : decode cX10_draws 10 = .ok (.iload_n 2, 1) := by decide +kernel
theorem dX10_draws_11 : decode cX10_draws 11 = .ok (.imul, 1) := by decide +kernel
theorem dX10_draws_12 : decode cX10_draws 12 = .ok (.istore_n 1, 1) := by decide +kernel
theorem dX10_draws_13 : decode cX10_draws 13 = .ok (.iinc 2 1, 3) := by decide +kernel
theorem dX10_draws_16 : decode cX10_draws 16 = .ok (.goto (-12), 3) := by decide +kernel
theorem dX10_draws_19 : decode cX10_draws 19 = .ok (.iload_n 1, 1) := by decide +kernel
theorem dX10_draws_20 : decode cX10_draws 20 = .ok (.ireturn, 1) := by decide +kernel
theorem dX10_takeDraw_0 : decode cX10_takeDraw 0 = .ok (.iload_n 1, 1) := by decide +kernel
theorem dX10_takeDraw_1 : decode cX10_takeDraw 1 = .ok (.istore_n 2, 1) := by decide +kernel
theorem dX10_takeDraw_2 : decode cX10_takeDraw 2 = .ok (.iconst 0, 1) := by decide +kernel
theorem dX10_takeDraw_3 : decode cX10_takeDraw 3 = .ok (.istore_n 3, 1) := by decide +kernel
theorem dX10_takeDraw_4 : decode cX10_takeDraw 4 = .ok (.iconst 0, 1) := by decide +kernel
theorem dX10_takeDraw_5 : decode cX10_takeDraw 5 = .ok (.istore 4, 2) := by decide +kernel
theorem dX10_takeDraw_7 : decode cX10_takeDraw 7 = .ok (.iload 4, 2) := by decide +kernel
theorem dX10_takeDraw_9 : decode cX10_takeDraw 9 = .ok (.aload_n 0, 1) := by decide +kernel
theorem dX10_takeDraw_10 : decode cX10_takeDraw 10 = .ok (.getfield 7, 3) := by decide +kernel
theorem dX10_takeDraw_13 : decode cX10_takeDraw 13 = .ok (.if_icmp .ge 87, 3) := by decide +kernel
theorem dX10_takeDraw_16 : decode cX10_takeDraw 16 = .ok (.aload_n 0, 1) := by decide +kernel
theorem dX10_takeDraw_17 : decode cX10_takeDraw 17 = .ok (.getfield 7, 3) := by decide +kernel
theorem dX10_takeDraw_20 : decode cX10_takeDraw 20 = .ok (.iconst 1, 1) := by decide +kernel
theorem dX10_takeDraw_21 : decode cX10_takeDraw 21 = .ok (.isub, 1) := by decide +kernel
theorem dX10_takeDraw_22 : decode cX10_takeDraw 22 = .ok (.iload 4, 2) := by decide +kernel
theorem dX10_takeDraw_24 : decode cX10_takeDraw 24 = .ok (.isub, 1) := by decide +kernel
theorem dX10_takeDraw_25 : decode cX10_takeDraw 25 = .ok (.invokestatic 173, 3) := by decide +kernel
theorem dX10_takeDraw_28 : decode cX10_takeDraw 28 = .ok (.istore 5, 2) := by decide +kernel
theorem dX10_takeDraw_30 : decode cX10_takeDraw 30 = .ok (.iload_n 2, 1) := by decide +kernel
theorem dX10_takeDraw_31 : decode cX10_takeDraw 31 = .ok (.iload 5, 2) := by decide +kernel
theorem dX10_takeDraw_33 : decode cX10_takeDraw 33 = .ok (.idiv, 1) := by decide +kernel
theorem dX10_takeDraw_34 : decode cX10_takeDraw 34 = .ok (.istore 6, 2) := by decide +kernel
theorem dX10_takeDraw_36 : decode cX10_takeDraw 36 = .ok (.iload_n 2, 1) := by decide +kernel
theorem dX10_takeDraw_37 : decode cX10_takeDraw 37 = .ok (.iload 5, 2) := by decide +kernel
theorem dX10_takeDraw_39 : decode cX10_takeDraw 39 = .ok (.irem, 1) := by decide +kernel
theorem dX10_takeDraw_40 : decode cX10_takeDraw 40 = .ok (.istore_n 2, 1) := by decide +kernel
theorem dX10_takeDraw_41 : decode cX10_takeDraw 41 = .ok (.iconst 0, 1) := by decide +kernel
theorem dX10_takeDraw_42 : decode cX10_takeDraw 42 = .ok (.istore 7, 2) := by decide +kernel
theorem dX10_takeDraw_44 : decode cX10_takeDraw 44 = .ok (.iload_n 3, 1) := by decide +kernel
theorem dX10_takeDraw_45 : decode cX10_takeDraw 45 = .ok (.iload 7, 2) := by decide +kernel
theorem dX10_takeDraw_47 : decode cX10_takeDraw 47 = .ok (.ishr, 1) := by decide +kernel
theorem dX10_takeDraw_48 : decode cX10_takeDraw 48 = .ok (.iconst 1, 1) := by decide +kernel
theorem dX10_takeDraw_49 : decode cX10_takeDraw 49 = .ok (.iand, 1) := by decide +kernel
theorem dX10_takeDraw_50 : decode cX10_takeDraw 50 = .ok (.iconst 1, 1) := by decide +kernel
theorem dX10_takeDraw_51 : decode cX10_takeDraw 51 = .ok (.if_icmp .eq 8, 3) := by decide +kernel
theorem dX10_takeDraw_54 : decode cX10_takeDraw 54 = .ok (.iload 6, 2) := by decide +kernel
theorem dX10_takeDraw_56 : decode cX10_takeDraw 56 = .ok (.ifCond .le 22, 3) := by decide +kernel
theorem dX10_takeDraw_59 : decode cX10_takeDraw 59 = .ok (.iload 6, 2) := by decide +kernel
theorem dX10_takeDraw_61 : decode cX10_takeDraw 61 = .ok (.iload_n 3, 1) := by decide +kernel
theorem dX10_takeDraw_62 : decode cX10_takeDraw 62 = .ok (.iload 7, 2) := by decide +kernel
theorem dX10_takeDraw_64 : decode cX10_takeDraw 64 = .ok (.ishr, 1) := by decide +kernel
theorem dX10_takeDraw_65 : decode cX10_takeDraw 65 = .ok (.iconst 1, 1) := by decide +kernel
theorem dX10_takeDraw_66 : decode cX10_takeDraw 66 = .ok (.iand, 1) := by decide +kernel
theorem dX10_takeDraw_67 : decode cX10_takeDraw 67 = .ok (.iconst 1, 1) := by decide +kernel
theorem dX10_takeDraw_68 : decode cX10_takeDraw 68 = .ok (.ixor, 1) := by decide +kernel
theorem dX10_takeDraw_69 : decode cX10_takeDraw 69 = .ok (.isub, 1) := by decide +kernel
theorem dX10_takeDraw_70 : decode cX10_takeDraw 70 = .ok (.istore 6, 2) := by decide +kernel
theorem dX10_takeDraw_72 : decode cX10_takeDraw 72 = .ok (.iinc 7 1, 3) := by decide +kernel
theorem dX10_takeDraw_75 : decode cX10_takeDraw 75 = .ok (.goto (-31), 3) := by decide +kernel
theorem dX10_takeDraw_78 : decode cX10_takeDraw 78 = .ok (.aload_n 0, 1) := by decide +kernel
theorem dX10_takeDraw_79 : decode cX10_takeDraw 79 = .ok (.getfield 45, 3) := by decide +kernel
theorem dX10_takeDraw_82 : decode cX10_takeDraw 82 = .ok (.iload 4, 2) := by decide +kernel
theorem dX10_takeDraw_84 : decode cX10_takeDraw 84 = .ok (.iload 7, 2) := by decide +kernel
theorem dX10_takeDraw_86 : decode cX10_takeDraw 86 = .ok (.iastore, 1) := by decide +kernel
theorem dX10_takeDraw_87 : decode cX10_takeDraw 87 = .ok (.iload_n 3, 1) := by decide +kernel
theorem dX10_takeDraw_88 : decode cX10_takeDraw 88 = .ok (.iconst 1, 1) := by decide +kernel
theorem dX10_takeDraw_89 : decode cX10_takeDraw 89 = .ok (.iload 7, 2) := by decide +kernel
theorem dX10_takeDraw_91 : decode cX10_takeDraw 91 = .ok (.ishl, 1) := by decide +kernel
theorem dX10_takeDraw_92 : decode cX10_takeDraw 92 = .ok (.ior, 1) := by decide +kernel
theorem dX10_takeDraw_93 : decode cX10_takeDraw 93 = .ok (.istore_n 3, 1) := by decide +kernel
theorem dX10_takeDraw_94 : decode cX10_takeDraw 94 = .ok (.iinc 4 1, 3) := by decide +kernel
theorem dX10_takeDraw_97 : decode cX10_takeDraw 97 = .ok (.goto (-90), 3) := by decide +kernel
theorem dX10_takeDraw_100 : decode cX10_takeDraw 100 = .ok (.return_, 1) := by decide +kernel
theorem dX10_numberOf_0 : decode cX10_numberOf 0 = .ok (.iconst 0, 1) := by decide +kernel
theorem dX10_numberOf_1 : decode cX10_numberOf 1 = .ok (.istore_n 1, 1) := by decide +kernel
theorem dX10_numberOf_2 : decode cX10_numberOf 2 = .ok (.iconst 0, 1) := by decide +kernel
theorem dX10_numberOf_3 : decode cX10_numberOf 3 = .ok (.istore_n 2, 1) := by decide +kernel
theorem dX10_numberOf_4 : decode cX10_numberOf 4 = .ok (.iload_n 2, 1) := by decide +kernel
theorem dX10_numberOf_5 : decode cX10_numberOf 5 = .ok (.aload_n 0, 1) := by decide +kernel
theorem dX10_numberOf_6 : decode cX10_numberOf 6 = .ok (.getfield 7, 3) := by decide +kernel
theorem dX10_numberOf_9 : decode cX10_numberOf 9 = .ok (.if_icmp .ge 71, 3) := by decide +kernel
theorem dX10_numberOf_12 : decode cX10_numberOf 12 = .ok (.iconst 0, 1) := by decide +kernel
theorem dX10_numberOf_13 : decode cX10_numberOf 13 = .ok (.istore_n 3, 1) := by decide +kernel
theorem dX10_numberOf_14 : decode cX10_numberOf 14 = .ok (.iload_n 2, 1) := by decide +kernel
theorem dX10_numberOf_15 : decode cX10_numberOf 15 = .ok (.iconst 1, 1) := by decide +kernel
theorem dX10_numberOf_16 : decode cX10_numberOf 16 = .ok (.iadd, 1) := by decide +kernel
theorem dX10_numberOf_17 : decode cX10_numberOf 17 = .ok (.istore 4, 2) := by decide +kernel
theorem dX10_numberOf_19 : decode cX10_numberOf 19 = .ok (.iload 4, 2) := by decide +kernel
theorem dX10_numberOf_21 : decode cX10_numberOf 21 = .ok (.aload_n 0, 1) := by decide +kernel
theorem dX10_numberOf_22 : decode cX10_numberOf 22 = .ok (.getfield 7, 3) := by decide +kernel
end
section
theorem dX10_numberOf_25 : decode cX10_numberOf 25 = .ok (.if_icmp .ge 33, 3) := by decide +kernel
theorem dX10_numberOf_28 : decode cX10_numberOf 28 = .ok (.iload_n 3, 1) := by decide +kernel
theorem dX10_numberOf_29 : decode cX10_numberOf 29 = .ok (.aload_n 0, 1) := by decide +kernel
theorem dX10_numberOf_30 : decode cX10_numberOf 30 = .ok (.getfield 45, 3) := by decide +kernel
theorem dX10_numberOf_33 : decode cX10_numberOf 33 = .ok (.iload 4, 2) := by decide +kernel
theorem dX10_numberOf_35 : decode cX10_numberOf 35 = .ok (.iaload, 1) := by decide +kernel
theorem dX10_numberOf_36 : decode cX10_numberOf 36 = .ok (.aload_n 0, 1) := by decide +kernel
theorem dX10_numberOf_37 : decode cX10_numberOf 37 = .ok (.getfield 45, 3) := by decide +kernel
theorem dX10_numberOf_40 : decode cX10_numberOf 40 = .ok (.iload_n 2, 1) := by decide +kernel
theorem dX10_numberOf_41 : decode cX10_numberOf 41 = .ok (.iaload, 1) := by decide +kernel
theorem dX10_numberOf_42 : decode cX10_numberOf 42 = .ok (.if_icmp .ge 7, 3) := by decide +kernel
theorem dX10_numberOf_45 : decode cX10_numberOf 45 = .ok (.iconst 1, 1) := by decide +kernel
theorem dX10_numberOf_46 : decode cX10_numberOf 46 = .ok (.goto 4, 3) := by decide +kernel
theorem dX10_numberOf_49 : decode cX10_numberOf 49 = .ok (.iconst 0, 1) := by decide +kernel
theorem dX10_numberOf_50 : decode cX10_numberOf 50 = .ok (.iadd, 1) := by decide +kernel
theorem dX10_numberOf_51 : decode cX10_numberOf 51 = .ok (.istore_n 3, 1) := by decide +kernel
theorem dX10_numberOf_52 : decode cX10_numberOf 52 = .ok (.iinc 4 1, 3) := by decide +kernel
theorem dX10_numberOf_55 : decode cX10_numberOf 55 = .ok (.goto (-36), 3) := by decide +kernel
theorem dX10_numberOf_58 : decode cX10_numberOf 58 = .ok (.iload_n 1, 1) := by decide +kernel
theorem dX10_numberOf_59 : decode cX10_numberOf 59 = .ok (.iload_n 3, 1) := by decide +kernel
theorem dX10_numberOf_60 : decode cX10_numberOf 60 = .ok (.aload_n 0, 1) := by decide +kernel
theorem dX10_numberOf_61 : decode cX10_numberOf 61 = .ok (.getfield 7, 3) := by decide +kernel
theorem dX10_numberOf_64 : decode cX10_numberOf 64 = .ok (.iconst 1, 1) := by decide +kernel
theorem dX10_numberOf_65 : decode cX10_numberOf 65 = .ok (.isub, 1) := by decide +kernel
theorem dX10_numberOf_66 : decode cX10_numberOf 66 = .ok (.iload_n 2, 1) := by decide +kernel
theorem dX10_numberOf_67 : decode cX10_numberOf 67 = .ok (.isub, 1) := by decide +kernel
theorem dX10_numberOf_68 : decode cX10_numberOf 68 = .ok (.invokestatic 173, 3) := by decide +kernel
theorem dX10_numberOf_71 : decode cX10_numberOf 71 = .ok (.imul, 1) := by decide +kernel
theorem dX10_numberOf_72 : decode cX10_numberOf 72 = .ok (.iadd, 1) := by decide +kernel
theorem dX10_numberOf_73 : decode cX10_numberOf 73 = .ok (.istore_n 1, 1) := by decide +kernel
theorem dX10_numberOf_74 : decode cX10_numberOf 74 = .ok (.iinc 2 1, 3) := by decide +kernel
theorem dX10_numberOf_77 : decode cX10_numberOf 77 = .ok (.goto (-73), 3) := by decide +kernel
theorem dX10_numberOf_80 : decode cX10_numberOf 80 = .ok (.iload_n 1, 1) := by decide +kernel
theorem dX10_numberOf_81 : decode cX10_numberOf 81 = .ok (.ireturn, 1) := by decide +kernel
theorem dX10_isLawful_0 : decode cX10_isLawful 0 = .ok (.iconst 1, 1) := by decide +kernel
theorem dX10_isLawful_1 : decode cX10_isLawful 1 = .ok (.istore_n 1, 1) := by decide +kernel
theorem dX10_isLawful_2 : decode cX10_isLawful 2 = .ok (.iconst 0, 1) := by decide +kernel
theorem dX10_isLawful_3 : decode cX10_isLawful 3 = .ok (.istore_n 2, 1) := by decide +kernel
theorem dX10_isLawful_4 : decode cX10_isLawful 4 = .ok (.iload_n 2, 1) := by decide +kernel
theorem dX10_isLawful_5 : decode cX10_isLawful 5 = .ok (.aload_n 0, 1) := by decide +kernel
theorem dX10_isLawful_6 : decode cX10_isLawful 6 = .ok (.getfield 7, 3) := by decide +kernel
theorem dX10_isLawful_9 : decode cX10_isLawful 9 = .ok (.if_icmp .ge 33, 3) := by decide +kernel
theorem dX10_isLawful_12 : decode cX10_isLawful 12 = .ok (.iload_n 1, 1) := by decide +kernel
theorem dX10_isLawful_13 : decode cX10_isLawful 13 = .ok (.ifCond .eq 21, 3) := by decide +kernel
theorem dX10_isLawful_16 : decode cX10_isLawful 16 = .ok (.aload_n 0, 1) := by decide +kernel
theorem dX10_isLawful_17 : decode cX10_isLawful 17 = .ok (.iload_n 2, 1) := by decide +kernel
theorem dX10_isLawful_18 : decode cX10_isLawful 18 = .ok (.aload_n 0, 1) := by decide +kernel
theorem dX10_isLawful_19 : decode cX10_isLawful 19 = .ok (.getfield 45, 3) := by decide +kernel
theorem dX10_isLawful_22 : decode cX10_isLawful 22 = .ok (.iload_n 2, 1) := by decide +kernel
theorem dX10_isLawful_23 : decode cX10_isLawful 23 = .ok (.iaload, 1) := by decide +kernel
theorem dX10_isLawful_24 : decode cX10_isLawful 24 = .ok (.invokevirtual 169, 3) := by decide +kernel
theorem dX10_isLawful_27 : decode cX10_isLawful 27 = .ok (.ifCond .eq 7, 3) := by decide +kernel
theorem dX10_isLawful_30 : decode cX10_isLawful 30 = .ok (.iconst 1, 1) := by decide +kernel
theorem dX10_isLawful_31 : decode cX10_isLawful 31 = .ok (.goto 4, 3) := by decide +kernel
theorem dX10_isLawful_34 : decode cX10_isLawful 34 = .ok (.iconst 0, 1) := by decide +kernel
theorem dX10_isLawful_35 : decode cX10_isLawful 35 = .ok (.istore_n 1, 1) := by decide +kernel
theorem dX10_isLawful_36 : decode cX10_isLawful 36 = .ok (.iinc 2 1, 3) := by decide +kernel
theorem dX10_isLawful_39 : decode cX10_isLawful 39 = .ok (.goto (-35), 3) := by decide +kernel
theorem dX10_isLawful_42 : decode cX10_isLawful 42 = .ok (.iload_n 1, 1) := by decide +kernel
theorem dX10_isLawful_43 : decode cX10_isLawful 43 = .ok (.ireturn, 1) := by decide +kernel
theorem dX10_putToday_0 : decode cX10_putToday 0 = .ok (.aload_n 0, 1) := by decide +kernel
theorem dX10_putToday_1 : decode cX10_putToday 1 = .ok (.getfield 35, 3) := by decide +kernel
theorem dX10_putToday_4 : decode cX10_putToday 4 = .ok (.iconst 0, 1) := by decide +kernel
theorem dX10_putToday_5 : decode cX10_putToday 5 = .ok (.iconst 1, 1) := by decide +kernel
theorem dX10_putToday_6 : decode cX10_putToday 6 = .ok (.iastore, 1) := by decide +kernel
theorem dX10_putToday_7 : decode cX10_putToday 7 = .ok (.iconst 0, 1) := by decide +kernel
theorem dX10_putToday_8 : decode cX10_putToday 8 = .ok (.istore_n 1, 1) := by decide +kernel
theorem dX10_putToday_9 : decode cX10_putToday 9 = .ok (.iload_n 1, 1) := by decide +kernel
theorem dX10_putToday_10 : decode cX10_putToday 10 = .ok (.aload_n 0, 1) := by decide +kernel
theorem dX10_putToday_11 : decode cX10_putToday 11 = .ok (.getfield 7, 3) := by decide +kernel
theorem dX10_putToday_14 : decode cX10_putToday 14 = .ok (.if_icmp .ge 23, 3) := by decide +kernel
theorem dX10_putToday_17 : decode cX10_putToday 17 = .ok (.aload_n 0, 1) := by decide +kernel
theorem dX10_putToday_18 : decode cX10_putToday 18 = .ok (.getfield 35, 3) := by decide +kernel
theorem dX10_putToday_21 : decode cX10_putToday 21 = .ok (.iconst 1, 1) := by decide +kernel
theorem dX10_putToday_22 : decode cX10_putToday 22 = .ok (.iload_n 1, 1) := by decide +kernel
theorem dX10_putToday_23 : decode cX10_putToday 23 = .ok (.iadd, 1) := by decide +kernel
theorem dX10_putToday_24 : decode cX10_putToday 24 = .ok (.aload_n 0, 1) := by decide +kernel
theorem dX10_putToday_25 : decode cX10_putToday 25 = .ok (.getfield 45, 3) := by decide +kernel
theorem dX10_putToday_28 : decode cX10_putToday 28 = .ok (.iload_n 1, 1) := by decide +kernel
theorem dX10_putToday_29 : decode cX10_putToday 29 = .ok (.iaload, 1) := by decide +kernel
theorem dX10_putToday_30 : decode cX10_putToday 30 = .ok (.iastore, 1) := by decide +kernel
theorem dX10_putToday_31 : decode cX10_putToday 31 = .ok (.iinc 1 1, 3) := by decide +kernel
theorem dX10_putToday_34 : decode cX10_putToday 34 = .ok (.goto (-25), 3) := by decide +kernel
theorem dX10_putToday_37 : decode cX10_putToday 37 = .ok (.return_, 1) := by decide +kernel
theorem dX10_takeToday_0 : decode cX10_takeToday 0 = .ok (.iconst 0, 1) := by decide +kernel
theorem dX10_takeToday_1 : decode cX10_takeToday 1 = .ok (.istore_n 1, 1) := by decide +kernel
theorem dX10_takeToday_2 : decode cX10_takeToday 2 = .ok (.iload_n 1, 1) := by decide +kernel
theorem dX10_takeToday_3 : decode cX10_takeToday 3 = .ok (.aload_n 0, 1) := by decide +kernel
theorem dX10_takeToday_4 : decode cX10_takeToday 4 = .ok (.getfield 7, 3) := by decide +kernel
theorem dX10_takeToday_7 : decode cX10_takeToday 7 = .ok (.if_icmp .ge 23, 3) := by decide +kernel
theorem dX10_takeToday_10 : decode cX10_takeToday 10 = .ok (.aload_n 0, 1) := by decide +kernel
theorem dX10_takeToday_11 : decode cX10_takeToday 11 = .ok (.getfield 45, 3) := by decide +kernel
theorem dX10_takeToday_14 : decode cX10_takeToday 14 = .ok (.iload_n 1, 1) := by decide +kernel
theorem dX10_takeToday_15 : decode cX10_takeToday 15 = .ok (.aload_n 0, 1) := by decide +kernel
theorem dX10_takeToday_16 : decode cX10_takeToday 16 = .ok (.getfield 35, 3) := by decide +kernel
theorem dX10_takeToday_19 : decode cX10_takeToday 19 = .ok (.iconst 1, 1) := by decide +kernel
theorem dX10_takeToday_20 : decode cX10_takeToday 20 = .ok (.iload_n 1, 1) := by decide +kernel
theorem dX10_takeToday_21 : decode cX10_takeToday 21 = .ok (.iadd, 1) := by decide +kernel
theorem dX10_takeToday_22 : decode cX10_takeToday 22 = .ok (.iaload, 1) := by decide +kernel
theorem dX10_takeToday_23 : decode cX10_takeToday 23 = .ok (.iastore, 1) := by decide +kernel
theorem dX10_takeToday_24 : decode cX10_takeToday 24 = .ok (.iinc 1 1, 3) := by decide +kernel
theorem dX10_takeToday_27 : decode cX10_takeToday 27 = .ok (.goto (-25), 3) := by decide +kernel
theorem dX10_takeToday_30 : decode cX10_takeToday 30 = .ok (.return_, 1) := by decide +kernel
theorem dX10_lay_0 : decode cX10_lay 0 = .ok (.iload_n 1, 1) := by decide +kernel
theorem dX10_lay_1 : decode cX10_lay 1 = .ok (.iconst 0, 1) := by decide +kernel
theorem dX10_lay_2 : decode cX10_lay 2 = .ok (.aload_n 0, 1) := by decide +kernel
theorem dX10_lay_3 : decode cX10_lay 3 = .ok (.getfield 7, 3) := by decide +kernel
theorem dX10_lay_6 : decode cX10_lay 6 = .ok (.invokestatic 173, 3) := by decide +kernel
theorem dX10_lay_9 : decode cX10_lay 9 = .ok (.iconst 1, 1) := by decide +kernel
theorem dX10_lay_10 : decode cX10_lay 10 = .ok (.isub, 1) := by decide +kernel
theorem dX10_lay_11 : decode cX10_lay 11 = .ok (.invokestatic 69, 3) := by decide +kernel
theorem dX10_lay_14 : decode cX10_lay 14 = .ok (.ifCond .ne 6, 3) := by decide +kernel
theorem dX10_lay_17 : decode cX10_lay 17 = .ok (.bipush (-3), 2) := by decide +kernel
theorem dX10_lay_19 : decode cX10_lay 19 = .ok (.ireturn, 1) := by decide +kernel
theorem dX10_lay_20 : decode cX10_lay 20 = .ok (.aload_n 0, 1) := by decide +kernel
theorem dX10_lay_21 : decode cX10_lay 21 = .ok (.iload_n 1, 1) := by decide +kernel
theorem dX10_lay_22 : decode cX10_lay 22 = .ok (.invokevirtual 177, 3) := by decide +kernel
theorem dX10_lay_25 : decode cX10_lay 25 = .ok (.aload_n 0, 1) := by decide +kernel
theorem dX10_lay_26 : decode cX10_lay 26 = .ok (.invokevirtual 180, 3) := by decide +kernel
theorem dX10_lay_29 : decode cX10_lay 29 = .ok (.ifCond .ne 6, 3) := by decide +kernel
theorem dX10_lay_32 : decode cX10_lay 32 = .ok (.bipush (-4), 2) := by decide +kernel
theorem dX10_lay_34 : decode cX10_lay 34 = .ok (.ireturn, 1) := by decide +kernel
theorem dX10_lay_35 : decode cX10_lay 35 = .ok (.aload_n 0, 1) := by decide +kernel
theorem dX10_lay_36 : decode cX10_lay 36 = .ok (.invokevirtual 183, 3) := by decide +kernel
theorem dX10_lay_39 : decode cX10_lay 39 = .ok (.iconst 1, 1) := by decide +kernel
theorem dX10_lay_40 : decode cX10_lay 40 = .ok (.ireturn, 1) := by decide +kernel
theorem dX10_draw_0 : decode cX10_draw 0 = .ok (.iload_n 1, 1) := by decide +kernel
theorem dX10_draw_1 : decode cX10_draw 1 = .ok (.iconst 1, 1) := by decide +kernel
theorem dX10_draw_2 : decode cX10_draw 2 = .ok (.sipush 9999, 3) := by decide +kernel
theorem dX10_draw_5 : decode cX10_draw 5 = .ok (.invokestatic 69, 3) := by decide +kernel
theorem dX10_draw_8 : decode cX10_draw 8 = .ok (.ifCond .ne 6, 3) := by decide +kernel
theorem dX10_draw_11 : decode cX10_draw 11 = .ok (.bipush (-3), 2) := by decide +kernel
theorem dX10_draw_13 : decode cX10_draw 13 = .ok (.ireturn, 1) := by decide +kernel
theorem dX10_draw_14 : decode cX10_draw 14 = .ok (.iload_n 1, 1) := by decide +kernel
theorem dX10_draw_15 : decode cX10_draw 15 = .ok (.istore_n 2, 1) := by decide +kernel
theorem dX10_draw_16 : decode cX10_draw 16 = .ok (.iconst 1, 1) := by decide +kernel
theorem dX10_draw_17 : decode cX10_draw 17 = .ok (.istore_n 3, 1) := by decide +kernel
theorem dX10_draw_18 : decode cX10_draw 18 = .ok (.iload_n 3, 1) := by decide +kernel
theorem dX10_draw_19 : decode cX10_draw 19 = .ok (.bipush 50, 2) := by decide +kernel
theorem dX10_draw_21 : decode cX10_draw 21 = .ok (.if_icmp .gt 117, 3) := by decide +kernel
theorem dX10_draw_24 : decode cX10_draw 24 = .ok (.iconst 0, 1) := by decide +kernel
theorem dX10_draw_25 : decode cX10_draw 25 = .ok (.istore 4, 2) := by decide +kernel
theorem dX10_draw_27 : decode cX10_draw 27 = .ok (.iload 4, 2) := by decide +kernel
theorem dX10_draw_29 : decode cX10_draw 29 = .ok (.aload_n 0, 1) := by decide +kernel
theorem dX10_draw_30 : decode cX10_draw 30 = .ok (.getfield 7, 3) := by decide +kernel
theorem dX10_draw_33 : decode cX10_draw 33 = .ok (.if_icmp .ge 18, 3) := by decide +kernel
theorem dX10_draw_36 : decode cX10_draw 36 = .ok (.aload_n 0, 1) := by decide +kernel
theorem dX10_draw_37 : decode cX10_draw 37 = .ok (.getfield 45, 3) := by decide +kernel
theorem dX10_draw_40 : decode cX10_draw 40 = .ok (.iload 4, 2) := by decide +kernel
theorem dX10_draw_42 : decode cX10_draw 42 = .ok (.iload 4, 2) := by decide +kernel
theorem dX10_draw_44 : decode cX10_draw 44 = .ok (.iastore, 1) := by decide +kernel
theorem dX10_draw_45 : decode cX10_draw 45 = .ok (.iinc 4 1, 3) := by decide +kernel
theorem dX10_draw_48 : decode cX10_draw 48 = .ok (.goto (-21), 3) := by decide +kernel
theorem dX10_draw_51 : decode cX10_draw 51 = .ok (.aload_n 0, 1) := by decide +kernel
theorem dX10_draw_52 : decode cX10_draw 52 = .ok (.getfield 7, 3) := by decide +kernel
theorem dX10_draw_55 : decode cX10_draw 55 = .ok (.iconst 1, 1) := by decide +kernel
theorem dX10_draw_56 : decode cX10_draw 56 = .ok (.isub, 1) := by decide +kernel
theorem dX10_draw_57 : decode cX10_draw 57 = .ok (.istore 4, 2) := by decide +kernel
theorem dX10_draw_59 : decode cX10_draw 59 = .ok (.iload 4, 2) := by decide +kernel
theorem dX10_draw_61 : decode cX10_draw 61 = .ok (.ifCond .le 58, 3) := by decide +kernel
theorem dX10_draw_64 : decode cX10_draw 64 = .ok (.sipush 16807, 3) := by decide +kernel
theorem dX10_draw_67 : decode cX10_draw 67 = .ok (.iload_n 2, 1) := by decide +kernel
theorem dX10_draw_68 : decode cX10_draw 68 = .ok (.imul, 1) := by decide +kernel
theorem dX10_draw_69 : decode cX10_draw 69 = .ok (.ldc 186, 2) := by decide +kernel
theorem dX10_draw_71 : decode cX10_draw 71 = .ok (.irem, 1) := by decide +kernel
theorem dX10_draw_72 : decode cX10_draw 72 = .ok (.istore_n 2, 1) := by decide +kernel
theorem dX10_draw_73 : decode cX10_draw 73 = .ok (.aload_n 0, 1) := by decide +kernel
theorem dX10_draw_74 : decode cX10_draw 74 = .ok (.getfield 45, 3) := by decide +kernel
theorem dX10_draw_77 : decode cX10_draw 77 = .ok (.iload 4, 2) := by decide +kernel
theorem dX10_draw_79 : decode cX10_draw 79 = .ok (.iaload, 1) := by decide +kernel
theorem dX10_draw_80 : decode cX10_draw 80 = .ok (.istore 5, 2) := by decide +kernel
theorem dX10_draw_82 : decode cX10_draw 82 = .ok (.aload_n 0, 1) := by decide +kernel
theorem dX10_draw_83 : decode cX10_draw 83 = .ok (.getfield 45, 3) := by decide +kernel
theorem dX10_draw_86 : decode cX10_draw 86 = .ok (.iload 4, 2) := by decide +kernel
theorem dX10_draw_88 : decode cX10_draw 88 = .ok (.aload_n 0, 1) := by decide +kernel
theorem dX10_draw_89 : decode cX10_draw 89 = .ok (.getfield 45, 3) := by decide +kernel
theorem dX10_draw_92 : decode cX10_draw 92 = .ok (.iload_n 2, 1) := by decide +kernel
theorem dX10_draw_93 : decode cX10_draw 93 = .ok (.iload 4, 2) := by decide +kernel
theorem dX10_draw_95 : decode cX10_draw 95 = .ok (.iconst 1, 1) := by decide +kernel
theorem dX10_draw_96 : decode cX10_draw 96 = .ok (.iadd, 1) := by decide +kernel
theorem dX10_draw_97 : decode cX10_draw 97 = .ok (.irem, 1) := by decide +kernel
theorem dX10_draw_98 : decode cX10_draw 98 = .ok (.iaload, 1) := by decide +kernel
theorem dX10_draw_99 : decode cX10_draw 99 = .ok (.iastore, 1) := by decide +kernel
theorem dX10_draw_100 : decode cX10_draw 100 = .ok (.aload_n 0, 1) := by decide +kernel
theorem dX10_draw_101 : decode cX10_draw 101 = .ok (.getfield 45, 3) := by decide +kernel
theorem dX10_draw_104 : decode cX10_draw 104 = .ok (.iload_n 2, 1) := by decide +kernel
theorem dX10_draw_105 : decode cX10_draw 105 = .ok (.iload 4, 2) := by decide +kernel
theorem dX10_draw_107 : decode cX10_draw 107 = .ok (.iconst 1, 1) := by decide +kernel
theorem dX10_draw_108 : decode cX10_draw 108 = .ok (.iadd, 1) := by decide +kernel
theorem dX10_draw_109 : decode cX10_draw 109 = .ok (.irem, 1) := by decide +kernel
theorem dX10_draw_110 : decode cX10_draw 110 = .ok (.iload 5, 2) := by decide +kernel
theorem dX10_draw_112 : decode cX10_draw 112 = .ok (.iastore, 1) := by decide +kernel
theorem dX10_draw_113 : decode cX10_draw 113 = .ok (.iinc 4 (-1), 3) := by decide +kernel
theorem dX10_draw_116 : decode cX10_draw 116 = .ok (.goto (-57), 3) := by decide +kernel
theorem dX10_draw_119 : decode cX10_draw 119 = .ok (.aload_n 0, 1) := by decide +kernel
theorem dX10_draw_120 : decode cX10_draw 120 = .ok (.invokevirtual 180, 3) := by decide +kernel
theorem dX10_draw_123 : decode cX10_draw 123 = .ok (.ifCond .eq 9, 3) := by decide +kernel
theorem dX10_draw_126 : decode cX10_draw 126 = .ok (.aload_n 0, 1) := by decide +kernel
theorem dX10_draw_127 : decode cX10_draw 127 = .ok (.invokevirtual 183, 3) := by decide +kernel
theorem dX10_draw_130 : decode cX10_draw 130 = .ok (.iload_n 3, 1) := by decide +kernel
theorem dX10_draw_131 : decode cX10_draw 131 = .ok (.ireturn, 1) := by decide +kernel
theorem dX10_draw_132 : decode cX10_draw 132 = .ok (.iinc 3 1, 3) := by decide +kernel
theorem dX10_draw_135 : decode cX10_draw 135 = .ok (.goto (-117), 3) := by decide +kernel
theorem dX10_draw_138 : decode cX10_draw 138 = .ok (.bipush (-4), 2) := by decide +kernel
theorem dX10_draw_140 : decode cX10_draw 140 = .ok (.ireturn, 1) := by decide +kernel
theorem dX10_has_0 : decode cX10_has 0 = .ok (.aload_n 0, 1) := by decide +kernel
theorem dX10_has_1 : decode cX10_has 1 = .ok (.iload_n 1, 1) := by decide +kernel
theorem dX10_has_2 : decode cX10_has 2 = .ok (.invokevirtual 166, 3) := by decide +kernel
theorem dX10_has_5 : decode cX10_has 5 = .ok (.ifCond .ne 6, 3) := by decide +kernel
theorem dX10_has_8 : decode cX10_has 8 = .ok (.bipush (-2), 2) := by decide +kernel
theorem dX10_has_10 : decode cX10_has 10 = .ok (.ireturn, 1) := by decide +kernel
theorem dX10_has_11 : decode cX10_has 11 = .ok (.iload_n 2, 1) := by decide +kernel
theorem dX10_has_12 : decode cX10_has 12 = .ok (.ifCond .ne 28, 3) := by decide +kernel
theorem dX10_has_15 : decode cX10_has 15 = .ok (.aload_n 0, 1) := by decide +kernel
theorem dX10_has_16 : decode cX10_has 16 = .ok (.getfield 35, 3) := by decide +kernel
theorem dX10_has_19 : decode cX10_has 19 = .ok (.iconst 0, 1) := by decide +kernel
theorem dX10_has_20 : decode cX10_has 20 = .ok (.iaload, 1) := by decide +kernel
theorem dX10_has_21 : decode cX10_has 21 = .ok (.iconst 1, 1) := by decide +kernel
theorem dX10_has_22 : decode cX10_has 22 = .ok (.if_icmp .ne 14, 3) := by decide +kernel
theorem dX10_has_25 : decode cX10_has 25 = .ok (.aload_n 0, 1) := by decide +kernel
theorem dX10_has_26 : decode cX10_has 26 = .ok (.getfield 35, 3) := by decide +kernel
theorem dX10_has_29 : decode cX10_has 29 = .ok (.iconst 1, 1) := by decide +kernel
theorem dX10_has_30 : decode cX10_has 30 = .ok (.iload_n 1, 1) := by decide +kernel
theorem dX10_has_31 : decode cX10_has 31 = .ok (.iadd, 1) := by decide +kernel
theorem dX10_has_32 : decode cX10_has 32 = .ok (.iaload, 1) := by decide +kernel
theorem dX10_has_33 : decode cX10_has 33 = .ok (.goto 26, 3) := by decide +kernel
theorem dX10_has_36 : decode cX10_has 36 = .ok (.iconst (-1), 1) := by decide +kernel
theorem dX10_has_37 : decode cX10_has 37 = .ok (.goto 22, 3) := by decide +kernel
theorem dX10_has_40 : decode cX10_has 40 = .ok (.iload_n 2, 1) := by decide +kernel
theorem dX10_has_41 : decode cX10_has 41 = .ok (.iconst 1, 1) := by decide +kernel
theorem dX10_has_42 : decode cX10_has 42 = .ok (.if_icmp .ne 15, 3) := by decide +kernel
theorem dX10_has_45 : decode cX10_has 45 = .ok (.aload_n 0, 1) := by decide +kernel
theorem dX10_has_46 : decode cX10_has 46 = .ok (.getfield 35, 3) := by decide +kernel
theorem dX10_has_49 : decode cX10_has 49 = .ok (.bipush 8, 2) := by decide +kernel
theorem dX10_has_51 : decode cX10_has 51 = .ok (.iload_n 1, 1) := by decide +kernel
theorem dX10_has_52 : decode cX10_has 52 = .ok (.iadd, 1) := by decide +kernel
theorem dX10_has_53 : decode cX10_has 53 = .ok (.iaload, 1) := by decide +kernel
theorem dX10_has_54 : decode cX10_has 54 = .ok (.goto 5, 3) := by decide +kernel
theorem dX10_has_57 : decode cX10_has 57 = .ok (.bipush (-3), 2) := by decide +kernel
theorem dX10_has_59 : decode cX10_has 59 = .ok (.ireturn, 1) := by decide +kernel
theorem dX10_likesMore_0 : decode cX10_likesMore 0 = .ok (.aload_n 0, 1) := by decide +kernel
theorem dX10_likesMore_1 : decode cX10_likesMore 1 = .ok (.iload_n 1, 1) := by decide +kernel
theorem dX10_likesMore_2 : decode cX10_likesMore 2 = .ok (.iload_n 2, 1) := by decide +kernel
theorem dX10_likesMore_3 : decode cX10_likesMore 3 = .ok (.invokevirtual 169, 3) := by decide +kernel
theorem dX10_likesMore_6 : decode cX10_likesMore 6 = .ok (.ifCond .eq 37, 3) := by decide +kernel
theorem dX10_likesMore_9 : decode cX10_likesMore 9 = .ok (.aload_n 0, 1) := by decide +kernel
theorem dX10_likesMore_10 : decode cX10_likesMore 10 = .ok (.getfield 20, 3) := by decide +kernel
theorem dX10_likesMore_13 : decode cX10_likesMore 13 = .ok (.bipush 7, 2) := by decide +kernel
theorem dX10_likesMore_15 : decode cX10_likesMore 15 = .ok (.iload_n 1, 1) := by decide +kernel
theorem dX10_likesMore_16 : decode cX10_likesMore 16 = .ok (.imul, 1) := by decide +kernel
theorem dX10_likesMore_17 : decode cX10_likesMore 17 = .ok (.iload_n 2, 1) := by decide +kernel
theorem dX10_likesMore_18 : decode cX10_likesMore 18 = .ok (.iadd, 1) := by decide +kernel
theorem dX10_likesMore_19 : decode cX10_likesMore 19 = .ok (.iaload, 1) := by decide +kernel
theorem dX10_likesMore_20 : decode cX10_likesMore 20 = .ok (.aload_n 0, 1) := by decide +kernel
theorem dX10_likesMore_21 : decode cX10_likesMore 21 = .ok (.getfield 20, 3) := by decide +kernel
theorem dX10_likesMore_24 : decode cX10_likesMore 24 = .ok (.bipush 7, 2) := by decide +kernel
theorem dX10_likesMore_26 : decode cX10_likesMore 26 = .ok (.iload_n 1, 1) := by decide +kernel
theorem dX10_likesMore_27 : decode cX10_likesMore 27 = .ok (.imul, 1) := by decide +kernel
theorem dX10_likesMore_28 : decode cX10_likesMore 28 = .ok (.aload_n 0, 1) := by decide +kernel
theorem dX10_likesMore_29 : decode cX10_likesMore 29 = .ok (.getfield 45, 3) := by decide +kernel
theorem dX10_likesMore_32 : decode cX10_likesMore 32 = .ok (.iload_n 1, 1) := by decide +kernel
theorem dX10_likesMore_33 : decode cX10_likesMore 33 = .ok (.iaload, 1) := by decide +kernel
theorem dX10_likesMore_34 : decode cX10_likesMore 34 = .ok (.iadd, 1) := by decide +kernel
theorem dX10_likesMore_35 : decode cX10_likesMore 35 = .ok (.iaload, 1) := by decide +kernel
theorem dX10_likesMore_36 : decode cX10_likesMore 36 = .ok (.if_icmp .le 7, 3) := by decide +kernel
theorem dX10_likesMore_39 : decode cX10_likesMore 39 = .ok (.iconst 1, 1) := by decide +kernel
theorem dX10_likesMore_40 : decode cX10_likesMore 40 = .ok (.goto 4, 3) := by decide +kernel
theorem dX10_likesMore_43 : decode cX10_likesMore 43 = .ok (.iconst 0, 1) := by decide +kernel
theorem dX10_likesMore_44 : decode cX10_likesMore 44 = .ok (.ireturn, 1) := by decide +kernel
theorem dX10_isWanted_0 : decode cX10_isWanted 0 = .ok (.aload_n 0, 1) := by decide +kernel
theorem dX10_isWanted_1 : decode cX10_isWanted 1 = .ok (.iload_n 1, 1) := by decide +kernel
theorem dX10_isWanted_2 : decode cX10_isWanted 2 = .ok (.aload_n 0, 1) := by decide +kernel
theorem dX10_isWanted_3 : decode cX10_isWanted 3 = .ok (.getfield 45, 3) := by decide +kernel
theorem dX10_isWanted_6 : decode cX10_isWanted 6 = .ok (.iload_n 2, 1) := by decide +kernel
theorem dX10_isWanted_7 : decode cX10_isWanted 7 = .ok (.iaload, 1) := by decide +kernel
theorem dX10_isWanted_8 : decode cX10_isWanted 8 = .ok (.invokevirtual 187, 3) := by decide +kernel
theorem dX10_isWanted_11 : decode cX10_isWanted 11 = .ok (.ifCond .eq 57, 3) := by decide +kernel
theorem dX10_isWanted_14 : decode cX10_isWanted 14 = .ok (.iload_n 3, 1) := by decide +kernel
theorem dX10_isWanted_15 : decode cX10_isWanted 15 = .ok (.iconst (-1), 1) := by decide +kernel
theorem dX10_isWanted_16 : decode cX10_isWanted 16 = .ok (.if_icmp .ne 20, 3) := by decide +kernel
theorem dX10_isWanted_19 : decode cX10_isWanted 19 = .ok (.aload_n 0, 1) := by decide +kernel
theorem dX10_isWanted_20 : decode cX10_isWanted 20 = .ok (.iload_n 2, 1) := by decide +kernel
theorem dX10_isWanted_21 : decode cX10_isWanted 21 = .ok (.aload_n 0, 1) := by decide +kernel
theorem dX10_isWanted_22 : decode cX10_isWanted 22 = .ok (.getfield 45, 3) := by decide +kernel
theorem dX10_isWanted_25 : decode cX10_isWanted 25 = .ok (.iload_n 1, 1) := by decide +kernel
theorem dX10_isWanted_26 : decode cX10_isWanted 26 = .ok (.iaload, 1) := by decide +kernel
theorem dX10_isWanted_27 : decode cX10_isWanted 27 = .ok (.invokevirtual 187, 3) := by decide +kernel
theorem dX10_isWanted_30 : decode cX10_isWanted 30 = .ok (.ifCond .eq 38, 3) := by decide +kernel
theorem dX10_isWanted_33 : decode cX10_isWanted 33 = .ok (.goto 31, 3) := by decide +kernel
theorem dX10_isWanted_36 : decode cX10_isWanted 36 = .ok (.aload_n 0, 1) := by decide +kernel
theorem dX10_isWanted_37 : decode cX10_isWanted 37 = .ok (.iload_n 2, 1) := by decide +kernel
theorem dX10_isWanted_38 : decode cX10_isWanted 38 = .ok (.aload_n 0, 1) := by decide +kernel
theorem dX10_isWanted_39 : decode cX10_isWanted 39 = .ok (.getfield 45, 3) := by decide +kernel
theorem dX10_isWanted_42 : decode cX10_isWanted 42 = .ok (.iload_n 3, 1) := by decide +kernel
theorem dX10_isWanted_43 : decode cX10_isWanted 43 = .ok (.iaload, 1) := by decide +kernel
theorem dX10_isWanted_44 : decode cX10_isWanted 44 = .ok (.invokevirtual 187, 3) := by decide +kernel
theorem dX10_isWanted_47 : decode cX10_isWanted 47 = .ok (.ifCond .eq 21, 3) := by decide +kernel
theorem dX10_isWanted_50 : decode cX10_isWanted 50 = .ok (.aload_n 0, 1) := by decide +kernel
theorem dX10_isWanted_51 : decode cX10_isWanted 51 = .ok (.iload_n 3, 1) := by decide +kernel
theorem dX10_isWanted_52 : decode cX10_isWanted 52 = .ok (.aload_n 0, 1) := by decide +kernel
theorem dX10_isWanted_53 : decode cX10_isWanted 53 = .ok (.getfield 45, 3) := by decide +kernel
theorem dX10_isWanted_56 : decode cX10_isWanted 56 = .ok (.iload_n 1, 1) := by decide +kernel
theorem dX10_isWanted_57 : decode cX10_isWanted 57 = .ok (.iaload, 1) := by decide +kernel
theorem dX10_isWanted_58 : decode cX10_isWanted 58 = .ok (.invokevirtual 187, 3) := by decide +kernel
theorem dX10_isWanted_61 : decode cX10_isWanted 61 = .ok (.ifCond .eq 7, 3) := by decide +kernel
theorem dX10_isWanted_64 : decode cX10_isWanted 64 = .ok (.iconst 1, 1) := by decide +kernel
theorem dX10_isWanted_65 : decode cX10_isWanted 65 = .ok (.goto 4, 3) := by decide +kernel
theorem dX10_isWanted_68 : decode cX10_isWanted 68 = .ok (.iconst 0, 1) := by decide +kernel
theorem dX10_isWanted_69 : decode cX10_isWanted 69 = .ok (.ireturn, 1) := by decide +kernel
theorem dX10_goRing_0 : decode cX10_goRing 0 = .ok (.aload_n 0, 1) := by decide +kernel
theorem dX10_goRing_1 : decode cX10_goRing 1 = .ok (.getfield 45, 3) := by decide +kernel
theorem dX10_goRing_4 : decode cX10_goRing 4 = .ok (.iload_n 1, 1) := by decide +kernel
theorem dX10_goRing_5 : decode cX10_goRing 5 = .ok (.iaload, 1) := by decide +kernel
theorem dX10_goRing_6 : decode cX10_goRing 6 = .ok (.istore 4, 2) := by decide +kernel
theorem dX10_goRing_8 : decode cX10_goRing 8 = .ok (.aload_n 0, 1) := by decide +kernel
theorem dX10_goRing_9 : decode cX10_goRing 9 = .ok (.getfield 45, 3) := by decide +kernel
theorem dX10_goRing_12 : decode cX10_goRing 12 = .ok (.iload_n 1, 1) := by decide +kernel
theorem dX10_goRing_13 : decode cX10_goRing 13 = .ok (.aload_n 0, 1) := by decide +kernel
theorem dX10_goRing_14 : decode cX10_goRing 14 = .ok (.getfield 45, 3) := by decide +kernel
theorem dX10_goRing_17 : decode cX10_goRing 17 = .ok (.iload_n 2, 1) := by decide +kernel
theorem dX10_goRing_18 : decode cX10_goRing 18 = .ok (.iaload, 1) := by decide +kernel
theorem dX10_goRing_19 : decode cX10_goRing 19 = .ok (.iastore, 1) := by decide +kernel
theorem dX10_goRing_20 : decode cX10_goRing 20 = .ok (.iload_n 3, 1) := by decide +kernel
theorem dX10_goRing_21 : decode cX10_goRing 21 = .ok (.iconst (-1), 1) := by decide +kernel
theorem dX10_goRing_22 : decode cX10_goRing 22 = .ok (.if_icmp .ne 14, 3) := by decide +kernel
theorem dX10_goRing_25 : decode cX10_goRing 25 = .ok (.aload_n 0, 1) := by decide +kernel
theorem dX10_goRing_26 : decode cX10_goRing 26 = .ok (.getfield 45, 3) := by decide +kernel
theorem dX10_goRing_29 : decode cX10_goRing 29 = .ok (.iload_n 2, 1) := by decide +kernel
theorem dX10_goRing_30 : decode cX10_goRing 30 = .ok (.iload 4, 2) := by decide +kernel
theorem dX10_goRing_32 : decode cX10_goRing 32 = .ok (.iastore, 1) := by decide +kernel
theorem dX10_goRing_33 : decode cX10_goRing 33 = .ok (.goto 23, 3) := by decide +kernel
theorem dX10_goRing_36 : decode cX10_goRing 36 = .ok (.aload_n 0, 1) := by decide +kernel
theorem dX10_goRing_37 : decode cX10_goRing 37 = .ok (.getfield 45, 3) := by decide +kernel
theorem dX10_goRing_40 : decode cX10_goRing 40 = .ok (.iload_n 2, 1) := by decide +kernel
theorem dX10_goRing_41 : decode cX10_goRing 41 = .ok (.aload_n 0, 1) := by decide +kernel
theorem dX10_goRing_42 : decode cX10_goRing 42 = .ok (.getfield 45, 3) := by decide +kernel
theorem dX10_goRing_45 : decode cX10_goRing 45 = .ok (.iload_n 3, 1) := by decide +kernel
theorem dX10_goRing_46 : decode cX10_goRing 46 = .ok (.iaload, 1) := by decide +kernel
theorem dX10_goRing_47 : decode cX10_goRing 47 = .ok (.iastore, 1) := by decide +kernel
theorem dX10_goRing_48 : decode cX10_goRing 48 = .ok (.aload_n 0, 1) := by decide +kernel
theorem dX10_goRing_49 : decode cX10_goRing 49 = .ok (.getfield 45, 3) := by decide +kernel
theorem dX10_goRing_52 : decode cX10_goRing 52 = .ok (.iload_n 3, 1) := by decide +kernel
theorem dX10_goRing_53 : decode cX10_goRing 53 = .ok (.iload 4, 2) := by decide +kernel
theorem dX10_goRing_55 : decode cX10_goRing 55 = .ok (.iastore, 1) := by decide +kernel
theorem dX10_goRing_56 : decode cX10_goRing 56 = .ok (.return_, 1) := by decide +kernel
theorem dX10_workOf_0 : decode cX10_workOf 0 = .ok (.iconst 0, 1) := by decide +kernel
theorem dX10_workOf_1 : decode cX10_workOf 1 = .ok (.istore_n 1, 1) := by decide +kernel
theorem dX10_workOf_2 : decode cX10_workOf 2 = .ok (.iconst 0, 1) := by decide +kernel
theorem dX10_workOf_3 : decode cX10_workOf 3 = .ok (.istore_n 2, 1) := by decide +kernel
theorem dX10_workOf_4 : decode cX10_workOf 4 = .ok (.iload_n 2, 1) := by decide +kernel
theorem dX10_workOf_5 : decode cX10_workOf 5 = .ok (.aload_n 0, 1) := by decide +kernel
theorem dX10_workOf_6 : decode cX10_workOf 6 = .ok (.getfield 7, 3) := by decide +kernel
theorem dX10_workOf_9 : decode cX10_workOf 9 = .ok (.if_icmp .ge 28, 3) := by decide +kernel
theorem dX10_workOf_12 : decode cX10_workOf 12 = .ok (.iload_n 1, 1) := by decide +kernel
theorem dX10_workOf_13 : decode cX10_workOf 13 = .ok (.aload_n 0, 1) := by decide +kernel
theorem dX10_workOf_14 : decode cX10_workOf 14 = .ok (.getfield 16, 3) := by decide +kernel
theorem dX10_workOf_17 : decode cX10_workOf 17 = .ok (.bipush 7, 2) := by decide +kernel
theorem dX10_workOf_19 : decode cX10_workOf 19 = .ok (.iload_n 2, 1) := by decide +kernel
theorem dX10_workOf_20 : decode cX10_workOf 20 = .ok (.imul, 1) := by decide +kernel
theorem dX10_workOf_21 : decode cX10_workOf 21 = .ok (.aload_n 0, 1) := by decide +kernel
theorem dX10_workOf_22 : decode cX10_workOf 22 = .ok (.getfield 45, 3) := by decide +kernel
theorem dX10_workOf_25 : decode cX10_workOf 25 = .ok (.iload_n 2, 1) := by decide +kernel
theorem dX10_workOf_26 : decode cX10_workOf 26 = .ok (.iaload, 1) := by decide +kernel
theorem dX10_workOf_27 : decode cX10_workOf 27 = .ok (.iadd, 1) := by decide +kernel
theorem dX10_workOf_28 : decode cX10_workOf 28 = .ok (.iaload, 1) := by decide +kernel
theorem dX10_workOf_29 : decode cX10_workOf 29 = .ok (.iadd, 1) := by decide +kernel
theorem dX10_workOf_30 : decode cX10_workOf 30 = .ok (.istore_n 1, 1) := by decide +kernel
theorem dX10_workOf_31 : decode cX10_workOf 31 = .ok (.iinc 2 1, 3) := by decide +kernel
theorem dX10_workOf_34 : decode cX10_workOf 34 = .ok (.goto (-30), 3) := by decide +kernel
theorem dX10_workOf_37 : decode cX10_workOf 37 = .ok (.iload_n 1, 1) := by decide +kernel
theorem dX10_workOf_38 : decode cX10_workOf 38 = .ok (.ireturn, 1) := by decide +kernel
theorem dX10_gladnessOf_0 : decode cX10_gladnessOf 0 = .ok (.iconst 0, 1) := by decide +kernel
theorem dX10_gladnessOf_1 : decode cX10_gladnessOf 1 = .ok (.istore_n 1, 1) := by decide +kernel
theorem dX10_gladnessOf_2 : decode cX10_gladnessOf 2 = .ok (.iconst 0, 1) := by decide +kernel
theorem dX10_gladnessOf_3 : decode cX10_gladnessOf 3 = .ok (.istore_n 2, 1) := by decide +kernel
theorem dX10_gladnessOf_4 : decode cX10_gladnessOf 4 = .ok (.iload_n 2, 1) := by decide +kernel
theorem dX10_gladnessOf_5 : decode cX10_gladnessOf 5 = .ok (.aload_n 0, 1) := by decide +kernel
theorem dX10_gladnessOf_6 : decode cX10_gladnessOf 6 = .ok (.getfield 7, 3) := by decide +kernel
theorem dX10_gladnessOf_9 : decode cX10_gladnessOf 9 = .ok (.if_icmp .ge 28, 3) := by decide +kernel
theorem dX10_gladnessOf_12 : decode cX10_gladnessOf 12 = .ok (.iload_n 1, 1) := by decide +kernel
theorem dX10_gladnessOf_13 : decode cX10_gladnessOf 13 = .ok (.aload_n 0, 1) := by decide +kernel
theorem dX10_gladnessOf_14 : decode cX10_gladnessOf 14 = .ok (.getfield 20, 3) := by decide +kernel
theorem dX10_gladnessOf_17 : decode cX10_gladnessOf 17 = .ok (.bipush 7, 2) := by decide +kernel
theorem dX10_gladnessOf_19 : decode cX10_gladnessOf 19 = .ok (.iload_n 2, 1) := by decide +kernel
theorem dX10_gladnessOf_20 : decode cX10_gladnessOf 20 = .ok (.imul, 1) := by decide +kernel
theorem dX10_gladnessOf_21 : decode cX10_gladnessOf 21 = .ok (.aload_n 0, 1) := by decide +kernel
theorem dX10_gladnessOf_22 : decode cX10_gladnessOf 22 = .ok (.getfield 45, 3) := by decide +kernel
theorem dX10_gladnessOf_25 : decode cX10_gladnessOf 25 = .ok (.iload_n 2, 1) := by decide +kernel
theorem dX10_gladnessOf_26 : decode cX10_gladnessOf 26 = .ok (.iaload, 1) := by decide +kernel
theorem dX10_gladnessOf_27 : decode cX10_gladnessOf 27 = .ok (.iadd, 1) := by decide +kernel
theorem dX10_gladnessOf_28 : decode cX10_gladnessOf 28 = .ok (.iaload, 1) := by decide +kernel
theorem dX10_gladnessOf_29 : decode cX10_gladnessOf 29 = .ok (.iadd, 1) := by decide +kernel
theorem dX10_gladnessOf_30 : decode cX10_gladnessOf 30 = .ok (.istore_n 1, 1) := by decide +kernel
theorem dX10_gladnessOf_31 : decode cX10_gladnessOf 31 = .ok (.iinc 2 1, 3) := by decide +kernel
theorem dX10_gladnessOf_34 : decode cX10_gladnessOf 34 = .ok (.goto (-30), 3) := by decide +kernel
theorem dX10_gladnessOf_37 : decode cX10_gladnessOf 37 = .ok (.iload_n 1, 1) := by decide +kernel
theorem dX10_gladnessOf_38 : decode cX10_gladnessOf 38 = .ok (.ireturn, 1) := by decide +kernel
theorem dX10_trade_0 : decode cX10_trade 0 = .ok (.aload_n 0, 1) := by decide +kernel
theorem dX10_trade_1 : decode cX10_trade 1 = .ok (.iload_n 1, 1) := by decide +kernel
theorem dX10_trade_2 : decode cX10_trade 2 = .ok (.invokevirtual 166, 3) := by decide +kernel
theorem dX10_trade_5 : decode cX10_trade 5 = .ok (.ifCond .eq 27, 3) := by decide +kernel
theorem dX10_trade_8 : decode cX10_trade 8 = .ok (.aload_n 0, 1) := by decide +kernel
theorem dX10_trade_9 : decode cX10_trade 9 = .ok (.iload_n 2, 1) := by decide +kernel
theorem dX10_trade_10 : decode cX10_trade 10 = .ok (.invokevirtual 166, 3) := by decide +kernel
theorem dX10_trade_13 : decode cX10_trade 13 = .ok (.ifCond .eq 19, 3) := by decide +kernel
theorem dX10_trade_16 : decode cX10_trade 16 = .ok (.aload_n 0, 1) := by decide +kernel
theorem dX10_trade_17 : decode cX10_trade 17 = .ok (.getfield 13, 3) := by decide +kernel
theorem dX10_trade_20 : decode cX10_trade 20 = .ok (.iconst 3, 1) := by decide +kernel
theorem dX10_trade_21 : decode cX10_trade 21 = .ok (.if_icmp .ne 14, 3) := by decide +kernel
theorem dX10_trade_24 : decode cX10_trade 24 = .ok (.aload_n 0, 1) := by decide +kernel
theorem dX10_trade_25 : decode cX10_trade 25 = .ok (.iload_n 3, 1) := by decide +kernel
theorem dX10_trade_26 : decode cX10_trade 26 = .ok (.invokevirtual 166, 3) := by decide +kernel
theorem dX10_trade_29 : decode cX10_trade 29 = .ok (.ifCond .ne 6, 3) := by decide +kernel
theorem dX10_trade_32 : decode cX10_trade 32 = .ok (.bipush (-2), 2) := by decide +kernel
theorem dX10_trade_34 : decode cX10_trade 34 = .ok (.ireturn, 1) := by decide +kernel
theorem dX10_trade_35 : decode cX10_trade 35 = .ok (.iload_n 1, 1) := by decide +kernel
theorem dX10_trade_36 : decode cX10_trade 36 = .ok (.iload_n 2, 1) := by decide +kernel
theorem dX10_trade_37 : decode cX10_trade 37 = .ok (.if_icmp .eq 34, 3) := by decide +kernel
theorem dX10_trade_40 : decode cX10_trade 40 = .ok (.aload_n 0, 1) := by decide +kernel
theorem dX10_trade_41 : decode cX10_trade 41 = .ok (.getfield 13, 3) := by decide +kernel
theorem dX10_trade_44 : decode cX10_trade 44 = .ok (.iconst 3, 1) := by decide +kernel
theorem dX10_trade_45 : decode cX10_trade 45 = .ok (.if_icmp .ne 13, 3) := by decide +kernel
theorem dX10_trade_48 : decode cX10_trade 48 = .ok (.iload_n 1, 1) := by decide +kernel
theorem dX10_trade_49 : decode cX10_trade 49 = .ok (.iload_n 3, 1) := by decide +kernel
theorem dX10_trade_50 : decode cX10_trade 50 = .ok (.if_icmp .eq 21, 3) := by decide +kernel
theorem dX10_trade_53 : decode cX10_trade 53 = .ok (.iload_n 2, 1) := by decide +kernel
theorem dX10_trade_54 : decode cX10_trade 54 = .ok (.iload_n 3, 1) := by decide +kernel
theorem dX10_trade_55 : decode cX10_trade 55 = .ok (.if_icmp .eq 16, 3) := by decide +kernel
theorem dX10_trade_58 : decode cX10_trade 58 = .ok (.aload_n 0, 1) := by decide +kernel
theorem dX10_trade_59 : decode cX10_trade 59 = .ok (.getfield 13, 3) := by decide +kernel
theorem dX10_trade_62 : decode cX10_trade 62 = .ok (.iconst 3, 1) := by decide +kernel
theorem dX10_trade_63 : decode cX10_trade 63 = .ok (.if_icmp .eq 11, 3) := by decide +kernel
theorem dX10_trade_66 : decode cX10_trade 66 = .ok (.iload_n 3, 1) := by decide +kernel
theorem dX10_trade_67 : decode cX10_trade 67 = .ok (.iconst (-1), 1) := by decide +kernel
theorem dX10_trade_68 : decode cX10_trade 68 = .ok (.if_icmp .eq 6, 3) := by decide +kernel
theorem dX10_trade_71 : decode cX10_trade 71 = .ok (.bipush (-3), 2) := by decide +kernel
theorem dX10_trade_73 : decode cX10_trade 73 = .ok (.ireturn, 1) := by decide +kernel
theorem dX10_trade_74 : decode cX10_trade 74 = .ok (.aload_n 0, 1) := by decide +kernel
theorem dX10_trade_75 : decode cX10_trade 75 = .ok (.getfield 35, 3) := by decide +kernel
theorem dX10_trade_78 : decode cX10_trade 78 = .ok (.iconst 0, 1) := by decide +kernel
theorem dX10_trade_79 : decode cX10_trade 79 = .ok (.iaload, 1) := by decide +kernel
theorem dX10_trade_80 : decode cX10_trade 80 = .ok (.ifCond .eq 10, 3) := by decide +kernel
theorem dX10_trade_83 : decode cX10_trade 83 = .ok (.aload_n 0, 1) := by decide +kernel
theorem dX10_trade_84 : decode cX10_trade 84 = .ok (.getfield 13, 3) := by decide +kernel
theorem dX10_trade_87 : decode cX10_trade 87 = .ok (.ifCond .ne 6, 3) := by decide +kernel
theorem dX10_trade_90 : decode cX10_trade 90 = .ok (.bipush (-4), 2) := by decide +kernel
theorem dX10_trade_92 : decode cX10_trade 92 = .ok (.ireturn, 1) := by decide +kernel
theorem dX10_trade_93 : decode cX10_trade 93 = .ok (.aload_n 0, 1) := by decide +kernel
theorem dX10_trade_94 : decode cX10_trade 94 = .ok (.invokevirtual 190, 3) := by decide +kernel
theorem dX10_trade_97 : decode cX10_trade 97 = .ok (.aload_n 0, 1) := by decide +kernel
theorem dX10_trade_98 : decode cX10_trade 98 = .ok (.iload_n 1, 1) := by decide +kernel
theorem dX10_trade_99 : decode cX10_trade 99 = .ok (.iload_n 2, 1) := by decide +kernel
theorem dX10_trade_100 : decode cX10_trade 100 = .ok (.iload_n 3, 1) := by decide +kernel
theorem dX10_trade_101 : decode cX10_trade 101 = .ok (.invokevirtual 193, 3) := by decide +kernel
theorem dX10_trade_104 : decode cX10_trade 104 = .ok (.ifCond .ne 6, 3) := by decide +kernel
theorem dX10_trade_107 : decode cX10_trade 107 = .ok (.bipush (-4), 2) := by decide +kernel
theorem dX10_trade_109 : decode cX10_trade 109 = .ok (.ireturn, 1) := by decide +kernel
theorem dX10_trade_110 : decode cX10_trade 110 = .ok (.aload_n 0, 1) := by decide +kernel
theorem dX10_trade_111 : decode cX10_trade 111 = .ok (.iload_n 1, 1) := by decide +kernel
theorem dX10_trade_112 : decode cX10_trade 112 = .ok (.iload_n 2, 1) := by decide +kernel
theorem dX10_trade_113 : decode cX10_trade 113 = .ok (.iload_n 3, 1) := by decide +kernel
theorem dX10_trade_114 : decode cX10_trade 114 = .ok (.invokevirtual 196, 3) := by decide +kernel
theorem dX10_trade_117 : decode cX10_trade 117 = .ok (.aload_n 0, 1) := by decide +kernel
theorem dX10_trade_118 : decode cX10_trade 118 = .ok (.invokevirtual 183, 3) := by decide +kernel
theorem dX10_trade_121 : decode cX10_trade 121 = .ok (.aload_n 0, 1) := by decide +kernel
theorem dX10_trade_122 : decode cX10_trade 122 = .ok (.invokevirtual 200, 3) := by decide +kernel
theorem dX10_trade_125 : decode cX10_trade 125 = .ok (.ireturn, 1) := by decide +kernel
theorem dX10_takeRing_0 : decode cX10_takeRing 0 = .ok (.aload_n 0, 1) := by decide +kernel
theorem dX10_takeRing_1 : decode cX10_takeRing 1 = .ok (.iload_n 1, 1) := by decide +kernel
theorem dX10_takeRing_2 : decode cX10_takeRing 2 = .ok (.bipush 64, 2) := by decide +kernel
theorem dX10_takeRing_4 : decode cX10_takeRing 4 = .ok (.idiv, 1) := by decide +kernel
theorem dX10_takeRing_5 : decode cX10_takeRing 5 = .ok (.putfield 204, 3) := by decide +kernel
theorem dX10_takeRing_8 : decode cX10_takeRing 8 = .ok (.aload_n 0, 1) := by decide +kernel
theorem dX10_takeRing_9 : decode cX10_takeRing 9 = .ok (.iload_n 1, 1) := by decide +kernel
theorem dX10_takeRing_10 : decode cX10_takeRing 10 = .ok (.bipush 8, 2) := by decide +kernel
theorem dX10_takeRing_12 : decode cX10_takeRing 12 = .ok (.idiv, 1) := by decide +kernel
theorem dX10_takeRing_13 : decode cX10_takeRing 13 = .ok (.bipush 8, 2) := by decide +kernel
theorem dX10_takeRing_15 : decode cX10_takeRing 15 = .ok (.irem, 1) := by decide +kernel
theorem dX10_takeRing_16 : decode cX10_takeRing 16 = .ok (.putfield 207, 3) := by decide +kernel
theorem dX10_takeRing_19 : decode cX10_takeRing 19 = .ok (.aload_n 0, 1) := by decide +kernel
theorem dX10_takeRing_20 : decode cX10_takeRing 20 = .ok (.iload_n 2, 1) := by decide +kernel
theorem dX10_takeRing_21 : decode cX10_takeRing 21 = .ok (.iconst 2, 1) := by decide +kernel
theorem dX10_takeRing_22 : decode cX10_takeRing 22 = .ok (.if_icmp .ne 7, 3) := by decide +kernel
theorem dX10_takeRing_25 : decode cX10_takeRing 25 = .ok (.iconst (-1), 1) := by decide +kernel
theorem dX10_takeRing_26 : decode cX10_takeRing 26 = .ok (.goto 7, 3) := by decide +kernel
theorem dX10_takeRing_29 : decode cX10_takeRing 29 = .ok (.iload_n 1, 1) := by decide +kernel
theorem dX10_takeRing_30 : decode cX10_takeRing 30 = .ok (.bipush 8, 2) := by decide +kernel
theorem dX10_takeRing_32 : decode cX10_takeRing 32 = .ok (.irem, 1) := by decide +kernel
theorem dX10_takeRing_33 : decode cX10_takeRing 33 = .ok (.putfield 210, 3) := by decide +kernel
theorem dX10_takeRing_36 : decode cX10_takeRing 36 = .ok (.return_, 1) := by decide +kernel
theorem dX10_nextWanted_0 : decode cX10_nextWanted 0 = .ok (.iload_n 1, 1) := by decide +kernel
theorem dX10_nextWanted_1 : decode cX10_nextWanted 1 = .ok (.istore_n 3, 1) := by decide +kernel
theorem dX10_nextWanted_2 : decode cX10_nextWanted 2 = .ok (.iload_n 3, 1) := by decide +kernel
theorem dX10_nextWanted_3 : decode cX10_nextWanted 3 = .ok (.sipush 448, 3) := by decide +kernel
theorem dX10_nextWanted_6 : decode cX10_nextWanted 6 = .ok (.if_icmp .ge 133, 3) := by decide +kernel
theorem dX10_nextWanted_9 : decode cX10_nextWanted 9 = .ok (.iload_n 2, 1) := by decide +kernel
theorem dX10_nextWanted_10 : decode cX10_nextWanted 10 = .ok (.ifCond .le 129, 3) := by decide +kernel
theorem dX10_nextWanted_13 : decode cX10_nextWanted 13 = .ok (.aload_n 0, 1) := by decide +kernel
theorem dX10_nextWanted_14 : decode cX10_nextWanted 14 = .ok (.iload_n 3, 1) := by decide +kernel
theorem dX10_nextWanted_15 : decode cX10_nextWanted 15 = .ok (.iload_n 2, 1) := by decide +kernel
end
section
theorem dX10_nextWanted_16 : decode cX10_nextWanted 16 = .ok (.invokevirtual 213, 3) := by decide +kernel
theorem dX10_nextWanted_19 : decode cX10_nextWanted 19 = .ok (.aload_n 0, 1) := by decide +kernel
theorem dX10_nextWanted_20 : decode cX10_nextWanted 20 = .ok (.getfield 207, 3) := by decide +kernel
theorem dX10_nextWanted_23 : decode cX10_nextWanted 23 = .ok (.aload_n 0, 1) := by decide +kernel
theorem dX10_nextWanted_24 : decode cX10_nextWanted 24 = .ok (.getfield 204, 3) := by decide +kernel
theorem dX10_nextWanted_27 : decode cX10_nextWanted 27 = .ok (.if_icmp .le 77, 3) := by decide +kernel
theorem dX10_nextWanted_30 : decode cX10_nextWanted 30 = .ok (.aload_n 0, 1) := by decide +kernel
theorem dX10_nextWanted_31 : decode cX10_nextWanted 31 = .ok (.getfield 204, 3) := by decide +kernel
theorem dX10_nextWanted_34 : decode cX10_nextWanted 34 = .ok (.aload_n 0, 1) := by decide +kernel
theorem dX10_nextWanted_35 : decode cX10_nextWanted 35 = .ok (.getfield 7, 3) := by decide +kernel
theorem dX10_nextWanted_38 : decode cX10_nextWanted 38 = .ok (.if_icmp .ge 66, 3) := by decide +kernel
theorem dX10_nextWanted_41 : decode cX10_nextWanted 41 = .ok (.aload_n 0, 1) := by decide +kernel
theorem dX10_nextWanted_42 : decode cX10_nextWanted 42 = .ok (.getfield 207, 3) := by decide +kernel
theorem dX10_nextWanted_45 : decode cX10_nextWanted 45 = .ok (.aload_n 0, 1) := by decide +kernel
theorem dX10_nextWanted_46 : decode cX10_nextWanted 46 = .ok (.getfield 7, 3) := by decide +kernel
theorem dX10_nextWanted_49 : decode cX10_nextWanted 49 = .ok (.if_icmp .ge 55, 3) := by decide +kernel
theorem dX10_nextWanted_52 : decode cX10_nextWanted 52 = .ok (.iload_n 2, 1) := by decide +kernel
theorem dX10_nextWanted_53 : decode cX10_nextWanted 53 = .ok (.iconst 2, 1) := by decide +kernel
theorem dX10_nextWanted_54 : decode cX10_nextWanted 54 = .ok (.if_icmp .ne 13, 3) := by decide +kernel
theorem dX10_nextWanted_57 : decode cX10_nextWanted 57 = .ok (.iload_n 3, 1) := by decide +kernel
theorem dX10_nextWanted_58 : decode cX10_nextWanted 58 = .ok (.bipush 8, 2) := by decide +kernel
theorem dX10_nextWanted_60 : decode cX10_nextWanted 60 = .ok (.irem, 1) := by decide +kernel
theorem dX10_nextWanted_61 : decode cX10_nextWanted 61 = .ok (.ifCond .ne 43, 3) := by decide +kernel
theorem dX10_nextWanted_64 : decode cX10_nextWanted 64 = .ok (.goto 36, 3) := by decide +kernel
theorem dX10_nextWanted_67 : decode cX10_nextWanted 67 = .ok (.aload_n 0, 1) := by decide +kernel
theorem dX10_nextWanted_68 : decode cX10_nextWanted 68 = .ok (.getfield 210, 3) := by decide +kernel
theorem dX10_nextWanted_71 : decode cX10_nextWanted 71 = .ok (.aload_n 0, 1) := by decide +kernel
theorem dX10_nextWanted_72 : decode cX10_nextWanted 72 = .ok (.getfield 204, 3) := by decide +kernel
theorem dX10_nextWanted_75 : decode cX10_nextWanted 75 = .ok (.if_icmp .le 29, 3) := by decide +kernel
theorem dX10_nextWanted_78 : decode cX10_nextWanted 78 = .ok (.aload_n 0, 1) := by decide +kernel
theorem dX10_nextWanted_79 : decode cX10_nextWanted 79 = .ok (.getfield 210, 3) := by decide +kernel
theorem dX10_nextWanted_82 : decode cX10_nextWanted 82 = .ok (.aload_n 0, 1) := by decide +kernel
theorem dX10_nextWanted_83 : decode cX10_nextWanted 83 = .ok (.getfield 207, 3) := by decide +kernel
theorem dX10_nextWanted_86 : decode cX10_nextWanted 86 = .ok (.if_icmp .eq 18, 3) := by decide +kernel
theorem dX10_nextWanted_89 : decode cX10_nextWanted 89 = .ok (.aload_n 0, 1) := by decide +kernel
theorem dX10_nextWanted_90 : decode cX10_nextWanted 90 = .ok (.getfield 210, 3) := by decide +kernel
theorem dX10_nextWanted_93 : decode cX10_nextWanted 93 = .ok (.aload_n 0, 1) := by decide +kernel
theorem dX10_nextWanted_94 : decode cX10_nextWanted 94 = .ok (.getfield 7, 3) := by decide +kernel
theorem dX10_nextWanted_97 : decode cX10_nextWanted 97 = .ok (.if_icmp .ge 7, 3) := by decide +kernel
theorem dX10_nextWanted_100 : decode cX10_nextWanted 100 = .ok (.iconst 1, 1) := by decide +kernel
theorem dX10_nextWanted_101 : decode cX10_nextWanted 101 = .ok (.goto 4, 3) := by decide +kernel
theorem dX10_nextWanted_104 : decode cX10_nextWanted 104 = .ok (.iconst 0, 1) := by decide +kernel
theorem dX10_nextWanted_105 : decode cX10_nextWanted 105 = .ok (.istore 4, 2) := by decide +kernel
theorem dX10_nextWanted_107 : decode cX10_nextWanted 107 = .ok (.iload 4, 2) := by decide +kernel
theorem dX10_nextWanted_109 : decode cX10_nextWanted 109 = .ok (.ifCond .eq 24, 3) := by decide +kernel
theorem dX10_nextWanted_112 : decode cX10_nextWanted 112 = .ok (.aload_n 0, 1) := by decide +kernel
theorem dX10_nextWanted_113 : decode cX10_nextWanted 113 = .ok (.aload_n 0, 1) := by decide +kernel
theorem dX10_nextWanted_114 : decode cX10_nextWanted 114 = .ok (.getfield 204, 3) := by decide +kernel
theorem dX10_nextWanted_117 : decode cX10_nextWanted 117 = .ok (.aload_n 0, 1) := by decide +kernel
theorem dX10_nextWanted_118 : decode cX10_nextWanted 118 = .ok (.getfield 207, 3) := by decide +kernel
theorem dX10_nextWanted_121 : decode cX10_nextWanted 121 = .ok (.aload_n 0, 1) := by decide +kernel
theorem dX10_nextWanted_122 : decode cX10_nextWanted 122 = .ok (.getfield 210, 3) := by decide +kernel
theorem dX10_nextWanted_125 : decode cX10_nextWanted 125 = .ok (.invokevirtual 193, 3) := by decide +kernel
theorem dX10_nextWanted_128 : decode cX10_nextWanted 128 = .ok (.ifCond .eq 5, 3) := by decide +kernel
theorem dX10_nextWanted_131 : decode cX10_nextWanted 131 = .ok (.iload_n 3, 1) := by decide +kernel
theorem dX10_nextWanted_132 : decode cX10_nextWanted 132 = .ok (.ireturn, 1) := by decide +kernel
theorem dX10_nextWanted_133 : decode cX10_nextWanted 133 = .ok (.iinc 3 1, 3) := by decide +kernel
theorem dX10_nextWanted_136 : decode cX10_nextWanted 136 = .ok (.goto (-134), 3) := by decide +kernel
theorem dX10_nextWanted_139 : decode cX10_nextWanted 139 = .ok (.iconst (-1), 1) := by decide +kernel
theorem dX10_nextWanted_140 : decode cX10_nextWanted 140 = .ok (.ireturn, 1) := by decide +kernel
theorem dX10_settleBy_0 : decode cX10_settleBy 0 = .ok (.iconst 0, 1) := by decide +kernel
theorem dX10_settleBy_1 : decode cX10_settleBy 1 = .ok (.istore_n 2, 1) := by decide +kernel
theorem dX10_settleBy_2 : decode cX10_settleBy 2 = .ok (.aload_n 0, 1) := by decide +kernel
theorem dX10_settleBy_3 : decode cX10_settleBy 3 = .ok (.iconst 0, 1) := by decide +kernel
theorem dX10_settleBy_4 : decode cX10_settleBy 4 = .ok (.iload_n 1, 1) := by decide +kernel
theorem dX10_settleBy_5 : decode cX10_settleBy 5 = .ok (.invokevirtual 217, 3) := by decide +kernel
theorem dX10_settleBy_8 : decode cX10_settleBy 8 = .ok (.istore_n 3, 1) := by decide +kernel
theorem dX10_settleBy_9 : decode cX10_settleBy 9 = .ok (.iload_n 3, 1) := by decide +kernel
theorem dX10_settleBy_10 : decode cX10_settleBy 10 = .ok (.iconst (-1), 1) := by decide +kernel
theorem dX10_settleBy_11 : decode cX10_settleBy 11 = .ok (.if_icmp .eq 32, 3) := by decide +kernel
theorem dX10_settleBy_14 : decode cX10_settleBy 14 = .ok (.aload_n 0, 1) := by decide +kernel
theorem dX10_settleBy_15 : decode cX10_settleBy 15 = .ok (.aload_n 0, 1) := by decide +kernel
theorem dX10_settleBy_16 : decode cX10_settleBy 16 = .ok (.getfield 204, 3) := by decide +kernel
theorem dX10_settleBy_19 : decode cX10_settleBy 19 = .ok (.aload_n 0, 1) := by decide +kernel
theorem dX10_settleBy_20 : decode cX10_settleBy 20 = .ok (.getfield 207, 3) := by decide +kernel
theorem dX10_settleBy_23 : decode cX10_settleBy 23 = .ok (.aload_n 0, 1) := by decide +kernel
theorem dX10_settleBy_24 : decode cX10_settleBy 24 = .ok (.getfield 210, 3) := by decide +kernel
theorem dX10_settleBy_27 : decode cX10_settleBy 27 = .ok (.invokevirtual 196, 3) := by decide +kernel
theorem dX10_settleBy_30 : decode cX10_settleBy 30 = .ok (.iinc 2 1, 3) := by decide +kernel
theorem dX10_settleBy_33 : decode cX10_settleBy 33 = .ok (.aload_n 0, 1) := by decide +kernel
theorem dX10_settleBy_34 : decode cX10_settleBy 34 = .ok (.iconst 0, 1) := by decide +kernel
theorem dX10_settleBy_35 : decode cX10_settleBy 35 = .ok (.iload_n 1, 1) := by decide +kernel
theorem dX10_settleBy_36 : decode cX10_settleBy 36 = .ok (.invokevirtual 217, 3) := by decide +kernel
theorem dX10_settleBy_39 : decode cX10_settleBy 39 = .ok (.istore_n 3, 1) := by decide +kernel
theorem dX10_settleBy_40 : decode cX10_settleBy 40 = .ok (.goto (-31), 3) := by decide +kernel
theorem dX10_settleBy_43 : decode cX10_settleBy 43 = .ok (.iload_n 2, 1) := by decide +kernel
theorem dX10_settleBy_44 : decode cX10_settleBy 44 = .ok (.ireturn, 1) := by decide +kernel
theorem dX10_settle_0 : decode cX10_settle 0 = .ok (.aload_n 0, 1) := by decide +kernel
theorem dX10_settle_1 : decode cX10_settle 1 = .ok (.getfield 35, 3) := by decide +kernel
theorem dX10_settle_4 : decode cX10_settle 4 = .ok (.iconst 0, 1) := by decide +kernel
theorem dX10_settle_5 : decode cX10_settle 5 = .ok (.iaload, 1) := by decide +kernel
theorem dX10_settle_6 : decode cX10_settle 6 = .ok (.ifCond .ne 6, 3) := by decide +kernel
theorem dX10_settle_9 : decode cX10_settle 9 = .ok (.bipush (-4), 2) := by decide +kernel
theorem dX10_settle_11 : decode cX10_settle 11 = .ok (.ireturn, 1) := by decide +kernel
theorem dX10_settle_12 : decode cX10_settle 12 = .ok (.aload_n 0, 1) := by decide +kernel
theorem dX10_settle_13 : decode cX10_settle 13 = .ok (.invokevirtual 190, 3) := by decide +kernel
theorem dX10_settle_16 : decode cX10_settle 16 = .ok (.aload_n 0, 1) := by decide +kernel
theorem dX10_settle_17 : decode cX10_settle 17 = .ok (.aload_n 0, 1) := by decide +kernel
theorem dX10_settle_18 : decode cX10_settle 18 = .ok (.getfield 13, 3) := by decide +kernel
theorem dX10_settle_21 : decode cX10_settle 21 = .ok (.invokevirtual 221, 3) := by decide +kernel
theorem dX10_settle_24 : decode cX10_settle 24 = .ok (.istore_n 1, 1) := by decide +kernel
theorem dX10_settle_25 : decode cX10_settle 25 = .ok (.aload_n 0, 1) := by decide +kernel
theorem dX10_settle_26 : decode cX10_settle 26 = .ok (.invokevirtual 183, 3) := by decide +kernel
theorem dX10_settle_29 : decode cX10_settle 29 = .ok (.iload_n 1, 1) := by decide +kernel
theorem dX10_settle_30 : decode cX10_settle 30 = .ok (.ireturn, 1) := by decide +kernel
theorem dX10_dawn_0 : decode cX10_dawn 0 = .ok (.aload_n 0, 1) := by decide +kernel
theorem dX10_dawn_1 : decode cX10_dawn 1 = .ok (.getfield 35, 3) := by decide +kernel
theorem dX10_dawn_4 : decode cX10_dawn 4 = .ok (.iconst 0, 1) := by decide +kernel
theorem dX10_dawn_5 : decode cX10_dawn 5 = .ok (.iaload, 1) := by decide +kernel
theorem dX10_dawn_6 : decode cX10_dawn 6 = .ok (.ifCond .ne 6, 3) := by decide +kernel
theorem dX10_dawn_9 : decode cX10_dawn 9 = .ok (.bipush (-4), 2) := by decide +kernel
theorem dX10_dawn_11 : decode cX10_dawn 11 = .ok (.ireturn, 1) := by decide +kernel
theorem dX10_dawn_12 : decode cX10_dawn 12 = .ok (.aload_n 0, 1) := by decide +kernel
theorem dX10_dawn_13 : decode cX10_dawn 13 = .ok (.getfield 35, 3) := by decide +kernel
theorem dX10_dawn_16 : decode cX10_dawn 16 = .ok (.bipush 15, 2) := by decide +kernel
theorem dX10_dawn_18 : decode cX10_dawn 18 = .ok (.iaload, 1) := by decide +kernel
theorem dX10_dawn_19 : decode cX10_dawn 19 = .ok (.bipush 16, 2) := by decide +kernel
theorem dX10_dawn_21 : decode cX10_dawn 21 = .ok (.if_icmp .ne 6, 3) := by decide +kernel
theorem dX10_dawn_24 : decode cX10_dawn 24 = .ok (.bipush (-5), 2) := by decide +kernel
theorem dX10_dawn_26 : decode cX10_dawn 26 = .ok (.ireturn, 1) := by decide +kernel
theorem dX10_dawn_27 : decode cX10_dawn 27 = .ok (.iconst 0, 1) := by decide +kernel
theorem dX10_dawn_28 : decode cX10_dawn 28 = .ok (.istore_n 1, 1) := by decide +kernel
theorem dX10_dawn_29 : decode cX10_dawn 29 = .ok (.iload_n 1, 1) := by decide +kernel
theorem dX10_dawn_30 : decode cX10_dawn 30 = .ok (.aload_n 0, 1) := by decide +kernel
theorem dX10_dawn_31 : decode cX10_dawn 31 = .ok (.getfield 7, 3) := by decide +kernel
theorem dX10_dawn_34 : decode cX10_dawn 34 = .ok (.if_icmp .ge 63, 3) := by decide +kernel
theorem dX10_dawn_37 : decode cX10_dawn 37 = .ok (.aload_n 0, 1) := by decide +kernel
theorem dX10_dawn_38 : decode cX10_dawn 38 = .ok (.getfield 35, 3) := by decide +kernel
theorem dX10_dawn_41 : decode cX10_dawn 41 = .ok (.bipush 8, 2) := by decide +kernel
theorem dX10_dawn_43 : decode cX10_dawn 43 = .ok (.iload_n 1, 1) := by decide +kernel
theorem dX10_dawn_44 : decode cX10_dawn 44 = .ok (.iadd, 1) := by decide +kernel
theorem dX10_dawn_45 : decode cX10_dawn 45 = .ok (.aload_n 0, 1) := by decide +kernel
theorem dX10_dawn_46 : decode cX10_dawn 46 = .ok (.getfield 35, 3) := by decide +kernel
theorem dX10_dawn_49 : decode cX10_dawn 49 = .ok (.iconst 1, 1) := by decide +kernel
theorem dX10_dawn_50 : decode cX10_dawn 50 = .ok (.iload_n 1, 1) := by decide +kernel
theorem dX10_dawn_51 : decode cX10_dawn 51 = .ok (.iadd, 1) := by decide +kernel
theorem dX10_dawn_52 : decode cX10_dawn 52 = .ok (.iaload, 1) := by decide +kernel
theorem dX10_dawn_53 : decode cX10_dawn 53 = .ok (.iastore, 1) := by decide +kernel
theorem dX10_dawn_54 : decode cX10_dawn 54 = .ok (.aload_n 0, 1) := by decide +kernel
theorem dX10_dawn_55 : decode cX10_dawn 55 = .ok (.getfield 35, 3) := by decide +kernel
theorem dX10_dawn_58 : decode cX10_dawn 58 = .ok (.bipush 16, 2) := by decide +kernel
theorem dX10_dawn_60 : decode cX10_dawn 60 = .ok (.bipush 7, 2) := by decide +kernel
theorem dX10_dawn_62 : decode cX10_dawn 62 = .ok (.aload_n 0, 1) := by decide +kernel
theorem dX10_dawn_63 : decode cX10_dawn 63 = .ok (.getfield 35, 3) := by decide +kernel
theorem dX10_dawn_66 : decode cX10_dawn 66 = .ok (.bipush 15, 2) := by decide +kernel
theorem dX10_dawn_68 : decode cX10_dawn 68 = .ok (.iaload, 1) := by decide +kernel
theorem dX10_dawn_69 : decode cX10_dawn 69 = .ok (.imul, 1) := by decide +kernel
theorem dX10_dawn_70 : decode cX10_dawn 70 = .ok (.iadd, 1) := by decide +kernel
theorem dX10_dawn_71 : decode cX10_dawn 71 = .ok (.iload_n 1, 1) := by decide +kernel
theorem dX10_dawn_72 : decode cX10_dawn 72 = .ok (.iadd, 1) := by decide +kernel
theorem dX10_dawn_73 : decode cX10_dawn 73 = .ok (.aload_n 0, 1) := by decide +kernel
theorem dX10_dawn_74 : decode cX10_dawn 74 = .ok (.getfield 35, 3) := by decide +kernel
theorem dX10_dawn_77 : decode cX10_dawn 77 = .ok (.iconst 1, 1) := by decide +kernel
theorem dX10_dawn_78 : decode cX10_dawn 78 = .ok (.iload_n 1, 1) := by decide +kernel
theorem dX10_dawn_79 : decode cX10_dawn 79 = .ok (.iadd, 1) := by decide +kernel
theorem dX10_dawn_80 : decode cX10_dawn 80 = .ok (.iaload, 1) := by decide +kernel
theorem dX10_dawn_81 : decode cX10_dawn 81 = .ok (.iastore, 1) := by decide +kernel
theorem dX10_dawn_82 : decode cX10_dawn 82 = .ok (.aload_n 0, 1) := by decide +kernel
theorem dX10_dawn_83 : decode cX10_dawn 83 = .ok (.getfield 35, 3) := by decide +kernel
theorem dX10_dawn_86 : decode cX10_dawn 86 = .ok (.iconst 1, 1) := by decide +kernel
theorem dX10_dawn_87 : decode cX10_dawn 87 = .ok (.iload_n 1, 1) := by decide +kernel
theorem dX10_dawn_88 : decode cX10_dawn 88 = .ok (.iadd, 1) := by decide +kernel
theorem dX10_dawn_89 : decode cX10_dawn 89 = .ok (.iconst 0, 1) := by decide +kernel
theorem dX10_dawn_90 : decode cX10_dawn 90 = .ok (.iastore, 1) := by decide +kernel
theorem dX10_dawn_91 : decode cX10_dawn 91 = .ok (.iinc 1 1, 3) := by decide +kernel
theorem dX10_dawn_94 : decode cX10_dawn 94 = .ok (.goto (-65), 3) := by decide +kernel
theorem dX10_dawn_97 : decode cX10_dawn 97 = .ok (.aload_n 0, 1) := by decide +kernel
theorem dX10_dawn_98 : decode cX10_dawn 98 = .ok (.getfield 35, 3) := by decide +kernel
theorem dX10_dawn_101 : decode cX10_dawn 101 = .ok (.iconst 0, 1) := by decide +kernel
theorem dX10_dawn_102 : decode cX10_dawn 102 = .ok (.iconst 0, 1) := by decide +kernel
theorem dX10_dawn_103 : decode cX10_dawn 103 = .ok (.iastore, 1) := by decide +kernel
theorem dX10_dawn_104 : decode cX10_dawn 104 = .ok (.aload_n 0, 1) := by decide +kernel
theorem dX10_dawn_105 : decode cX10_dawn 105 = .ok (.getfield 35, 3) := by decide +kernel
theorem dX10_dawn_108 : decode cX10_dawn 108 = .ok (.bipush 15, 2) := by decide +kernel
theorem dX10_dawn_110 : decode cX10_dawn 110 = .ok (.dup2, 1) := by decide +kernel
theorem dX10_dawn_111 : decode cX10_dawn 111 = .ok (.iaload, 1) := by decide +kernel
theorem dX10_dawn_112 : decode cX10_dawn 112 = .ok (.iconst 1, 1) := by decide +kernel
theorem dX10_dawn_113 : decode cX10_dawn 113 = .ok (.iadd, 1) := by decide +kernel
theorem dX10_dawn_114 : decode cX10_dawn 114 = .ok (.iastore, 1) := by decide +kernel
theorem dX10_dawn_115 : decode cX10_dawn 115 = .ok (.aload_n 0, 1) := by decide +kernel
theorem dX10_dawn_116 : decode cX10_dawn 116 = .ok (.getfield 35, 3) := by decide +kernel
theorem dX10_dawn_119 : decode cX10_dawn 119 = .ok (.bipush 15, 2) := by decide +kernel
theorem dX10_dawn_121 : decode cX10_dawn 121 = .ok (.iaload, 1) := by decide +kernel
theorem dX10_dawn_122 : decode cX10_dawn 122 = .ok (.ireturn, 1) := by decide +kernel
theorem dX10_today_0 : decode cX10_today 0 = .ok (.iload_n 1, 1) := by decide +kernel
theorem dX10_today_1 : decode cX10_today 1 = .ok (.iconst 0, 1) := by decide +kernel
theorem dX10_today_2 : decode cX10_today 2 = .ok (.iconst 2, 1) := by decide +kernel
theorem dX10_today_3 : decode cX10_today 3 = .ok (.invokestatic 69, 3) := by decide +kernel
theorem dX10_today_6 : decode cX10_today 6 = .ok (.ifCond .ne 6, 3) := by decide +kernel
theorem dX10_today_9 : decode cX10_today 9 = .ok (.bipush (-3), 2) := by decide +kernel
theorem dX10_today_11 : decode cX10_today 11 = .ok (.ireturn, 1) := by decide +kernel
theorem dX10_today_12 : decode cX10_today 12 = .ok (.aload_n 0, 1) := by decide +kernel
theorem dX10_today_13 : decode cX10_today 13 = .ok (.getfield 35, 3) := by decide +kernel
theorem dX10_today_16 : decode cX10_today 16 = .ok (.iconst 0, 1) := by decide +kernel
theorem dX10_today_17 : decode cX10_today 17 = .ok (.iaload, 1) := by decide +kernel
theorem dX10_today_18 : decode cX10_today 18 = .ok (.ifCond .ne 6, 3) := by decide +kernel
theorem dX10_today_21 : decode cX10_today 21 = .ok (.bipush (-4), 2) := by decide +kernel
theorem dX10_today_23 : decode cX10_today 23 = .ok (.ireturn, 1) := by decide +kernel
theorem dX10_today_24 : decode cX10_today 24 = .ok (.aload_n 0, 1) := by decide +kernel
theorem dX10_today_25 : decode cX10_today 25 = .ok (.invokevirtual 190, 3) := by decide +kernel
theorem dX10_today_28 : decode cX10_today 28 = .ok (.iload_n 1, 1) := by decide +kernel
theorem dX10_today_29 : decode cX10_today 29 = .ok (.ifCond .ne 10, 3) := by decide +kernel
theorem dX10_today_32 : decode cX10_today 32 = .ok (.aload_n 0, 1) := by decide +kernel
theorem dX10_today_33 : decode cX10_today 33 = .ok (.invokevirtual 224, 3) := by decide +kernel
theorem dX10_today_36 : decode cX10_today 36 = .ok (.goto 19, 3) := by decide +kernel
theorem dX10_today_39 : decode cX10_today 39 = .ok (.iload_n 1, 1) := by decide +kernel
theorem dX10_today_40 : decode cX10_today 40 = .ok (.iconst 1, 1) := by decide +kernel
theorem dX10_today_41 : decode cX10_today 41 = .ok (.if_icmp .ne 10, 3) := by decide +kernel
theorem dX10_today_44 : decode cX10_today 44 = .ok (.aload_n 0, 1) := by decide +kernel
theorem dX10_today_45 : decode cX10_today 45 = .ok (.invokevirtual 227, 3) := by decide +kernel
theorem dX10_today_48 : decode cX10_today 48 = .ok (.goto 7, 3) := by decide +kernel
theorem dX10_today_51 : decode cX10_today 51 = .ok (.aload_n 0, 1) := by decide +kernel
theorem dX10_today_52 : decode cX10_today 52 = .ok (.invokevirtual 200, 3) := by decide +kernel
theorem dX10_today_55 : decode cX10_today 55 = .ok (.ireturn, 1) := by decide +kernel
theorem dX10_ends_0 : decode cX10_ends 0 = .ok (.iload_n 1, 1) := by decide +kernel
theorem dX10_ends_1 : decode cX10_ends 1 = .ok (.iconst 0, 1) := by decide +kernel
theorem dX10_ends_2 : decode cX10_ends 2 = .ok (.iconst 2, 1) := by decide +kernel
theorem dX10_ends_3 : decode cX10_ends 3 = .ok (.invokestatic 69, 3) := by decide +kernel
theorem dX10_ends_6 : decode cX10_ends 6 = .ok (.ifCond .ne 6, 3) := by decide +kernel
theorem dX10_ends_9 : decode cX10_ends 9 = .ok (.bipush (-3), 2) := by decide +kernel
theorem dX10_ends_11 : decode cX10_ends 11 = .ok (.ireturn, 1) := by decide +kernel
theorem dX10_ends_12 : decode cX10_ends 12 = .ok (.aload_n 0, 1) := by decide +kernel
theorem dX10_ends_13 : decode cX10_ends 13 = .ok (.getfield 35, 3) := by decide +kernel
theorem dX10_ends_16 : decode cX10_ends 16 = .ok (.iconst 0, 1) := by decide +kernel
theorem dX10_ends_17 : decode cX10_ends 17 = .ok (.iaload, 1) := by decide +kernel
theorem dX10_ends_18 : decode cX10_ends 18 = .ok (.ifCond .ne 6, 3) := by decide +kernel
theorem dX10_ends_21 : decode cX10_ends 21 = .ok (.bipush (-4), 2) := by decide +kernel
theorem dX10_ends_23 : decode cX10_ends 23 = .ok (.ireturn, 1) := by decide +kernel
theorem dX10_ends_24 : decode cX10_ends 24 = .ok (.iconst 0, 1) := by decide +kernel
theorem dX10_ends_25 : decode cX10_ends 25 = .ok (.istore_n 2, 1) := by decide +kernel
theorem dX10_ends_26 : decode cX10_ends 26 = .ok (.iload_n 2, 1) := by decide +kernel
theorem dX10_ends_27 : decode cX10_ends 27 = .ok (.sipush 5040, 3) := by decide +kernel
theorem dX10_ends_30 : decode cX10_ends 30 = .ok (.if_icmp .ge 16, 3) := by decide +kernel
theorem dX10_ends_33 : decode cX10_ends 33 = .ok (.aload_n 0, 1) := by decide +kernel
theorem dX10_ends_34 : decode cX10_ends 34 = .ok (.getfield 51, 3) := by decide +kernel
theorem dX10_ends_37 : decode cX10_ends 37 = .ok (.iload_n 2, 1) := by decide +kernel
theorem dX10_ends_38 : decode cX10_ends 38 = .ok (.iconst 0, 1) := by decide +kernel
theorem dX10_ends_39 : decode cX10_ends 39 = .ok (.bastore, 1) := by decide +kernel
theorem dX10_ends_40 : decode cX10_ends 40 = .ok (.iinc 2 1, 3) := by decide +kernel
theorem dX10_ends_43 : decode cX10_ends 43 = .ok (.goto (-17), 3) := by decide +kernel
theorem dX10_ends_46 : decode cX10_ends 46 = .ok (.aload_n 0, 1) := by decide +kernel
theorem dX10_ends_47 : decode cX10_ends 47 = .ok (.invokevirtual 190, 3) := by decide +kernel
theorem dX10_ends_50 : decode cX10_ends 50 = .ok (.aload_n 0, 1) := by decide +kernel
theorem dX10_ends_51 : decode cX10_ends 51 = .ok (.getfield 54, 3) := by decide +kernel
theorem dX10_ends_54 : decode cX10_ends 54 = .ok (.iconst 0, 1) := by decide +kernel
theorem dX10_ends_55 : decode cX10_ends 55 = .ok (.aload_n 0, 1) := by decide +kernel
theorem dX10_ends_56 : decode cX10_ends 56 = .ok (.invokevirtual 224, 3) := by decide +kernel
theorem dX10_ends_59 : decode cX10_ends 59 = .ok (.iastore, 1) := by decide +kernel
theorem dX10_ends_60 : decode cX10_ends 60 = .ok (.aload_n 0, 1) := by decide +kernel
theorem dX10_ends_61 : decode cX10_ends 61 = .ok (.getfield 51, 3) := by decide +kernel
theorem dX10_ends_64 : decode cX10_ends 64 = .ok (.aload_n 0, 1) := by decide +kernel
theorem dX10_ends_65 : decode cX10_ends 65 = .ok (.getfield 54, 3) := by decide +kernel
theorem dX10_ends_68 : decode cX10_ends 68 = .ok (.iconst 0, 1) := by decide +kernel
theorem dX10_ends_69 : decode cX10_ends 69 = .ok (.iaload, 1) := by decide +kernel
theorem dX10_ends_70 : decode cX10_ends 70 = .ok (.iconst 1, 1) := by decide +kernel
theorem dX10_ends_71 : decode cX10_ends 71 = .ok (.bastore, 1) := by decide +kernel
theorem dX10_ends_72 : decode cX10_ends 72 = .ok (.iconst 1, 1) := by decide +kernel
theorem dX10_ends_73 : decode cX10_ends 73 = .ok (.istore_n 2, 1) := by decide +kernel
theorem dX10_ends_74 : decode cX10_ends 74 = .ok (.iconst 0, 1) := by decide +kernel
theorem dX10_ends_75 : decode cX10_ends 75 = .ok (.istore_n 3, 1) := by decide +kernel
theorem dX10_ends_76 : decode cX10_ends 76 = .ok (.iconst (-1), 1) := by decide +kernel
theorem dX10_ends_77 : decode cX10_ends 77 = .ok (.istore 4, 2) := by decide +kernel
theorem dX10_ends_79 : decode cX10_ends 79 = .ok (.iconst (-1), 1) := by decide +kernel
theorem dX10_ends_80 : decode cX10_ends 80 = .ok (.istore 5, 2) := by decide +kernel
theorem dX10_ends_82 : decode cX10_ends 82 = .ok (.iconst 0, 1) := by decide +kernel
theorem dX10_ends_83 : decode cX10_ends 83 = .ok (.istore 6, 2) := by decide +kernel
theorem dX10_ends_85 : decode cX10_ends 85 = .ok (.iload 6, 2) := by decide +kernel
theorem dX10_ends_87 : decode cX10_ends 87 = .ok (.iload_n 2, 1) := by decide +kernel
theorem dX10_ends_88 : decode cX10_ends 88 = .ok (.if_icmp .ge 187, 3) := by decide +kernel
theorem dX10_ends_91 : decode cX10_ends 91 = .ok (.aload_n 0, 1) := by decide +kernel
theorem dX10_ends_92 : decode cX10_ends 92 = .ok (.aload_n 0, 1) := by decide +kernel
theorem dX10_ends_93 : decode cX10_ends 93 = .ok (.getfield 54, 3) := by decide +kernel
theorem dX10_ends_96 : decode cX10_ends 96 = .ok (.iload 6, 2) := by decide +kernel
theorem dX10_ends_98 : decode cX10_ends 98 = .ok (.iaload, 1) := by decide +kernel
theorem dX10_ends_99 : decode cX10_ends 99 = .ok (.invokevirtual 177, 3) := by decide +kernel
theorem dX10_ends_102 : decode cX10_ends 102 = .ok (.aload_n 0, 1) := by decide +kernel
theorem dX10_ends_103 : decode cX10_ends 103 = .ok (.iconst 0, 1) := by decide +kernel
theorem dX10_ends_104 : decode cX10_ends 104 = .ok (.aload_n 0, 1) := by decide +kernel
theorem dX10_ends_105 : decode cX10_ends 105 = .ok (.getfield 13, 3) := by decide +kernel
theorem dX10_ends_108 : decode cX10_ends 108 = .ok (.invokevirtual 217, 3) := by decide +kernel
theorem dX10_ends_111 : decode cX10_ends 111 = .ok (.istore 7, 2) := by decide +kernel
theorem dX10_ends_113 : decode cX10_ends 113 = .ok (.iload 7, 2) := by decide +kernel
theorem dX10_ends_115 : decode cX10_ends 115 = .ok (.iconst (-1), 1) := by decide +kernel
theorem dX10_ends_116 : decode cX10_ends 116 = .ok (.if_icmp .ne 68, 3) := by decide +kernel
theorem dX10_ends_119 : decode cX10_ends 119 = .ok (.aload_n 0, 1) := by decide +kernel
theorem dX10_ends_120 : decode cX10_ends 120 = .ok (.invokevirtual 200, 3) := by decide +kernel
theorem dX10_ends_123 : decode cX10_ends 123 = .ok (.istore 8, 2) := by decide +kernel
theorem dX10_ends_125 : decode cX10_ends 125 = .ok (.iinc 3 1, 3) := by decide +kernel
theorem dX10_ends_128 : decode cX10_ends 128 = .ok (.iload 8, 2) := by decide +kernel
theorem dX10_ends_130 : decode cX10_ends 130 = .ok (.iload 4, 2) := by decide +kernel
theorem dX10_ends_132 : decode cX10_ends 132 = .ok (.if_icmp .gt 22, 3) := by decide +kernel
theorem dX10_ends_135 : decode cX10_ends 135 = .ok (.iload 8, 2) := by decide +kernel
theorem dX10_ends_137 : decode cX10_ends 137 = .ok (.iload 4, 2) := by decide +kernel
theorem dX10_ends_139 : decode cX10_ends 139 = .ok (.if_icmp .ne 25, 3) := by decide +kernel
theorem dX10_ends_142 : decode cX10_ends 142 = .ok (.aload_n 0, 1) := by decide +kernel
theorem dX10_ends_143 : decode cX10_ends 143 = .ok (.getfield 54, 3) := by decide +kernel
theorem dX10_ends_146 : decode cX10_ends 146 = .ok (.iload 6, 2) := by decide +kernel
theorem dX10_ends_148 : decode cX10_ends 148 = .ok (.iaload, 1) := by decide +kernel
theorem dX10_ends_149 : decode cX10_ends 149 = .ok (.iload 5, 2) := by decide +kernel
theorem dX10_ends_151 : decode cX10_ends 151 = .ok (.if_icmp .ge 13, 3) := by decide +kernel
theorem dX10_ends_154 : decode cX10_ends 154 = .ok (.aload_n 0, 1) := by decide +kernel
theorem dX10_ends_155 : decode cX10_ends 155 = .ok (.getfield 54, 3) := by decide +kernel
theorem dX10_ends_158 : decode cX10_ends 158 = .ok (.iload 6, 2) := by decide +kernel
theorem dX10_ends_160 : decode cX10_ends 160 = .ok (.iaload, 1) := by decide +kernel
theorem dX10_ends_161 : decode cX10_ends 161 = .ok (.goto 5, 3) := by decide +kernel
theorem dX10_ends_164 : decode cX10_ends 164 = .ok (.iload 5, 2) := by decide +kernel
theorem dX10_ends_166 : decode cX10_ends 166 = .ok (.istore 5, 2) := by decide +kernel
theorem dX10_ends_168 : decode cX10_ends 168 = .ok (.iload 8, 2) := by decide +kernel
theorem dX10_ends_170 : decode cX10_ends 170 = .ok (.iload 4, 2) := by decide +kernel
theorem dX10_ends_172 : decode cX10_ends 172 = .ok (.if_icmp .le 8, 3) := by decide +kernel
theorem dX10_ends_175 : decode cX10_ends 175 = .ok (.iload 8, 2) := by decide +kernel
theorem dX10_ends_177 : decode cX10_ends 177 = .ok (.goto 5, 3) := by decide +kernel
theorem dX10_ends_180 : decode cX10_ends 180 = .ok (.iload 4, 2) := by decide +kernel
theorem dX10_ends_182 : decode cX10_ends 182 = .ok (.istore 4, 2) := by decide +kernel
theorem dX10_ends_184 : decode cX10_ends 184 = .ok (.iload 7, 2) := by decide +kernel
theorem dX10_ends_186 : decode cX10_ends 186 = .ok (.iconst (-1), 1) := by decide +kernel
theorem dX10_ends_187 : decode cX10_ends 187 = .ok (.if_icmp .eq 82, 3) := by decide +kernel
theorem dX10_ends_190 : decode cX10_ends 190 = .ok (.aload_n 0, 1) := by decide +kernel
theorem dX10_ends_191 : decode cX10_ends 191 = .ok (.aload_n 0, 1) := by decide +kernel
theorem dX10_ends_192 : decode cX10_ends 192 = .ok (.getfield 204, 3) := by decide +kernel
theorem dX10_ends_195 : decode cX10_ends 195 = .ok (.aload_n 0, 1) := by decide +kernel
theorem dX10_ends_196 : decode cX10_ends 196 = .ok (.getfield 207, 3) := by decide +kernel
theorem dX10_ends_199 : decode cX10_ends 199 = .ok (.aload_n 0, 1) := by decide +kernel
theorem dX10_ends_200 : decode cX10_ends 200 = .ok (.getfield 210, 3) := by decide +kernel
theorem dX10_ends_203 : decode cX10_ends 203 = .ok (.invokevirtual 196, 3) := by decide +kernel
theorem dX10_ends_206 : decode cX10_ends 206 = .ok (.aload_n 0, 1) := by decide +kernel
theorem dX10_ends_207 : decode cX10_ends 207 = .ok (.invokevirtual 224, 3) := by decide +kernel
theorem dX10_ends_210 : decode cX10_ends 210 = .ok (.istore 8, 2) := by decide +kernel
theorem dX10_ends_212 : decode cX10_ends 212 = .ok (.aload_n 0, 1) := by decide +kernel
theorem dX10_ends_213 : decode cX10_ends 213 = .ok (.getfield 51, 3) := by decide +kernel
theorem dX10_ends_216 : decode cX10_ends 216 = .ok (.iload 8, 2) := by decide +kernel
theorem dX10_ends_218 : decode cX10_ends 218 = .ok (.baload, 1) := by decide +kernel
theorem dX10_ends_219 : decode cX10_ends 219 = .ok (.ifCond .ne 22, 3) := by decide +kernel
theorem dX10_ends_222 : decode cX10_ends 222 = .ok (.aload_n 0, 1) := by decide +kernel
theorem dX10_ends_223 : decode cX10_ends 223 = .ok (.getfield 51, 3) := by decide +kernel
theorem dX10_ends_226 : decode cX10_ends 226 = .ok (.iload 8, 2) := by decide +kernel
theorem dX10_ends_228 : decode cX10_ends 228 = .ok (.iconst 1, 1) := by decide +kernel
theorem dX10_ends_229 : decode cX10_ends 229 = .ok (.bastore, 1) := by decide +kernel
theorem dX10_ends_230 : decode cX10_ends 230 = .ok (.aload_n 0, 1) := by decide +kernel
theorem dX10_ends_231 : decode cX10_ends 231 = .ok (.getfield 54, 3) := by decide +kernel
theorem dX10_ends_234 : decode cX10_ends 234 = .ok (.iload_n 2, 1) := by decide +kernel
theorem dX10_ends_235 : decode cX10_ends 235 = .ok (.iload 8, 2) := by decide +kernel
theorem dX10_ends_237 : decode cX10_ends 237 = .ok (.iastore, 1) := by decide +kernel
theorem dX10_ends_238 : decode cX10_ends 238 = .ok (.iinc 2 1, 3) := by decide +kernel
theorem dX10_ends_241 : decode cX10_ends 241 = .ok (.aload_n 0, 1) := by decide +kernel
theorem dX10_ends_242 : decode cX10_ends 242 = .ok (.aload_n 0, 1) := by decide +kernel
theorem dX10_ends_243 : decode cX10_ends 243 = .ok (.getfield 54, 3) := by decide +kernel
theorem dX10_ends_246 : decode cX10_ends 246 = .ok (.iload 6, 2) := by decide +kernel
theorem dX10_ends_248 : decode cX10_ends 248 = .ok (.iaload, 1) := by decide +kernel
theorem dX10_ends_249 : decode cX10_ends 249 = .ok (.invokevirtual 177, 3) := by decide +kernel
theorem dX10_ends_252 : decode cX10_ends 252 = .ok (.aload_n 0, 1) := by decide +kernel
theorem dX10_ends_253 : decode cX10_ends 253 = .ok (.iload 7, 2) := by decide +kernel
theorem dX10_ends_255 : decode cX10_ends 255 = .ok (.iconst 1, 1) := by decide +kernel
theorem dX10_ends_256 : decode cX10_ends 256 = .ok (.iadd, 1) := by decide +kernel
theorem dX10_ends_257 : decode cX10_ends 257 = .ok (.aload_n 0, 1) := by decide +kernel
theorem dX10_ends_258 : decode cX10_ends 258 = .ok (.getfield 13, 3) := by decide +kernel
theorem dX10_ends_261 : decode cX10_ends 261 = .ok (.invokevirtual 217, 3) := by decide +kernel
theorem dX10_ends_264 : decode cX10_ends 264 = .ok (.istore 7, 2) := by decide +kernel
theorem dX10_ends_266 : decode cX10_ends 266 = .ok (.goto (-82), 3) := by decide +kernel
theorem dX10_ends_269 : decode cX10_ends 269 = .ok (.iinc 6 1, 3) := by decide +kernel
theorem dX10_ends_272 : decode cX10_ends 272 = .ok (.goto (-187), 3) := by decide +kernel
theorem dX10_ends_275 : decode cX10_ends 275 = .ok (.iload_n 1, 1) := by decide +kernel
theorem dX10_ends_276 : decode cX10_ends 276 = .ok (.ifCond .ne 7, 3) := by decide +kernel
theorem dX10_ends_279 : decode cX10_ends 279 = .ok (.iload_n 3, 1) := by decide +kernel
theorem dX10_ends_280 : decode cX10_ends 280 = .ok (.goto 15, 3) := by decide +kernel
theorem dX10_ends_283 : decode cX10_ends 283 = .ok (.iload_n 1, 1) := by decide +kernel
theorem dX10_ends_284 : decode cX10_ends 284 = .ok (.iconst 1, 1) := by decide +kernel
theorem dX10_ends_285 : decode cX10_ends 285 = .ok (.if_icmp .ne 8, 3) := by decide +kernel
theorem dX10_ends_288 : decode cX10_ends 288 = .ok (.iload 4, 2) := by decide +kernel
theorem dX10_ends_290 : decode cX10_ends 290 = .ok (.goto 5, 3) := by decide +kernel
theorem dX10_ends_293 : decode cX10_ends 293 = .ok (.iload 5, 2) := by decide +kernel
theorem dX10_ends_295 : decode cX10_ends 295 = .ok (.ireturn, 1) := by decide +kernel
theorem dX10_hint_0 : decode cX10_hint 0 = .ok (.aload_n 0, 1) := by decide +kernel
theorem dX10_hint_1 : decode cX10_hint 1 = .ok (.iload_n 1, 1) := by decide +kernel
theorem dX10_hint_2 : decode cX10_hint 2 = .ok (.invokevirtual 166, 3) := by decide +kernel
theorem dX10_hint_5 : decode cX10_hint 5 = .ok (.ifCond .ne 6, 3) := by decide +kernel
theorem dX10_hint_8 : decode cX10_hint 8 = .ok (.bipush (-2), 2) := by decide +kernel
theorem dX10_hint_10 : decode cX10_hint 10 = .ok (.ireturn, 1) := by decide +kernel
theorem dX10_hint_11 : decode cX10_hint 11 = .ok (.aload_n 0, 1) := by decide +kernel
theorem dX10_hint_12 : decode cX10_hint 12 = .ok (.getfield 35, 3) := by decide +kernel
theorem dX10_hint_15 : decode cX10_hint 15 = .ok (.iconst 0, 1) := by decide +kernel
theorem dX10_hint_16 : decode cX10_hint 16 = .ok (.iaload, 1) := by decide +kernel
theorem dX10_hint_17 : decode cX10_hint 17 = .ok (.ifCond .ne 6, 3) := by decide +kernel
theorem dX10_hint_20 : decode cX10_hint 20 = .ok (.bipush (-4), 2) := by decide +kernel
theorem dX10_hint_22 : decode cX10_hint 22 = .ok (.ireturn, 1) := by decide +kernel
theorem dX10_hint_23 : decode cX10_hint 23 = .ok (.aload_n 0, 1) := by decide +kernel
theorem dX10_hint_24 : decode cX10_hint 24 = .ok (.invokevirtual 190, 3) := by decide +kernel
theorem dX10_hint_27 : decode cX10_hint 27 = .ok (.iconst (-1), 1) := by decide +kernel
theorem dX10_hint_28 : decode cX10_hint 28 = .ok (.istore_n 2, 1) := by decide +kernel
theorem dX10_hint_29 : decode cX10_hint 29 = .ok (.aload_n 0, 1) := by decide +kernel
theorem dX10_hint_30 : decode cX10_hint 30 = .ok (.iconst 0, 1) := by decide +kernel
theorem dX10_hint_31 : decode cX10_hint 31 = .ok (.aload_n 0, 1) := by decide +kernel
theorem dX10_hint_32 : decode cX10_hint 32 = .ok (.getfield 13, 3) := by decide +kernel
theorem dX10_hint_35 : decode cX10_hint 35 = .ok (.invokevirtual 217, 3) := by decide +kernel
theorem dX10_hint_38 : decode cX10_hint 38 = .ok (.istore_n 3, 1) := by decide +kernel
theorem dX10_hint_39 : decode cX10_hint 39 = .ok (.iload_n 3, 1) := by decide +kernel
theorem dX10_hint_40 : decode cX10_hint 40 = .ok (.iconst (-1), 1) := by decide +kernel
theorem dX10_hint_41 : decode cX10_hint 41 = .ok (.if_icmp .eq 171, 3) := by decide +kernel
theorem dX10_hint_44 : decode cX10_hint 44 = .ok (.aload_n 0, 1) := by decide +kernel
theorem dX10_hint_45 : decode cX10_hint 45 = .ok (.getfield 204, 3) := by decide +kernel
theorem dX10_hint_48 : decode cX10_hint 48 = .ok (.iload_n 1, 1) := by decide +kernel
theorem dX10_hint_49 : decode cX10_hint 49 = .ok (.if_icmp .eq 19, 3) := by decide +kernel
theorem dX10_hint_52 : decode cX10_hint 52 = .ok (.aload_n 0, 1) := by decide +kernel
theorem dX10_hint_53 : decode cX10_hint 53 = .ok (.getfield 207, 3) := by decide +kernel
theorem dX10_hint_56 : decode cX10_hint 56 = .ok (.iload_n 1, 1) := by decide +kernel
theorem dX10_hint_57 : decode cX10_hint 57 = .ok (.if_icmp .eq 11, 3) := by decide +kernel
theorem dX10_hint_60 : decode cX10_hint 60 = .ok (.aload_n 0, 1) := by decide +kernel
theorem dX10_hint_61 : decode cX10_hint 61 = .ok (.getfield 210, 3) := by decide +kernel
theorem dX10_hint_64 : decode cX10_hint 64 = .ok (.iload_n 1, 1) := by decide +kernel
theorem dX10_hint_65 : decode cX10_hint 65 = .ok (.if_icmp .ne 7, 3) := by decide +kernel
theorem dX10_hint_68 : decode cX10_hint 68 = .ok (.iconst 1, 1) := by decide +kernel
theorem dX10_hint_69 : decode cX10_hint 69 = .ok (.goto 4, 3) := by decide +kernel
theorem dX10_hint_72 : decode cX10_hint 72 = .ok (.iconst 0, 1) := by decide +kernel
theorem dX10_hint_73 : decode cX10_hint 73 = .ok (.istore 4, 2) := by decide +kernel
theorem dX10_hint_75 : decode cX10_hint 75 = .ok (.iload 4, 2) := by decide +kernel
theorem dX10_hint_77 : decode cX10_hint 77 = .ok (.ifCond .eq 120, 3) := by decide +kernel
theorem dX10_hint_80 : decode cX10_hint 80 = .ok (.aload_n 0, 1) := by decide +kernel
theorem dX10_hint_81 : decode cX10_hint 81 = .ok (.getfield 204, 3) := by decide +kernel
theorem dX10_hint_84 : decode cX10_hint 84 = .ok (.iload_n 1, 1) := by decide +kernel
theorem dX10_hint_85 : decode cX10_hint 85 = .ok (.if_icmp .ne 15, 3) := by decide +kernel
theorem dX10_hint_88 : decode cX10_hint 88 = .ok (.aload_n 0, 1) := by decide +kernel
theorem dX10_hint_89 : decode cX10_hint 89 = .ok (.getfield 45, 3) := by decide +kernel
theorem dX10_hint_92 : decode cX10_hint 92 = .ok (.aload_n 0, 1) := by decide +kernel
theorem dX10_hint_93 : decode cX10_hint 93 = .ok (.getfield 207, 3) := by decide +kernel
theorem dX10_hint_96 : decode cX10_hint 96 = .ok (.iaload, 1) := by decide +kernel
theorem dX10_hint_97 : decode cX10_hint 97 = .ok (.goto 40, 3) := by decide +kernel
theorem dX10_hint_100 : decode cX10_hint 100 = .ok (.aload_n 0, 1) := by decide +kernel
theorem dX10_hint_101 : decode cX10_hint 101 = .ok (.getfield 210, 3) := by decide +kernel
theorem dX10_hint_104 : decode cX10_hint 104 = .ok (.iload_n 1, 1) := by decide +kernel
theorem dX10_hint_105 : decode cX10_hint 105 = .ok (.if_icmp .eq 11, 3) := by decide +kernel
theorem dX10_hint_108 : decode cX10_hint 108 = .ok (.aload_n 0, 1) := by decide +kernel
theorem dX10_hint_109 : decode cX10_hint 109 = .ok (.getfield 210, 3) := by decide +kernel
theorem dX10_hint_112 : decode cX10_hint 112 = .ok (.iconst (-1), 1) := by decide +kernel
theorem dX10_hint_113 : decode cX10_hint 113 = .ok (.if_icmp .ne 15, 3) := by decide +kernel
theorem dX10_hint_116 : decode cX10_hint 116 = .ok (.aload_n 0, 1) := by decide +kernel
theorem dX10_hint_117 : decode cX10_hint 117 = .ok (.getfield 45, 3) := by decide +kernel
theorem dX10_hint_120 : decode cX10_hint 120 = .ok (.aload_n 0, 1) := by decide +kernel
theorem dX10_hint_121 : decode cX10_hint 121 = .ok (.getfield 204, 3) := by decide +kernel
theorem dX10_hint_124 : decode cX10_hint 124 = .ok (.iaload, 1) := by decide +kernel
theorem dX10_hint_125 : decode cX10_hint 125 = .ok (.goto 12, 3) := by decide +kernel
theorem dX10_hint_128 : decode cX10_hint 128 = .ok (.aload_n 0, 1) := by decide +kernel
theorem dX10_hint_129 : decode cX10_hint 129 = .ok (.getfield 45, 3) := by decide +kernel
theorem dX10_hint_132 : decode cX10_hint 132 = .ok (.aload_n 0, 1) := by decide +kernel
theorem dX10_hint_133 : decode cX10_hint 133 = .ok (.getfield 210, 3) := by decide +kernel
theorem dX10_hint_136 : decode cX10_hint 136 = .ok (.iaload, 1) := by decide +kernel
theorem dX10_hint_137 : decode cX10_hint 137 = .ok (.istore 5, 2) := by decide +kernel
theorem dX10_hint_139 : decode cX10_hint 139 = .ok (.iload_n 2, 1) := by decide +kernel
theorem dX10_hint_140 : decode cX10_hint 140 = .ok (.iconst (-1), 1) := by decide +kernel
theorem dX10_hint_141 : decode cX10_hint 141 = .ok (.if_icmp .ne 7, 3) := by decide +kernel
theorem dX10_hint_144 : decode cX10_hint 144 = .ok (.iconst 1, 1) := by decide +kernel
theorem dX10_hint_145 : decode cX10_hint 145 = .ok (.goto 27, 3) := by decide +kernel
theorem dX10_hint_148 : decode cX10_hint 148 = .ok (.aload_n 0, 1) := by decide +kernel
theorem dX10_hint_149 : decode cX10_hint 149 = .ok (.getfield 20, 3) := by decide +kernel
theorem dX10_hint_152 : decode cX10_hint 152 = .ok (.bipush 7, 2) := by decide +kernel
theorem dX10_hint_154 : decode cX10_hint 154 = .ok (.iload_n 1, 1) := by decide +kernel
theorem dX10_hint_155 : decode cX10_hint 155 = .ok (.imul, 1) := by decide +kernel
theorem dX10_hint_156 : decode cX10_hint 156 = .ok (.iload 5, 2) := by decide +kernel
theorem dX10_hint_158 : decode cX10_hint 158 = .ok (.iadd, 1) := by decide +kernel
theorem dX10_hint_159 : decode cX10_hint 159 = .ok (.iaload, 1) := by decide +kernel
theorem dX10_hint_160 : decode cX10_hint 160 = .ok (.aload_n 0, 1) := by decide +kernel
theorem dX10_hint_161 : decode cX10_hint 161 = .ok (.getfield 20, 3) := by decide +kernel
theorem dX10_hint_164 : decode cX10_hint 164 = .ok (.bipush 7, 2) := by decide +kernel
theorem dX10_hint_166 : decode cX10_hint 166 = .ok (.iload_n 1, 1) := by decide +kernel
theorem dX10_hint_167 : decode cX10_hint 167 = .ok (.imul, 1) := by decide +kernel
theorem dX10_hint_168 : decode cX10_hint 168 = .ok (.iload_n 2, 1) := by decide +kernel
theorem dX10_hint_169 : decode cX10_hint 169 = .ok (.iadd, 1) := by decide +kernel
theorem dX10_hint_170 : decode cX10_hint 170 = .ok (.iaload, 1) := by decide +kernel
theorem dX10_hint_171 : decode cX10_hint 171 = .ok (.isub, 1) := by decide +kernel
theorem dX10_hint_172 : decode cX10_hint 172 = .ok (.istore 6, 2) := by decide +kernel
theorem dX10_hint_174 : decode cX10_hint 174 = .ok (.iload 6, 2) := by decide +kernel
theorem dX10_hint_176 : decode cX10_hint 176 = .ok (.ifCond .gt 14, 3) := by decide +kernel
theorem dX10_hint_179 : decode cX10_hint 179 = .ok (.iload 6, 2) := by decide +kernel
theorem dX10_hint_181 : decode cX10_hint 181 = .ok (.ifCond .ne 14, 3) := by decide +kernel
theorem dX10_hint_184 : decode cX10_hint 184 = .ok (.iload 5, 2) := by decide +kernel
theorem dX10_hint_186 : decode cX10_hint 186 = .ok (.iload_n 2, 1) := by decide +kernel
theorem dX10_hint_187 : decode cX10_hint 187 = .ok (.if_icmp .ge 8, 3) := by decide +kernel
theorem dX10_hint_190 : decode cX10_hint 190 = .ok (.iload 5, 2) := by decide +kernel
theorem dX10_hint_192 : decode cX10_hint 192 = .ok (.goto 4, 3) := by decide +kernel
theorem dX10_hint_195 : decode cX10_hint 195 = .ok (.iload_n 2, 1) := by decide +kernel
theorem dX10_hint_196 : decode cX10_hint 196 = .ok (.istore_n 2, 1) := by decide +kernel
theorem dX10_hint_197 : decode cX10_hint 197 = .ok (.aload_n 0, 1) := by decide +kernel
theorem dX10_hint_198 : decode cX10_hint 198 = .ok (.iload_n 3, 1) := by decide +kernel
theorem dX10_hint_199 : decode cX10_hint 199 = .ok (.iconst 1, 1) := by decide +kernel
theorem dX10_hint_200 : decode cX10_hint 200 = .ok (.iadd, 1) := by decide +kernel
theorem dX10_hint_201 : decode cX10_hint 201 = .ok (.aload_n 0, 1) := by decide +kernel
theorem dX10_hint_202 : decode cX10_hint 202 = .ok (.getfield 13, 3) := by decide +kernel
theorem dX10_hint_205 : decode cX10_hint 205 = .ok (.invokevirtual 217, 3) := by decide +kernel
theorem dX10_hint_208 : decode cX10_hint 208 = .ok (.istore_n 3, 1) := by decide +kernel
theorem dX10_hint_209 : decode cX10_hint 209 = .ok (.goto (-170), 3) := by decide +kernel
theorem dX10_hint_212 : decode cX10_hint 212 = .ok (.iload_n 2, 1) := by decide +kernel
theorem dX10_hint_213 : decode cX10_hint 213 = .ok (.ireturn, 1) := by decide +kernel
theorem dX10_lawful_0 : decode cX10_lawful 0 = .ok (.iconst 0, 1) := by decide +kernel
theorem dX10_lawful_1 : decode cX10_lawful 1 = .ok (.istore_n 1, 1) := by decide +kernel
theorem dX10_lawful_2 : decode cX10_lawful 2 = .ok (.iconst 0, 1) := by decide +kernel
theorem dX10_lawful_3 : decode cX10_lawful 3 = .ok (.istore_n 2, 1) := by decide +kernel
theorem dX10_lawful_4 : decode cX10_lawful 4 = .ok (.iload_n 2, 1) := by decide +kernel
theorem dX10_lawful_5 : decode cX10_lawful 5 = .ok (.aload_n 0, 1) := by decide +kernel
theorem dX10_lawful_6 : decode cX10_lawful 6 = .ok (.getfield 7, 3) := by decide +kernel
theorem dX10_lawful_9 : decode cX10_lawful 9 = .ok (.invokestatic 173, 3) := by decide +kernel
theorem dX10_lawful_12 : decode cX10_lawful 12 = .ok (.if_icmp .ge 29, 3) := by decide +kernel
end
section
theorem dX10_lawful_15 : decode cX10_lawful 15 = .ok (.aload_n 0, 1) := by decide +kernel
theorem dX10_lawful_16 : decode cX10_lawful 16 = .ok (.iload_n 2, 1) := by decide +kernel
theorem dX10_lawful_17 : decode cX10_lawful 17 = .ok (.invokevirtual 177, 3) := by decide +kernel
theorem dX10_lawful_20 : decode cX10_lawful 20 = .ok (.iload_n 1, 1) := by decide +kernel
theorem dX10_lawful_21 : decode cX10_lawful 21 = .ok (.aload_n 0, 1) := by decide +kernel
theorem dX10_lawful_22 : decode cX10_lawful 22 = .ok (.invokevirtual 180, 3) := by decide +kernel
theorem dX10_lawful_25 : decode cX10_lawful 25 = .ok (.ifCond .eq 7, 3) := by decide +kernel
theorem dX10_lawful_28 : decode cX10_lawful 28 = .ok (.iconst 1, 1) := by decide +kernel
theorem dX10_lawful_29 : decode cX10_lawful 29 = .ok (.goto 4, 3) := by decide +kernel
theorem dX10_lawful_32 : decode cX10_lawful 32 = .ok (.iconst 0, 1) := by decide +kernel
theorem dX10_lawful_33 : decode cX10_lawful 33 = .ok (.iadd, 1) := by decide +kernel
theorem dX10_lawful_34 : decode cX10_lawful 34 = .ok (.istore_n 1, 1) := by decide +kernel
theorem dX10_lawful_35 : decode cX10_lawful 35 = .ok (.iinc 2 1, 3) := by decide +kernel
theorem dX10_lawful_38 : decode cX10_lawful 38 = .ok (.goto (-34), 3) := by decide +kernel
theorem dX10_lawful_41 : decode cX10_lawful 41 = .ok (.iload_n 1, 1) := by decide +kernel
theorem dX10_lawful_42 : decode cX10_lawful 42 = .ok (.ireturn, 1) := by decide +kernel
theorem dX10_divisor_0 : decode cX10_divisor 0 = .ok (.iload_n 0, 1) := by decide +kernel
theorem dX10_divisor_1 : decode cX10_divisor 1 = .ok (.istore_n 2, 1) := by decide +kernel
theorem dX10_divisor_2 : decode cX10_divisor 2 = .ok (.iload_n 1, 1) := by decide +kernel
theorem dX10_divisor_3 : decode cX10_divisor 3 = .ok (.istore_n 3, 1) := by decide +kernel
theorem dX10_divisor_4 : decode cX10_divisor 4 = .ok (.iload_n 3, 1) := by decide +kernel
theorem dX10_divisor_5 : decode cX10_divisor 5 = .ok (.ifCond .eq 16, 3) := by decide +kernel
theorem dX10_divisor_8 : decode cX10_divisor 8 = .ok (.iload_n 2, 1) := by decide +kernel
theorem dX10_divisor_9 : decode cX10_divisor 9 = .ok (.iload_n 3, 1) := by decide +kernel
theorem dX10_divisor_10 : decode cX10_divisor 10 = .ok (.irem, 1) := by decide +kernel
theorem dX10_divisor_11 : decode cX10_divisor 11 = .ok (.istore 4, 2) := by decide +kernel
theorem dX10_divisor_13 : decode cX10_divisor 13 = .ok (.iload_n 3, 1) := by decide +kernel
theorem dX10_divisor_14 : decode cX10_divisor 14 = .ok (.istore_n 2, 1) := by decide +kernel
theorem dX10_divisor_15 : decode cX10_divisor 15 = .ok (.iload 4, 2) := by decide +kernel
theorem dX10_divisor_17 : decode cX10_divisor 17 = .ok (.istore_n 3, 1) := by decide +kernel
theorem dX10_divisor_18 : decode cX10_divisor 18 = .ok (.goto (-14), 3) := by decide +kernel
theorem dX10_divisor_21 : decode cX10_divisor 21 = .ok (.iload_n 2, 1) := by decide +kernel
theorem dX10_divisor_22 : decode cX10_divisor 22 = .ok (.ireturn, 1) := by decide +kernel
theorem dX10_isRingNumber_0 : decode cX10_isRingNumber 0 = .ok (.iload_n 0, 1) := by decide +kernel
theorem dX10_isRingNumber_1 : decode cX10_isRingNumber 1 = .ok (.ifCond .eq 13, 3) := by decide +kernel
theorem dX10_isRingNumber_4 : decode cX10_isRingNumber 4 = .ok (.iload_n 0, 1) := by decide +kernel
theorem dX10_isRingNumber_5 : decode cX10_isRingNumber 5 = .ok (.iconst 2, 1) := by decide +kernel
theorem dX10_isRingNumber_6 : decode cX10_isRingNumber 6 = .ok (.if_icmp .eq 8, 3) := by decide +kernel
theorem dX10_isRingNumber_9 : decode cX10_isRingNumber 9 = .ok (.iload_n 0, 1) := by decide +kernel
theorem dX10_isRingNumber_10 : decode cX10_isRingNumber 10 = .ok (.iconst 3, 1) := by decide +kernel
theorem dX10_isRingNumber_11 : decode cX10_isRingNumber 11 = .ok (.if_icmp .ne 7, 3) := by decide +kernel
theorem dX10_isRingNumber_14 : decode cX10_isRingNumber 14 = .ok (.iconst 1, 1) := by decide +kernel
theorem dX10_isRingNumber_15 : decode cX10_isRingNumber 15 = .ok (.goto 4, 3) := by decide +kernel
theorem dX10_isRingNumber_18 : decode cX10_isRingNumber 18 = .ok (.iconst 0, 1) := by decide +kernel
theorem dX10_isRingNumber_19 : decode cX10_isRingNumber 19 = .ok (.ireturn, 1) := by decide +kernel
theorem dX10_mean_0 : decode cX10_mean 0 = .ok (.iload_n 1, 1) := by decide +kernel
theorem dX10_mean_1 : decode cX10_mean 1 = .ok (.invokestatic 230, 3) := by decide +kernel
theorem dX10_mean_4 : decode cX10_mean 4 = .ok (.ifCond .eq 21, 3) := by decide +kernel
theorem dX10_mean_7 : decode cX10_mean 7 = .ok (.iload_n 2, 1) := by decide +kernel
theorem dX10_mean_8 : decode cX10_mean 8 = .ok (.iconst 0, 1) := by decide +kernel
theorem dX10_mean_9 : decode cX10_mean 9 = .ok (.iconst 1, 1) := by decide +kernel
theorem dX10_mean_10 : decode cX10_mean 10 = .ok (.invokestatic 69, 3) := by decide +kernel
theorem dX10_mean_13 : decode cX10_mean 13 = .ok (.ifCond .eq 12, 3) := by decide +kernel
theorem dX10_mean_16 : decode cX10_mean 16 = .ok (.iload_n 3, 1) := by decide +kernel
theorem dX10_mean_17 : decode cX10_mean 17 = .ok (.iconst 0, 1) := by decide +kernel
theorem dX10_mean_18 : decode cX10_mean 18 = .ok (.iconst 1, 1) := by decide +kernel
theorem dX10_mean_19 : decode cX10_mean 19 = .ok (.invokestatic 69, 3) := by decide +kernel
theorem dX10_mean_22 : decode cX10_mean 22 = .ok (.ifCond .ne 6, 3) := by decide +kernel
theorem dX10_mean_25 : decode cX10_mean 25 = .ok (.bipush (-3), 2) := by decide +kernel
theorem dX10_mean_27 : decode cX10_mean 27 = .ok (.ireturn, 1) := by decide +kernel
theorem dX10_mean_28 : decode cX10_mean 28 = .ok (.iconst 0, 1) := by decide +kernel
theorem dX10_mean_29 : decode cX10_mean 29 = .ok (.istore 4, 2) := by decide +kernel
theorem dX10_mean_31 : decode cX10_mean 31 = .ok (.iconst 0, 1) := by decide +kernel
theorem dX10_mean_32 : decode cX10_mean 32 = .ok (.istore 5, 2) := by decide +kernel
theorem dX10_mean_34 : decode cX10_mean 34 = .ok (.iconst 0, 1) := by decide +kernel
theorem dX10_mean_35 : decode cX10_mean 35 = .ok (.istore 6, 2) := by decide +kernel
theorem dX10_mean_37 : decode cX10_mean 37 = .ok (.iload 6, 2) := by decide +kernel
theorem dX10_mean_39 : decode cX10_mean 39 = .ok (.aload_n 0, 1) := by decide +kernel
theorem dX10_mean_40 : decode cX10_mean 40 = .ok (.getfield 7, 3) := by decide +kernel
theorem dX10_mean_43 : decode cX10_mean 43 = .ok (.invokestatic 173, 3) := by decide +kernel
theorem dX10_mean_46 : decode cX10_mean 46 = .ok (.if_icmp .ge 51, 3) := by decide +kernel
theorem dX10_mean_49 : decode cX10_mean 49 = .ok (.aload_n 0, 1) := by decide +kernel
theorem dX10_mean_50 : decode cX10_mean 50 = .ok (.iload 6, 2) := by decide +kernel
theorem dX10_mean_52 : decode cX10_mean 52 = .ok (.invokevirtual 177, 3) := by decide +kernel
theorem dX10_mean_55 : decode cX10_mean 55 = .ok (.aload_n 0, 1) := by decide +kernel
theorem dX10_mean_56 : decode cX10_mean 56 = .ok (.invokevirtual 180, 3) := by decide +kernel
theorem dX10_mean_59 : decode cX10_mean 59 = .ok (.ifCond .eq 32, 3) := by decide +kernel
theorem dX10_mean_62 : decode cX10_mean 62 = .ok (.aload_n 0, 1) := by decide +kernel
theorem dX10_mean_63 : decode cX10_mean 63 = .ok (.iload_n 1, 1) := by decide +kernel
theorem dX10_mean_64 : decode cX10_mean 64 = .ok (.invokevirtual 221, 3) := by decide +kernel
theorem dX10_mean_67 : decode cX10_mean 67 = .ok (.pop, 1) := by decide +kernel
theorem dX10_mean_68 : decode cX10_mean 68 = .ok (.iload 4, 2) := by decide +kernel
theorem dX10_mean_70 : decode cX10_mean 70 = .ok (.iload_n 2, 1) := by decide +kernel
theorem dX10_mean_71 : decode cX10_mean 71 = .ok (.ifCond .ne 10, 3) := by decide +kernel
theorem dX10_mean_74 : decode cX10_mean 74 = .ok (.aload_n 0, 1) := by decide +kernel
theorem dX10_mean_75 : decode cX10_mean 75 = .ok (.invokevirtual 227, 3) := by decide +kernel
theorem dX10_mean_78 : decode cX10_mean 78 = .ok (.goto 7, 3) := by decide +kernel
theorem dX10_mean_81 : decode cX10_mean 81 = .ok (.aload_n 0, 1) := by decide +kernel
theorem dX10_mean_82 : decode cX10_mean 82 = .ok (.invokevirtual 200, 3) := by decide +kernel
theorem dX10_mean_85 : decode cX10_mean 85 = .ok (.iadd, 1) := by decide +kernel
theorem dX10_mean_86 : decode cX10_mean 86 = .ok (.istore 4, 2) := by decide +kernel
theorem dX10_mean_88 : decode cX10_mean 88 = .ok (.iinc 5 1, 3) := by decide +kernel
theorem dX10_mean_91 : decode cX10_mean 91 = .ok (.iinc 6 1, 3) := by decide +kernel
theorem dX10_mean_94 : decode cX10_mean 94 = .ok (.goto (-57), 3) := by decide +kernel
theorem dX10_mean_97 : decode cX10_mean 97 = .ok (.iload 5, 2) := by decide +kernel
theorem dX10_mean_99 : decode cX10_mean 99 = .ok (.ifCond .ne 8, 3) := by decide +kernel
theorem dX10_mean_102 : decode cX10_mean 102 = .ok (.bipush (-4), 2) := by decide +kernel
theorem dX10_mean_104 : decode cX10_mean 104 = .ok (.goto 22, 3) := by decide +kernel
theorem dX10_mean_107 : decode cX10_mean 107 = .ok (.iload_n 3, 1) := by decide +kernel
theorem dX10_mean_108 : decode cX10_mean 108 = .ok (.ifCond .ne 8, 3) := by decide +kernel
theorem dX10_mean_111 : decode cX10_mean 111 = .ok (.iload 4, 2) := by decide +kernel
theorem dX10_mean_113 : decode cX10_mean 113 = .ok (.goto 5, 3) := by decide +kernel
theorem dX10_mean_116 : decode cX10_mean 116 = .ok (.iload 5, 2) := by decide +kernel
theorem dX10_mean_118 : decode cX10_mean 118 = .ok (.iload 4, 2) := by decide +kernel
theorem dX10_mean_120 : decode cX10_mean 120 = .ok (.iload 5, 2) := by decide +kernel
theorem dX10_mean_122 : decode cX10_mean 122 = .ok (.invokestatic 233, 3) := by decide +kernel
theorem dX10_mean_125 : decode cX10_mean 125 = .ok (.idiv, 1) := by decide +kernel
theorem dX10_mean_126 : decode cX10_mean 126 = .ok (.ireturn, 1) := by decide +kernel
theorem dX10_odds_0 : decode cX10_odds 0 = .ok (.aload_n 0, 1) := by decide +kernel
theorem dX10_odds_1 : decode cX10_odds 1 = .ok (.iload_n 1, 1) := by decide +kernel
theorem dX10_odds_2 : decode cX10_odds 2 = .ok (.invokevirtual 166, 3) := by decide +kernel
theorem dX10_odds_5 : decode cX10_odds 5 = .ok (.ifCond .eq 11, 3) := by decide +kernel
theorem dX10_odds_8 : decode cX10_odds 8 = .ok (.aload_n 0, 1) := by decide +kernel
theorem dX10_odds_9 : decode cX10_odds 9 = .ok (.iload_n 2, 1) := by decide +kernel
theorem dX10_odds_10 : decode cX10_odds 10 = .ok (.invokevirtual 166, 3) := by decide +kernel
theorem dX10_odds_13 : decode cX10_odds 13 = .ok (.ifCond .ne 6, 3) := by decide +kernel
theorem dX10_odds_16 : decode cX10_odds 16 = .ok (.bipush (-2), 2) := by decide +kernel
theorem dX10_odds_18 : decode cX10_odds 18 = .ok (.ireturn, 1) := by decide +kernel
theorem dX10_odds_19 : decode cX10_odds 19 = .ok (.iload_n 3, 1) := by decide +kernel
theorem dX10_odds_20 : decode cX10_odds 20 = .ok (.invokestatic 230, 3) := by decide +kernel
theorem dX10_odds_23 : decode cX10_odds 23 = .ok (.ifCond .eq 13, 3) := by decide +kernel
theorem dX10_odds_26 : decode cX10_odds 26 = .ok (.iload 4, 2) := by decide +kernel
theorem dX10_odds_28 : decode cX10_odds 28 = .ok (.iconst 0, 1) := by decide +kernel
theorem dX10_odds_29 : decode cX10_odds 29 = .ok (.iconst 1, 1) := by decide +kernel
theorem dX10_odds_30 : decode cX10_odds 30 = .ok (.invokestatic 69, 3) := by decide +kernel
theorem dX10_odds_33 : decode cX10_odds 33 = .ok (.ifCond .ne 6, 3) := by decide +kernel
theorem dX10_odds_36 : decode cX10_odds 36 = .ok (.bipush (-3), 2) := by decide +kernel
theorem dX10_odds_38 : decode cX10_odds 38 = .ok (.ireturn, 1) := by decide +kernel
theorem dX10_odds_39 : decode cX10_odds 39 = .ok (.iconst 0, 1) := by decide +kernel
theorem dX10_odds_40 : decode cX10_odds 40 = .ok (.istore 5, 2) := by decide +kernel
theorem dX10_odds_42 : decode cX10_odds 42 = .ok (.iconst 0, 1) := by decide +kernel
theorem dX10_odds_43 : decode cX10_odds 43 = .ok (.istore 6, 2) := by decide +kernel
theorem dX10_odds_45 : decode cX10_odds 45 = .ok (.iconst 0, 1) := by decide +kernel
theorem dX10_odds_46 : decode cX10_odds 46 = .ok (.istore 7, 2) := by decide +kernel
theorem dX10_odds_48 : decode cX10_odds 48 = .ok (.iload 7, 2) := by decide +kernel
theorem dX10_odds_50 : decode cX10_odds 50 = .ok (.aload_n 0, 1) := by decide +kernel
theorem dX10_odds_51 : decode cX10_odds 51 = .ok (.getfield 7, 3) := by decide +kernel
theorem dX10_odds_54 : decode cX10_odds 54 = .ok (.invokestatic 173, 3) := by decide +kernel
theorem dX10_odds_57 : decode cX10_odds 57 = .ok (.if_icmp .ge 51, 3) := by decide +kernel
theorem dX10_odds_60 : decode cX10_odds 60 = .ok (.aload_n 0, 1) := by decide +kernel
theorem dX10_odds_61 : decode cX10_odds 61 = .ok (.iload 7, 2) := by decide +kernel
theorem dX10_odds_63 : decode cX10_odds 63 = .ok (.invokevirtual 177, 3) := by decide +kernel
theorem dX10_odds_66 : decode cX10_odds 66 = .ok (.aload_n 0, 1) := by decide +kernel
theorem dX10_odds_67 : decode cX10_odds 67 = .ok (.invokevirtual 180, 3) := by decide +kernel
theorem dX10_odds_70 : decode cX10_odds 70 = .ok (.ifCond .eq 32, 3) := by decide +kernel
theorem dX10_odds_73 : decode cX10_odds 73 = .ok (.aload_n 0, 1) := by decide +kernel
theorem dX10_odds_74 : decode cX10_odds 74 = .ok (.iload_n 3, 1) := by decide +kernel
theorem dX10_odds_75 : decode cX10_odds 75 = .ok (.invokevirtual 221, 3) := by decide +kernel
theorem dX10_odds_78 : decode cX10_odds 78 = .ok (.pop, 1) := by decide +kernel
theorem dX10_odds_79 : decode cX10_odds 79 = .ok (.iload 5, 2) := by decide +kernel
theorem dX10_odds_81 : decode cX10_odds 81 = .ok (.aload_n 0, 1) := by decide +kernel
theorem dX10_odds_82 : decode cX10_odds 82 = .ok (.getfield 45, 3) := by decide +kernel
theorem dX10_odds_85 : decode cX10_odds 85 = .ok (.iload_n 1, 1) := by decide +kernel
theorem dX10_odds_86 : decode cX10_odds 86 = .ok (.iaload, 1) := by decide +kernel
theorem dX10_odds_87 : decode cX10_odds 87 = .ok (.iload_n 2, 1) := by decide +kernel
theorem dX10_odds_88 : decode cX10_odds 88 = .ok (.if_icmp .ne 7, 3) := by decide +kernel
theorem dX10_odds_91 : decode cX10_odds 91 = .ok (.iconst 1, 1) := by decide +kernel
theorem dX10_odds_92 : decode cX10_odds 92 = .ok (.goto 4, 3) := by decide +kernel
theorem dX10_odds_95 : decode cX10_odds 95 = .ok (.iconst 0, 1) := by decide +kernel
theorem dX10_odds_96 : decode cX10_odds 96 = .ok (.iadd, 1) := by decide +kernel
theorem dX10_odds_97 : decode cX10_odds 97 = .ok (.istore 5, 2) := by decide +kernel
theorem dX10_odds_99 : decode cX10_odds 99 = .ok (.iinc 6 1, 3) := by decide +kernel
theorem dX10_odds_102 : decode cX10_odds 102 = .ok (.iinc 7 1, 3) := by decide +kernel
theorem dX10_odds_105 : decode cX10_odds 105 = .ok (.goto (-57), 3) := by decide +kernel
theorem dX10_odds_108 : decode cX10_odds 108 = .ok (.iload 6, 2) := by decide +kernel
theorem dX10_odds_110 : decode cX10_odds 110 = .ok (.ifCond .ne 8, 3) := by decide +kernel
theorem dX10_odds_113 : decode cX10_odds 113 = .ok (.bipush (-4), 2) := by decide +kernel
theorem dX10_odds_115 : decode cX10_odds 115 = .ok (.goto 23, 3) := by decide +kernel
theorem dX10_odds_118 : decode cX10_odds 118 = .ok (.iload 4, 2) := by decide +kernel
theorem dX10_odds_120 : decode cX10_odds 120 = .ok (.ifCond .ne 8, 3) := by decide +kernel
theorem dX10_odds_123 : decode cX10_odds 123 = .ok (.iload 5, 2) := by decide +kernel
theorem dX10_odds_125 : decode cX10_odds 125 = .ok (.goto 5, 3) := by decide +kernel
theorem dX10_odds_128 : decode cX10_odds 128 = .ok (.iload 6, 2) := by decide +kernel
theorem dX10_odds_130 : decode cX10_odds 130 = .ok (.iload 5, 2) := by decide +kernel
theorem dX10_odds_132 : decode cX10_odds 132 = .ok (.iload 6, 2) := by decide +kernel
theorem dX10_odds_134 : decode cX10_odds 134 = .ok (.invokestatic 233, 3) := by decide +kernel
theorem dX10_odds_137 : decode cX10_odds 137 = .ok (.idiv, 1) := by decide +kernel
theorem dX10_odds_138 : decode cX10_odds 138 = .ok (.ireturn, 1) := by decide +kernel
theorem dX10_isLawfulBehind_0 : decode cX10_isLawfulBehind 0 = .ok (.iconst 1, 1) := by decide +kernel
theorem dX10_isLawfulBehind_1 : decode cX10_isLawfulBehind 1 = .ok (.istore_n 1, 1) := by decide +kernel
theorem dX10_isLawfulBehind_2 : decode cX10_isLawfulBehind 2 = .ok (.iconst 0, 1) := by decide +kernel
theorem dX10_isLawfulBehind_3 : decode cX10_isLawfulBehind 3 = .ok (.istore_n 2, 1) := by decide +kernel
theorem dX10_isLawfulBehind_4 : decode cX10_isLawfulBehind 4 = .ok (.iload_n 2, 1) := by decide +kernel
theorem dX10_isLawfulBehind_5 : decode cX10_isLawfulBehind 5 = .ok (.aload_n 0, 1) := by decide +kernel
theorem dX10_isLawfulBehind_6 : decode cX10_isLawfulBehind 6 = .ok (.getfield 7, 3) := by decide +kernel
theorem dX10_isLawfulBehind_9 : decode cX10_isLawfulBehind 9 = .ok (.if_icmp .ge 39, 3) := by decide +kernel
theorem dX10_isLawfulBehind_12 : decode cX10_isLawfulBehind 12 = .ok (.iload_n 1, 1) := by decide +kernel
theorem dX10_isLawfulBehind_13 : decode cX10_isLawfulBehind 13 = .ok (.ifCond .eq 27, 3) := by decide +kernel
theorem dX10_isLawfulBehind_16 : decode cX10_isLawfulBehind 16 = .ok (.aload_n 0, 1) := by decide +kernel
theorem dX10_isLawfulBehind_17 : decode cX10_isLawfulBehind 17 = .ok (.iload_n 2, 1) := by decide +kernel
theorem dX10_isLawfulBehind_18 : decode cX10_isLawfulBehind 18 = .ok (.aload_n 0, 1) := by decide +kernel
theorem dX10_isLawfulBehind_19 : decode cX10_isLawfulBehind 19 = .ok (.getfield 45, 3) := by decide +kernel
theorem dX10_isLawfulBehind_22 : decode cX10_isLawfulBehind 22 = .ok (.iload_n 2, 1) := by decide +kernel
theorem dX10_isLawfulBehind_23 : decode cX10_isLawfulBehind 23 = .ok (.iaload, 1) := by decide +kernel
theorem dX10_isLawfulBehind_24 : decode cX10_isLawfulBehind 24 = .ok (.aload_n 0, 1) := by decide +kernel
theorem dX10_isLawfulBehind_25 : decode cX10_isLawfulBehind 25 = .ok (.getfield 48, 3) := by decide +kernel
theorem dX10_isLawfulBehind_28 : decode cX10_isLawfulBehind 28 = .ok (.iload_n 2, 1) := by decide +kernel
theorem dX10_isLawfulBehind_29 : decode cX10_isLawfulBehind 29 = .ok (.iaload, 1) := by decide +kernel
theorem dX10_isLawfulBehind_30 : decode cX10_isLawfulBehind 30 = .ok (.invokevirtual 163, 3) := by decide +kernel
theorem dX10_isLawfulBehind_33 : decode cX10_isLawfulBehind 33 = .ok (.ifCond .eq 7, 3) := by decide +kernel
theorem dX10_isLawfulBehind_36 : decode cX10_isLawfulBehind 36 = .ok (.iconst 1, 1) := by decide +kernel
theorem dX10_isLawfulBehind_37 : decode cX10_isLawfulBehind 37 = .ok (.goto 4, 3) := by decide +kernel
theorem dX10_isLawfulBehind_40 : decode cX10_isLawfulBehind 40 = .ok (.iconst 0, 1) := by decide +kernel
theorem dX10_isLawfulBehind_41 : decode cX10_isLawfulBehind 41 = .ok (.istore_n 1, 1) := by decide +kernel
theorem dX10_isLawfulBehind_42 : decode cX10_isLawfulBehind 42 = .ok (.iinc 2 1, 3) := by decide +kernel
theorem dX10_isLawfulBehind_45 : decode cX10_isLawfulBehind 45 = .ok (.goto (-41), 3) := by decide +kernel
theorem dX10_isLawfulBehind_48 : decode cX10_isLawfulBehind 48 = .ok (.iload_n 1, 1) := by decide +kernel
theorem dX10_isLawfulBehind_49 : decode cX10_isLawfulBehind 49 = .ok (.ireturn, 1) := by decide +kernel
theorem dX10_week_0 : decode cX10_week 0 = .ok (.iload_n 1, 1) := by decide +kernel
theorem dX10_week_1 : decode cX10_week 1 = .ok (.iconst 1, 1) := by decide +kernel
theorem dX10_week_2 : decode cX10_week 2 = .ok (.bipush 7, 2) := by decide +kernel
theorem dX10_week_4 : decode cX10_week 4 = .ok (.invokestatic 69, 3) := by decide +kernel
theorem dX10_week_7 : decode cX10_week 7 = .ok (.ifCond .ne 6, 3) := by decide +kernel
theorem dX10_week_10 : decode cX10_week 10 = .ok (.bipush (-3), 2) := by decide +kernel
theorem dX10_week_12 : decode cX10_week 12 = .ok (.ireturn, 1) := by decide +kernel
theorem dX10_week_13 : decode cX10_week 13 = .ok (.aload_n 0, 1) := by decide +kernel
theorem dX10_week_14 : decode cX10_week 14 = .ok (.getfield 7, 3) := by decide +kernel
theorem dX10_week_17 : decode cX10_week 17 = .ok (.iconst 5, 1) := by decide +kernel
theorem dX10_week_18 : decode cX10_week 18 = .ok (.if_icmp .le 6, 3) := by decide +kernel
theorem dX10_week_21 : decode cX10_week 21 = .ok (.bipush (-4), 2) := by decide +kernel
theorem dX10_week_23 : decode cX10_week 23 = .ok (.ireturn, 1) := by decide +kernel
theorem dX10_week_24 : decode cX10_week 24 = .ok (.aload_n 0, 1) := by decide +kernel
theorem dX10_week_25 : decode cX10_week 25 = .ok (.getfield 7, 3) := by decide +kernel
theorem dX10_week_28 : decode cX10_week 28 = .ok (.invokestatic 173, 3) := by decide +kernel
theorem dX10_week_31 : decode cX10_week 31 = .ok (.istore_n 2, 1) := by decide +kernel
theorem dX10_week_32 : decode cX10_week 32 = .ok (.iconst 0, 1) := by decide +kernel
theorem dX10_week_33 : decode cX10_week 33 = .ok (.istore_n 3, 1) := by decide +kernel
theorem dX10_week_34 : decode cX10_week 34 = .ok (.iload_n 3, 1) := by decide +kernel
theorem dX10_week_35 : decode cX10_week 35 = .ok (.iload_n 2, 1) := by decide +kernel
theorem dX10_week_36 : decode cX10_week 36 = .ok (.if_icmp .ge 35, 3) := by decide +kernel
theorem dX10_week_39 : decode cX10_week 39 = .ok (.aload_n 0, 1) := by decide +kernel
theorem dX10_week_40 : decode cX10_week 40 = .ok (.iload_n 3, 1) := by decide +kernel
theorem dX10_week_41 : decode cX10_week 41 = .ok (.invokevirtual 177, 3) := by decide +kernel
theorem dX10_week_44 : decode cX10_week 44 = .ok (.aload_n 0, 1) := by decide +kernel
theorem dX10_week_45 : decode cX10_week 45 = .ok (.getfield 57, 3) := by decide +kernel
theorem dX10_week_48 : decode cX10_week 48 = .ok (.iload_n 3, 1) := by decide +kernel
theorem dX10_week_49 : decode cX10_week 49 = .ok (.aload_n 0, 1) := by decide +kernel
theorem dX10_week_50 : decode cX10_week 50 = .ok (.invokevirtual 180, 3) := by decide +kernel
theorem dX10_week_53 : decode cX10_week 53 = .ok (.ifCond .eq 10, 3) := by decide +kernel
theorem dX10_week_56 : decode cX10_week 56 = .ok (.aload_n 0, 1) := by decide +kernel
theorem dX10_week_57 : decode cX10_week 57 = .ok (.invokevirtual 227, 3) := by decide +kernel
theorem dX10_week_60 : decode cX10_week 60 = .ok (.goto 4, 3) := by decide +kernel
theorem dX10_week_63 : decode cX10_week 63 = .ok (.iconst (-1), 1) := by decide +kernel
theorem dX10_week_64 : decode cX10_week 64 = .ok (.iastore, 1) := by decide +kernel
theorem dX10_week_65 : decode cX10_week 65 = .ok (.iinc 3 1, 3) := by decide +kernel
theorem dX10_week_68 : decode cX10_week 68 = .ok (.goto (-34), 3) := by decide +kernel
theorem dX10_week_71 : decode cX10_week 71 = .ok (.iconst 1, 1) := by decide +kernel
theorem dX10_week_72 : decode cX10_week 72 = .ok (.istore_n 3, 1) := by decide +kernel
theorem dX10_week_73 : decode cX10_week 73 = .ok (.iload_n 3, 1) := by decide +kernel
theorem dX10_week_74 : decode cX10_week 74 = .ok (.iload_n 1, 1) := by decide +kernel
theorem dX10_week_75 : decode cX10_week 75 = .ok (.if_icmp .ge 202, 3) := by decide +kernel
theorem dX10_week_78 : decode cX10_week 78 = .ok (.iconst 0, 1) := by decide +kernel
theorem dX10_week_79 : decode cX10_week 79 = .ok (.istore 4, 2) := by decide +kernel
theorem dX10_week_81 : decode cX10_week 81 = .ok (.iload 4, 2) := by decide +kernel
theorem dX10_week_83 : decode cX10_week 83 = .ok (.iload_n 2, 1) := by decide +kernel
theorem dX10_week_84 : decode cX10_week 84 = .ok (.if_icmp .ge 17, 3) := by decide +kernel
theorem dX10_week_87 : decode cX10_week 87 = .ok (.aload_n 0, 1) := by decide +kernel
theorem dX10_week_88 : decode cX10_week 88 = .ok (.getfield 60, 3) := by decide +kernel
theorem dX10_week_91 : decode cX10_week 91 = .ok (.iload 4, 2) := by decide +kernel
theorem dX10_week_93 : decode cX10_week 93 = .ok (.iconst (-1), 1) := by decide +kernel
theorem dX10_week_94 : decode cX10_week 94 = .ok (.iastore, 1) := by decide +kernel
theorem dX10_week_95 : decode cX10_week 95 = .ok (.iinc 4 1, 3) := by decide +kernel
theorem dX10_week_98 : decode cX10_week 98 = .ok (.goto (-17), 3) := by decide +kernel
theorem dX10_week_101 : decode cX10_week 101 = .ok (.iconst 0, 1) := by decide +kernel
theorem dX10_week_102 : decode cX10_week 102 = .ok (.istore 4, 2) := by decide +kernel
theorem dX10_week_104 : decode cX10_week 104 = .ok (.iload 4, 2) := by decide +kernel
theorem dX10_week_106 : decode cX10_week 106 = .ok (.iload_n 2, 1) := by decide +kernel
theorem dX10_week_107 : decode cX10_week 107 = .ok (.if_icmp .ge 135, 3) := by decide +kernel
theorem dX10_week_110 : decode cX10_week 110 = .ok (.aload_n 0, 1) := by decide +kernel
theorem dX10_week_111 : decode cX10_week 111 = .ok (.getfield 57, 3) := by decide +kernel
theorem dX10_week_114 : decode cX10_week 114 = .ok (.iload 4, 2) := by decide +kernel
theorem dX10_week_116 : decode cX10_week 116 = .ok (.iaload, 1) := by decide +kernel
theorem dX10_week_117 : decode cX10_week 117 = .ok (.iconst (-1), 1) := by decide +kernel
theorem dX10_week_118 : decode cX10_week 118 = .ok (.if_icmp .eq 118, 3) := by decide +kernel
theorem dX10_week_121 : decode cX10_week 121 = .ok (.aload_n 0, 1) := by decide +kernel
theorem dX10_week_122 : decode cX10_week 122 = .ok (.iload 4, 2) := by decide +kernel
theorem dX10_week_124 : decode cX10_week 124 = .ok (.invokevirtual 177, 3) := by decide +kernel
theorem dX10_week_127 : decode cX10_week 127 = .ok (.iconst 0, 1) := by decide +kernel
theorem dX10_week_128 : decode cX10_week 128 = .ok (.istore 5, 2) := by decide +kernel
theorem dX10_week_130 : decode cX10_week 130 = .ok (.iload 5, 2) := by decide +kernel
theorem dX10_week_132 : decode cX10_week 132 = .ok (.aload_n 0, 1) := by decide +kernel
theorem dX10_week_133 : decode cX10_week 133 = .ok (.getfield 7, 3) := by decide +kernel
theorem dX10_week_136 : decode cX10_week 136 = .ok (.if_icmp .ge 23, 3) := by decide +kernel
theorem dX10_week_139 : decode cX10_week 139 = .ok (.aload_n 0, 1) := by decide +kernel
theorem dX10_week_140 : decode cX10_week 140 = .ok (.getfield 48, 3) := by decide +kernel
theorem dX10_week_143 : decode cX10_week 143 = .ok (.iload 5, 2) := by decide +kernel
theorem dX10_week_145 : decode cX10_week 145 = .ok (.aload_n 0, 1) := by decide +kernel
theorem dX10_week_146 : decode cX10_week 146 = .ok (.getfield 45, 3) := by decide +kernel
theorem dX10_week_149 : decode cX10_week 149 = .ok (.iload 5, 2) := by decide +kernel
theorem dX10_week_151 : decode cX10_week 151 = .ok (.iaload, 1) := by decide +kernel
theorem dX10_week_152 : decode cX10_week 152 = .ok (.iastore, 1) := by decide +kernel
theorem dX10_week_153 : decode cX10_week 153 = .ok (.iinc 5 1, 3) := by decide +kernel
theorem dX10_week_156 : decode cX10_week 156 = .ok (.goto (-26), 3) := by decide +kernel
theorem dX10_week_159 : decode cX10_week 159 = .ok (.iconst 0, 1) := by decide +kernel
theorem dX10_week_160 : decode cX10_week 160 = .ok (.istore 5, 2) := by decide +kernel
theorem dX10_week_162 : decode cX10_week 162 = .ok (.iload 5, 2) := by decide +kernel
theorem dX10_week_164 : decode cX10_week 164 = .ok (.iload_n 2, 1) := by decide +kernel
theorem dX10_week_165 : decode cX10_week 165 = .ok (.if_icmp .ge 71, 3) := by decide +kernel
theorem dX10_week_168 : decode cX10_week 168 = .ok (.aload_n 0, 1) := by decide +kernel
theorem dX10_week_169 : decode cX10_week 169 = .ok (.iload 5, 2) := by decide +kernel
theorem dX10_week_171 : decode cX10_week 171 = .ok (.invokevirtual 177, 3) := by decide +kernel
theorem dX10_week_174 : decode cX10_week 174 = .ok (.aload_n 0, 1) := by decide +kernel
theorem dX10_week_175 : decode cX10_week 175 = .ok (.invokevirtual 236, 3) := by decide +kernel
theorem dX10_week_178 : decode cX10_week 178 = .ok (.ifCond .eq 18, 3) := by decide +kernel
theorem dX10_week_181 : decode cX10_week 181 = .ok (.aload_n 0, 1) := by decide +kernel
theorem dX10_week_182 : decode cX10_week 182 = .ok (.getfield 57, 3) := by decide +kernel
theorem dX10_week_185 : decode cX10_week 185 = .ok (.iload 4, 2) := by decide +kernel
theorem dX10_week_187 : decode cX10_week 187 = .ok (.iaload, 1) := by decide +kernel
theorem dX10_week_188 : decode cX10_week 188 = .ok (.aload_n 0, 1) := by decide +kernel
theorem dX10_week_189 : decode cX10_week 189 = .ok (.invokevirtual 227, 3) := by decide +kernel
theorem dX10_week_192 : decode cX10_week 192 = .ok (.iadd, 1) := by decide +kernel
theorem dX10_week_193 : decode cX10_week 193 = .ok (.goto 4, 3) := by decide +kernel
theorem dX10_week_196 : decode cX10_week 196 = .ok (.iconst (-1), 1) := by decide +kernel
theorem dX10_week_197 : decode cX10_week 197 = .ok (.istore 6, 2) := by decide +kernel
theorem dX10_week_199 : decode cX10_week 199 = .ok (.aload_n 0, 1) := by decide +kernel
theorem dX10_week_200 : decode cX10_week 200 = .ok (.getfield 60, 3) := by decide +kernel
theorem dX10_week_203 : decode cX10_week 203 = .ok (.iload 5, 2) := by decide +kernel
theorem dX10_week_205 : decode cX10_week 205 = .ok (.iload 6, 2) := by decide +kernel
theorem dX10_week_207 : decode cX10_week 207 = .ok (.aload_n 0, 1) := by decide +kernel
theorem dX10_week_208 : decode cX10_week 208 = .ok (.getfield 60, 3) := by decide +kernel
theorem dX10_week_211 : decode cX10_week 211 = .ok (.iload 5, 2) := by decide +kernel
theorem dX10_week_213 : decode cX10_week 213 = .ok (.iaload, 1) := by decide +kernel
theorem dX10_week_214 : decode cX10_week 214 = .ok (.if_icmp .le 8, 3) := by decide +kernel
theorem dX10_week_217 : decode cX10_week 217 = .ok (.iload 6, 2) := by decide +kernel
theorem dX10_week_219 : decode cX10_week 219 = .ok (.goto 10, 3) := by decide +kernel
theorem dX10_week_222 : decode cX10_week 222 = .ok (.aload_n 0, 1) := by decide +kernel
theorem dX10_week_223 : decode cX10_week 223 = .ok (.getfield 60, 3) := by decide +kernel
theorem dX10_week_226 : decode cX10_week 226 = .ok (.iload 5, 2) := by decide +kernel
theorem dX10_week_228 : decode cX10_week 228 = .ok (.iaload, 1) := by decide +kernel
theorem dX10_week_229 : decode cX10_week 229 = .ok (.iastore, 1) := by decide +kernel
theorem dX10_week_230 : decode cX10_week 230 = .ok (.iinc 5 1, 3) := by decide +kernel
theorem dX10_week_233 : decode cX10_week 233 = .ok (.goto (-71), 3) := by decide +kernel
theorem dX10_week_236 : decode cX10_week 236 = .ok (.iinc 4 1, 3) := by decide +kernel
theorem dX10_week_239 : decode cX10_week 239 = .ok (.goto (-135), 3) := by decide +kernel
theorem dX10_week_242 : decode cX10_week 242 = .ok (.iconst 0, 1) := by decide +kernel
theorem dX10_week_243 : decode cX10_week 243 = .ok (.istore 4, 2) := by decide +kernel
theorem dX10_week_245 : decode cX10_week 245 = .ok (.iload 4, 2) := by decide +kernel
theorem dX10_week_247 : decode cX10_week 247 = .ok (.iload_n 2, 1) := by decide +kernel
theorem dX10_week_248 : decode cX10_week 248 = .ok (.if_icmp .ge 23, 3) := by decide +kernel
theorem dX10_week_251 : decode cX10_week 251 = .ok (.aload_n 0, 1) := by decide +kernel
theorem dX10_week_252 : decode cX10_week 252 = .ok (.getfield 57, 3) := by decide +kernel
theorem dX10_week_255 : decode cX10_week 255 = .ok (.iload 4, 2) := by decide +kernel
theorem dX10_week_257 : decode cX10_week 257 = .ok (.aload_n 0, 1) := by decide +kernel
theorem dX10_week_258 : decode cX10_week 258 = .ok (.getfield 60, 3) := by decide +kernel
theorem dX10_week_261 : decode cX10_week 261 = .ok (.iload 4, 2) := by decide +kernel
theorem dX10_week_263 : decode cX10_week 263 = .ok (.iaload, 1) := by decide +kernel
theorem dX10_week_264 : decode cX10_week 264 = .ok (.iastore, 1) := by decide +kernel
theorem dX10_week_265 : decode cX10_week 265 = .ok (.iinc 4 1, 3) := by decide +kernel
theorem dX10_week_268 : decode cX10_week 268 = .ok (.goto (-23), 3) := by decide +kernel
theorem dX10_week_271 : decode cX10_week 271 = .ok (.iinc 3 1, 3) := by decide +kernel
theorem dX10_week_274 : decode cX10_week 274 = .ok (.goto (-201), 3) := by decide +kernel
theorem dX10_week_277 : decode cX10_week 277 = .ok (.iconst (-1), 1) := by decide +kernel
theorem dX10_week_278 : decode cX10_week 278 = .ok (.istore_n 3, 1) := by decide +kernel
theorem dX10_week_279 : decode cX10_week 279 = .ok (.iconst 0, 1) := by decide +kernel
theorem dX10_week_280 : decode cX10_week 280 = .ok (.istore 4, 2) := by decide +kernel
theorem dX10_week_282 : decode cX10_week 282 = .ok (.iload 4, 2) := by decide +kernel
theorem dX10_week_284 : decode cX10_week 284 = .ok (.iload_n 2, 1) := by decide +kernel
theorem dX10_week_285 : decode cX10_week 285 = .ok (.if_icmp .ge 32, 3) := by decide +kernel
theorem dX10_week_288 : decode cX10_week 288 = .ok (.aload_n 0, 1) := by decide +kernel
theorem dX10_week_289 : decode cX10_week 289 = .ok (.getfield 57, 3) := by decide +kernel
theorem dX10_week_292 : decode cX10_week 292 = .ok (.iload 4, 2) := by decide +kernel
theorem dX10_week_294 : decode cX10_week 294 = .ok (.iaload, 1) := by decide +kernel
theorem dX10_week_295 : decode cX10_week 295 = .ok (.iload_n 3, 1) := by decide +kernel
theorem dX10_week_296 : decode cX10_week 296 = .ok (.if_icmp .le 13, 3) := by decide +kernel
theorem dX10_week_299 : decode cX10_week 299 = .ok (.aload_n 0, 1) := by decide +kernel
theorem dX10_week_300 : decode cX10_week 300 = .ok (.getfield 57, 3) := by decide +kernel
theorem dX10_week_303 : decode cX10_week 303 = .ok (.iload 4, 2) := by decide +kernel
theorem dX10_week_305 : decode cX10_week 305 = .ok (.iaload, 1) := by decide +kernel
theorem dX10_week_306 : decode cX10_week 306 = .ok (.goto 4, 3) := by decide +kernel
theorem dX10_week_309 : decode cX10_week 309 = .ok (.iload_n 3, 1) := by decide +kernel
theorem dX10_week_310 : decode cX10_week 310 = .ok (.istore_n 3, 1) := by decide +kernel
theorem dX10_week_311 : decode cX10_week 311 = .ok (.iinc 4 1, 3) := by decide +kernel
theorem dX10_week_314 : decode cX10_week 314 = .ok (.goto (-32), 3) := by decide +kernel
theorem dX10_week_317 : decode cX10_week 317 = .ok (.iload_n 3, 1) := by decide +kernel
theorem dX10_week_318 : decode cX10_week 318 = .ok (.ireturn, 1) := by decide +kernel
theorem dX10_oftenOf_0 : decode cX10_oftenOf 0 = .ok (.iconst 0, 1) := by decide +kernel
theorem dX10_oftenOf_1 : decode cX10_oftenOf 1 = .ok (.istore_n 3, 1) := by decide +kernel
theorem dX10_oftenOf_2 : decode cX10_oftenOf 2 = .ok (.iconst 0, 1) := by decide +kernel
theorem dX10_oftenOf_3 : decode cX10_oftenOf 3 = .ok (.istore 4, 2) := by decide +kernel
theorem dX10_oftenOf_5 : decode cX10_oftenOf 5 = .ok (.iload 4, 2) := by decide +kernel
theorem dX10_oftenOf_7 : decode cX10_oftenOf 7 = .ok (.aload_n 0, 1) := by decide +kernel
theorem dX10_oftenOf_8 : decode cX10_oftenOf 8 = .ok (.getfield 35, 3) := by decide +kernel
theorem dX10_oftenOf_11 : decode cX10_oftenOf 11 = .ok (.bipush 15, 2) := by decide +kernel
theorem dX10_oftenOf_13 : decode cX10_oftenOf 13 = .ok (.iaload, 1) := by decide +kernel
theorem dX10_oftenOf_14 : decode cX10_oftenOf 14 = .ok (.if_icmp .ge 36, 3) := by decide +kernel
theorem dX10_oftenOf_17 : decode cX10_oftenOf 17 = .ok (.iload_n 3, 1) := by decide +kernel
theorem dX10_oftenOf_18 : decode cX10_oftenOf 18 = .ok (.aload_n 0, 1) := by decide +kernel
theorem dX10_oftenOf_19 : decode cX10_oftenOf 19 = .ok (.getfield 35, 3) := by decide +kernel
theorem dX10_oftenOf_22 : decode cX10_oftenOf 22 = .ok (.bipush 16, 2) := by decide +kernel
theorem dX10_oftenOf_24 : decode cX10_oftenOf 24 = .ok (.bipush 7, 2) := by decide +kernel
theorem dX10_oftenOf_26 : decode cX10_oftenOf 26 = .ok (.iload 4, 2) := by decide +kernel
theorem dX10_oftenOf_28 : decode cX10_oftenOf 28 = .ok (.imul, 1) := by decide +kernel
theorem dX10_oftenOf_29 : decode cX10_oftenOf 29 = .ok (.iadd, 1) := by decide +kernel
theorem dX10_oftenOf_30 : decode cX10_oftenOf 30 = .ok (.iload_n 1, 1) := by decide +kernel
theorem dX10_oftenOf_31 : decode cX10_oftenOf 31 = .ok (.iadd, 1) := by decide +kernel
theorem dX10_oftenOf_32 : decode cX10_oftenOf 32 = .ok (.iaload, 1) := by decide +kernel
theorem dX10_oftenOf_33 : decode cX10_oftenOf 33 = .ok (.iload_n 2, 1) := by decide +kernel
theorem dX10_oftenOf_34 : decode cX10_oftenOf 34 = .ok (.if_icmp .ne 7, 3) := by decide +kernel
theorem dX10_oftenOf_37 : decode cX10_oftenOf 37 = .ok (.iconst 1, 1) := by decide +kernel
theorem dX10_oftenOf_38 : decode cX10_oftenOf 38 = .ok (.goto 4, 3) := by decide +kernel
theorem dX10_oftenOf_41 : decode cX10_oftenOf 41 = .ok (.iconst 0, 1) := by decide +kernel
theorem dX10_oftenOf_42 : decode cX10_oftenOf 42 = .ok (.iadd, 1) := by decide +kernel
theorem dX10_oftenOf_43 : decode cX10_oftenOf 43 = .ok (.istore_n 3, 1) := by decide +kernel
theorem dX10_oftenOf_44 : decode cX10_oftenOf 44 = .ok (.iinc 4 1, 3) := by decide +kernel
theorem dX10_oftenOf_47 : decode cX10_oftenOf 47 = .ok (.goto (-42), 3) := by decide +kernel
theorem dX10_oftenOf_50 : decode cX10_oftenOf 50 = .ok (.iload_n 3, 1) := by decide +kernel
theorem dX10_oftenOf_51 : decode cX10_oftenOf 51 = .ok (.ireturn, 1) := by decide +kernel
theorem dX10_often_0 : decode cX10_often 0 = .ok (.aload_n 0, 1) := by decide +kernel
theorem dX10_often_1 : decode cX10_often 1 = .ok (.iload_n 1, 1) := by decide +kernel
theorem dX10_often_2 : decode cX10_often 2 = .ok (.invokevirtual 166, 3) := by decide +kernel
theorem dX10_often_5 : decode cX10_often 5 = .ok (.ifCond .eq 20, 3) := by decide +kernel
theorem dX10_often_8 : decode cX10_often 8 = .ok (.aload_n 0, 1) := by decide +kernel
theorem dX10_often_9 : decode cX10_often 9 = .ok (.iload_n 2, 1) := by decide +kernel
theorem dX10_often_10 : decode cX10_often 10 = .ok (.invokevirtual 166, 3) := by decide +kernel
theorem dX10_often_13 : decode cX10_often 13 = .ok (.ifCond .eq 12, 3) := by decide +kernel
theorem dX10_often_16 : decode cX10_often 16 = .ok (.aload_n 0, 1) := by decide +kernel
theorem dX10_often_17 : decode cX10_often 17 = .ok (.iload_n 1, 1) := by decide +kernel
theorem dX10_often_18 : decode cX10_often 18 = .ok (.iload_n 2, 1) := by decide +kernel
theorem dX10_often_19 : decode cX10_often 19 = .ok (.invokevirtual 239, 3) := by decide +kernel
theorem dX10_often_22 : decode cX10_often 22 = .ok (.goto 5, 3) := by decide +kernel
theorem dX10_often_25 : decode cX10_often 25 = .ok (.bipush (-2), 2) := by decide +kernel
theorem dX10_often_27 : decode cX10_often 27 = .ok (.ireturn, 1) := by decide +kernel
theorem dX10_tailDown_0 : decode cX10_tailDown 0 = .ok (.lconst 1, 1) := by decide +kernel
theorem dX10_tailDown_1 : decode cX10_tailDown 1 = .ok (.lstore_n 1, 1) := by decide +kernel
theorem dX10_tailDown_2 : decode cX10_tailDown 2 = .ok (.iconst 0, 1) := by decide +kernel
theorem dX10_tailDown_3 : decode cX10_tailDown 3 = .ok (.istore_n 3, 1) := by decide +kernel
theorem dX10_tailDown_4 : decode cX10_tailDown 4 = .ok (.iload_n 3, 1) := by decide +kernel
theorem dX10_tailDown_5 : decode cX10_tailDown 5 = .ok (.aload_n 0, 1) := by decide +kernel
theorem dX10_tailDown_6 : decode cX10_tailDown 6 = .ok (.getfield 35, 3) := by decide +kernel
theorem dX10_tailDown_9 : decode cX10_tailDown 9 = .ok (.bipush 15, 2) := by decide +kernel
theorem dX10_tailDown_11 : decode cX10_tailDown 11 = .ok (.iaload, 1) := by decide +kernel
theorem dX10_tailDown_12 : decode cX10_tailDown 12 = .ok (.if_icmp .ge 17, 3) := by decide +kernel
theorem dX10_tailDown_15 : decode cX10_tailDown 15 = .ok (.lload_n 1, 1) := by decide +kernel
theorem dX10_tailDown_16 : decode cX10_tailDown 16 = .ok (.aload_n 0, 1) := by decide +kernel
theorem dX10_tailDown_17 : decode cX10_tailDown 17 = .ok (.getfield 7, 3) := by decide +kernel
theorem dX10_tailDown_20 : decode cX10_tailDown 20 = .ok (.i2l, 1) := by decide +kernel
theorem dX10_tailDown_21 : decode cX10_tailDown 21 = .ok (.lmul, 1) := by decide +kernel
theorem dX10_tailDown_22 : decode cX10_tailDown 22 = .ok (.lstore_n 1, 1) := by decide +kernel
theorem dX10_tailDown_23 : decode cX10_tailDown 23 = .ok (.iinc 3 1, 3) := by decide +kernel
theorem dX10_tailDown_26 : decode cX10_tailDown 26 = .ok (.goto (-22), 3) := by decide +kernel
theorem dX10_tailDown_29 : decode cX10_tailDown 29 = .ok (.lload_n 1, 1) := by decide +kernel
theorem dX10_tailDown_30 : decode cX10_tailDown 30 = .ok (.lreturn, 1) := by decide +kernel
theorem dX10_tailUp_0 : decode cX10_tailUp 0 = .ok (.aload_n 0, 1) := by decide +kernel
theorem dX10_tailUp_1 : decode cX10_tailUp 1 = .ok (.getfield 35, 3) := by decide +kernel
theorem dX10_tailUp_4 : decode cX10_tailUp 4 = .ok (.bipush 15, 2) := by decide +kernel
theorem dX10_tailUp_6 : decode cX10_tailUp 6 = .ok (.iaload, 1) := by decide +kernel
theorem dX10_tailUp_7 : decode cX10_tailUp 7 = .ok (.istore_n 3, 1) := by decide +kernel
theorem dX10_tailUp_8 : decode cX10_tailUp 8 = .ok (.lconst 0, 1) := by decide +kernel
theorem dX10_tailUp_9 : decode cX10_tailUp 9 = .ok (.lstore 4, 2) := by decide +kernel
theorem dX10_tailUp_11 : decode cX10_tailUp 11 = .ok (.aload_n 0, 1) := by decide +kernel
theorem dX10_tailUp_12 : decode cX10_tailUp 12 = .ok (.iload_n 1, 1) := by decide +kernel
theorem dX10_tailUp_13 : decode cX10_tailUp 13 = .ok (.iload_n 2, 1) := by decide +kernel
theorem dX10_tailUp_14 : decode cX10_tailUp 14 = .ok (.invokevirtual 239, 3) := by decide +kernel
theorem dX10_tailUp_17 : decode cX10_tailUp 17 = .ok (.istore 6, 2) := by decide +kernel
theorem dX10_tailUp_19 : decode cX10_tailUp 19 = .ok (.iload 6, 2) := by decide +kernel
theorem dX10_tailUp_21 : decode cX10_tailUp 21 = .ok (.iload_n 3, 1) := by decide +kernel
theorem dX10_tailUp_22 : decode cX10_tailUp 22 = .ok (.if_icmp .gt 80, 3) := by decide +kernel
theorem dX10_tailUp_25 : decode cX10_tailUp 25 = .ok (.lconst 1, 1) := by decide +kernel
theorem dX10_tailUp_26 : decode cX10_tailUp 26 = .ok (.lstore 7, 2) := by decide +kernel
theorem dX10_tailUp_28 : decode cX10_tailUp 28 = .ok (.iconst 1, 1) := by decide +kernel
theorem dX10_tailUp_29 : decode cX10_tailUp 29 = .ok (.istore 9, 2) := by decide +kernel
theorem dX10_tailUp_31 : decode cX10_tailUp 31 = .ok (.iload 9, 2) := by decide +kernel
theorem dX10_tailUp_33 : decode cX10_tailUp 33 = .ok (.iload 6, 2) := by decide +kernel
theorem dX10_tailUp_35 : decode cX10_tailUp 35 = .ok (.if_icmp .gt 26, 3) := by decide +kernel
theorem dX10_tailUp_38 : decode cX10_tailUp 38 = .ok (.lload 7, 2) := by decide +kernel
theorem dX10_tailUp_40 : decode cX10_tailUp 40 = .ok (.iload_n 3, 1) := by decide +kernel
theorem dX10_tailUp_41 : decode cX10_tailUp 41 = .ok (.iload 6, 2) := by decide +kernel
theorem dX10_tailUp_43 : decode cX10_tailUp 43 = .ok (.isub, 1) := by decide +kernel
theorem dX10_tailUp_44 : decode cX10_tailUp 44 = .ok (.iload 9, 2) := by decide +kernel
theorem dX10_tailUp_46 : decode cX10_tailUp 46 = .ok (.iadd, 1) := by decide +kernel
theorem dX10_tailUp_47 : decode cX10_tailUp 47 = .ok (.i2l, 1) := by decide +kernel
theorem dX10_tailUp_48 : decode cX10_tailUp 48 = .ok (.lmul, 1) := by decide +kernel
theorem dX10_tailUp_49 : decode cX10_tailUp 49 = .ok (.iload 9, 2) := by decide +kernel
theorem dX10_tailUp_51 : decode cX10_tailUp 51 = .ok (.i2l, 1) := by decide +kernel
theorem dX10_tailUp_52 : decode cX10_tailUp 52 = .ok (.ldiv, 1) := by decide +kernel
theorem dX10_tailUp_53 : decode cX10_tailUp 53 = .ok (.lstore 7, 2) := by decide +kernel
theorem dX10_tailUp_55 : decode cX10_tailUp 55 = .ok (.iinc 9 1, 3) := by decide +kernel
theorem dX10_tailUp_58 : decode cX10_tailUp 58 = .ok (.goto (-27), 3) := by decide +kernel
theorem dX10_tailUp_61 : decode cX10_tailUp 61 = .ok (.iload 6, 2) := by decide +kernel
theorem dX10_tailUp_63 : decode cX10_tailUp 63 = .ok (.istore 9, 2) := by decide +kernel
theorem dX10_tailUp_65 : decode cX10_tailUp 65 = .ok (.iload 9, 2) := by decide +kernel
theorem dX10_tailUp_67 : decode cX10_tailUp 67 = .ok (.iload_n 3, 1) := by decide +kernel
theorem dX10_tailUp_68 : decode cX10_tailUp 68 = .ok (.if_icmp .ge 21, 3) := by decide +kernel
theorem dX10_tailUp_71 : decode cX10_tailUp 71 = .ok (.lload 7, 2) := by decide +kernel
theorem dX10_tailUp_73 : decode cX10_tailUp 73 = .ok (.aload_n 0, 1) := by decide +kernel
theorem dX10_tailUp_74 : decode cX10_tailUp 74 = .ok (.getfield 7, 3) := by decide +kernel
theorem dX10_tailUp_77 : decode cX10_tailUp 77 = .ok (.iconst 1, 1) := by decide +kernel
theorem dX10_tailUp_78 : decode cX10_tailUp 78 = .ok (.isub, 1) := by decide +kernel
theorem dX10_tailUp_79 : decode cX10_tailUp 79 = .ok (.i2l, 1) := by decide +kernel
theorem dX10_tailUp_80 : decode cX10_tailUp 80 = .ok (.lmul, 1) := by decide +kernel
theorem dX10_tailUp_81 : decode cX10_tailUp 81 = .ok (.lstore 7, 2) := by decide +kernel
theorem dX10_tailUp_83 : decode cX10_tailUp 83 = .ok (.iinc 9 1, 3) := by decide +kernel
theorem dX10_tailUp_86 : decode cX10_tailUp 86 = .ok (.goto (-21), 3) := by decide +kernel
theorem dX10_tailUp_89 : decode cX10_tailUp 89 = .ok (.lload 4, 2) := by decide +kernel
theorem dX10_tailUp_91 : decode cX10_tailUp 91 = .ok (.lload 7, 2) := by decide +kernel
theorem dX10_tailUp_93 : decode cX10_tailUp 93 = .ok (.ladd, 1) := by decide +kernel
theorem dX10_tailUp_94 : decode cX10_tailUp 94 = .ok (.lstore 4, 2) := by decide +kernel
theorem dX10_tailUp_96 : decode cX10_tailUp 96 = .ok (.iinc 6 1, 3) := by decide +kernel
theorem dX10_tailUp_99 : decode cX10_tailUp 99 = .ok (.goto (-80), 3) := by decide +kernel
theorem dX10_tailUp_102 : decode cX10_tailUp 102 = .ok (.lload 4, 2) := by decide +kernel
end
section
theorem dX10_tailUp_104 : decode cX10_tailUp 104 = .ok (.lreturn, 1) := by decide +kernel
theorem dX10_tail_0 : decode cX10_tail 0 = .ok (.aload_n 0, 1) := by decide +kernel
theorem dX10_tail_1 : decode cX10_tail 1 = .ok (.iload_n 1, 1) := by decide +kernel
theorem dX10_tail_2 : decode cX10_tail 2 = .ok (.invokevirtual 166, 3) := by decide +kernel
theorem dX10_tail_5 : decode cX10_tail 5 = .ok (.ifCond .eq 11, 3) := by decide +kernel
theorem dX10_tail_8 : decode cX10_tail 8 = .ok (.aload_n 0, 1) := by decide +kernel
theorem dX10_tail_9 : decode cX10_tail 9 = .ok (.iload_n 2, 1) := by decide +kernel
theorem dX10_tail_10 : decode cX10_tail 10 = .ok (.invokevirtual 166, 3) := by decide +kernel
theorem dX10_tail_13 : decode cX10_tail 13 = .ok (.ifCond .ne 7, 3) := by decide +kernel
theorem dX10_tail_16 : decode cX10_tail 16 = .ok (.ldc2_w 90, 3) := by decide +kernel
theorem dX10_tail_19 : decode cX10_tail 19 = .ok (.lreturn, 1) := by decide +kernel
theorem dX10_tail_20 : decode cX10_tail 20 = .ok (.iload_n 3, 1) := by decide +kernel
theorem dX10_tail_21 : decode cX10_tail 21 = .ok (.iconst 0, 1) := by decide +kernel
theorem dX10_tail_22 : decode cX10_tail 22 = .ok (.iconst 1, 1) := by decide +kernel
theorem dX10_tail_23 : decode cX10_tail 23 = .ok (.invokestatic 69, 3) := by decide +kernel
theorem dX10_tail_26 : decode cX10_tail 26 = .ok (.ifCond .ne 7, 3) := by decide +kernel
theorem dX10_tail_29 : decode cX10_tail 29 = .ok (.ldc2_w 104, 3) := by decide +kernel
theorem dX10_tail_32 : decode cX10_tail 32 = .ok (.lreturn, 1) := by decide +kernel
theorem dX10_tail_33 : decode cX10_tail 33 = .ok (.aload_n 0, 1) := by decide +kernel
theorem dX10_tail_34 : decode cX10_tail 34 = .ok (.iload_n 1, 1) := by decide +kernel
theorem dX10_tail_35 : decode cX10_tail 35 = .ok (.iload_n 2, 1) := by decide +kernel
theorem dX10_tail_36 : decode cX10_tail 36 = .ok (.invokevirtual 242, 3) := by decide +kernel
theorem dX10_tail_39 : decode cX10_tail 39 = .ok (.lstore 4, 2) := by decide +kernel
theorem dX10_tail_41 : decode cX10_tail 41 = .ok (.lload 4, 2) := by decide +kernel
theorem dX10_tail_43 : decode cX10_tail 43 = .ok (.lstore 6, 2) := by decide +kernel
theorem dX10_tail_45 : decode cX10_tail 45 = .ok (.aload_n 0, 1) := by decide +kernel
theorem dX10_tail_46 : decode cX10_tail 46 = .ok (.invokevirtual 246, 3) := by decide +kernel
theorem dX10_tail_49 : decode cX10_tail 49 = .ok (.lstore 8, 2) := by decide +kernel
theorem dX10_tail_51 : decode cX10_tail 51 = .ok (.lload 8, 2) := by decide +kernel
theorem dX10_tail_53 : decode cX10_tail 53 = .ok (.lconst 0, 1) := by decide +kernel
theorem dX10_tail_54 : decode cX10_tail 54 = .ok (.lcmp, 1) := by decide +kernel
theorem dX10_tail_55 : decode cX10_tail 55 = .ok (.ifCond .eq 21, 3) := by decide +kernel
theorem dX10_tail_58 : decode cX10_tail 58 = .ok (.lload 6, 2) := by decide +kernel
theorem dX10_tail_60 : decode cX10_tail 60 = .ok (.lload 8, 2) := by decide +kernel
theorem dX10_tail_62 : decode cX10_tail 62 = .ok (.lrem, 1) := by decide +kernel
theorem dX10_tail_63 : decode cX10_tail 63 = .ok (.lstore 10, 2) := by decide +kernel
theorem dX10_tail_65 : decode cX10_tail 65 = .ok (.lload 8, 2) := by decide +kernel
theorem dX10_tail_67 : decode cX10_tail 67 = .ok (.lstore 6, 2) := by decide +kernel
theorem dX10_tail_69 : decode cX10_tail 69 = .ok (.lload 10, 2) := by decide +kernel
theorem dX10_tail_71 : decode cX10_tail 71 = .ok (.lstore 8, 2) := by decide +kernel
theorem dX10_tail_73 : decode cX10_tail 73 = .ok (.goto (-22), 3) := by decide +kernel
theorem dX10_tail_76 : decode cX10_tail 76 = .ok (.iload_n 3, 1) := by decide +kernel
theorem dX10_tail_77 : decode cX10_tail 77 = .ok (.ifCond .ne 8, 3) := by decide +kernel
theorem dX10_tail_80 : decode cX10_tail 80 = .ok (.lload 4, 2) := by decide +kernel
theorem dX10_tail_82 : decode cX10_tail 82 = .ok (.goto 7, 3) := by decide +kernel
theorem dX10_tail_85 : decode cX10_tail 85 = .ok (.aload_n 0, 1) := by decide +kernel
theorem dX10_tail_86 : decode cX10_tail 86 = .ok (.invokevirtual 246, 3) := by decide +kernel
theorem dX10_tail_89 : decode cX10_tail 89 = .ok (.lload 6, 2) := by decide +kernel
theorem dX10_tail_91 : decode cX10_tail 91 = .ok (.ldiv, 1) := by decide +kernel
theorem dX10_tail_92 : decode cX10_tail 92 = .ok (.lreturn, 1) := by decide +kernel
theorem dX10_named_0 : decode cX10_named 0 = .ok (.iload_n 1, 1) := by decide +kernel
theorem dX10_named_1 : decode cX10_named 1 = .ok (.iconst 0, 1) := by decide +kernel
theorem dX10_named_2 : decode cX10_named 2 = .ok (.sipush 1000, 3) := by decide +kernel
theorem dX10_named_5 : decode cX10_named 5 = .ok (.invokestatic 69, 3) := by decide +kernel
theorem dX10_named_8 : decode cX10_named 8 = .ok (.ifCond .ne 6, 3) := by decide +kernel
theorem dX10_named_11 : decode cX10_named 11 = .ok (.bipush (-3), 2) := by decide +kernel
theorem dX10_named_13 : decode cX10_named 13 = .ok (.ireturn, 1) := by decide +kernel
theorem dX10_named_14 : decode cX10_named 14 = .ok (.iconst 0, 1) := by decide +kernel
theorem dX10_named_15 : decode cX10_named 15 = .ok (.istore_n 2, 1) := by decide +kernel
theorem dX10_named_16 : decode cX10_named 16 = .ok (.iload_n 2, 1) := by decide +kernel
theorem dX10_named_17 : decode cX10_named 17 = .ok (.aload_n 0, 1) := by decide +kernel
theorem dX10_named_18 : decode cX10_named 18 = .ok (.getfield 7, 3) := by decide +kernel
theorem dX10_named_21 : decode cX10_named 21 = .ok (.if_icmp .ge 53, 3) := by decide +kernel
theorem dX10_named_24 : decode cX10_named 24 = .ok (.iconst 0, 1) := by decide +kernel
theorem dX10_named_25 : decode cX10_named 25 = .ok (.istore_n 3, 1) := by decide +kernel
theorem dX10_named_26 : decode cX10_named 26 = .ok (.iload_n 3, 1) := by decide +kernel
theorem dX10_named_27 : decode cX10_named 27 = .ok (.aload_n 0, 1) := by decide +kernel
theorem dX10_named_28 : decode cX10_named 28 = .ok (.getfield 7, 3) := by decide +kernel
theorem dX10_named_31 : decode cX10_named 31 = .ok (.if_icmp .ge 37, 3) := by decide +kernel
theorem dX10_named_34 : decode cX10_named 34 = .ok (.ldc2_w 250, 3) := by decide +kernel
theorem dX10_named_37 : decode cX10_named 37 = .ok (.aload_n 0, 1) := by decide +kernel
theorem dX10_named_38 : decode cX10_named 38 = .ok (.iload_n 2, 1) := by decide +kernel
theorem dX10_named_39 : decode cX10_named 39 = .ok (.iload_n 3, 1) := by decide +kernel
theorem dX10_named_40 : decode cX10_named 40 = .ok (.invokevirtual 242, 3) := by decide +kernel
theorem dX10_named_43 : decode cX10_named 43 = .ok (.lmul, 1) := by decide +kernel
theorem dX10_named_44 : decode cX10_named 44 = .ok (.iload_n 1, 1) := by decide +kernel
theorem dX10_named_45 : decode cX10_named 45 = .ok (.i2l, 1) := by decide +kernel
theorem dX10_named_46 : decode cX10_named 46 = .ok (.aload_n 0, 1) := by decide +kernel
theorem dX10_named_47 : decode cX10_named 47 = .ok (.invokevirtual 246, 3) := by decide +kernel
theorem dX10_named_50 : decode cX10_named 50 = .ok (.lmul, 1) := by decide +kernel
theorem dX10_named_51 : decode cX10_named 51 = .ok (.lcmp, 1) := by decide +kernel
theorem dX10_named_52 : decode cX10_named 52 = .ok (.ifCond .ge 10, 3) := by decide +kernel
theorem dX10_named_55 : decode cX10_named 55 = .ok (.bipush 10, 2) := by decide +kernel
theorem dX10_named_57 : decode cX10_named 57 = .ok (.iload_n 2, 1) := by decide +kernel
theorem dX10_named_58 : decode cX10_named 58 = .ok (.imul, 1) := by decide +kernel
theorem dX10_named_59 : decode cX10_named 59 = .ok (.iload_n 3, 1) := by decide +kernel
theorem dX10_named_60 : decode cX10_named 60 = .ok (.iadd, 1) := by decide +kernel
theorem dX10_named_61 : decode cX10_named 61 = .ok (.ireturn, 1) := by decide +kernel
theorem dX10_named_62 : decode cX10_named 62 = .ok (.iinc 3 1, 3) := by decide +kernel
theorem dX10_named_65 : decode cX10_named 65 = .ok (.goto (-39), 3) := by decide +kernel
theorem dX10_named_68 : decode cX10_named 68 = .ok (.iinc 2 1, 3) := by decide +kernel
theorem dX10_named_71 : decode cX10_named 71 = .ok (.goto (-55), 3) := by decide +kernel
theorem dX10_named_74 : decode cX10_named 74 = .ok (.iconst (-1), 1) := by decide +kernel
theorem dX10_named_75 : decode cX10_named 75 = .ok (.ireturn, 1) := by decide +kernel
theorem dX10_copy_0 : decode cX10_copy 0 = .ok (.iconst 0, 1) := by decide +kernel
theorem dX10_copy_1 : decode cX10_copy 1 = .ok (.istore 4, 2) := by decide +kernel
theorem dX10_copy_3 : decode cX10_copy 3 = .ok (.iload 4, 2) := by decide +kernel
theorem dX10_copy_5 : decode cX10_copy 5 = .ok (.sipush 128, 3) := by decide +kernel
theorem dX10_copy_8 : decode cX10_copy 8 = .ok (.if_icmp .ge 21, 3) := by decide +kernel
theorem dX10_copy_11 : decode cX10_copy 11 = .ok (.aload_n 2, 1) := by decide +kernel
theorem dX10_copy_12 : decode cX10_copy 12 = .ok (.iload_n 3, 1) := by decide +kernel
theorem dX10_copy_13 : decode cX10_copy 13 = .ok (.iload 4, 2) := by decide +kernel
theorem dX10_copy_15 : decode cX10_copy 15 = .ok (.iadd, 1) := by decide +kernel
theorem dX10_copy_16 : decode cX10_copy 16 = .ok (.aload_n 0, 1) := by decide +kernel
theorem dX10_copy_17 : decode cX10_copy 17 = .ok (.iload_n 1, 1) := by decide +kernel
theorem dX10_copy_18 : decode cX10_copy 18 = .ok (.iload 4, 2) := by decide +kernel
theorem dX10_copy_20 : decode cX10_copy 20 = .ok (.iadd, 1) := by decide +kernel
theorem dX10_copy_21 : decode cX10_copy 21 = .ok (.iaload, 1) := by decide +kernel
theorem dX10_copy_22 : decode cX10_copy 22 = .ok (.iastore, 1) := by decide +kernel
theorem dX10_copy_23 : decode cX10_copy 23 = .ok (.iinc 4 1, 3) := by decide +kernel
theorem dX10_copy_26 : decode cX10_copy 26 = .ok (.goto (-23), 3) := by decide +kernel
theorem dX10_copy_29 : decode cX10_copy 29 = .ok (.return_, 1) := by decide +kernel
theorem dX10_keep_0 : decode cX10_keep 0 = .ok (.iload_n 1, 1) := by decide +kernel
theorem dX10_keep_1 : decode cX10_keep 1 = .ok (.iconst 0, 1) := by decide +kernel
theorem dX10_keep_2 : decode cX10_keep 2 = .ok (.iconst 1, 1) := by decide +kernel
theorem dX10_keep_3 : decode cX10_keep 3 = .ok (.invokestatic 69, 3) := by decide +kernel
theorem dX10_keep_6 : decode cX10_keep 6 = .ok (.ifCond .ne 6, 3) := by decide +kernel
theorem dX10_keep_9 : decode cX10_keep 9 = .ok (.bipush (-2), 2) := by decide +kernel
theorem dX10_keep_11 : decode cX10_keep 11 = .ok (.ireturn, 1) := by decide +kernel
theorem dX10_keep_12 : decode cX10_keep 12 = .ok (.aload_n 0, 1) := by decide +kernel
theorem dX10_keep_13 : decode cX10_keep 13 = .ok (.getfield 35, 3) := by decide +kernel
theorem dX10_keep_16 : decode cX10_keep 16 = .ok (.iconst 0, 1) := by decide +kernel
theorem dX10_keep_17 : decode cX10_keep 17 = .ok (.aload_n 0, 1) := by decide +kernel
theorem dX10_keep_18 : decode cX10_keep 18 = .ok (.getfield 38, 3) := by decide +kernel
theorem dX10_keep_21 : decode cX10_keep 21 = .ok (.sipush 128, 3) := by decide +kernel
theorem dX10_keep_24 : decode cX10_keep 24 = .ok (.iload_n 1, 1) := by decide +kernel
theorem dX10_keep_25 : decode cX10_keep 25 = .ok (.imul, 1) := by decide +kernel
theorem dX10_keep_26 : decode cX10_keep 26 = .ok (.invokestatic 252, 3) := by decide +kernel
theorem dX10_keep_29 : decode cX10_keep 29 = .ok (.aload_n 0, 1) := by decide +kernel
theorem dX10_keep_30 : decode cX10_keep 30 = .ok (.getfield 41, 3) := by decide +kernel
theorem dX10_keep_33 : decode cX10_keep 33 = .ok (.iload_n 1, 1) := by decide +kernel
theorem dX10_keep_34 : decode cX10_keep 34 = .ok (.iconst 1, 1) := by decide +kernel
theorem dX10_keep_35 : decode cX10_keep 35 = .ok (.bastore, 1) := by decide +kernel
theorem dX10_keep_36 : decode cX10_keep 36 = .ok (.aload_n 0, 1) := by decide +kernel
theorem dX10_keep_37 : decode cX10_keep 37 = .ok (.getfield 35, 3) := by decide +kernel
theorem dX10_keep_40 : decode cX10_keep 40 = .ok (.bipush 15, 2) := by decide +kernel
theorem dX10_keep_42 : decode cX10_keep 42 = .ok (.iaload, 1) := by decide +kernel
theorem dX10_keep_43 : decode cX10_keep 43 = .ok (.ireturn, 1) := by decide +kernel
theorem dX10_back_0 : decode cX10_back 0 = .ok (.iload_n 1, 1) := by decide +kernel
theorem dX10_back_1 : decode cX10_back 1 = .ok (.iconst 0, 1) := by decide +kernel
theorem dX10_back_2 : decode cX10_back 2 = .ok (.iconst 1, 1) := by decide +kernel
theorem dX10_back_3 : decode cX10_back 3 = .ok (.invokestatic 69, 3) := by decide +kernel
theorem dX10_back_6 : decode cX10_back 6 = .ok (.ifCond .ne 6, 3) := by decide +kernel
theorem dX10_back_9 : decode cX10_back 9 = .ok (.bipush (-2), 2) := by decide +kernel
theorem dX10_back_11 : decode cX10_back 11 = .ok (.ireturn, 1) := by decide +kernel
theorem dX10_back_12 : decode cX10_back 12 = .ok (.aload_n 0, 1) := by decide +kernel
theorem dX10_back_13 : decode cX10_back 13 = .ok (.getfield 41, 3) := by decide +kernel
theorem dX10_back_16 : decode cX10_back 16 = .ok (.iload_n 1, 1) := by decide +kernel
theorem dX10_back_17 : decode cX10_back 17 = .ok (.baload, 1) := by decide +kernel
theorem dX10_back_18 : decode cX10_back 18 = .ok (.ifCond .ne 6, 3) := by decide +kernel
theorem dX10_back_21 : decode cX10_back 21 = .ok (.bipush (-4), 2) := by decide +kernel
theorem dX10_back_23 : decode cX10_back 23 = .ok (.ireturn, 1) := by decide +kernel
theorem dX10_back_24 : decode cX10_back 24 = .ok (.aload_n 0, 1) := by decide +kernel
theorem dX10_back_25 : decode cX10_back 25 = .ok (.getfield 38, 3) := by decide +kernel
theorem dX10_back_28 : decode cX10_back 28 = .ok (.sipush 128, 3) := by decide +kernel
theorem dX10_back_31 : decode cX10_back 31 = .ok (.iload_n 1, 1) := by decide +kernel
theorem dX10_back_32 : decode cX10_back 32 = .ok (.imul, 1) := by decide +kernel
theorem dX10_back_33 : decode cX10_back 33 = .ok (.aload_n 0, 1) := by decide +kernel
theorem dX10_back_34 : decode cX10_back 34 = .ok (.getfield 35, 3) := by decide +kernel
theorem dX10_back_37 : decode cX10_back 37 = .ok (.iconst 0, 1) := by decide +kernel
theorem dX10_back_38 : decode cX10_back 38 = .ok (.invokestatic 252, 3) := by decide +kernel
theorem dX10_back_41 : decode cX10_back 41 = .ok (.aload_n 0, 1) := by decide +kernel
theorem dX10_back_42 : decode cX10_back 42 = .ok (.getfield 35, 3) := by decide +kernel
theorem dX10_back_45 : decode cX10_back 45 = .ok (.bipush 15, 2) := by decide +kernel
theorem dX10_back_47 : decode cX10_back 47 = .ok (.iaload, 1) := by decide +kernel
theorem dX10_back_48 : decode cX10_back 48 = .ok (.ireturn, 1) := by decide +kernel
theorem dX10_count_0 : decode cX10_count 0 = .ok (.iload_n 1, 1) := by decide +kernel
theorem dX10_count_1 : decode cX10_count 1 = .ok (.tableswitch 65 0 4 #[35, 40, 45, 53, 58], 35) := by decide +kernel
theorem dX10_count_36 : decode cX10_count 36 = .ok (.aload_n 0, 1) := by decide +kernel
theorem dX10_count_37 : decode cX10_count 37 = .ok (.getfield 7, 3) := by decide +kernel
theorem dX10_count_40 : decode cX10_count 40 = .ok (.ireturn, 1) := by decide +kernel
theorem dX10_count_41 : decode cX10_count 41 = .ok (.aload_n 0, 1) := by decide +kernel
theorem dX10_count_42 : decode cX10_count 42 = .ok (.getfield 13, 3) := by decide +kernel
theorem dX10_count_45 : decode cX10_count 45 = .ok (.ireturn, 1) := by decide +kernel
theorem dX10_count_46 : decode cX10_count 46 = .ok (.aload_n 0, 1) := by decide +kernel
theorem dX10_count_47 : decode cX10_count 47 = .ok (.getfield 35, 3) := by decide +kernel
theorem dX10_count_50 : decode cX10_count 50 = .ok (.bipush 15, 2) := by decide +kernel
theorem dX10_count_52 : decode cX10_count 52 = .ok (.iaload, 1) := by decide +kernel
theorem dX10_count_53 : decode cX10_count 53 = .ok (.ireturn, 1) := by decide +kernel
theorem dX10_count_54 : decode cX10_count 54 = .ok (.aload_n 0, 1) := by decide +kernel
theorem dX10_count_55 : decode cX10_count 55 = .ok (.getfield 73, 3) := by decide +kernel
theorem dX10_count_58 : decode cX10_count 58 = .ok (.ireturn, 1) := by decide +kernel
theorem dX10_count_59 : decode cX10_count 59 = .ok (.aload_n 0, 1) := by decide +kernel
theorem dX10_count_60 : decode cX10_count 60 = .ok (.getfield 35, 3) := by decide +kernel
theorem dX10_count_63 : decode cX10_count 63 = .ok (.iconst 0, 1) := by decide +kernel
theorem dX10_count_64 : decode cX10_count 64 = .ok (.iaload, 1) := by decide +kernel
theorem dX10_count_65 : decode cX10_count 65 = .ok (.ireturn, 1) := by decide +kernel
theorem dX10_count_66 : decode cX10_count 66 = .ok (.bipush (-3), 2) := by decide +kernel
theorem dX10_count_68 : decode cX10_count 68 = .ok (.ireturn, 1) := by decide +kernel
theorem dL_law_0 : decode cL_law 0 = .ok (.new 7, 3) := by decide +kernel
theorem dL_law_3 : decode cL_law 3 = .ok (.dup, 1) := by decide +kernel
theorem dL_law_4 : decode cL_law 4 = .ok (.invokespecial 9, 3) := by decide +kernel
theorem dL_law_7 : decode cL_law 7 = .ok (.astore_n 1, 1) := by decide +kernel
theorem dL_law_8 : decode cL_law 8 = .ok (.new 10, 3) := by decide +kernel
theorem dL_law_11 : decode cL_law 11 = .ok (.dup, 1) := by decide +kernel
theorem dL_law_12 : decode cL_law 12 = .ok (.invokespecial 12, 3) := by decide +kernel
theorem dL_law_15 : decode cL_law 15 = .ok (.astore_n 2, 1) := by decide +kernel
theorem dL_law_16 : decode cL_law 16 = .ok (.iconst 0, 1) := by decide +kernel
theorem dL_law_17 : decode cL_law 17 = .ok (.istore_n 3, 1) := by decide +kernel
theorem dL_law_18 : decode cL_law 18 = .ok (.iload_n 3, 1) := by decide +kernel
theorem dL_law_19 : decode cL_law 19 = .ok (.aload_n 0, 1) := by decide +kernel
theorem dL_law_20 : decode cL_law 20 = .ok (.arraylength, 1) := by decide +kernel
theorem dL_law_21 : decode cL_law 21 = .ok (.iconst 5, 1) := by decide +kernel
theorem dL_law_22 : decode cL_law 22 = .ok (.isub, 1) := by decide +kernel
theorem dL_law_23 : decode cL_law 23 = .ok (.if_icmp .gt 827, 3) := by decide +kernel
theorem dL_law_26 : decode cL_law 26 = .ok (.aload_n 0, 1) := by decide +kernel
theorem dL_law_27 : decode cL_law 27 = .ok (.iload_n 3, 1) := by decide +kernel
theorem dL_law_28 : decode cL_law 28 = .ok (.iaload, 1) := by decide +kernel
theorem dL_law_29 : decode cL_law 29 = .ok (.bipush 31, 2) := by decide +kernel
theorem dL_law_31 : decode cL_law 31 = .ok (.iand, 1) := by decide +kernel
theorem dL_law_32 : decode cL_law 32 = .ok (.tableswitch 812 0 24 #[116, 179, 192, 205, 218, 261, 294, 317, 340, 373, 416, 429, 442, 465, 488, 511, 524, 567, 620, 643, 676, 720, 743, 766, 789], 116) := by decide +kernel
theorem dL_law_148 : decode cL_law 148 = .ok (.aload_n 1, 1) := by decide +kernel
theorem dL_law_149 : decode cL_law 149 = .ok (.aload_n 0, 1) := by decide +kernel
theorem dL_law_150 : decode cL_law 150 = .ok (.iload_n 3, 1) := by decide +kernel
theorem dL_law_151 : decode cL_law 151 = .ok (.iconst 1, 1) := by decide +kernel
theorem dL_law_152 : decode cL_law 152 = .ok (.iadd, 1) := by decide +kernel
theorem dL_law_153 : decode cL_law 153 = .ok (.iaload, 1) := by decide +kernel
theorem dL_law_154 : decode cL_law 154 = .ok (.i2l, 1) := by decide +kernel
theorem dL_law_155 : decode cL_law 155 = .ok (.bipush 32, 2) := by decide +kernel
theorem dL_law_157 : decode cL_law 157 = .ok (.lshl, 1) := by decide +kernel
theorem dL_law_158 : decode cL_law 158 = .ok (.aload_n 0, 1) := by decide +kernel
theorem dL_law_159 : decode cL_law 159 = .ok (.iload_n 3, 1) := by decide +kernel
theorem dL_law_160 : decode cL_law 160 = .ok (.iconst 2, 1) := by decide +kernel
theorem dL_law_161 : decode cL_law 161 = .ok (.iadd, 1) := by decide +kernel
theorem dL_law_162 : decode cL_law 162 = .ok (.iaload, 1) := by decide +kernel
theorem dL_law_163 : decode cL_law 163 = .ok (.i2l, 1) := by decide +kernel
theorem dL_law_164 : decode cL_law 164 = .ok (.ldc2_w 13, 3) := by decide +kernel
theorem dL_law_167 : decode cL_law 167 = .ok (.land, 1) := by decide +kernel
theorem dL_law_168 : decode cL_law 168 = .ok (.lor, 1) := by decide +kernel
theorem dL_law_169 : decode cL_law 169 = .ok (.aload_n 0, 1) := by decide +kernel
theorem dL_law_170 : decode cL_law 170 = .ok (.iload_n 3, 1) := by decide +kernel
theorem dL_law_171 : decode cL_law 171 = .ok (.iconst 3, 1) := by decide +kernel
theorem dL_law_172 : decode cL_law 172 = .ok (.iadd, 1) := by decide +kernel
theorem dL_law_173 : decode cL_law 173 = .ok (.iaload, 1) := by decide +kernel
theorem dL_law_174 : decode cL_law 174 = .ok (.invokevirtual 15, 3) := by decide +kernel
theorem dL_law_177 : decode cL_law 177 = .ok (.aload_n 2, 1) := by decide +kernel
theorem dL_law_178 : decode cL_law 178 = .ok (.aload_n 0, 1) := by decide +kernel
theorem dL_law_179 : decode cL_law 179 = .ok (.iload_n 3, 1) := by decide +kernel
theorem dL_law_180 : decode cL_law 180 = .ok (.iconst 1, 1) := by decide +kernel
theorem dL_law_181 : decode cL_law 181 = .ok (.iadd, 1) := by decide +kernel
theorem dL_law_182 : decode cL_law 182 = .ok (.iaload, 1) := by decide +kernel
theorem dL_law_183 : decode cL_law 183 = .ok (.i2l, 1) := by decide +kernel
theorem dL_law_184 : decode cL_law 184 = .ok (.bipush 32, 2) := by decide +kernel
theorem dL_law_186 : decode cL_law 186 = .ok (.lshl, 1) := by decide +kernel
theorem dL_law_187 : decode cL_law 187 = .ok (.aload_n 0, 1) := by decide +kernel
theorem dL_law_188 : decode cL_law 188 = .ok (.iload_n 3, 1) := by decide +kernel
theorem dL_law_189 : decode cL_law 189 = .ok (.iconst 2, 1) := by decide +kernel
theorem dL_law_190 : decode cL_law 190 = .ok (.iadd, 1) := by decide +kernel
theorem dL_law_191 : decode cL_law 191 = .ok (.iaload, 1) := by decide +kernel
theorem dL_law_192 : decode cL_law 192 = .ok (.i2l, 1) := by decide +kernel
theorem dL_law_193 : decode cL_law 193 = .ok (.ldc2_w 13, 3) := by decide +kernel
theorem dL_law_196 : decode cL_law 196 = .ok (.land, 1) := by decide +kernel
theorem dL_law_197 : decode cL_law 197 = .ok (.lor, 1) := by decide +kernel
theorem dL_law_198 : decode cL_law 198 = .ok (.aload_n 0, 1) := by decide +kernel
theorem dL_law_199 : decode cL_law 199 = .ok (.iload_n 3, 1) := by decide +kernel
theorem dL_law_200 : decode cL_law 200 = .ok (.iconst 3, 1) := by decide +kernel
theorem dL_law_201 : decode cL_law 201 = .ok (.iadd, 1) := by decide +kernel
theorem dL_law_202 : decode cL_law 202 = .ok (.iaload, 1) := by decide +kernel
theorem dL_law_203 : decode cL_law 203 = .ok (.invokevirtual 19, 3) := by decide +kernel
theorem dL_law_206 : decode cL_law 206 = .ok (.if_icmp .eq 638, 3) := by decide +kernel
theorem dL_law_209 : decode cL_law 209 = .ok (.iconst 0, 1) := by decide +kernel
theorem dL_law_210 : decode cL_law 210 = .ok (.ireturn, 1) := by decide +kernel
theorem dL_law_211 : decode cL_law 211 = .ok (.aload_n 1, 1) := by decide +kernel
theorem dL_law_212 : decode cL_law 212 = .ok (.invokevirtual 20, 3) := by decide +kernel
theorem dL_law_215 : decode cL_law 215 = .ok (.aload_n 2, 1) := by decide +kernel
theorem dL_law_216 : decode cL_law 216 = .ok (.invokevirtual 24, 3) := by decide +kernel
theorem dL_law_219 : decode cL_law 219 = .ok (.if_icmp .eq 625, 3) := by decide +kernel
theorem dL_law_222 : decode cL_law 222 = .ok (.iconst 0, 1) := by decide +kernel
theorem dL_law_223 : decode cL_law 223 = .ok (.ireturn, 1) := by decide +kernel
theorem dL_law_224 : decode cL_law 224 = .ok (.aload_n 1, 1) := by decide +kernel
theorem dL_law_225 : decode cL_law 225 = .ok (.invokevirtual 25, 3) := by decide +kernel
theorem dL_law_228 : decode cL_law 228 = .ok (.aload_n 2, 1) := by decide +kernel
theorem dL_law_229 : decode cL_law 229 = .ok (.invokevirtual 28, 3) := by decide +kernel
theorem dL_law_232 : decode cL_law 232 = .ok (.if_icmp .eq 612, 3) := by decide +kernel
theorem dL_law_235 : decode cL_law 235 = .ok (.iconst 0, 1) := by decide +kernel
theorem dL_law_236 : decode cL_law 236 = .ok (.ireturn, 1) := by decide +kernel
theorem dL_law_237 : decode cL_law 237 = .ok (.aload_n 1, 1) := by decide +kernel
theorem dL_law_238 : decode cL_law 238 = .ok (.invokevirtual 29, 3) := by decide +kernel
theorem dL_law_241 : decode cL_law 241 = .ok (.aload_n 2, 1) := by decide +kernel
theorem dL_law_242 : decode cL_law 242 = .ok (.invokevirtual 32, 3) := by decide +kernel
theorem dL_law_245 : decode cL_law 245 = .ok (.if_icmp .eq 599, 3) := by decide +kernel
theorem dL_law_248 : decode cL_law 248 = .ok (.iconst 0, 1) := by decide +kernel
theorem dL_law_249 : decode cL_law 249 = .ok (.ireturn, 1) := by decide +kernel
theorem dL_law_250 : decode cL_law 250 = .ok (.aload_n 1, 1) := by decide +kernel
theorem dL_law_251 : decode cL_law 251 = .ok (.aload_n 0, 1) := by decide +kernel
theorem dL_law_252 : decode cL_law 252 = .ok (.iload_n 3, 1) := by decide +kernel
theorem dL_law_253 : decode cL_law 253 = .ok (.iconst 1, 1) := by decide +kernel
theorem dL_law_254 : decode cL_law 254 = .ok (.iadd, 1) := by decide +kernel
theorem dL_law_255 : decode cL_law 255 = .ok (.iaload, 1) := by decide +kernel
theorem dL_law_256 : decode cL_law 256 = .ok (.aload_n 0, 1) := by decide +kernel
theorem dL_law_257 : decode cL_law 257 = .ok (.iload_n 3, 1) := by decide +kernel
theorem dL_law_258 : decode cL_law 258 = .ok (.iconst 2, 1) := by decide +kernel
theorem dL_law_259 : decode cL_law 259 = .ok (.iadd, 1) := by decide +kernel
theorem dL_law_260 : decode cL_law 260 = .ok (.iaload, 1) := by decide +kernel
theorem dL_law_261 : decode cL_law 261 = .ok (.aload_n 0, 1) := by decide +kernel
theorem dL_law_262 : decode cL_law 262 = .ok (.iload_n 3, 1) := by decide +kernel
theorem dL_law_263 : decode cL_law 263 = .ok (.iconst 3, 1) := by decide +kernel
theorem dL_law_264 : decode cL_law 264 = .ok (.iadd, 1) := by decide +kernel
theorem dL_law_265 : decode cL_law 265 = .ok (.iaload, 1) := by decide +kernel
theorem dL_law_266 : decode cL_law 266 = .ok (.invokevirtual 33, 3) := by decide +kernel
theorem dL_law_269 : decode cL_law 269 = .ok (.aload_n 2, 1) := by decide +kernel
theorem dL_law_270 : decode cL_law 270 = .ok (.aload_n 0, 1) := by decide +kernel
theorem dL_law_271 : decode cL_law 271 = .ok (.iload_n 3, 1) := by decide +kernel
theorem dL_law_272 : decode cL_law 272 = .ok (.iconst 1, 1) := by decide +kernel
theorem dL_law_273 : decode cL_law 273 = .ok (.iadd, 1) := by decide +kernel
theorem dL_law_274 : decode cL_law 274 = .ok (.iaload, 1) := by decide +kernel
theorem dL_law_275 : decode cL_law 275 = .ok (.aload_n 0, 1) := by decide +kernel
theorem dL_law_276 : decode cL_law 276 = .ok (.iload_n 3, 1) := by decide +kernel
theorem dL_law_277 : decode cL_law 277 = .ok (.iconst 2, 1) := by decide +kernel
theorem dL_law_278 : decode cL_law 278 = .ok (.iadd, 1) := by decide +kernel
theorem dL_law_279 : decode cL_law 279 = .ok (.iaload, 1) := by decide +kernel
theorem dL_law_280 : decode cL_law 280 = .ok (.aload_n 0, 1) := by decide +kernel
theorem dL_law_281 : decode cL_law 281 = .ok (.iload_n 3, 1) := by decide +kernel
theorem dL_law_282 : decode cL_law 282 = .ok (.iconst 3, 1) := by decide +kernel
theorem dL_law_283 : decode cL_law 283 = .ok (.iadd, 1) := by decide +kernel
theorem dL_law_284 : decode cL_law 284 = .ok (.iaload, 1) := by decide +kernel
theorem dL_law_285 : decode cL_law 285 = .ok (.invokevirtual 37, 3) := by decide +kernel
theorem dL_law_288 : decode cL_law 288 = .ok (.if_icmp .eq 556, 3) := by decide +kernel
theorem dL_law_291 : decode cL_law 291 = .ok (.iconst 0, 1) := by decide +kernel
theorem dL_law_292 : decode cL_law 292 = .ok (.ireturn, 1) := by decide +kernel
theorem dL_law_293 : decode cL_law 293 = .ok (.aload_n 1, 1) := by decide +kernel
theorem dL_law_294 : decode cL_law 294 = .ok (.aload_n 0, 1) := by decide +kernel
theorem dL_law_295 : decode cL_law 295 = .ok (.iload_n 3, 1) := by decide +kernel
theorem dL_law_296 : decode cL_law 296 = .ok (.iconst 1, 1) := by decide +kernel
theorem dL_law_297 : decode cL_law 297 = .ok (.iadd, 1) := by decide +kernel
theorem dL_law_298 : decode cL_law 298 = .ok (.iaload, 1) := by decide +kernel
theorem dL_law_299 : decode cL_law 299 = .ok (.aload_n 0, 1) := by decide +kernel
theorem dL_law_300 : decode cL_law 300 = .ok (.iload_n 3, 1) := by decide +kernel
theorem dL_law_301 : decode cL_law 301 = .ok (.iconst 2, 1) := by decide +kernel
theorem dL_law_302 : decode cL_law 302 = .ok (.iadd, 1) := by decide +kernel
theorem dL_law_303 : decode cL_law 303 = .ok (.iaload, 1) := by decide +kernel
theorem dL_law_304 : decode cL_law 304 = .ok (.invokevirtual 38, 3) := by decide +kernel
theorem dL_law_307 : decode cL_law 307 = .ok (.aload_n 2, 1) := by decide +kernel
theorem dL_law_308 : decode cL_law 308 = .ok (.aload_n 0, 1) := by decide +kernel
theorem dL_law_309 : decode cL_law 309 = .ok (.iload_n 3, 1) := by decide +kernel
theorem dL_law_310 : decode cL_law 310 = .ok (.iconst 1, 1) := by decide +kernel
theorem dL_law_311 : decode cL_law 311 = .ok (.iadd, 1) := by decide +kernel
theorem dL_law_312 : decode cL_law 312 = .ok (.iaload, 1) := by decide +kernel
theorem dL_law_313 : decode cL_law 313 = .ok (.aload_n 0, 1) := by decide +kernel
theorem dL_law_314 : decode cL_law 314 = .ok (.iload_n 3, 1) := by decide +kernel
theorem dL_law_315 : decode cL_law 315 = .ok (.iconst 2, 1) := by decide +kernel
theorem dL_law_316 : decode cL_law 316 = .ok (.iadd, 1) := by decide +kernel
theorem dL_law_317 : decode cL_law 317 = .ok (.iaload, 1) := by decide +kernel
theorem dL_law_318 : decode cL_law 318 = .ok (.invokevirtual 42, 3) := by decide +kernel
theorem dL_law_321 : decode cL_law 321 = .ok (.if_icmp .eq 523, 3) := by decide +kernel
theorem dL_law_324 : decode cL_law 324 = .ok (.iconst 0, 1) := by decide +kernel
theorem dL_law_325 : decode cL_law 325 = .ok (.ireturn, 1) := by decide +kernel
theorem dL_law_326 : decode cL_law 326 = .ok (.aload_n 1, 1) := by decide +kernel
theorem dL_law_327 : decode cL_law 327 = .ok (.aload_n 0, 1) := by decide +kernel
theorem dL_law_328 : decode cL_law 328 = .ok (.iload_n 3, 1) := by decide +kernel
theorem dL_law_329 : decode cL_law 329 = .ok (.iconst 1, 1) := by decide +kernel
theorem dL_law_330 : decode cL_law 330 = .ok (.iadd, 1) := by decide +kernel
theorem dL_law_331 : decode cL_law 331 = .ok (.iaload, 1) := by decide +kernel
theorem dL_law_332 : decode cL_law 332 = .ok (.invokevirtual 43, 3) := by decide +kernel
theorem dL_law_335 : decode cL_law 335 = .ok (.aload_n 2, 1) := by decide +kernel
theorem dL_law_336 : decode cL_law 336 = .ok (.aload_n 0, 1) := by decide +kernel
theorem dL_law_337 : decode cL_law 337 = .ok (.iload_n 3, 1) := by decide +kernel
theorem dL_law_338 : decode cL_law 338 = .ok (.iconst 1, 1) := by decide +kernel
theorem dL_law_339 : decode cL_law 339 = .ok (.iadd, 1) := by decide +kernel
theorem dL_law_340 : decode cL_law 340 = .ok (.iaload, 1) := by decide +kernel
theorem dL_law_341 : decode cL_law 341 = .ok (.invokevirtual 47, 3) := by decide +kernel
theorem dL_law_344 : decode cL_law 344 = .ok (.if_icmp .eq 500, 3) := by decide +kernel
theorem dL_law_347 : decode cL_law 347 = .ok (.iconst 0, 1) := by decide +kernel
theorem dL_law_348 : decode cL_law 348 = .ok (.ireturn, 1) := by decide +kernel
theorem dL_law_349 : decode cL_law 349 = .ok (.aload_n 1, 1) := by decide +kernel
theorem dL_law_350 : decode cL_law 350 = .ok (.aload_n 0, 1) := by decide +kernel
theorem dL_law_351 : decode cL_law 351 = .ok (.iload_n 3, 1) := by decide +kernel
theorem dL_law_352 : decode cL_law 352 = .ok (.iconst 1, 1) := by decide +kernel
theorem dL_law_353 : decode cL_law 353 = .ok (.iadd, 1) := by decide +kernel
theorem dL_law_354 : decode cL_law 354 = .ok (.iaload, 1) := by decide +kernel
theorem dL_law_355 : decode cL_law 355 = .ok (.invokevirtual 48, 3) := by decide +kernel
theorem dL_law_358 : decode cL_law 358 = .ok (.aload_n 2, 1) := by decide +kernel
theorem dL_law_359 : decode cL_law 359 = .ok (.aload_n 0, 1) := by decide +kernel
theorem dL_law_360 : decode cL_law 360 = .ok (.iload_n 3, 1) := by decide +kernel
theorem dL_law_361 : decode cL_law 361 = .ok (.iconst 1, 1) := by decide +kernel
theorem dL_law_362 : decode cL_law 362 = .ok (.iadd, 1) := by decide +kernel
theorem dL_law_363 : decode cL_law 363 = .ok (.iaload, 1) := by decide +kernel
theorem dL_law_364 : decode cL_law 364 = .ok (.invokevirtual 51, 3) := by decide +kernel
theorem dL_law_367 : decode cL_law 367 = .ok (.if_icmp .eq 477, 3) := by decide +kernel
theorem dL_law_370 : decode cL_law 370 = .ok (.iconst 0, 1) := by decide +kernel
theorem dL_law_371 : decode cL_law 371 = .ok (.ireturn, 1) := by decide +kernel
theorem dL_law_372 : decode cL_law 372 = .ok (.aload_n 1, 1) := by decide +kernel
theorem dL_law_373 : decode cL_law 373 = .ok (.aload_n 0, 1) := by decide +kernel
theorem dL_law_374 : decode cL_law 374 = .ok (.iload_n 3, 1) := by decide +kernel
theorem dL_law_375 : decode cL_law 375 = .ok (.iconst 1, 1) := by decide +kernel
theorem dL_law_376 : decode cL_law 376 = .ok (.iadd, 1) := by decide +kernel
theorem dL_law_377 : decode cL_law 377 = .ok (.iaload, 1) := by decide +kernel
theorem dL_law_378 : decode cL_law 378 = .ok (.aload_n 0, 1) := by decide +kernel
theorem dL_law_379 : decode cL_law 379 = .ok (.iload_n 3, 1) := by decide +kernel
theorem dL_law_380 : decode cL_law 380 = .ok (.iconst 2, 1) := by decide +kernel
theorem dL_law_381 : decode cL_law 381 = .ok (.iadd, 1) := by decide +kernel
theorem dL_law_382 : decode cL_law 382 = .ok (.iaload, 1) := by decide +kernel
theorem dL_law_383 : decode cL_law 383 = .ok (.invokevirtual 52, 3) := by decide +kernel
theorem dL_law_386 : decode cL_law 386 = .ok (.aload_n 2, 1) := by decide +kernel
theorem dL_law_387 : decode cL_law 387 = .ok (.aload_n 0, 1) := by decide +kernel
theorem dL_law_388 : decode cL_law 388 = .ok (.iload_n 3, 1) := by decide +kernel
theorem dL_law_389 : decode cL_law 389 = .ok (.iconst 1, 1) := by decide +kernel
theorem dL_law_390 : decode cL_law 390 = .ok (.iadd, 1) := by decide +kernel
theorem dL_law_391 : decode cL_law 391 = .ok (.iaload, 1) := by decide +kernel
theorem dL_law_392 : decode cL_law 392 = .ok (.aload_n 0, 1) := by decide +kernel
theorem dL_law_393 : decode cL_law 393 = .ok (.iload_n 3, 1) := by decide +kernel
theorem dL_law_394 : decode cL_law 394 = .ok (.iconst 2, 1) := by decide +kernel
theorem dL_law_395 : decode cL_law 395 = .ok (.iadd, 1) := by decide +kernel
theorem dL_law_396 : decode cL_law 396 = .ok (.iaload, 1) := by decide +kernel
theorem dL_law_397 : decode cL_law 397 = .ok (.invokevirtual 55, 3) := by decide +kernel
theorem dL_law_400 : decode cL_law 400 = .ok (.if_icmp .eq 444, 3) := by decide +kernel
theorem dL_law_403 : decode cL_law 403 = .ok (.iconst 0, 1) := by decide +kernel
theorem dL_law_404 : decode cL_law 404 = .ok (.ireturn, 1) := by decide +kernel
theorem dL_law_405 : decode cL_law 405 = .ok (.aload_n 1, 1) := by decide +kernel
theorem dL_law_406 : decode cL_law 406 = .ok (.aload_n 0, 1) := by decide +kernel
theorem dL_law_407 : decode cL_law 407 = .ok (.iload_n 3, 1) := by decide +kernel
theorem dL_law_408 : decode cL_law 408 = .ok (.iconst 1, 1) := by decide +kernel
theorem dL_law_409 : decode cL_law 409 = .ok (.iadd, 1) := by decide +kernel
theorem dL_law_410 : decode cL_law 410 = .ok (.iaload, 1) := by decide +kernel
theorem dL_law_411 : decode cL_law 411 = .ok (.aload_n 0, 1) := by decide +kernel
theorem dL_law_412 : decode cL_law 412 = .ok (.iload_n 3, 1) := by decide +kernel
theorem dL_law_413 : decode cL_law 413 = .ok (.iconst 2, 1) := by decide +kernel
theorem dL_law_414 : decode cL_law 414 = .ok (.iadd, 1) := by decide +kernel
theorem dL_law_415 : decode cL_law 415 = .ok (.iaload, 1) := by decide +kernel
theorem dL_law_416 : decode cL_law 416 = .ok (.aload_n 0, 1) := by decide +kernel
theorem dL_law_417 : decode cL_law 417 = .ok (.iload_n 3, 1) := by decide +kernel
theorem dL_law_418 : decode cL_law 418 = .ok (.iconst 3, 1) := by decide +kernel
theorem dL_law_419 : decode cL_law 419 = .ok (.iadd, 1) := by decide +kernel
theorem dL_law_420 : decode cL_law 420 = .ok (.iaload, 1) := by decide +kernel
theorem dL_law_421 : decode cL_law 421 = .ok (.invokevirtual 56, 3) := by decide +kernel
theorem dL_law_424 : decode cL_law 424 = .ok (.aload_n 2, 1) := by decide +kernel
theorem dL_law_425 : decode cL_law 425 = .ok (.aload_n 0, 1) := by decide +kernel
theorem dL_law_426 : decode cL_law 426 = .ok (.iload_n 3, 1) := by decide +kernel
theorem dL_law_427 : decode cL_law 427 = .ok (.iconst 1, 1) := by decide +kernel
theorem dL_law_428 : decode cL_law 428 = .ok (.iadd, 1) := by decide +kernel
theorem dL_law_429 : decode cL_law 429 = .ok (.iaload, 1) := by decide +kernel
theorem dL_law_430 : decode cL_law 430 = .ok (.aload_n 0, 1) := by decide +kernel
theorem dL_law_431 : decode cL_law 431 = .ok (.iload_n 3, 1) := by decide +kernel
theorem dL_law_432 : decode cL_law 432 = .ok (.iconst 2, 1) := by decide +kernel
theorem dL_law_433 : decode cL_law 433 = .ok (.iadd, 1) := by decide +kernel
theorem dL_law_434 : decode cL_law 434 = .ok (.iaload, 1) := by decide +kernel
theorem dL_law_435 : decode cL_law 435 = .ok (.aload_n 0, 1) := by decide +kernel
theorem dL_law_436 : decode cL_law 436 = .ok (.iload_n 3, 1) := by decide +kernel
theorem dL_law_437 : decode cL_law 437 = .ok (.iconst 3, 1) := by decide +kernel
theorem dL_law_438 : decode cL_law 438 = .ok (.iadd, 1) := by decide +kernel
theorem dL_law_439 : decode cL_law 439 = .ok (.iaload, 1) := by decide +kernel
theorem dL_law_440 : decode cL_law 440 = .ok (.invokevirtual 59, 3) := by decide +kernel
theorem dL_law_443 : decode cL_law 443 = .ok (.if_icmp .eq 401, 3) := by decide +kernel
theorem dL_law_446 : decode cL_law 446 = .ok (.iconst 0, 1) := by decide +kernel
theorem dL_law_447 : decode cL_law 447 = .ok (.ireturn, 1) := by decide +kernel
theorem dL_law_448 : decode cL_law 448 = .ok (.aload_n 1, 1) := by decide +kernel
theorem dL_law_449 : decode cL_law 449 = .ok (.invokevirtual 60, 3) := by decide +kernel
theorem dL_law_452 : decode cL_law 452 = .ok (.aload_n 2, 1) := by decide +kernel
theorem dL_law_453 : decode cL_law 453 = .ok (.invokevirtual 63, 3) := by decide +kernel
theorem dL_law_456 : decode cL_law 456 = .ok (.if_icmp .eq 388, 3) := by decide +kernel
theorem dL_law_459 : decode cL_law 459 = .ok (.iconst 0, 1) := by decide +kernel
theorem dL_law_460 : decode cL_law 460 = .ok (.ireturn, 1) := by decide +kernel
theorem dL_law_461 : decode cL_law 461 = .ok (.aload_n 1, 1) := by decide +kernel
theorem dL_law_462 : decode cL_law 462 = .ok (.invokevirtual 64, 3) := by decide +kernel
theorem dL_law_465 : decode cL_law 465 = .ok (.aload_n 2, 1) := by decide +kernel
theorem dL_law_466 : decode cL_law 466 = .ok (.invokevirtual 67, 3) := by decide +kernel
theorem dL_law_469 : decode cL_law 469 = .ok (.if_icmp .eq 375, 3) := by decide +kernel
theorem dL_law_472 : decode cL_law 472 = .ok (.iconst 0, 1) := by decide +kernel
theorem dL_law_473 : decode cL_law 473 = .ok (.ireturn, 1) := by decide +kernel
theorem dL_law_474 : decode cL_law 474 = .ok (.aload_n 1, 1) := by decide +kernel
theorem dL_law_475 : decode cL_law 475 = .ok (.aload_n 0, 1) := by decide +kernel
theorem dL_law_476 : decode cL_law 476 = .ok (.iload_n 3, 1) := by decide +kernel
theorem dL_law_477 : decode cL_law 477 = .ok (.iconst 1, 1) := by decide +kernel
theorem dL_law_478 : decode cL_law 478 = .ok (.iadd, 1) := by decide +kernel
theorem dL_law_479 : decode cL_law 479 = .ok (.iaload, 1) := by decide +kernel
theorem dL_law_480 : decode cL_law 480 = .ok (.invokevirtual 68, 3) := by decide +kernel
theorem dL_law_483 : decode cL_law 483 = .ok (.aload_n 2, 1) := by decide +kernel
theorem dL_law_484 : decode cL_law 484 = .ok (.aload_n 0, 1) := by decide +kernel
theorem dL_law_485 : decode cL_law 485 = .ok (.iload_n 3, 1) := by decide +kernel
theorem dL_law_486 : decode cL_law 486 = .ok (.iconst 1, 1) := by decide +kernel
theorem dL_law_487 : decode cL_law 487 = .ok (.iadd, 1) := by decide +kernel
theorem dL_law_488 : decode cL_law 488 = .ok (.iaload, 1) := by decide +kernel
theorem dL_law_489 : decode cL_law 489 = .ok (.invokevirtual 71, 3) := by decide +kernel
theorem dL_law_492 : decode cL_law 492 = .ok (.if_icmp .eq 352, 3) := by decide +kernel
theorem dL_law_495 : decode cL_law 495 = .ok (.iconst 0, 1) := by decide +kernel
theorem dL_law_496 : decode cL_law 496 = .ok (.ireturn, 1) := by decide +kernel
theorem dL_law_497 : decode cL_law 497 = .ok (.aload_n 1, 1) := by decide +kernel
theorem dL_law_498 : decode cL_law 498 = .ok (.aload_n 0, 1) := by decide +kernel
theorem dL_law_499 : decode cL_law 499 = .ok (.iload_n 3, 1) := by decide +kernel
theorem dL_law_500 : decode cL_law 500 = .ok (.iconst 1, 1) := by decide +kernel
theorem dL_law_501 : decode cL_law 501 = .ok (.iadd, 1) := by decide +kernel
theorem dL_law_502 : decode cL_law 502 = .ok (.iaload, 1) := by decide +kernel
theorem dL_law_503 : decode cL_law 503 = .ok (.invokevirtual 72, 3) := by decide +kernel
theorem dL_law_506 : decode cL_law 506 = .ok (.aload_n 2, 1) := by decide +kernel
theorem dL_law_507 : decode cL_law 507 = .ok (.aload_n 0, 1) := by decide +kernel
theorem dL_law_508 : decode cL_law 508 = .ok (.iload_n 3, 1) := by decide +kernel
theorem dL_law_509 : decode cL_law 509 = .ok (.iconst 1, 1) := by decide +kernel
theorem dL_law_510 : decode cL_law 510 = .ok (.iadd, 1) := by decide +kernel
theorem dL_law_511 : decode cL_law 511 = .ok (.iaload, 1) := by decide +kernel
theorem dL_law_512 : decode cL_law 512 = .ok (.invokevirtual 75, 3) := by decide +kernel
theorem dL_law_515 : decode cL_law 515 = .ok (.if_icmp .eq 329, 3) := by decide +kernel
theorem dL_law_518 : decode cL_law 518 = .ok (.iconst 0, 1) := by decide +kernel
theorem dL_law_519 : decode cL_law 519 = .ok (.ireturn, 1) := by decide +kernel
theorem dL_law_520 : decode cL_law 520 = .ok (.aload_n 1, 1) := by decide +kernel
theorem dL_law_521 : decode cL_law 521 = .ok (.aload_n 0, 1) := by decide +kernel
theorem dL_law_522 : decode cL_law 522 = .ok (.iload_n 3, 1) := by decide +kernel
theorem dL_law_523 : decode cL_law 523 = .ok (.iconst 1, 1) := by decide +kernel
theorem dL_law_524 : decode cL_law 524 = .ok (.iadd, 1) := by decide +kernel
theorem dL_law_525 : decode cL_law 525 = .ok (.iaload, 1) := by decide +kernel
theorem dL_law_526 : decode cL_law 526 = .ok (.invokevirtual 76, 3) := by decide +kernel
end
section
theorem dL_law_529 : decode cL_law 529 = .ok (.aload_n 2, 1) := by decide +kernel
theorem dL_law_530 : decode cL_law 530 = .ok (.aload_n 0, 1) := by decide +kernel
theorem dL_law_531 : decode cL_law 531 = .ok (.iload_n 3, 1) := by decide +kernel
theorem dL_law_532 : decode cL_law 532 = .ok (.iconst 1, 1) := by decide +kernel
theorem dL_law_533 : decode cL_law 533 = .ok (.iadd, 1) := by decide +kernel
theorem dL_law_534 : decode cL_law 534 = .ok (.iaload, 1) := by decide +kernel
theorem dL_law_535 : decode cL_law 535 = .ok (.invokevirtual 79, 3) := by decide +kernel
theorem dL_law_538 : decode cL_law 538 = .ok (.if_icmp .eq 306, 3) := by decide +kernel
theorem dL_law_541 : decode cL_law 541 = .ok (.iconst 0, 1) := by decide +kernel
theorem dL_law_542 : decode cL_law 542 = .ok (.ireturn, 1) := by decide +kernel
theorem dL_law_543 : decode cL_law 543 = .ok (.aload_n 1, 1) := by decide +kernel
theorem dL_law_544 : decode cL_law 544 = .ok (.invokevirtual 80, 3) := by decide +kernel
theorem dL_law_547 : decode cL_law 547 = .ok (.aload_n 2, 1) := by decide +kernel
theorem dL_law_548 : decode cL_law 548 = .ok (.invokevirtual 83, 3) := by decide +kernel
theorem dL_law_551 : decode cL_law 551 = .ok (.if_icmp .eq 293, 3) := by decide +kernel
theorem dL_law_554 : decode cL_law 554 = .ok (.iconst 0, 1) := by decide +kernel
theorem dL_law_555 : decode cL_law 555 = .ok (.ireturn, 1) := by decide +kernel
theorem dL_law_556 : decode cL_law 556 = .ok (.aload_n 1, 1) := by decide +kernel
theorem dL_law_557 : decode cL_law 557 = .ok (.aload_n 0, 1) := by decide +kernel
theorem dL_law_558 : decode cL_law 558 = .ok (.iload_n 3, 1) := by decide +kernel
theorem dL_law_559 : decode cL_law 559 = .ok (.iconst 1, 1) := by decide +kernel
theorem dL_law_560 : decode cL_law 560 = .ok (.iadd, 1) := by decide +kernel
theorem dL_law_561 : decode cL_law 561 = .ok (.iaload, 1) := by decide +kernel
theorem dL_law_562 : decode cL_law 562 = .ok (.aload_n 0, 1) := by decide +kernel
theorem dL_law_563 : decode cL_law 563 = .ok (.iload_n 3, 1) := by decide +kernel
theorem dL_law_564 : decode cL_law 564 = .ok (.iconst 2, 1) := by decide +kernel
theorem dL_law_565 : decode cL_law 565 = .ok (.iadd, 1) := by decide +kernel
theorem dL_law_566 : decode cL_law 566 = .ok (.iaload, 1) := by decide +kernel
theorem dL_law_567 : decode cL_law 567 = .ok (.aload_n 0, 1) := by decide +kernel
theorem dL_law_568 : decode cL_law 568 = .ok (.iload_n 3, 1) := by decide +kernel
theorem dL_law_569 : decode cL_law 569 = .ok (.iconst 3, 1) := by decide +kernel
theorem dL_law_570 : decode cL_law 570 = .ok (.iadd, 1) := by decide +kernel
theorem dL_law_571 : decode cL_law 571 = .ok (.iaload, 1) := by decide +kernel
theorem dL_law_572 : decode cL_law 572 = .ok (.invokevirtual 84, 3) := by decide +kernel
theorem dL_law_575 : decode cL_law 575 = .ok (.aload_n 2, 1) := by decide +kernel
theorem dL_law_576 : decode cL_law 576 = .ok (.aload_n 0, 1) := by decide +kernel
theorem dL_law_577 : decode cL_law 577 = .ok (.iload_n 3, 1) := by decide +kernel
theorem dL_law_578 : decode cL_law 578 = .ok (.iconst 1, 1) := by decide +kernel
theorem dL_law_579 : decode cL_law 579 = .ok (.iadd, 1) := by decide +kernel
theorem dL_law_580 : decode cL_law 580 = .ok (.iaload, 1) := by decide +kernel
theorem dL_law_581 : decode cL_law 581 = .ok (.aload_n 0, 1) := by decide +kernel
theorem dL_law_582 : decode cL_law 582 = .ok (.iload_n 3, 1) := by decide +kernel
theorem dL_law_583 : decode cL_law 583 = .ok (.iconst 2, 1) := by decide +kernel
theorem dL_law_584 : decode cL_law 584 = .ok (.iadd, 1) := by decide +kernel
theorem dL_law_585 : decode cL_law 585 = .ok (.iaload, 1) := by decide +kernel
theorem dL_law_586 : decode cL_law 586 = .ok (.aload_n 0, 1) := by decide +kernel
theorem dL_law_587 : decode cL_law 587 = .ok (.iload_n 3, 1) := by decide +kernel
theorem dL_law_588 : decode cL_law 588 = .ok (.iconst 3, 1) := by decide +kernel
theorem dL_law_589 : decode cL_law 589 = .ok (.iadd, 1) := by decide +kernel
theorem dL_law_590 : decode cL_law 590 = .ok (.iaload, 1) := by decide +kernel
theorem dL_law_591 : decode cL_law 591 = .ok (.invokevirtual 87, 3) := by decide +kernel
theorem dL_law_594 : decode cL_law 594 = .ok (.if_icmp .eq 250, 3) := by decide +kernel
theorem dL_law_597 : decode cL_law 597 = .ok (.iconst 0, 1) := by decide +kernel
theorem dL_law_598 : decode cL_law 598 = .ok (.ireturn, 1) := by decide +kernel
theorem dL_law_599 : decode cL_law 599 = .ok (.aload_n 1, 1) := by decide +kernel
theorem dL_law_600 : decode cL_law 600 = .ok (.aload_n 0, 1) := by decide +kernel
theorem dL_law_601 : decode cL_law 601 = .ok (.iload_n 3, 1) := by decide +kernel
theorem dL_law_602 : decode cL_law 602 = .ok (.iconst 1, 1) := by decide +kernel
theorem dL_law_603 : decode cL_law 603 = .ok (.iadd, 1) := by decide +kernel
theorem dL_law_604 : decode cL_law 604 = .ok (.iaload, 1) := by decide +kernel
theorem dL_law_605 : decode cL_law 605 = .ok (.aload_n 0, 1) := by decide +kernel
theorem dL_law_606 : decode cL_law 606 = .ok (.iload_n 3, 1) := by decide +kernel
theorem dL_law_607 : decode cL_law 607 = .ok (.iconst 2, 1) := by decide +kernel
theorem dL_law_608 : decode cL_law 608 = .ok (.iadd, 1) := by decide +kernel
theorem dL_law_609 : decode cL_law 609 = .ok (.iaload, 1) := by decide +kernel
theorem dL_law_610 : decode cL_law 610 = .ok (.aload_n 0, 1) := by decide +kernel
theorem dL_law_611 : decode cL_law 611 = .ok (.iload_n 3, 1) := by decide +kernel
theorem dL_law_612 : decode cL_law 612 = .ok (.iconst 3, 1) := by decide +kernel
theorem dL_law_613 : decode cL_law 613 = .ok (.iadd, 1) := by decide +kernel
theorem dL_law_614 : decode cL_law 614 = .ok (.iaload, 1) := by decide +kernel
theorem dL_law_615 : decode cL_law 615 = .ok (.aload_n 0, 1) := by decide +kernel
theorem dL_law_616 : decode cL_law 616 = .ok (.iload_n 3, 1) := by decide +kernel
theorem dL_law_617 : decode cL_law 617 = .ok (.iconst 4, 1) := by decide +kernel
theorem dL_law_618 : decode cL_law 618 = .ok (.iadd, 1) := by decide +kernel
theorem dL_law_619 : decode cL_law 619 = .ok (.iaload, 1) := by decide +kernel
theorem dL_law_620 : decode cL_law 620 = .ok (.invokevirtual 88, 3) := by decide +kernel
theorem dL_law_623 : decode cL_law 623 = .ok (.aload_n 2, 1) := by decide +kernel
theorem dL_law_624 : decode cL_law 624 = .ok (.aload_n 0, 1) := by decide +kernel
theorem dL_law_625 : decode cL_law 625 = .ok (.iload_n 3, 1) := by decide +kernel
theorem dL_law_626 : decode cL_law 626 = .ok (.iconst 1, 1) := by decide +kernel
theorem dL_law_627 : decode cL_law 627 = .ok (.iadd, 1) := by decide +kernel
theorem dL_law_628 : decode cL_law 628 = .ok (.iaload, 1) := by decide +kernel
theorem dL_law_629 : decode cL_law 629 = .ok (.aload_n 0, 1) := by decide +kernel
theorem dL_law_630 : decode cL_law 630 = .ok (.iload_n 3, 1) := by decide +kernel
theorem dL_law_631 : decode cL_law 631 = .ok (.iconst 2, 1) := by decide +kernel
theorem dL_law_632 : decode cL_law 632 = .ok (.iadd, 1) := by decide +kernel
theorem dL_law_633 : decode cL_law 633 = .ok (.iaload, 1) := by decide +kernel
theorem dL_law_634 : decode cL_law 634 = .ok (.aload_n 0, 1) := by decide +kernel
theorem dL_law_635 : decode cL_law 635 = .ok (.iload_n 3, 1) := by decide +kernel
theorem dL_law_636 : decode cL_law 636 = .ok (.iconst 3, 1) := by decide +kernel
theorem dL_law_637 : decode cL_law 637 = .ok (.iadd, 1) := by decide +kernel
theorem dL_law_638 : decode cL_law 638 = .ok (.iaload, 1) := by decide +kernel
theorem dL_law_639 : decode cL_law 639 = .ok (.aload_n 0, 1) := by decide +kernel
theorem dL_law_640 : decode cL_law 640 = .ok (.iload_n 3, 1) := by decide +kernel
theorem dL_law_641 : decode cL_law 641 = .ok (.iconst 4, 1) := by decide +kernel
theorem dL_law_642 : decode cL_law 642 = .ok (.iadd, 1) := by decide +kernel
theorem dL_law_643 : decode cL_law 643 = .ok (.iaload, 1) := by decide +kernel
theorem dL_law_644 : decode cL_law 644 = .ok (.invokevirtual 92, 3) := by decide +kernel
theorem dL_law_647 : decode cL_law 647 = .ok (.if_icmp .eq 197, 3) := by decide +kernel
theorem dL_law_650 : decode cL_law 650 = .ok (.iconst 0, 1) := by decide +kernel
theorem dL_law_651 : decode cL_law 651 = .ok (.ireturn, 1) := by decide +kernel
theorem dL_law_652 : decode cL_law 652 = .ok (.aload_n 1, 1) := by decide +kernel
theorem dL_law_653 : decode cL_law 653 = .ok (.aload_n 0, 1) := by decide +kernel
theorem dL_law_654 : decode cL_law 654 = .ok (.iload_n 3, 1) := by decide +kernel
theorem dL_law_655 : decode cL_law 655 = .ok (.iconst 1, 1) := by decide +kernel
theorem dL_law_656 : decode cL_law 656 = .ok (.iadd, 1) := by decide +kernel
theorem dL_law_657 : decode cL_law 657 = .ok (.iaload, 1) := by decide +kernel
theorem dL_law_658 : decode cL_law 658 = .ok (.invokevirtual 93, 3) := by decide +kernel
theorem dL_law_661 : decode cL_law 661 = .ok (.aload_n 2, 1) := by decide +kernel
theorem dL_law_662 : decode cL_law 662 = .ok (.aload_n 0, 1) := by decide +kernel
theorem dL_law_663 : decode cL_law 663 = .ok (.iload_n 3, 1) := by decide +kernel
theorem dL_law_664 : decode cL_law 664 = .ok (.iconst 1, 1) := by decide +kernel
theorem dL_law_665 : decode cL_law 665 = .ok (.iadd, 1) := by decide +kernel
theorem dL_law_666 : decode cL_law 666 = .ok (.iaload, 1) := by decide +kernel
theorem dL_law_667 : decode cL_law 667 = .ok (.invokevirtual 96, 3) := by decide +kernel
theorem dL_law_670 : decode cL_law 670 = .ok (.if_icmp .eq 174, 3) := by decide +kernel
theorem dL_law_673 : decode cL_law 673 = .ok (.iconst 0, 1) := by decide +kernel
theorem dL_law_674 : decode cL_law 674 = .ok (.ireturn, 1) := by decide +kernel
theorem dL_law_675 : decode cL_law 675 = .ok (.aload_n 1, 1) := by decide +kernel
theorem dL_law_676 : decode cL_law 676 = .ok (.aload_n 0, 1) := by decide +kernel
theorem dL_law_677 : decode cL_law 677 = .ok (.iload_n 3, 1) := by decide +kernel
theorem dL_law_678 : decode cL_law 678 = .ok (.iconst 1, 1) := by decide +kernel
theorem dL_law_679 : decode cL_law 679 = .ok (.iadd, 1) := by decide +kernel
theorem dL_law_680 : decode cL_law 680 = .ok (.iaload, 1) := by decide +kernel
theorem dL_law_681 : decode cL_law 681 = .ok (.aload_n 0, 1) := by decide +kernel
theorem dL_law_682 : decode cL_law 682 = .ok (.iload_n 3, 1) := by decide +kernel
theorem dL_law_683 : decode cL_law 683 = .ok (.iconst 2, 1) := by decide +kernel
theorem dL_law_684 : decode cL_law 684 = .ok (.iadd, 1) := by decide +kernel
theorem dL_law_685 : decode cL_law 685 = .ok (.iaload, 1) := by decide +kernel
theorem dL_law_686 : decode cL_law 686 = .ok (.invokevirtual 97, 3) := by decide +kernel
theorem dL_law_689 : decode cL_law 689 = .ok (.aload_n 2, 1) := by decide +kernel
theorem dL_law_690 : decode cL_law 690 = .ok (.aload_n 0, 1) := by decide +kernel
theorem dL_law_691 : decode cL_law 691 = .ok (.iload_n 3, 1) := by decide +kernel
theorem dL_law_692 : decode cL_law 692 = .ok (.iconst 1, 1) := by decide +kernel
theorem dL_law_693 : decode cL_law 693 = .ok (.iadd, 1) := by decide +kernel
theorem dL_law_694 : decode cL_law 694 = .ok (.iaload, 1) := by decide +kernel
theorem dL_law_695 : decode cL_law 695 = .ok (.aload_n 0, 1) := by decide +kernel
theorem dL_law_696 : decode cL_law 696 = .ok (.iload_n 3, 1) := by decide +kernel
theorem dL_law_697 : decode cL_law 697 = .ok (.iconst 2, 1) := by decide +kernel
theorem dL_law_698 : decode cL_law 698 = .ok (.iadd, 1) := by decide +kernel
theorem dL_law_699 : decode cL_law 699 = .ok (.iaload, 1) := by decide +kernel
theorem dL_law_700 : decode cL_law 700 = .ok (.invokevirtual 100, 3) := by decide +kernel
theorem dL_law_703 : decode cL_law 703 = .ok (.if_icmp .eq 141, 3) := by decide +kernel
theorem dL_law_706 : decode cL_law 706 = .ok (.iconst 0, 1) := by decide +kernel
theorem dL_law_707 : decode cL_law 707 = .ok (.ireturn, 1) := by decide +kernel
theorem dL_law_708 : decode cL_law 708 = .ok (.aload_n 1, 1) := by decide +kernel
theorem dL_law_709 : decode cL_law 709 = .ok (.aload_n 0, 1) := by decide +kernel
theorem dL_law_710 : decode cL_law 710 = .ok (.iload_n 3, 1) := by decide +kernel
theorem dL_law_711 : decode cL_law 711 = .ok (.iconst 1, 1) := by decide +kernel
theorem dL_law_712 : decode cL_law 712 = .ok (.iadd, 1) := by decide +kernel
theorem dL_law_713 : decode cL_law 713 = .ok (.iaload, 1) := by decide +kernel
theorem dL_law_714 : decode cL_law 714 = .ok (.aload_n 0, 1) := by decide +kernel
theorem dL_law_715 : decode cL_law 715 = .ok (.iload_n 3, 1) := by decide +kernel
theorem dL_law_716 : decode cL_law 716 = .ok (.iconst 2, 1) := by decide +kernel
theorem dL_law_717 : decode cL_law 717 = .ok (.iadd, 1) := by decide +kernel
theorem dL_law_718 : decode cL_law 718 = .ok (.iaload, 1) := by decide +kernel
theorem dL_law_719 : decode cL_law 719 = .ok (.aload_n 0, 1) := by decide +kernel
theorem dL_law_720 : decode cL_law 720 = .ok (.iload_n 3, 1) := by decide +kernel
theorem dL_law_721 : decode cL_law 721 = .ok (.iconst 3, 1) := by decide +kernel
theorem dL_law_722 : decode cL_law 722 = .ok (.iadd, 1) := by decide +kernel
theorem dL_law_723 : decode cL_law 723 = .ok (.iaload, 1) := by decide +kernel
theorem dL_law_724 : decode cL_law 724 = .ok (.invokevirtual 101, 3) := by decide +kernel
theorem dL_law_727 : decode cL_law 727 = .ok (.aload_n 2, 1) := by decide +kernel
theorem dL_law_728 : decode cL_law 728 = .ok (.aload_n 0, 1) := by decide +kernel
theorem dL_law_729 : decode cL_law 729 = .ok (.iload_n 3, 1) := by decide +kernel
theorem dL_law_730 : decode cL_law 730 = .ok (.iconst 1, 1) := by decide +kernel
theorem dL_law_731 : decode cL_law 731 = .ok (.iadd, 1) := by decide +kernel
theorem dL_law_732 : decode cL_law 732 = .ok (.iaload, 1) := by decide +kernel
theorem dL_law_733 : decode cL_law 733 = .ok (.aload_n 0, 1) := by decide +kernel
theorem dL_law_734 : decode cL_law 734 = .ok (.iload_n 3, 1) := by decide +kernel
theorem dL_law_735 : decode cL_law 735 = .ok (.iconst 2, 1) := by decide +kernel
theorem dL_law_736 : decode cL_law 736 = .ok (.iadd, 1) := by decide +kernel
theorem dL_law_737 : decode cL_law 737 = .ok (.iaload, 1) := by decide +kernel
theorem dL_law_738 : decode cL_law 738 = .ok (.aload_n 0, 1) := by decide +kernel
theorem dL_law_739 : decode cL_law 739 = .ok (.iload_n 3, 1) := by decide +kernel
theorem dL_law_740 : decode cL_law 740 = .ok (.iconst 3, 1) := by decide +kernel
theorem dL_law_741 : decode cL_law 741 = .ok (.iadd, 1) := by decide +kernel
theorem dL_law_742 : decode cL_law 742 = .ok (.iaload, 1) := by decide +kernel
theorem dL_law_743 : decode cL_law 743 = .ok (.invokevirtual 105, 3) := by decide +kernel
theorem dL_law_746 : decode cL_law 746 = .ok (.lcmp, 1) := by decide +kernel
theorem dL_law_747 : decode cL_law 747 = .ok (.ifCond .eq 97, 3) := by decide +kernel
theorem dL_law_750 : decode cL_law 750 = .ok (.iconst 0, 1) := by decide +kernel
theorem dL_law_751 : decode cL_law 751 = .ok (.ireturn, 1) := by decide +kernel
theorem dL_law_752 : decode cL_law 752 = .ok (.aload_n 1, 1) := by decide +kernel
theorem dL_law_753 : decode cL_law 753 = .ok (.aload_n 0, 1) := by decide +kernel
theorem dL_law_754 : decode cL_law 754 = .ok (.iload_n 3, 1) := by decide +kernel
theorem dL_law_755 : decode cL_law 755 = .ok (.iconst 1, 1) := by decide +kernel
theorem dL_law_756 : decode cL_law 756 = .ok (.iadd, 1) := by decide +kernel
theorem dL_law_757 : decode cL_law 757 = .ok (.iaload, 1) := by decide +kernel
theorem dL_law_758 : decode cL_law 758 = .ok (.invokevirtual 106, 3) := by decide +kernel
theorem dL_law_761 : decode cL_law 761 = .ok (.aload_n 2, 1) := by decide +kernel
theorem dL_law_762 : decode cL_law 762 = .ok (.aload_n 0, 1) := by decide +kernel
theorem dL_law_763 : decode cL_law 763 = .ok (.iload_n 3, 1) := by decide +kernel
theorem dL_law_764 : decode cL_law 764 = .ok (.iconst 1, 1) := by decide +kernel
theorem dL_law_765 : decode cL_law 765 = .ok (.iadd, 1) := by decide +kernel
theorem dL_law_766 : decode cL_law 766 = .ok (.iaload, 1) := by decide +kernel
theorem dL_law_767 : decode cL_law 767 = .ok (.invokevirtual 109, 3) := by decide +kernel
theorem dL_law_770 : decode cL_law 770 = .ok (.if_icmp .eq 74, 3) := by decide +kernel
theorem dL_law_773 : decode cL_law 773 = .ok (.iconst 0, 1) := by decide +kernel
theorem dL_law_774 : decode cL_law 774 = .ok (.ireturn, 1) := by decide +kernel
theorem dL_law_775 : decode cL_law 775 = .ok (.aload_n 1, 1) := by decide +kernel
theorem dL_law_776 : decode cL_law 776 = .ok (.aload_n 0, 1) := by decide +kernel
theorem dL_law_777 : decode cL_law 777 = .ok (.iload_n 3, 1) := by decide +kernel
theorem dL_law_778 : decode cL_law 778 = .ok (.iconst 1, 1) := by decide +kernel
theorem dL_law_779 : decode cL_law 779 = .ok (.iadd, 1) := by decide +kernel
theorem dL_law_780 : decode cL_law 780 = .ok (.iaload, 1) := by decide +kernel
theorem dL_law_781 : decode cL_law 781 = .ok (.invokevirtual 110, 3) := by decide +kernel
theorem dL_law_784 : decode cL_law 784 = .ok (.aload_n 2, 1) := by decide +kernel
theorem dL_law_785 : decode cL_law 785 = .ok (.aload_n 0, 1) := by decide +kernel
theorem dL_law_786 : decode cL_law 786 = .ok (.iload_n 3, 1) := by decide +kernel
theorem dL_law_787 : decode cL_law 787 = .ok (.iconst 1, 1) := by decide +kernel
theorem dL_law_788 : decode cL_law 788 = .ok (.iadd, 1) := by decide +kernel
theorem dL_law_789 : decode cL_law 789 = .ok (.iaload, 1) := by decide +kernel
theorem dL_law_790 : decode cL_law 790 = .ok (.invokevirtual 113, 3) := by decide +kernel
theorem dL_law_793 : decode cL_law 793 = .ok (.if_icmp .eq 51, 3) := by decide +kernel
theorem dL_law_796 : decode cL_law 796 = .ok (.iconst 0, 1) := by decide +kernel
theorem dL_law_797 : decode cL_law 797 = .ok (.ireturn, 1) := by decide +kernel
theorem dL_law_798 : decode cL_law 798 = .ok (.aload_n 1, 1) := by decide +kernel
theorem dL_law_799 : decode cL_law 799 = .ok (.aload_n 0, 1) := by decide +kernel
theorem dL_law_800 : decode cL_law 800 = .ok (.iload_n 3, 1) := by decide +kernel
theorem dL_law_801 : decode cL_law 801 = .ok (.iconst 1, 1) := by decide +kernel
theorem dL_law_802 : decode cL_law 802 = .ok (.iadd, 1) := by decide +kernel
theorem dL_law_803 : decode cL_law 803 = .ok (.iaload, 1) := by decide +kernel
theorem dL_law_804 : decode cL_law 804 = .ok (.invokevirtual 114, 3) := by decide +kernel
theorem dL_law_807 : decode cL_law 807 = .ok (.aload_n 2, 1) := by decide +kernel
theorem dL_law_808 : decode cL_law 808 = .ok (.aload_n 0, 1) := by decide +kernel
theorem dL_law_809 : decode cL_law 809 = .ok (.iload_n 3, 1) := by decide +kernel
theorem dL_law_810 : decode cL_law 810 = .ok (.iconst 1, 1) := by decide +kernel
theorem dL_law_811 : decode cL_law 811 = .ok (.iadd, 1) := by decide +kernel
theorem dL_law_812 : decode cL_law 812 = .ok (.iaload, 1) := by decide +kernel
theorem dL_law_813 : decode cL_law 813 = .ok (.invokevirtual 117, 3) := by decide +kernel
theorem dL_law_816 : decode cL_law 816 = .ok (.if_icmp .eq 28, 3) := by decide +kernel
theorem dL_law_819 : decode cL_law 819 = .ok (.iconst 0, 1) := by decide +kernel
theorem dL_law_820 : decode cL_law 820 = .ok (.ireturn, 1) := by decide +kernel
theorem dL_law_821 : decode cL_law 821 = .ok (.aload_n 1, 1) := by decide +kernel
theorem dL_law_822 : decode cL_law 822 = .ok (.aload_n 0, 1) := by decide +kernel
theorem dL_law_823 : decode cL_law 823 = .ok (.iload_n 3, 1) := by decide +kernel
theorem dL_law_824 : decode cL_law 824 = .ok (.iconst 1, 1) := by decide +kernel
theorem dL_law_825 : decode cL_law 825 = .ok (.iadd, 1) := by decide +kernel
theorem dL_law_826 : decode cL_law 826 = .ok (.iaload, 1) := by decide +kernel
theorem dL_law_827 : decode cL_law 827 = .ok (.invokevirtual 118, 3) := by decide +kernel
theorem dL_law_830 : decode cL_law 830 = .ok (.aload_n 2, 1) := by decide +kernel
theorem dL_law_831 : decode cL_law 831 = .ok (.aload_n 0, 1) := by decide +kernel
theorem dL_law_832 : decode cL_law 832 = .ok (.iload_n 3, 1) := by decide +kernel
theorem dL_law_833 : decode cL_law 833 = .ok (.iconst 1, 1) := by decide +kernel
theorem dL_law_834 : decode cL_law 834 = .ok (.iadd, 1) := by decide +kernel
theorem dL_law_835 : decode cL_law 835 = .ok (.iaload, 1) := by decide +kernel
theorem dL_law_836 : decode cL_law 836 = .ok (.invokevirtual 121, 3) := by decide +kernel
theorem dL_law_839 : decode cL_law 839 = .ok (.if_icmp .eq 5, 3) := by decide +kernel
theorem dL_law_842 : decode cL_law 842 = .ok (.iconst 0, 1) := by decide +kernel
theorem dL_law_843 : decode cL_law 843 = .ok (.ireturn, 1) := by decide +kernel
theorem dL_law_844 : decode cL_law 844 = .ok (.iinc 3 5, 3) := by decide +kernel
theorem dL_law_847 : decode cL_law 847 = .ok (.goto (-829), 3) := by decide +kernel
theorem dL_law_850 : decode cL_law 850 = .ok (.iconst 1, 1) := by decide +kernel
theorem dL_law_851 : decode cL_law 851 = .ok (.ireturn, 1) := by decide +kernel
end
section
/-! ===== the abstract machine: heaps by cells' numbers, locals, the judgement am_R ===== -/
abbrev am_H : Type := (Nat → Nat → Int32) × (Nat → Nat → Int64) × (Nat → Nat → Option Nat)
/-- a method: name, code, locals, answer's type, frames below it, words of locals below it -/
abbrev am_M : Type := MethodName × ByteArray × Nat × Option FieldType × Nat × Nat
/-- a start: the first new address, the addresses of the old cells, array classes, classes -/
abbrev am_G : Type := Nat × (Nat → Nat) × (FieldType → ClassId) × va_G
def am_a (g : am_G) (k : Nat) : Nat := if k < 1000 then g.1 + k else g.2.1 k
def am_v (g : am_G) (v : Value) : Value := match v with
  | .ref k => .ref (am_a g k)
  | .int x => .int x
  | .long x => .long x
  | .float x => .float x
  | .double x => .double x
  | .null => .null
  | .retAddr x => .retAddr x
def am_A (g : am_G) : Nat → Prop := fun q => g.1 ≤ q
def am_cn : Nat → String
  | 0 => RX1 | 1 => RX2 | 2 => RX4 | 3 => RX5 | 4 => RX6 | 5 => RX7 | 6 => RX8 | 7 => RX9 | _ => RX10
def am_tb : Nat → u_T
  | 0 => TX1 | 1 => TX2 | 2 => TX4 | 3 => TX5 | 4 => TX6 | 5 => TX7 | 6 => TX8 | 7 => TX9 | _ => TX10
def am_nf : Nat → Nat
  | 0 => 5 | 1 => 6 | 2 => 6 | 3 => 4 | 4 => 6 | 5 => 8 | 6 => 8 | 7 => 10 | _ => 29
def am_ft : Nat → Nat → FieldType
  | 0 => tyX1 | 1 => tyX2 | 2 => tyX4 | 3 => tyX5 | 4 => tyX6 | 5 => tyX7 | 6 => tyX8 | 7 => tyX9 | _ => tyX10
theorem am_cl {ci : Nat} (h : ci < 9) : vwCl[ci]? = some (am_cn ci, am_tb ci, am_nf ci) := by
  match ci, h with
  | 0, _ => rfl
  | 1, _ => rfl
  | 2, _ => rfl
  | 3, _ => rfl
  | 4, _ => rfl
  | 5, _ => rfl
  | 6, _ => rfl
  | 7, _ => rfl
  | 8, _ => rfl
  | n + 9, h => omega
def am_TB : List Cond := lw_tbl.filter goodWord
set_option maxRecDepth 20000 in
theorem am_in0 : ∀ w ∈ u_ws RX1 TX1 5, w ∈ am_TB := by decide +kernel
set_option maxRecDepth 20000 in
theorem am_in1 : ∀ w ∈ u_ws RX2 TX2 6, w ∈ am_TB := by decide +kernel
set_option maxRecDepth 20000 in
theorem am_in2 : ∀ w ∈ u_ws RX4 TX4 6, w ∈ am_TB := by decide +kernel
set_option maxRecDepth 20000 in
theorem am_in3 : ∀ w ∈ u_ws RX5 TX5 4, w ∈ am_TB := by decide +kernel
set_option maxRecDepth 20000 in
theorem am_in4 : ∀ w ∈ u_ws RX6 TX6 6, w ∈ am_TB := by decide +kernel
set_option maxRecDepth 20000 in
theorem am_in5 : ∀ w ∈ u_ws RX7 TX7 8, w ∈ am_TB := by decide +kernel
set_option maxRecDepth 20000 in
theorem am_in6 : ∀ w ∈ u_ws RX8 TX8 8, w ∈ am_TB := by decide +kernel
set_option maxRecDepth 20000 in
theorem am_in7 : ∀ w ∈ u_ws RX9 TX9 10, w ∈ am_TB := by decide +kernel
set_option maxRecDepth 20000 in
theorem am_in8 : ∀ w ∈ u_ws RX10 TX10 29, w ∈ am_TB := by decide +kernel
theorem am_in {ci : Nat} (h : ci < 9) : ∀ w ∈ u_ws (am_cn ci) (am_tb ci) (am_nf ci), w ∈ am_TB := by
  match ci, h with
  | 0, _ => exact am_in0
  | 1, _ => exact am_in1
  | 2, _ => exact am_in2
  | 3, _ => exact am_in3
  | 4, _ => exact am_in4
  | 5, _ => exact am_in5
  | 6, _ => exact am_in6
  | 7, _ => exact am_in7
  | 8, _ => exact am_in8
  | n + 9, h => omega
theorem am_ty {ci : Nat} (h : ci < 9) : ∀ k, k < am_nf ci → parseFieldDescriptor (am_tb ci k).2.2.1 = some (am_ft ci k) := by
  match ci, h with
  | 0, _ => exact tyX1_ok
  | 1, _ => exact tyX2_ok
  | 2, _ => exact tyX4_ok
  | 3, _ => exact tyX5_ok
  | 4, _ => exact tyX6_ok
  | 5, _ => exact tyX7_ok
  | 6, _ => exact tyX8_ok
  | 7, _ => exact tyX9_ok
  | 8, _ => exact tyX10_ok
  | n + 9, h => omega
theorem am_nm {ci : Nat} (h : ci < 9) : ∀ a, a < am_nf ci → ∀ b, b < am_nf ci → a ≠ b → (am_tb ci a).2.1 ≠ (am_tb ci b).2.1 := by
  match ci, h with
  | 0, _ => exact nmX1
  | 1, _ => exact nmX2
  | 2, _ => exact nmX4
  | 3, _ => exact nmX5
  | 4, _ => exact nmX6
  | 5, _ => exact nmX7
  | 6, _ => exact nmX8
  | 7, _ => exact nmX9
  | 8, _ => exact nmX10
  | n + 9, h => omega
/-- the cells in the order in which the law makes them -/
def am_sL : List ((FieldType × Nat) ⊕ Nat) := [.inr 7, .inr 4, .inl (.int, 200), .inl (.int, 56), .inr 1, .inl (.int, 49), .inl (.int, 49), .inl (.int, 7), .inl (.int, 7), .inr 0, .inl (.int, 7), .inl (.int, 7), .inl (.int, 112), .inl (.object RX1, 2), .inr 0, .inl (.int, 7), .inl (.int, 7), .inl (.int, 112), .inr 0, .inl (.int, 7), .inl (.int, 7), .inl (.int, 112), .inl (.boolean, 2), .inr 3, .inl (.int, 7), .inl (.int, 210), .inl (.object RX8, 3), .inr 6, .inl (.int, 7), .inl (.int, 49), .inr 6, .inl (.int, 7), .inl (.int, 49), .inr 6, .inl (.int, 7), .inl (.int, 49), .inr 5, .inl (.int, 7), .inl (.int, 7), .inl (.long, 79), .inl (.long, 79), .inr 2, .inl (.int, 7), .inl (.int, 600), .inl (.int, 120), .inl (.int, 120), .inl (.int, 120), .inl (.int, 7), .inr 8, .inl (.int, 49), .inl (.int, 49), .inl (.int, 7), .inl (.int, 7), .inl (.int, 200), .inl (.int, 56), .inl (.int, 128), .inl (.int, 256), .inl (.boolean, 2), .inl (.int, 7), .inl (.int, 7), .inl (.boolean, 5040), .inl (.int, 5040), .inl (.int, 120), .inl (.int, 120)]
def am_s (k : Nat) : (FieldType × Nat) ⊕ Nat := am_sL.getD k (.inr 99)
def am_z (k : Nat) : Nat := match am_s k with
  | .inl q => q.2
  | .inr ci => am_nf ci
def am_cs : Nat → Nat
  | 0 => 0
  | n + 1 => am_cs n + am_z n
theorem am_cs64 : am_cs 64 = 13480 := by decide +kernel
theorem am_cs_mono {a b : Nat} (h : a ≤ b) : am_cs a ≤ am_cs b := by
  induction b with
  | zero => rw [Nat.le_zero.mp h]; exact Nat.le_refl _
  | succ b ih =>
    rcases Nat.lt_or_ge b a with q | q
    · rw [show a = b + 1 by omega]; exact Nat.le_refl _
    · exact Nat.le_trans (ih q) (Nat.le_add_right _ _)
/-- what a place of type ty of the cell k holds -/
def am_f (g : am_G) (h : am_H) (k : Nat) (ty : FieldType) (j : Nat) : Value := match ty with
  | .long => .long (h.2.1 k j)
  | .object _ => va_rf ((h.2.2 k j).map (am_a g))
  | .array _ => va_rf ((h.2.2 k j).map (am_a g))
  | _ => .int (h.1 k j)
def am_at (g : am_G) (h : am_H) (k : Nat) (H : Heap) : Prop := match am_s k with
  | .inl q => H[g.1 + k]? = some (arrV (g.2.2.1 q.1) q.2 (fun j => am_f g h k q.1 j))
  | .inr ci => t_OB (g.1 + k) (g.2.2.2.1 ci) (am_nf ci) (g.2.2.2.2 ci) H (fun j => am_f g h k (am_ft ci j) j)
def am_P (g : am_G) (h : am_H) (n : Nat) (H : Heap) : Prop := H.size = g.1 + n ∧ n ≤ 64 ∧ ∀ k, k < n → am_at g h k H
theorem am_a_lt {g : am_G} {k : Nat} (h : k < 1000) : am_a g k = g.1 + k := if_pos h
theorem am_P.a {g : am_G} {h : am_H} {n k : Nat} {H : Heap} (hP : am_P g h n H) (hk : k < n) : am_a g k = g.1 + k := if_pos (by have := hP.2.1; omega)
theorem am_P.arr {g : am_G} {h : am_H} {n k N : Nat} {ty : FieldType} {H : Heap} (hP : am_P g h n H) (hk : k < n) (hs : am_s k = .inl (ty, N)) : H[am_a g k]? = some (arrV (g.2.2.1 ty) N (fun j => am_f g h k ty j)) := by
  have h1 := hP.2.2 k hk
  unfold am_at at h1
  rw [hs] at h1
  rw [hP.a hk]
  exact h1
theorem am_P.obj {g : am_G} {h : am_H} {n k ci : Nat} {H : Heap} (hP : am_P g h n H) (hk : k < n) (hs : am_s k = .inr ci) : t_OB (am_a g k) (g.2.2.2.1 ci) (am_nf ci) (g.2.2.2.2 ci) H (fun j => am_f g h k (am_ft ci j) j) := by
  have h1 := hP.2.2 k hk
  unfold am_at at h1
  rw [hs] at h1
  rw [hP.a hk]
  exact h1
/-- the heaps of a store: one cell k is new, the others are as they were -/
theorem am_P.put {g : am_G} {h h' : am_H} {n k : Nat} {H H1 : Heap} (hP : am_P g h n H) (hk : k < n) (hz : H1.size = H.size) (ho : ∀ q, q ≠ am_a g k → H1[q]? = H[q]?) (hsame : ∀ j, j ≠ k → h'.1 j = h.1 j ∧ h'.2.1 j = h.2.1 j ∧ h'.2.2 j = h.2.2 j) (hc : am_at g h' k H1) : am_P g h' n H1 := by
  refine ⟨hz.trans hP.1, hP.2.1, fun j hj => ?_⟩
  by_cases e : j = k
  · rw [e]; exact hc
  · have h1 := hP.2.2 j hj
    have hq : H1[g.1 + j]? = H[g.1 + j]? := ho _ (by rw [hP.a hk]; omega)
    have hf : ∀ (ty : FieldType) (i : Nat), am_f g h' j ty i = am_f g h j ty i := by
      intro ty i
      obtain ⟨q1, q2, q3⟩ := hsame j e
      unfold am_f
      rw [q1, q2, q3]
    unfold am_at at h1 ⊢
    cases hs : am_s j with
    | inl q =>
      rw [hs] at h1
      show H1[g.1 + j]? = _
      rw [hq]
      rw [show (fun i => am_f g h' j q.1 i) = (fun i => am_f g h j q.1 i) from funext (hf q.1)]
      exact h1
    | inr ci =>
      rw [hs] at h1
      show t_OB _ _ _ _ _ _
      rw [show (fun i => am_f g h' j (am_ft ci i) i) = (fun i => am_f g h j (am_ft ci i) i) from funext (fun i => hf _ i)]
      exact h1.kept hq
/-- a new cell -/
theorem am_P.push {g : am_G} {h h' : am_H} {n : Nat} {H H1 : Heap} (hP : am_P g h n H) (hn : n + 1 ≤ 64) (hz : H1.size = H.size + 1) (ho : ∀ q, q < H.size → H1[q]? = H[q]?) (hsame : ∀ j, j < n → h'.1 j = h.1 j ∧ h'.2.1 j = h.2.1 j ∧ h'.2.2 j = h.2.2 j) (hc : am_at g h' n H1) : am_P g h' (n + 1) H1 := by
  refine ⟨by rw [hz, hP.1]; omega, hn, fun j hj => ?_⟩
  by_cases e : j = n
  · rw [e]; exact hc
  · have hj' : j < n := by omega
    have h1 := hP.2.2 j hj'
    have hq : H1[g.1 + j]? = H[g.1 + j]? := ho _ (by rw [hP.1]; omega)
    have hf : ∀ (ty : FieldType) (i : Nat), am_f g h' j ty i = am_f g h j ty i := by
      intro ty i
      obtain ⟨q1, q2, q3⟩ := hsame j hj'
      unfold am_f
      rw [q1, q2, q3]
    unfold am_at at h1 ⊢
    cases hs : am_s j with
    | inl q =>
      rw [hs] at h1
      show H1[g.1 + j]? = _
      rw [hq]
      rw [show (fun i => am_f g h' j q.1 i) = (fun i => am_f g h j q.1 i) from funext (hf q.1)]
      exact h1
    | inr ci =>
      rw [hs] at h1
      show t_OB _ _ _ _ _ _
      rw [show (fun i => am_f g h' j (am_ft ci i) i) = (fun i => am_f g h j (am_ft ci i) i) from funext (fun i => hf _ i)]
      exact h1.kept hq
/-- a heap that says the same of the cells -/
theorem am_P.same {g : am_G} {h h' : am_H} {n : Nat} {H : Heap} (hP : am_P g h n H) (hsame : ∀ j, j < n → ∀ i, i < am_z j → h'.1 j i = h.1 j i ∧ h'.2.1 j i = h.2.1 j i ∧ h'.2.2 j i = h.2.2 j i) : am_P g h' n H := by
  refine ⟨hP.1, hP.2.1, fun j hj => ?_⟩
  have h1 := hP.2.2 j hj
  have hz := hsame j hj
  have hf : ∀ (ty : FieldType) (i : Nat), i < am_z j → am_f g h' j ty i = am_f g h j ty i := by
    intro ty i hi
    obtain ⟨q1, q2, q3⟩ := hz i hi
    unfold am_f
    rw [q1, q2, q3]
  unfold am_z at hf
  unfold am_at at h1 ⊢
  cases hs : am_s j with
  | inl q =>
    rw [hs] at h1 hf
    show H[g.1 + j]? = _
    have e : arrV (g.2.2.1 q.1) q.2 (fun i => am_f g h' j q.1 i) = arrV (g.2.2.1 q.1) q.2 (fun i => am_f g h j q.1 i) := by
      unfold arrV
      congr 2
      funext i
      exact hf q.1 i.val i.isLt
    rw [e]
    exact h1
  | inr ci =>
    rw [hs] at h1 hf
    exact t_OB.to h1 (fun i hi => (hf _ i hi).symm)
end
section
/-! ===== what holds of the old cells, the judgement, calls ===== -/
def am_ov (j : Nat) : Int32 := ([-1, 0, 1, 0, 3] : List Int32).getD j 0
def am_fa (j : Nat) : Int32 := ([1, 1, 2, 6, 24, 120, 720, 5040] : List Int32).getD j 0
/-- the nine words of the text: lengths, bytes, entries -/
def am_sn : List Nat := [4, 5, 4, 5, 6, 4, 5, 4, 3]
def am_sb : List (List Int32) := [[104, 97, 108, 108], [115, 107, 105, 108, 108], [108, 105, 107, 101], [112, 108, 97, 105, 110], [116, 105, 114, 105, 110, 103], [104, 111, 108, 121], [115, 119, 101, 101, 116], [114, 105, 110, 103], [100, 105, 100]]
def am_si (i : Nat) : Nat := 60 + (if i = 0 then 0 else 2 * i + 4)
def am_st (i : Nat) : String := (["hall", "skill", "like", "plain", "tiring", "holy", "sweet", "ring", "did"] : List String).getD i ""
def am_nw : List Cond := [.fieldLinkNest RX2 39 RX9 "OVER" "[I" RX9, .fieldLinkNest RX3 9 RX9 "FACTORIALS" "[I" RX9, .fieldLinkNest RX8 46 RX9 "FACTORIALS" "[I" RX9, .fieldLinkNest RX4 37 RX9 "FACTORIALS" "[I" RX9, .methodLinkNest RX9 9 yX6_init RX9, .methodLinkNest RX9 18 yX2_init RX9, .methodLinkNest RX9 25 yX1_init RX9, .methodLinkNest RX6 90 yX9_isRing RX9]
def am_S (E : Nat × (Nat → Int32)) (g : am_G) (U : State) (H : Heap) : Prop :=
  va_K g.2.2.2 vwCl [(g.2.2.1 .int, .int), (g.2.2.1 .long, .long), (g.2.2.1 .boolean, .boolean), (g.2.2.1 (.object RX1), .object RX1), (g.2.2.1 (.object RX8), .object RX8)] U ∧
  (va_Z RX9 "OVER" "[I" (.ref (g.2.1 1000)) (am_A g) U H ∧ va_T .int (g.2.1 1000) 5 (fun j => .int (am_ov j)) (am_A g) U H) ∧
  (va_Z RX9 "FACTORIALS" "[I" (.ref (g.2.1 1001)) (am_A g) U H ∧ va_T .int (g.2.1 1001) 8 (fun j => .int (am_fa j)) (am_A g) U H) ∧
  va_T .int (g.2.1 1002) E.1 (fun j => .int (E.2 j)) (am_A g) U H ∧
  (va_Z RJ0 "COMPACT_STRINGS" "Z" (.int 1) (am_A g) U H ∧ (va_Z RJ3 "SIOOBE_FORMATTER" "Ljava/util/function/BiFunction;" .null (am_A g) U H ∨ va_Z RJ3 "SIOOBE_FORMATTER" "Ljava/util/function/BiFunction;" (.ref (g.2.1 1003)) (am_A g) U H)) ∧
  vk_S 9 am_sn am_sb (fun i => g.2.1 (1010 + i)) (fun i => g.2.1 (1020 + i)) (am_A g) U H ∧
  (∀ i, i < 9 → vk_R RX6 (am_si i) (am_st i) (g.2.1 (1010 + i)) U) ∧
  (va_AO RX1 U ∧ va_AO RX8 U) ∧ (∀ w ∈ am_nw, va_Nw w U)
theorem am_S.kept {E : Nat × (Nat → Int32)} {g : am_G} {U : State} {H H1 : Heap} (h : am_S E g U H) (hq : ∀ a : Nat, a < H.size → ¬ am_A g a → H1[a]? = H[a]?) : am_S E g U H1 := by
  obtain ⟨h1, ⟨h2, h3⟩, ⟨h4, h5⟩, h6, ⟨h7, h8⟩, h9, h10, h11, h12⟩ := h
  exact ⟨h1, ⟨h2.kept hq, h3.kept hq⟩, ⟨h4.kept hq, h5.kept hq⟩, h6.kept hq, ⟨h7.kept hq, h8.imp (fun z => z.kept hq) (fun z => z.kept hq)⟩, h9.kept hq, h10, h11, h12⟩
theorem am_S.warm {E : Nat × (Nat → Int32)} {g : am_G} {s U : State} {H : Heap} (hW : s.WarmedH U.vm) (h : am_S E g s H) : am_S E g U H := by
  obtain ⟨h1, ⟨h2, h3⟩, ⟨h4, h5⟩, h6, ⟨h7, h8⟩, h9, h10, ⟨h11, h13⟩, h12⟩ := h
  have ha := hW.alike
  refine ⟨va_K.moved ha h1, ⟨va_Z.moved ha h2, va_T.moved ha h3⟩, ⟨va_Z.moved ha h4, va_T.moved ha h5⟩, va_T.moved ha h6, ⟨va_Z.moved ha h7, h8.imp (fun z => va_Z.moved ha z) (fun z => va_Z.moved ha z)⟩, vk_S.moved ha h9, fun i hi => vk_R.warm hW (h10 i hi), ⟨va_AO.moved ha h11, va_AO.moved ha h13⟩, fun w hw => ?_⟩
  have h0 := h12 w hw
  simp only [am_nw, List.mem_cons, List.not_mem_nil, or_false] at hw
  rcases hw with rfl | rfl | rfl | rfl | rfl | rfl | rfl | rfl
  · exact va_Nw.warmF hW h0
  · exact va_Nw.warmF hW h0
  · exact va_Nw.warmF hW h0
  · exact va_Nw.warmF hW h0
  · exact va_Nw.warmM hW h0
  · exact va_Nw.warmM hW h0
  · exact va_Nw.warmM hW h0
  · exact va_Nw.warmM hW h0
theorem am_S.calling {E : Nat × (Nat → Int32)} {g : am_G} {U : State} {H : Heap} (h : am_S E g U H) (f : JFrame) (mk : MethodId) (a : Array Value) : am_S E g (U.calling f mk a) H := am_S.warm (s := U) (State.WarmedH.refl U) h
/-- the locals -/
def am_L (g : am_G) (lsc : Array Slot) (nL : Nat) (ls : List (Option Value)) : Prop := lsc.size = nL ∧ lv_wf lsc ∧ ls.length = nL ∧ ∀ (i : Nat) (v : Value), ls[i]? = some (some v) → lsc[i]? = some (.val (am_v g v))
def am_l (g : am_G) (ls : List (Option Value)) : List (Nat × Value) := (List.range ls.length).filterMap (fun i => (ls.getD i none).map (fun v => (i, am_v g v)))
theorem am_l_mem {g : am_G} {ls : List (Option Value)} {q : Nat × Value} : q ∈ am_l g ls ↔ ∃ v, ls[q.1]? = some (some v) ∧ q.2 = am_v g v := by
  unfold am_l
  rw [List.mem_filterMap]
  constructor
  · rintro ⟨i, hi, he⟩
    rw [List.mem_range] at hi
    cases hv : ls.getD i none with
    | none => rw [hv] at he; cases he
    | some v =>
      rw [hv] at he
      cases he
      refine ⟨v, ?_, rfl⟩
      rw [List.getD_eq_getElem?_getD] at hv
      rw [List.getElem?_eq_getElem hi] at hv ⊢
      exact congrArg some hv
  · rintro ⟨v, h1, h2⟩
    refine ⟨q.1, List.mem_range.mpr (List.getElem?_eq_some_iff.mp h1).1, ?_⟩
    rw [List.getD_eq_getElem?_getD, h1]
    show some (q.1, am_v g v) = some q
    rw [← h2]
theorem am_L.has {g : am_G} {lsc : Array Slot} {nL : Nat} {ls : List (Option Value)} (h : am_L g lsc nL ls) : lv_has lsc nL (am_l g ls) := ⟨h.1, h.2.1, fun q hq => by
  obtain ⟨v, h1, h2⟩ := am_l_mem.mp hq
  rw [h2]
  exact h.2.2.2 _ _ h1⟩
theorem am_cat (g : am_G) (v : Value) : (am_v g v).category = v.category := by cases v <;> rfl
def am_o1 (ls : List (Option Value)) (i : Nat) : Bool := match i with
  | 0 => true
  | j + 1 => match ls.getD j none with
    | some v => v.category == 1
    | none => true
theorem am_L.st1 {g : am_G} {lsc lsc' : Array Slot} {nL i : Nat} {ls : List (Option Value)} {v : Value} (h : am_L g lsc nL ls) (hi : i < nL) (ho : am_o1 ls i = true) (h' : lv_has lsc' nL ((i, am_v g v) :: (am_l g ls).filter (fun q => !(q.1 == i) && !(q.1 + 1 == i && q.2.category == 2)))) : am_L g lsc' nL (ls.set i (some v)) := by
  refine ⟨h'.1, h'.2.1, by rw [List.length_set]; exact h.2.2.1, fun j w hj => ?_⟩
  by_cases e : j = i
  · subst e
    rw [List.getElem?_set_self (by rw [h.2.2.1]; exact hi)] at hj
    cases hj
    exact h'.2.2 (j, am_v g v) List.mem_cons_self
  · rw [List.getElem?_set_ne (Ne.symm e)] at hj
    refine h'.2.2 (j, am_v g w) (List.mem_cons_of_mem _ (List.mem_filter.mpr ⟨am_l_mem.mpr ⟨w, hj, rfl⟩, ?_⟩))
    have e1 : (j == i) = false := by simp [e]
    have e2 : (j + 1 == i && (am_v g w).category == 2) = false := by
      by_cases e3 : j + 1 = i
      · subst e3
        simp only [am_o1, List.getD_eq_getElem?_getD, hj, Option.getD_some, beq_iff_eq] at ho
        rw [am_cat, ho]
        simp
      · simp [e3]
    show (!(j == i) && !(j + 1 == i && (am_v g w).category == 2)) = true
    rw [e1, e2]
    rfl
theorem am_L.st2 {g : am_G} {lsc lsc' : Array Slot} {nL i : Nat} {ls : List (Option Value)} {v : Value} (h : am_L g lsc nL ls) (hi : i + 1 < nL) (ho : am_o1 ls i = true) (h' : lv_has lsc' nL ((i, am_v g v) :: (am_l g ls).filter (fun q => !(q.1 == i) && (!(q.1 == i + 1) && !(q.1 + 1 == i && q.2.category == 2))))) : am_L g lsc' nL ((ls.set i (some v)).set (i + 1) none) := by
  refine ⟨h'.1, h'.2.1, by rw [List.length_set, List.length_set]; exact h.2.2.1, fun j w hj => ?_⟩
  by_cases e0 : j = i + 1
  · subst e0
    rw [List.getElem?_set_self (by rw [List.length_set, h.2.2.1]; exact hi)] at hj
    cases hj
  · rw [List.getElem?_set_ne (Ne.symm e0)] at hj
    by_cases e : j = i
    · subst e
      rw [List.getElem?_set_self (by rw [h.2.2.1]; omega)] at hj
      cases hj
      exact h'.2.2 (j, am_v g v) List.mem_cons_self
    · rw [List.getElem?_set_ne (Ne.symm e)] at hj
      refine h'.2.2 (j, am_v g w) (List.mem_cons_of_mem _ (List.mem_filter.mpr ⟨am_l_mem.mpr ⟨w, hj, rfl⟩, ?_⟩))
      have e1 : (j == i) = false := by simp [e]
      have e4 : (j == i + 1) = false := by simp [e0]
      have e2 : (j + 1 == i && (am_v g w).category == 2) = false := by
        by_cases e3 : j + 1 = i
        · subst e3
          simp only [am_o1, List.getD_eq_getElem?_getD, hj, Option.getD_some, beq_iff_eq] at ho
          rw [am_cat, ho]
          simp
        · simp [e3]
      show (!(j == i) && (!(j == i + 1) && !(j + 1 == i && (am_v g w).category == 2))) = true
      rw [e1, e2, e4]
      rfl
/-- the locals at a method's entry -/
def am_e0 : List Value → List (Option Value)
  | [] => []
  | v :: vs => if v.category = 2 then some v :: none :: am_e0 vs else some v :: am_e0 vs
def am_en (vs : List Value) (nL : Nat) : List (Option Value) := am_e0 vs ++ List.replicate (nL - (am_e0 vs).length) none
theorem am_e0_len (g : am_G) (vs : List Value) : (lg_sl (vs.map (am_v g))).length = (am_e0 vs).length := by
  induction vs with
  | nil => rfl
  | cons v vs ih =>
    show (lg_sl (am_v g v :: vs.map (am_v g))).length = _
    unfold lg_sl at ih ⊢
    rw [List.flatMap_cons, List.length_append, ih, am_e0]
    by_cases h : v.category = 2
    · rw [if_pos h, if_pos (by rw [am_cat]; exact h)]
      simp; omega
    · rw [if_neg h, if_neg (by rw [am_cat]; exact h)]
      simp; omega
theorem am_e0_mem (g : am_G) (vs : List Value) : ∀ (k i : Nat) (v : Value), (am_e0 vs)[i]? = some (some v) → (k + i, am_v g v) ∈ lv_args k (vs.map (am_v g)) := by
  induction vs with
  | nil => intro k i v h; simp [am_e0] at h
  | cons w vs ih =>
    intro k i v h
    rw [am_e0] at h
    show _ ∈ lv_args k (am_v g w :: vs.map (am_v g))
    rw [lv_args]
    by_cases hc : w.category = 2
    · rw [if_pos hc] at h
      rw [if_pos (by rw [am_cat]; exact hc)]
      match i, h with
      | 0, h => simp at h; rw [h]; exact List.mem_cons_self
      | 1, h => simp at h
      | i + 2, h =>
        simp at h
        have := ih (k + 2) i v h
        rw [show k + 2 + i = k + (i + 2) by omega] at this
        exact List.mem_cons_of_mem _ this
    · rw [if_neg hc] at h
      rw [if_neg (by rw [am_cat]; exact hc)]
      match i, h with
      | 0, h => simp at h; rw [h]; exact List.mem_cons_self
      | i + 1, h =>
        simp at h
        have := ih (k + 1) i v h
        rw [show k + 1 + i = k + (i + 1) by omega] at this
        exact List.mem_cons_of_mem _ this
theorem am_L.entry (g : am_G) (vs : List Value) {nL : Nat} (h : (am_e0 vs).length ≤ nL) : am_L g ((lg_sl (vs.map (am_v g)) ++ List.replicate (nL - (lg_sl (vs.map (am_v g))).length) Slot.unset).toArray) nL (am_en vs nL) := by
  have h0 := lv_entry (vs.map (am_v g)) (n := nL) (by rw [am_e0_len]; exact h)
  refine ⟨h0.1, h0.2.1, by unfold am_en; simp; omega, fun i v hi => ?_⟩
  unfold am_en at hi
  rcases Nat.lt_or_ge i (am_e0 vs).length with q | q
  · rw [List.getElem?_append_left q] at hi
    have := am_e0_mem g vs 0 i v hi
    rw [Nat.zero_add] at this
    exact h0.2.2 _ this
  · rw [List.getElem?_append_right q] at hi
    have := List.mem_of_getElem? hi
    have := List.eq_of_mem_replicate this
    cases this
/-- how a method ends at pc -/
def am_K (M : am_M) (pc : Nat) (r : Option Value) : Prop := match r with
  | none => decode M.2.1 pc = .ok (.return_, 1) ∧ M.2.2.2.1 = none
  | some (.int v) => decode M.2.1 pc = .ok (.ireturn, 1) ∧ ∃ ty, M.2.2.2.1 = some ty ∧ narrow ty (.int v) = .int v
  | some (.long _) => decode M.2.1 pc = .ok (.lreturn, 1) ∧ M.2.2.2.1 = some .long
  | some (.ref _) => decode M.2.1 pc = .ok (.areturn, 1) ∧ ∃ rt, M.2.2.2.1 = some rt ∧ ((∃ n, rt = .object n) ∨ ∃ t, rt = .array t)
  | _ => False
def am_C (E : Nat × (Nat → Int32)) (M : am_M) (p : Program) (s : State) (m : MethodId) (args : Array Value) (meth : Method) (c : Code) (g : am_G) (Rm : Room) : Prop :=
  p.tables.exec = Jvm.exec ∧ c.code = M.2.1 ∧ meth.sig.returnType = M.2.2.2.1 ∧ c.maxLocals = M.2.2.1 ∧ s.vm.findClass M.1.cls = some m.cls ∧ (∀ w ∈ am_TB, w.before args s = true) ∧ meth.locks = false ∧ (M.1.name = "<init>" → meth.name = "<init>") ∧ (M.2.2.2.2.1 ≤ Rm.frames ∧ M.2.2.2.2.2 ≤ Rm.locals) ∧ am_S E g s s.heap
def am_R (E : Nat × (Nat → Int32)) (M : am_M) (pc : Nat) (ls : List (Option Value)) (st : List Value) (h : am_H) (n n1 : Nat) (Q : Option Value → am_H → Prop) : Prop :=
  ∀ (p : Program) (l : Launch) (e : Env) (s : State) (m : MethodId) (args : Array Value) (below : List Frame) (meth : Method) (c : Code) (g : am_G) (n0 : Nat) (Z : State → Prop) (H : Heap) (locs : List Loc) (lsc : Array Slot) (Rm : Room),
    am_C E M p s m args meth c g Rm → (n1 - n0 ≤ Rm.cells ∧ am_cs n1 - am_cs n0 ≤ Rm.slots) → am_P g h n H → va_S (am_A g) s.heap H locs → (n0 ≤ n ∧ n ≤ n1) → am_L g lsc M.2.2.1 ls →
    (∀ (pc' : Nat) (r : Option Value) (h' : am_H) (H' : Heap) (locs' : List Loc) (lsc' : Array Slot), Q r h' → am_P g h' n1 H' → va_S (am_A g) s.heap H' locs' → am_K M pc' r → W p l e Rm s m args below meth c H' locs' (n1 - n0) (am_cs n1 - am_cs n0) Z (F0 m pc' lsc' (r.toList.map (am_v g)))) →
    W p l e Rm s m args below meth c H locs (n - n0) (am_cs n - am_cs n0) Z (F0 m pc lsc (st.map (am_v g)))
end
section
section AM
variable {E : Nat × (Nat → Int32)} {M : am_M} {pc : Nat} {ls : List (Option Value)} {st : List Value} {h : am_H} {n n1 : Nat} {Q : Option Value → am_H → Prop}
theorem am_iadd {x y : Int32} (hd : decode M.2.1 pc = .ok (.iadd, 1)) (k : am_R E M (pc + 1) ls (.int (x + y) :: st) h n n1 Q) : am_R E M pc ls (.int y :: .int x :: st) h n n1 Q := by
  intro p l e s m args below meth c g n0 Z H locs lsc Rm C hR hP hS hn hl hq
  exact lv_iadd C.1 C.2.1 hd (k p l e s m args below meth c g n0 Z H locs lsc Rm C hR hP hS hn hl hq)
theorem am_isub {x y : Int32} (hd : decode M.2.1 pc = .ok (.isub, 1)) (k : am_R E M (pc + 1) ls (.int (x - y) :: st) h n n1 Q) : am_R E M pc ls (.int y :: .int x :: st) h n n1 Q := by
  intro p l e s m args below meth c g n0 Z H locs lsc Rm C hR hP hS hn hl hq
  exact lv_isub C.1 C.2.1 hd (k p l e s m args below meth c g n0 Z H locs lsc Rm C hR hP hS hn hl hq)
theorem am_imul {x y : Int32} (hd : decode M.2.1 pc = .ok (.imul, 1)) (k : am_R E M (pc + 1) ls (.int (x * y) :: st) h n n1 Q) : am_R E M pc ls (.int y :: .int x :: st) h n n1 Q := by
  intro p l e s m args below meth c g n0 Z H locs lsc Rm C hR hP hS hn hl hq
  exact lv_imul C.1 C.2.1 hd (k p l e s m args below meth c g n0 Z H locs lsc Rm C hR hP hS hn hl hq)
theorem am_iand {x y : Int32} (hd : decode M.2.1 pc = .ok (.iand, 1)) (k : am_R E M (pc + 1) ls (.int (x &&& y) :: st) h n n1 Q) : am_R E M pc ls (.int y :: .int x :: st) h n n1 Q := by
  intro p l e s m args below meth c g n0 Z H locs lsc Rm C hR hP hS hn hl hq
  exact lv_iand C.1 C.2.1 hd (k p l e s m args below meth c g n0 Z H locs lsc Rm C hR hP hS hn hl hq)
theorem am_ior {x y : Int32} (hd : decode M.2.1 pc = .ok (.ior, 1)) (k : am_R E M (pc + 1) ls (.int (x ||| y) :: st) h n n1 Q) : am_R E M pc ls (.int y :: .int x :: st) h n n1 Q := by
  intro p l e s m args below meth c g n0 Z H locs lsc Rm C hR hP hS hn hl hq
  exact lv_ior C.1 C.2.1 hd (k p l e s m args below meth c g n0 Z H locs lsc Rm C hR hP hS hn hl hq)
theorem am_ixor {x y : Int32} (hd : decode M.2.1 pc = .ok (.ixor, 1)) (k : am_R E M (pc + 1) ls (.int (x ^^^ y) :: st) h n n1 Q) : am_R E M pc ls (.int y :: .int x :: st) h n n1 Q := by
  intro p l e s m args below meth c g n0 Z H locs lsc Rm C hR hP hS hn hl hq
  exact lv_ixor C.1 C.2.1 hd (k p l e s m args below meth c g n0 Z H locs lsc Rm C hR hP hS hn hl hq)
theorem am_ishl {x y : Int32} (hd : decode M.2.1 pc = .ok (.ishl, 1)) (k : am_R E M (pc + 1) ls (.int (x <<< (y &&& 31)) :: st) h n n1 Q) : am_R E M pc ls (.int y :: .int x :: st) h n n1 Q := by
  intro p l e s m args below meth c g n0 Z H locs lsc Rm C hR hP hS hn hl hq
  exact lv_ishl C.1 C.2.1 hd (k p l e s m args below meth c g n0 Z H locs lsc Rm C hR hP hS hn hl hq)
theorem am_ishr {x y : Int32} (hd : decode M.2.1 pc = .ok (.ishr, 1)) (k : am_R E M (pc + 1) ls (.int (x >>> (y &&& 31)) :: st) h n n1 Q) : am_R E M pc ls (.int y :: .int x :: st) h n n1 Q := by
  intro p l e s m args below meth c g n0 Z H locs lsc Rm C hR hP hS hn hl hq
  exact lv_ishr C.1 C.2.1 hd (k p l e s m args below meth c g n0 Z H locs lsc Rm C hR hP hS hn hl hq)
theorem am_idiv {x y : Int32} (h0 : ¬ y = 0) (hd : decode M.2.1 pc = .ok (.idiv, 1)) (k : am_R E M (pc + 1) ls (.int (x / y) :: st) h n n1 Q) : am_R E M pc ls (.int y :: .int x :: st) h n n1 Q := by
  intro p l e s m args below meth c g n0 Z H locs lsc Rm C hR hP hS hn hl hq
  exact lv_idiv C.1 C.2.1 hd h0 (k p l e s m args below meth c g n0 Z H locs lsc Rm C hR hP hS hn hl hq)
theorem am_irem {x y : Int32} (h0 : ¬ y = 0) (hd : decode M.2.1 pc = .ok (.irem, 1)) (k : am_R E M (pc + 1) ls (.int (x - x / y * y) :: st) h n n1 Q) : am_R E M pc ls (.int y :: .int x :: st) h n n1 Q := by
  intro p l e s m args below meth c g n0 Z H locs lsc Rm C hR hP hS hn hl hq
  exact lv_irem C.1 C.2.1 hd h0 (k p l e s m args below meth c g n0 Z H locs lsc Rm C hR hP hS hn hl hq)
theorem am_iushr {x y : Int32} (hd : decode M.2.1 pc = .ok (.iushr, 1)) (k : am_R E M (pc + 1) ls (.int ((x.toUInt32 >>> (y.toUInt32 &&& Int32.toUInt32 31)).toInt32) :: st) h n n1 Q) : am_R E M pc ls (.int y :: .int x :: st) h n n1 Q := by
  intro p l e s m args below meth c g n0 Z H locs lsc Rm C hR hP hS hn hl hq
  exact lv_iushr C.1 C.2.1 hd rfl (k p l e s m args below meth c g n0 Z H locs lsc Rm C hR hP hS hn hl hq)
theorem am_ladd {x y : Int64} (hd : decode M.2.1 pc = .ok (.ladd, 1)) (k : am_R E M (pc + 1) ls (.long (x + y) :: st) h n n1 Q) : am_R E M pc ls (.long y :: .long x :: st) h n n1 Q := by
  intro p l e s m args below meth c g n0 Z H locs lsc Rm C hR hP hS hn hl hq
  exact lv_ladd C.1 C.2.1 hd (k p l e s m args below meth c g n0 Z H locs lsc Rm C hR hP hS hn hl hq)
theorem am_lsub {x y : Int64} (hd : decode M.2.1 pc = .ok (.lsub, 1)) (k : am_R E M (pc + 1) ls (.long (x - y) :: st) h n n1 Q) : am_R E M pc ls (.long y :: .long x :: st) h n n1 Q := by
  intro p l e s m args below meth c g n0 Z H locs lsc Rm C hR hP hS hn hl hq
  exact lv_lsub C.1 C.2.1 hd (k p l e s m args below meth c g n0 Z H locs lsc Rm C hR hP hS hn hl hq)
theorem am_lmul {x y : Int64} (hd : decode M.2.1 pc = .ok (.lmul, 1)) (k : am_R E M (pc + 1) ls (.long (x * y) :: st) h n n1 Q) : am_R E M pc ls (.long y :: .long x :: st) h n n1 Q := by
  intro p l e s m args below meth c g n0 Z H locs lsc Rm C hR hP hS hn hl hq
  exact lv_lmul C.1 C.2.1 hd (k p l e s m args below meth c g n0 Z H locs lsc Rm C hR hP hS hn hl hq)
theorem am_land {x y : Int64} (hd : decode M.2.1 pc = .ok (.land, 1)) (k : am_R E M (pc + 1) ls (.long (x &&& y) :: st) h n n1 Q) : am_R E M pc ls (.long y :: .long x :: st) h n n1 Q := by
  intro p l e s m args below meth c g n0 Z H locs lsc Rm C hR hP hS hn hl hq
  exact lv_land C.1 C.2.1 hd (k p l e s m args below meth c g n0 Z H locs lsc Rm C hR hP hS hn hl hq)
theorem am_lor {x y : Int64} (hd : decode M.2.1 pc = .ok (.lor, 1)) (k : am_R E M (pc + 1) ls (.long (x ||| y) :: st) h n n1 Q) : am_R E M pc ls (.long y :: .long x :: st) h n n1 Q := by
  intro p l e s m args below meth c g n0 Z H locs lsc Rm C hR hP hS hn hl hq
  exact lv_lor C.1 C.2.1 hd (k p l e s m args below meth c g n0 Z H locs lsc Rm C hR hP hS hn hl hq)
theorem am_ldiv {x y : Int64} (h0 : ¬ y = 0) (hd : decode M.2.1 pc = .ok (.ldiv, 1)) (k : am_R E M (pc + 1) ls (.long (x / y) :: st) h n n1 Q) : am_R E M pc ls (.long y :: .long x :: st) h n n1 Q := by
  intro p l e s m args below meth c g n0 Z H locs lsc Rm C hR hP hS hn hl hq
  exact lv_ldiv C.1 C.2.1 hd h0 (k p l e s m args below meth c g n0 Z H locs lsc Rm C hR hP hS hn hl hq)
theorem am_lrem {x y : Int64} (h0 : ¬ y = 0) (hd : decode M.2.1 pc = .ok (.lrem, 1)) (k : am_R E M (pc + 1) ls (.long (x - x / y * y) :: st) h n n1 Q) : am_R E M pc ls (.long y :: .long x :: st) h n n1 Q := by
  intro p l e s m args below meth c g n0 Z H locs lsc Rm C hR hP hS hn hl hq
  exact lv_lrem C.1 C.2.1 hd h0 (k p l e s m args below meth c g n0 Z H locs lsc Rm C hR hP hS hn hl hq)
theorem am_lshl {x : Int64} {y : Int32} (hd : decode M.2.1 pc = .ok (.lshl, 1)) (k : am_R E M (pc + 1) ls (.long (x <<< (y.toInt64 &&& 63)) :: st) h n n1 Q) : am_R E M pc ls (.int y :: .long x :: st) h n n1 Q := by
  intro p l e s m args below meth c g n0 Z H locs lsc Rm C hR hP hS hn hl hq
  exact lv_lshl C.1 C.2.1 hd rfl (k p l e s m args below meth c g n0 Z H locs lsc Rm C hR hP hS hn hl hq)
theorem am_lshr {x : Int64} {y : Int32} (hd : decode M.2.1 pc = .ok (.lshr, 1)) (k : am_R E M (pc + 1) ls (.long (x >>> (y.toInt64 &&& 63)) :: st) h n n1 Q) : am_R E M pc ls (.int y :: .long x :: st) h n n1 Q := by
  intro p l e s m args below meth c g n0 Z H locs lsc Rm C hR hP hS hn hl hq
  exact lv_lshr C.1 C.2.1 hd rfl (k p l e s m args below meth c g n0 Z H locs lsc Rm C hR hP hS hn hl hq)
theorem am_lushr {x : Int64} {y : Int32} (hd : decode M.2.1 pc = .ok (.lushr, 1)) (k : am_R E M (pc + 1) ls (.long ((x.toUInt64 >>> (y.toInt64.toUInt64 &&& Int64.toUInt64 63)).toInt64) :: st) h n n1 Q) : am_R E M pc ls (.int y :: .long x :: st) h n n1 Q := by
  intro p l e s m args below meth c g n0 Z H locs lsc Rm C hR hP hS hn hl hq
  exact lv_lushr C.1 C.2.1 hd rfl (k p l e s m args below meth c g n0 Z H locs lsc Rm C hR hP hS hn hl hq)
theorem am_lcmp {x y : Int64} (hd : decode M.2.1 pc = .ok (.lcmp, 1)) (k : am_R E M (pc + 1) ls (.int (lg_cmp x y) :: st) h n n1 Q) : am_R E M pc ls (.long y :: .long x :: st) h n n1 Q := by
  intro p l e s m args below meth c g n0 Z H locs lsc Rm C hR hP hS hn hl hq
  exact W.lcmp C.1 C.2.1 hd (k p l e s m args below meth c g n0 Z H locs lsc Rm C hR hP hS hn hl hq)
theorem am_i2l {x : Int32} (hd : decode M.2.1 pc = .ok (.i2l, 1)) (k : am_R E M (pc + 1) ls (.long x.toInt64 :: st) h n n1 Q) : am_R E M pc ls (.int x :: st) h n n1 Q := by
  intro p l e s m args below meth c g n0 Z H locs lsc Rm C hR hP hS hn hl hq
  exact lv_i2l C.1 C.2.1 hd rfl (k p l e s m args below meth c g n0 Z H locs lsc Rm C hR hP hS hn hl hq)
theorem am_l2i {x : Int64} (hd : decode M.2.1 pc = .ok (.l2i, 1)) (k : am_R E M (pc + 1) ls (.int x.toInt32 :: st) h n n1 Q) : am_R E M pc ls (.long x :: st) h n n1 Q := by
  intro p l e s m args below meth c g n0 Z H locs lsc Rm C hR hP hS hn hl hq
  exact lv_l2i C.1 C.2.1 hd rfl (k p l e s m args below meth c g n0 Z H locs lsc Rm C hR hP hS hn hl hq)
theorem am_i2c {x : Int32} (hd : decode M.2.1 pc = .ok (.i2c, 1)) (k : am_R E M (pc + 1) ls (.int (x.toUInt32 % 65536).toInt32 :: st) h n n1 Q) : am_R E M pc ls (.int x :: st) h n n1 Q := by
  intro p l e s m args below meth c g n0 Z H locs lsc Rm C hR hP hS hn hl hq
  exact lv_i2c C.1 C.2.1 hd rfl (k p l e s m args below meth c g n0 Z H locs lsc Rm C hR hP hS hn hl hq)
theorem am_iconst {z : Int} (v : Int32) (hv : Int32.ofInt z = v) (hd : decode M.2.1 pc = .ok (.iconst z, 1)) (k : am_R E M (pc + 1) ls (.int v :: st) h n n1 Q) : am_R E M pc ls st h n n1 Q := by
  intro p l e s m args below meth c g n0 Z H locs lsc Rm C hR hP hS hn hl hq
  exact lv_iconst C.1 C.2.1 hd hv (k p l e s m args below meth c g n0 Z H locs lsc Rm C hR hP hS hn hl hq)
theorem am_bipush {z : Int} (v : Int32) (hv : (Int8.ofInt z).toInt32 = v) (hd : decode M.2.1 pc = .ok (.bipush z, 2)) (k : am_R E M (pc + 2) ls (.int v :: st) h n n1 Q) : am_R E M pc ls st h n n1 Q := by
  intro p l e s m args below meth c g n0 Z H locs lsc Rm C hR hP hS hn hl hq
  exact lv_bipush C.1 C.2.1 hd hv (k p l e s m args below meth c g n0 Z H locs lsc Rm C hR hP hS hn hl hq)
theorem am_sipush {z : Int} (v : Int32) (hv : (Int16.ofInt z).toInt32 = v) (hd : decode M.2.1 pc = .ok (.sipush z, 3)) (k : am_R E M (pc + 3) ls (.int v :: st) h n n1 Q) : am_R E M pc ls st h n n1 Q := by
  intro p l e s m args below meth c g n0 Z H locs lsc Rm C hR hP hS hn hl hq
  exact lv_sipush C.1 C.2.1 hd hv (k p l e s m args below meth c g n0 Z H locs lsc Rm C hR hP hS hn hl hq)
theorem am_lconst {z : Fin 2} (v : Int64) (hv : Int64.ofNat (z : Nat) = v) (hd : decode M.2.1 pc = .ok (.lconst z, 1)) (k : am_R E M (pc + 1) ls (.long v :: st) h n n1 Q) : am_R E M pc ls st h n n1 Q := by
  intro p l e s m args below meth c g n0 Z H locs lsc Rm C hR hP hS hn hl hq
  exact lv_lconst C.1 C.2.1 hd hv (k p l e s m args below meth c g n0 Z H locs lsc Rm C hR hP hS hn hl hq)
theorem am_ldc {i : Nat} (v : Int32) (hc : Cond.constant M.1.cls i v ∈ am_TB) (hd : decode M.2.1 pc = .ok (.ldc i, 2)) (k : am_R E M (pc + 2) ls (.int v :: st) h n n1 Q) : am_R E M pc ls st h n n1 Q := by
  intro p l e s m args below meth c g n0 Z H locs lsc Rm C hR hP hS hn hl hq
  exact lv_ldc C.1 C.2.1 C.2.2.2.2.1 (C.2.2.2.2.2.1 _ hc) hd (k p l e s m args below meth c g n0 Z H locs lsc Rm C hR hP hS hn hl hq)
theorem am_ldcw {i : Nat} (v : Int32) (hc : Cond.constant M.1.cls i v ∈ am_TB) (hd : decode M.2.1 pc = .ok (.ldc_w i, 3)) (k : am_R E M (pc + 3) ls (.int v :: st) h n n1 Q) : am_R E M pc ls st h n n1 Q := by
  intro p l e s m args below meth c g n0 Z H locs lsc Rm C hR hP hS hn hl hq
  exact lv_ldcw C.1 C.2.1 C.2.2.2.2.1 (C.2.2.2.2.2.1 _ hc) hd (k p l e s m args below meth c g n0 Z H locs lsc Rm C hR hP hS hn hl hq)
theorem am_ldc2 {i : Nat} (v : Int64) (hc : Cond.constantLong M.1.cls i v ∈ am_TB) (hd : decode M.2.1 pc = .ok (.ldc2_w i, 3)) (k : am_R E M (pc + 3) ls (.long v :: st) h n n1 Q) : am_R E M pc ls st h n n1 Q := by
  intro p l e s m args below meth c g n0 Z H locs lsc Rm C hR hP hS hn hl hq
  exact lv_ldc2 C.1 C.2.1 C.2.2.2.2.1 (C.2.2.2.2.2.1 _ hc) hd (k p l e s m args below meth c g n0 Z H locs lsc Rm C hR hP hS hn hl hq)
theorem am_dup {v : Value} (hv : v.category = 1) (hd : decode M.2.1 pc = .ok (.dup, 1)) (k : am_R E M (pc + 1) ls (v :: v :: st) h n n1 Q) : am_R E M pc ls (v :: st) h n n1 Q := by
  intro p l e s m args below meth c g n0 Z H locs lsc Rm C hR hP hS hn hl hq
  exact lv_dup C.1 C.2.1 hd ((am_cat g v).trans hv) (k p l e s m args below meth c g n0 Z H locs lsc Rm C hR hP hS hn hl hq)
theorem am_pop {v : Value} (hv : v.category = 1) (hd : decode M.2.1 pc = .ok (.pop, 1)) (k : am_R E M (pc + 1) ls st h n n1 Q) : am_R E M pc ls (v :: st) h n n1 Q := by
  intro p l e s m args below meth c g n0 Z H locs lsc Rm C hR hP hS hn hl hq
  exact lv_pop C.1 C.2.1 hd ((am_cat g v).trans hv) (k p l e s m args below meth c g n0 Z H locs lsc Rm C hR hP hS hn hl hq)
theorem am_dup2 {v w : Value} (hv : v.category = 1) (hw : w.category = 1) (hd : decode M.2.1 pc = .ok (.dup2, 1)) (k : am_R E M (pc + 1) ls (v :: w :: v :: w :: st) h n n1 Q) : am_R E M pc ls (v :: w :: st) h n n1 Q := by
  intro p l e s m args below meth c g n0 Z H locs lsc Rm C hR hP hS hn hl hq
  exact lv_dup2_11 C.1 C.2.1 hd ((am_cat g v).trans hv) ((am_cat g w).trans hw) (k p l e s m args below meth c g n0 Z H locs lsc Rm C hR hP hS hn hl hq)
theorem am_iload_n {z : Fin 4} {i : Nat} {x : Int32} (hi : (z : Nat) = i) (hv : ls[i]? = some (some (.int x))) (hd : decode M.2.1 pc = .ok (.iload_n z, 1)) (k : am_R E M (pc + 1) ls (.int x :: st) h n n1 Q) : am_R E M pc ls st h n n1 Q := by
  intro p l e s m args below meth c g n0 Z H locs lsc Rm C hR hP hS hn hl hq
  exact lv_iload_n C.1 C.2.1 hd hi (hl.2.2.2 _ _ hv) (k p l e s m args below meth c g n0 Z H locs lsc Rm C hR hP hS hn hl hq)
theorem am_iload {i : Nat} {x : Int32} (hv : ls[i]? = some (some (.int x))) (hd : decode M.2.1 pc = .ok (.iload i, 2)) (k : am_R E M (pc + 2) ls (.int x :: st) h n n1 Q) : am_R E M pc ls st h n n1 Q := by
  intro p l e s m args below meth c g n0 Z H locs lsc Rm C hR hP hS hn hl hq
  exact lv_iload C.1 C.2.1 hd (hl.2.2.2 _ _ hv) (k p l e s m args below meth c g n0 Z H locs lsc Rm C hR hP hS hn hl hq)
theorem am_lload_n {z : Fin 4} {i : Nat} {x : Int64} (hi : (z : Nat) = i) (hv : ls[i]? = some (some (.long x))) (hd : decode M.2.1 pc = .ok (.lload_n z, 1)) (k : am_R E M (pc + 1) ls (.long x :: st) h n n1 Q) : am_R E M pc ls st h n n1 Q := by
  intro p l e s m args below meth c g n0 Z H locs lsc Rm C hR hP hS hn hl hq
  exact lv_lload_n C.1 C.2.1 hd hi (hl.2.2.2 _ _ hv) (k p l e s m args below meth c g n0 Z H locs lsc Rm C hR hP hS hn hl hq)
theorem am_lload {i : Nat} {x : Int64} (hv : ls[i]? = some (some (.long x))) (hd : decode M.2.1 pc = .ok (.lload i, 2)) (k : am_R E M (pc + 2) ls (.long x :: st) h n n1 Q) : am_R E M pc ls st h n n1 Q := by
  intro p l e s m args below meth c g n0 Z H locs lsc Rm C hR hP hS hn hl hq
  exact lv_lload C.1 C.2.1 hd (hl.2.2.2 _ _ hv) (k p l e s m args below meth c g n0 Z H locs lsc Rm C hR hP hS hn hl hq)
theorem am_aload_n {z : Fin 4} {i : Nat} {x : Nat} (hi : (z : Nat) = i) (hv : ls[i]? = some (some (.ref x))) (hd : decode M.2.1 pc = .ok (.aload_n z, 1)) (k : am_R E M (pc + 1) ls (.ref x :: st) h n n1 Q) : am_R E M pc ls st h n n1 Q := by
  intro p l e s m args below meth c g n0 Z H locs lsc Rm C hR hP hS hn hl hq
  exact lv_aload_n C.1 C.2.1 hd hi (hl.2.2.2 _ _ hv) (k p l e s m args below meth c g n0 Z H locs lsc Rm C hR hP hS hn hl hq)
theorem am_aload {i : Nat} {x : Nat} (hv : ls[i]? = some (some (.ref x))) (hd : decode M.2.1 pc = .ok (.aload i, 2)) (k : am_R E M (pc + 2) ls (.ref x :: st) h n n1 Q) : am_R E M pc ls st h n n1 Q := by
  intro p l e s m args below meth c g n0 Z H locs lsc Rm C hR hP hS hn hl hq
  exact lv_aload C.1 C.2.1 hd (hl.2.2.2 _ _ hv) (k p l e s m args below meth c g n0 Z H locs lsc Rm C hR hP hS hn hl hq)
theorem am_istore_n {z : Fin 4} {i : Nat} {x : Int32} {ls' : List (Option Value)} (hz : (z : Nat) = i) (hi : i < M.2.2.1) (ho : am_o1 ls i = true) (hv : ls.set i (some (.int x)) = ls') (hd : decode M.2.1 pc = .ok (.istore_n z, 1)) (k : am_R E M (pc + 1) ls' st h n n1 Q) : am_R E M pc ls (.int x :: st) h n n1 Q := by
  intro p l e s m args below meth c g n0 Z H locs lsc Rm C hR hP hS hn hl hq
  exact lv_istore_n C.1 C.2.1 hd hz hl.has hi rfl (fun ls2 h2 => (k p l e s m args below meth c g n0 Z H locs ls2 Rm C hR hP hS hn (hv ▸ hl.st1 hi ho h2) hq))
theorem am_istore {i : Nat} {x : Int32} {ls' : List (Option Value)} (hi : i < M.2.2.1) (ho : am_o1 ls i = true) (hv : ls.set i (some (.int x)) = ls') (hd : decode M.2.1 pc = .ok (.istore i, 2)) (k : am_R E M (pc + 2) ls' st h n n1 Q) : am_R E M pc ls (.int x :: st) h n n1 Q := by
  intro p l e s m args below meth c g n0 Z H locs lsc Rm C hR hP hS hn hl hq
  exact lv_istore C.1 C.2.1 hd hl.has hi rfl (fun ls2 h2 => (k p l e s m args below meth c g n0 Z H locs ls2 Rm C hR hP hS hn (hv ▸ hl.st1 hi ho h2) hq))
theorem am_astore_n {z : Fin 4} {i : Nat} {x : Nat} {ls' : List (Option Value)} (hz : (z : Nat) = i) (hi : i < M.2.2.1) (ho : am_o1 ls i = true) (hv : ls.set i (some (.ref x)) = ls') (hd : decode M.2.1 pc = .ok (.astore_n z, 1)) (k : am_R E M (pc + 1) ls' st h n n1 Q) : am_R E M pc ls (.ref x :: st) h n n1 Q := by
  intro p l e s m args below meth c g n0 Z H locs lsc Rm C hR hP hS hn hl hq
  exact lv_astore_n C.1 C.2.1 hd hz hl.has hi rfl (fun ls2 h2 => (k p l e s m args below meth c g n0 Z H locs ls2 Rm C hR hP hS hn (hv ▸ hl.st1 hi ho h2) hq))
theorem am_astore {i : Nat} {x : Nat} {ls' : List (Option Value)} (hi : i < M.2.2.1) (ho : am_o1 ls i = true) (hv : ls.set i (some (.ref x)) = ls') (hd : decode M.2.1 pc = .ok (.astore i, 2)) (k : am_R E M (pc + 2) ls' st h n n1 Q) : am_R E M pc ls (.ref x :: st) h n n1 Q := by
  intro p l e s m args below meth c g n0 Z H locs lsc Rm C hR hP hS hn hl hq
  exact lv_astore C.1 C.2.1 hd hl.has hi rfl (fun ls2 h2 => (k p l e s m args below meth c g n0 Z H locs ls2 Rm C hR hP hS hn (hv ▸ hl.st1 hi ho h2) hq))
theorem am_lstore_n {z : Fin 4} {i : Nat} {x : Int64} {ls' : List (Option Value)} (hz : (z : Nat) = i) (hi : i + 1 < M.2.2.1) (ho : am_o1 ls i = true) (hv : (ls.set i (some (.long x))).set (i + 1) none = ls') (hd : decode M.2.1 pc = .ok (.lstore_n z, 1)) (k : am_R E M (pc + 1) ls' st h n n1 Q) : am_R E M pc ls (.long x :: st) h n n1 Q := by
  intro p l e s m args below meth c g n0 Z H locs lsc Rm C hR hP hS hn hl hq
  exact lv_lstore_n C.1 C.2.1 hd hz hl.has hi rfl (fun ls2 h2 => (k p l e s m args below meth c g n0 Z H locs ls2 Rm C hR hP hS hn (hv ▸ hl.st2 hi ho h2) hq))
theorem am_lstore {i : Nat} {x : Int64} {ls' : List (Option Value)} (hi : i + 1 < M.2.2.1) (ho : am_o1 ls i = true) (hv : (ls.set i (some (.long x))).set (i + 1) none = ls') (hd : decode M.2.1 pc = .ok (.lstore i, 2)) (k : am_R E M (pc + 2) ls' st h n n1 Q) : am_R E M pc ls (.long x :: st) h n n1 Q := by
  intro p l e s m args below meth c g n0 Z H locs lsc Rm C hR hP hS hn hl hq
  exact lv_lstore C.1 C.2.1 hd hl.has hi rfl (fun ls2 h2 => (k p l e s m args below meth c g n0 Z H locs ls2 Rm C hR hP hS hn (hv ▸ hl.st2 hi ho h2) hq))
theorem am_iinc {z : Int} {i : Nat} {x : Int32} {ls' : List (Option Value)} (hi : i < M.2.2.1) (hx : ls[i]? = some (some (.int x))) (ho : am_o1 ls i = true) (hv : ls.set i (some (.int (x + Int32.ofInt z))) = ls') (hd : decode M.2.1 pc = .ok (.iinc i z, 3)) (k : am_R E M (pc + 3) ls' st h n n1 Q) : am_R E M pc ls st h n n1 Q := by
  intro p l e s m args below meth c g n0 Z H locs lsc Rm C hR hP hS hn hl hq
  obtain ⟨j, hj⟩ := List.getElem?_of_mem (am_l_mem.mpr ⟨_, hx, rfl⟩ : (i, Value.int x) ∈ am_l g ls)
  exact lv_iinc C.1 C.2.1 hd hl.has hj rfl hi rfl (fun ls2 h2 => (k p l e s m args below meth c g n0 Z H locs ls2 Rm C hR hP hS hn (hv ▸ hl.st1 (v := .int (x + Int32.ofInt z)) hi ho h2) hq))
theorem am_if_eq {x : Int32} {off : Int} {tgt : Nat} (hd : decode M.2.1 pc = .ok (.ifCond .eq off, 3)) (ht : (pc : Int) + off = (tgt : Int)) (kt : x = 0 → am_R E M tgt ls st h n n1 Q) (kf : ¬ x = 0 → am_R E M (pc + 3) ls st h n n1 Q) : am_R E M pc ls (.int x :: st) h n n1 Q := by
  intro p l e s m args below meth c g n0 Z H locs lsc Rm C hR hP hS hn hl hq
  exact lv_if_eq C.1 C.2.1 hd ht (fun hh => (kt hh p l e s m args below meth c g n0 Z H locs lsc Rm C hR hP hS hn hl hq)) (fun hh => (kf hh p l e s m args below meth c g n0 Z H locs lsc Rm C hR hP hS hn hl hq))
theorem am_if_ne {x : Int32} {off : Int} {tgt : Nat} (hd : decode M.2.1 pc = .ok (.ifCond .ne off, 3)) (ht : (pc : Int) + off = (tgt : Int)) (kt : ¬ x = 0 → am_R E M tgt ls st h n n1 Q) (kf : x = 0 → am_R E M (pc + 3) ls st h n n1 Q) : am_R E M pc ls (.int x :: st) h n n1 Q := by
  intro p l e s m args below meth c g n0 Z H locs lsc Rm C hR hP hS hn hl hq
  exact lv_if_ne C.1 C.2.1 hd ht (fun hh => (kt hh p l e s m args below meth c g n0 Z H locs lsc Rm C hR hP hS hn hl hq)) (fun hh => (kf hh p l e s m args below meth c g n0 Z H locs lsc Rm C hR hP hS hn hl hq))
theorem am_if_lt {x : Int32} {off : Int} {tgt : Nat} (hd : decode M.2.1 pc = .ok (.ifCond .lt off, 3)) (ht : (pc : Int) + off = (tgt : Int)) (kt : x < 0 → am_R E M tgt ls st h n n1 Q) (kf : ¬ x < 0 → am_R E M (pc + 3) ls st h n n1 Q) : am_R E M pc ls (.int x :: st) h n n1 Q := by
  intro p l e s m args below meth c g n0 Z H locs lsc Rm C hR hP hS hn hl hq
  exact lv_if_lt C.1 C.2.1 hd ht (fun hh => (kt hh p l e s m args below meth c g n0 Z H locs lsc Rm C hR hP hS hn hl hq)) (fun hh => (kf hh p l e s m args below meth c g n0 Z H locs lsc Rm C hR hP hS hn hl hq))
theorem am_if_ge {x : Int32} {off : Int} {tgt : Nat} (hd : decode M.2.1 pc = .ok (.ifCond .ge off, 3)) (ht : (pc : Int) + off = (tgt : Int)) (kt : 0 ≤ x → am_R E M tgt ls st h n n1 Q) (kf : ¬ 0 ≤ x → am_R E M (pc + 3) ls st h n n1 Q) : am_R E M pc ls (.int x :: st) h n n1 Q := by
  intro p l e s m args below meth c g n0 Z H locs lsc Rm C hR hP hS hn hl hq
  exact lv_if_ge C.1 C.2.1 hd ht (fun hh => (kt hh p l e s m args below meth c g n0 Z H locs lsc Rm C hR hP hS hn hl hq)) (fun hh => (kf hh p l e s m args below meth c g n0 Z H locs lsc Rm C hR hP hS hn hl hq))
theorem am_if_gt {x : Int32} {off : Int} {tgt : Nat} (hd : decode M.2.1 pc = .ok (.ifCond .gt off, 3)) (ht : (pc : Int) + off = (tgt : Int)) (kt : 0 < x → am_R E M tgt ls st h n n1 Q) (kf : ¬ 0 < x → am_R E M (pc + 3) ls st h n n1 Q) : am_R E M pc ls (.int x :: st) h n n1 Q := by
  intro p l e s m args below meth c g n0 Z H locs lsc Rm C hR hP hS hn hl hq
  exact lv_if_gt C.1 C.2.1 hd ht (fun hh => (kt hh p l e s m args below meth c g n0 Z H locs lsc Rm C hR hP hS hn hl hq)) (fun hh => (kf hh p l e s m args below meth c g n0 Z H locs lsc Rm C hR hP hS hn hl hq))
theorem am_if_le {x : Int32} {off : Int} {tgt : Nat} (hd : decode M.2.1 pc = .ok (.ifCond .le off, 3)) (ht : (pc : Int) + off = (tgt : Int)) (kt : x ≤ 0 → am_R E M tgt ls st h n n1 Q) (kf : ¬ x ≤ 0 → am_R E M (pc + 3) ls st h n n1 Q) : am_R E M pc ls (.int x :: st) h n n1 Q := by
  intro p l e s m args below meth c g n0 Z H locs lsc Rm C hR hP hS hn hl hq
  exact lv_if_le C.1 C.2.1 hd ht (fun hh => (kt hh p l e s m args below meth c g n0 Z H locs lsc Rm C hR hP hS hn hl hq)) (fun hh => (kf hh p l e s m args below meth c g n0 Z H locs lsc Rm C hR hP hS hn hl hq))
theorem am_icmp_eq {x y : Int32} {off : Int} {tgt : Nat} (hd : decode M.2.1 pc = .ok (.if_icmp .eq off, 3)) (ht : (pc : Int) + off = (tgt : Int)) (kt : x = y → am_R E M tgt ls st h n n1 Q) (kf : ¬ x = y → am_R E M (pc + 3) ls st h n n1 Q) : am_R E M pc ls (.int y :: .int x :: st) h n n1 Q := by
  intro p l e s m args below meth c g n0 Z H locs lsc Rm C hR hP hS hn hl hq
  exact lv_icmp_eq C.1 C.2.1 hd ht (fun hh => (kt hh p l e s m args below meth c g n0 Z H locs lsc Rm C hR hP hS hn hl hq)) (fun hh => (kf hh p l e s m args below meth c g n0 Z H locs lsc Rm C hR hP hS hn hl hq))
theorem am_icmp_ne {x y : Int32} {off : Int} {tgt : Nat} (hd : decode M.2.1 pc = .ok (.if_icmp .ne off, 3)) (ht : (pc : Int) + off = (tgt : Int)) (kt : ¬ x = y → am_R E M tgt ls st h n n1 Q) (kf : x = y → am_R E M (pc + 3) ls st h n n1 Q) : am_R E M pc ls (.int y :: .int x :: st) h n n1 Q := by
  intro p l e s m args below meth c g n0 Z H locs lsc Rm C hR hP hS hn hl hq
  exact lv_icmp_ne C.1 C.2.1 hd ht (fun hh => (kt hh p l e s m args below meth c g n0 Z H locs lsc Rm C hR hP hS hn hl hq)) (fun hh => (kf hh p l e s m args below meth c g n0 Z H locs lsc Rm C hR hP hS hn hl hq))
theorem am_icmp_lt {x y : Int32} {off : Int} {tgt : Nat} (hd : decode M.2.1 pc = .ok (.if_icmp .lt off, 3)) (ht : (pc : Int) + off = (tgt : Int)) (kt : x < y → am_R E M tgt ls st h n n1 Q) (kf : ¬ x < y → am_R E M (pc + 3) ls st h n n1 Q) : am_R E M pc ls (.int y :: .int x :: st) h n n1 Q := by
  intro p l e s m args below meth c g n0 Z H locs lsc Rm C hR hP hS hn hl hq
  exact lv_icmp_lt C.1 C.2.1 hd ht (fun hh => (kt hh p l e s m args below meth c g n0 Z H locs lsc Rm C hR hP hS hn hl hq)) (fun hh => (kf hh p l e s m args below meth c g n0 Z H locs lsc Rm C hR hP hS hn hl hq))
theorem am_icmp_ge {x y : Int32} {off : Int} {tgt : Nat} (hd : decode M.2.1 pc = .ok (.if_icmp .ge off, 3)) (ht : (pc : Int) + off = (tgt : Int)) (kt : y ≤ x → am_R E M tgt ls st h n n1 Q) (kf : ¬ y ≤ x → am_R E M (pc + 3) ls st h n n1 Q) : am_R E M pc ls (.int y :: .int x :: st) h n n1 Q := by
  intro p l e s m args below meth c g n0 Z H locs lsc Rm C hR hP hS hn hl hq
  exact lv_icmp_ge C.1 C.2.1 hd ht (fun hh => (kt hh p l e s m args below meth c g n0 Z H locs lsc Rm C hR hP hS hn hl hq)) (fun hh => (kf hh p l e s m args below meth c g n0 Z H locs lsc Rm C hR hP hS hn hl hq))
theorem am_icmp_gt {x y : Int32} {off : Int} {tgt : Nat} (hd : decode M.2.1 pc = .ok (.if_icmp .gt off, 3)) (ht : (pc : Int) + off = (tgt : Int)) (kt : y < x → am_R E M tgt ls st h n n1 Q) (kf : ¬ y < x → am_R E M (pc + 3) ls st h n n1 Q) : am_R E M pc ls (.int y :: .int x :: st) h n n1 Q := by
  intro p l e s m args below meth c g n0 Z H locs lsc Rm C hR hP hS hn hl hq
  exact lv_icmp_gt C.1 C.2.1 hd ht (fun hh => (kt hh p l e s m args below meth c g n0 Z H locs lsc Rm C hR hP hS hn hl hq)) (fun hh => (kf hh p l e s m args below meth c g n0 Z H locs lsc Rm C hR hP hS hn hl hq))
theorem am_icmp_le {x y : Int32} {off : Int} {tgt : Nat} (hd : decode M.2.1 pc = .ok (.if_icmp .le off, 3)) (ht : (pc : Int) + off = (tgt : Int)) (kt : x ≤ y → am_R E M tgt ls st h n n1 Q) (kf : ¬ x ≤ y → am_R E M (pc + 3) ls st h n n1 Q) : am_R E M pc ls (.int y :: .int x :: st) h n n1 Q := by
  intro p l e s m args below meth c g n0 Z H locs lsc Rm C hR hP hS hn hl hq
  exact lv_icmp_le C.1 C.2.1 hd ht (fun hh => (kt hh p l e s m args below meth c g n0 Z H locs lsc Rm C hR hP hS hn hl hq)) (fun hh => (kf hh p l e s m args below meth c g n0 Z H locs lsc Rm C hR hP hS hn hl hq))
theorem am_goto {off : Int} {tgt : Nat} (hd : decode M.2.1 pc = .ok (.goto off, 3)) (ht : (pc : Int) + off = (tgt : Int)) (k : am_R E M tgt ls st h n n1 Q) : am_R E M pc ls st h n n1 Q := by
  intro p l e s m args below meth c g n0 Z H locs lsc Rm C hR hP hS hn hl hq
  exact lv_goto C.1 C.2.1 hd ht (k p l e s m args below meth c g n0 Z H locs lsc Rm C hR hP hS hn hl hq)
theorem am_tabIn {dflt lo hi : Int} {offs : Array Int} {len : Nat} {x : Int32} {off : Int} {tgt : Nat} (hd : decode M.2.1 pc = .ok (.tableswitch dflt lo hi offs, len)) (h1 : ¬ x.toInt < lo) (h2 : ¬ hi < x.toInt) (ho : offs[(x.toInt - lo).toNat]? = some off) (ht : (pc : Int) + off = (tgt : Int)) (k : am_R E M tgt ls st h n n1 Q) : am_R E M pc ls (.int x :: st) h n n1 Q := by
  intro p l e s m args below meth c g n0 Z H locs lsc Rm C hR hP hS hn hl hq
  exact lv_tableIn C.1 C.2.1 hd h1 h2 ho ht (k p l e s m args below meth c g n0 Z H locs lsc Rm C hR hP hS hn hl hq)
theorem am_tabOut {dflt lo hi : Int} {offs : Array Int} {len : Nat} {x : Int32} {tgt : Nat} (hd : decode M.2.1 pc = .ok (.tableswitch dflt lo hi offs, len)) (h1 : x.toInt < lo ∨ hi < x.toInt) (ht : (pc : Int) + dflt = (tgt : Int)) (k : am_R E M tgt ls st h n n1 Q) : am_R E M pc ls (.int x :: st) h n n1 Q := by
  intro p l e s m args below meth c g n0 Z H locs lsc Rm C hR hP hS hn hl hq
  exact lv_tableOut C.1 C.2.1 hd h1 ht (k p l e s m args below meth c g n0 Z H locs lsc Rm C hR hP hS hn hl hq)
theorem am_look {dflt : Int} {ps : Array (Int × Int)} {len : Nat} {x : Int32} {off : Int} {tgt : Nat} (hd : decode M.2.1 pc = .ok (.lookupswitch dflt ps, len)) (hp : (ps.toList.zip (ps.toList.drop 1)).all (fun (a, next) => a.1 < next.1) = true) (ho : Op.lookupswitch.offset ps.toList dflt x.toInt = off) (ht : (pc : Int) + off = (tgt : Int)) (k : am_R E M tgt ls st h n n1 Q) : am_R E M pc ls (.int x :: st) h n n1 Q := by
  intro p l e s m args below meth c g n0 Z H locs lsc Rm C hR hP hS hn hl hq
  exact lv_lookup C.1 C.2.1 hd hp ho ht (k p l e s m args below meth c g n0 Z H locs lsc Rm C hR hP hS hn hl hq)
theorem am_iret {v : Int32} {ty : FieldType} (hd : decode M.2.1 pc = .ok (.ireturn, 1)) (hr : M.2.2.2.1 = some ty) (hw : narrow ty (.int v) = .int v) (k : Q (some (.int v)) h) : am_R E M pc ls [.int v] h n n Q := by
  intro p l e s m args below meth c g n0 Z H locs lsc Rm C hR hP hS hn hl hq
  exact hq pc (some (.int v)) h H locs lsc k hP hS ⟨hd, ty, hr, hw⟩
theorem am_lret {v : Int64} (hd : decode M.2.1 pc = .ok (.lreturn, 1)) (hr : M.2.2.2.1 = some .long) (k : Q (some (.long v)) h) : am_R E M pc ls [.long v] h n n Q := by
  intro p l e s m args below meth c g n0 Z H locs lsc Rm C hR hP hS hn hl hq
  exact hq pc (some (.long v)) h H locs lsc k hP hS ⟨hd, hr⟩
theorem am_aret {v : Nat} {rt : FieldType} (hd : decode M.2.1 pc = .ok (.areturn, 1)) (hr : M.2.2.2.1 = some rt) (hw : (∃ n, rt = .object n) ∨ ∃ t, rt = .array t) (k : Q (some (.ref v)) h) : am_R E M pc ls [.ref v] h n n Q := by
  intro p l e s m args below meth c g n0 Z H locs lsc Rm C hR hP hS hn hl hq
  exact hq pc (some (.ref v)) h H locs lsc k hP hS ⟨hd, rt, hr, hw⟩
theorem am_vret (hd : decode M.2.1 pc = .ok (.return_, 1)) (hr : M.2.2.2.1 = none) (k : Q none h) : am_R E M pc ls [] h n n Q := by
  intro p l e s m args below meth c g n0 Z H locs lsc Rm C hR hP hS hn hl hq
  exact hq pc none h H locs lsc k hP hS ⟨hd, hr⟩
theorem am_R.mono {Q' : Option Value → am_H → Prop} (k : am_R E M pc ls st h n n1 Q) (hQ : ∀ r h', Q r h' → Q' r h') : am_R E M pc ls st h n n1 Q' := by
  intro p l e s m args below meth c g n0 Z H locs lsc Rm C hR hP hS hn hl hq
  exact k p l e s m args below meth c g n0 Z H locs lsc Rm C hR hP hS hn hl (fun pc' r h' H' locs' lsc' q => hq pc' r h' H' locs' lsc' (hQ r h' q))
theorem am_R.heq {h2 : am_H} (k : am_R E M pc ls st h2 n n1 Q) (hs : ∀ j, j < n → ∀ i, i < am_z j → h2.1 j i = h.1 j i ∧ h2.2.1 j i = h.2.1 j i ∧ h2.2.2 j i = h.2.2 j i) : am_R E M pc ls st h n n1 Q := by
  intro p l e s m args below meth c g n0 Z H locs lsc Rm C hR hP hS hn hl hq
  exact k p l e s m args below meth c g n0 Z H locs lsc Rm C hR (hP.same hs) hS hn hl hq
end AM
end
section
/-! ===== fields and arrays ===== -/
def am_sR (h : am_H) (k : Nat) (f : Nat → Int32) : am_H := (fun a => if a = k then f else h.1 a, h.2.1, h.2.2)
def am_sI (h : am_H) (k j : Nat) (x : Int32) : am_H := am_sR h k (upd (h.1 k) j x)
def am_sJ (h : am_H) (k j : Nat) (x : Int64) : am_H := (h.1, fun a => if a = k then vp_updL (h.2.1 k) j x else h.2.1 a, h.2.2)
def am_sA (h : am_H) (k j : Nat) (x : Option Nat) : am_H := (h.1, h.2.1, fun a => if a = k then va_up (h.2.2 k) j x else h.2.2 a)
def am_s0 (h : am_H) (k : Nat) : am_H := (fun a => if a = k then (fun _ => 0) else h.1 a, fun a => if a = k then (fun _ => 0) else h.2.1 a, fun a => if a = k then (fun _ => none) else h.2.2 a)
theorem am_sR_ne {h : am_H} {k : Nat} {f : Nat → Int32} (j : Nat) (e : j ≠ k) : (am_sR h k f).1 j = h.1 j ∧ (am_sR h k f).2.1 j = h.2.1 j ∧ (am_sR h k f).2.2 j = h.2.2 j := ⟨if_neg e, rfl, rfl⟩
theorem am_sJ_ne {h : am_H} {k i : Nat} {x : Int64} (j : Nat) (e : j ≠ k) : (am_sJ h k i x).1 j = h.1 j ∧ (am_sJ h k i x).2.1 j = h.2.1 j ∧ (am_sJ h k i x).2.2 j = h.2.2 j := ⟨rfl, if_neg e, rfl⟩
theorem am_sA_ne {h : am_H} {k i : Nat} {x : Option Nat} (j : Nat) (e : j ≠ k) : (am_sA h k i x).1 j = h.1 j ∧ (am_sA h k i x).2.1 j = h.2.1 j ∧ (am_sA h k i x).2.2 j = h.2.2 j := ⟨rfl, rfl, if_neg e⟩
theorem am_s0_ne {h : am_H} {k : Nat} (j : Nat) (e : j ≠ k) : (am_s0 h k).1 j = h.1 j ∧ (am_s0 h k).2.1 j = h.2.1 j ∧ (am_s0 h k).2.2 j = h.2.2 j := ⟨if_neg e, if_neg e, if_neg e⟩
/-- types whose places hold ints -/
def am_iT (ty : FieldType) : Prop := ty = .int ∨ ty = .boolean
def am_rT (ty : FieldType) : Prop := (∃ C, ty = .object C) ∨ ∃ t, ty = .array t
theorem am_f_i {g : am_G} {h : am_H} {k j : Nat} {ty : FieldType} (ht : am_iT ty) : am_f g h k ty j = .int (h.1 k j) := by
  rcases ht with rfl | rfl <;> rfl
theorem am_f_r {g : am_G} {h : am_H} {k j : Nat} {ty : FieldType} (ht : am_rT ty) : am_f g h k ty j = va_rf ((h.2.2 k j).map (am_a g)) := by
  rcases ht with ⟨C, rfl⟩ | ⟨t, rfl⟩ <;> rfl
theorem am_f_sR {g : am_G} {h : am_H} {k j : Nat} {x : Int32} {ty : FieldType} (ht : am_iT ty) (ty2 : FieldType) (i : Nat) (hh : i = j → ty2 = ty) : am_f g (am_sI h k j x) k ty2 i = if i = j then .int x else am_f g h k ty2 i := by
  by_cases e : i = j
  · subst e
    rw [if_pos rfl, hh rfl, am_f_i ht]
    simp [am_sI, am_sR, upd]
  · rw [if_neg e]
    unfold am_f
    cases ty2 <;> simp [am_sI, am_sR, upd, e]
theorem am_f_sJ {g : am_G} {h : am_H} {k j : Nat} {x : Int64} (ty2 : FieldType) (i : Nat) (hh : i = j → ty2 = .long) : am_f g (am_sJ h k j x) k ty2 i = if i = j then .long x else am_f g h k ty2 i := by
  by_cases e : i = j
  · subst e
    rw [if_pos rfl, hh rfl]
    simp [am_sJ, vp_updL, am_f]
  · rw [if_neg e]
    unfold am_f
    cases ty2 <;> simp [am_sJ, vp_updL, e]
theorem am_f_sA {g : am_G} {h : am_H} {k j : Nat} {x : Option Nat} {ty : FieldType} (ht : am_rT ty) (ty2 : FieldType) (i : Nat) (hh : i = j → ty2 = ty) : am_f g (am_sA h k j x) k ty2 i = if i = j then va_rf (x.map (am_a g)) else am_f g h k ty2 i := by
  by_cases e : i = j
  · subst e
    rw [if_pos rfl, hh rfl, am_f_r ht]
    simp [am_sA, va_up]
  · rw [if_neg e]
    unfold am_f
    cases ty2 <;> simp [am_sA, va_up, e]
/-- a field's link: the class's own entry idx is the place j of class ci -/
def am_fl (own : String) (idx ci j : Nat) : Prop := ci < 9 ∧ j < am_nf ci ∧ Cond.fieldLink own idx (am_tb ci j).1 (am_tb ci j).2.1 (am_tb ci j).2.2.1 ∈ am_TB
section AM2
variable {E : Nat × (Nat → Int32)} {M : am_M} {pc : Nat} {ls : List (Option Value)} {st : List Value} {h : am_H} {n n1 : Nat} {Q : Option Value → am_H → Prop}
theorem am_getW {k j idx ci : Nat} (hd : decode M.2.1 pc = .ok (.getfield idx, 3)) (hf : am_fl M.1.cls idx ci j) (hs : am_s k = .inr ci) (hk : k < n) {v : Value} (hv : ∀ g : am_G, am_f g h k (am_ft ci j) j = am_v g v) (kk : am_R E M (pc + 3) ls (v :: st) h n n1 Q) : am_R E M pc ls (.ref k :: st) h n n1 Q := by
  intro p l e s m args below meth c g n0 Z H locs lsc Rm C hR hP hS hn hl hq
  have K := kk p l e s m args below meth c g n0 Z H locs lsc Rm C hR hP hS hn hl hq
  obtain ⟨hx, hb, -, -, hown, hts, -, -, -, hSt⟩ := C
  obtain ⟨hci, hj, hln⟩ := hf
  obtain ⟨cell, q1, q2, q3, q4⟩ := hP.obj hk hs
  obtain ⟨hSl, hfc, kC, hkC, hkind⟩ := hSt.1.1 ci _ (am_cl hci)
  obtain ⟨cf, kf, fi, f, hi, hsl⟩ := hSl j hj
  refine W.getf hx hb hown (hts _ hln) hi (u_facts hfc hkC (u_lays hts (am_in hci) hj) hi).1 q1 (by rw [q3]; exact fun h => by cases h) (v := am_v g v) ?_ rfl rfl hd K
  rw [hsl, q4 j hj]
  exact congrArg some (hv g)
theorem am_getI {k j idx ci : Nat} (hd : decode M.2.1 pc = .ok (.getfield idx, 3)) (hf : am_fl M.1.cls idx ci j) (ht : am_iT (am_ft ci j)) (hs : am_s k = .inr ci) (hk : k < n) (kk : am_R E M (pc + 3) ls (.int (h.1 k j) :: st) h n n1 Q) : am_R E M pc ls (.ref k :: st) h n n1 Q :=
  am_getW hd hf hs hk (v := .int (h.1 k j)) (fun _ => am_f_i ht) kk
theorem am_getJ {k j idx ci : Nat} (hd : decode M.2.1 pc = .ok (.getfield idx, 3)) (hf : am_fl M.1.cls idx ci j) (ht : am_ft ci j = .long) (hs : am_s k = .inr ci) (hk : k < n) (kk : am_R E M (pc + 3) ls (.long (h.2.1 k j) :: st) h n n1 Q) : am_R E M pc ls (.ref k :: st) h n n1 Q :=
  am_getW hd hf hs hk (v := .long (h.2.1 k j)) (fun _ => by rw [ht]; rfl) kk
theorem am_getA {k j idx ci r : Nat} (hd : decode M.2.1 pc = .ok (.getfield idx, 3)) (hf : am_fl M.1.cls idx ci j) (ht : am_rT (am_ft ci j)) (hs : am_s k = .inr ci) (hk : k < n) (hr : h.2.2 k j = some r) (kk : am_R E M (pc + 3) ls (.ref r :: st) h n n1 Q) : am_R E M pc ls (.ref k :: st) h n n1 Q :=
  am_getW hd hf hs hk (v := .ref r) (fun _ => by rw [am_f_r ht, hr]; rfl) kk
/-- a store into a field -/
theorem am_putW {k j idx ci : Nat} {v : Value} {h' : am_H} (hd : decode M.2.1 pc = .ok (.putfield idx, 3)) (hf : am_fl M.1.cls idx ci j) (hfin : (am_tb ci j).2.2.2 = false ∨ (M.1.name = "<init>" ∧ (am_tb ci j).2.2.2 = true ∧ (am_tb ci j).1 = M.1.cls)) (hs : am_s k = .inr ci) (hk : k < n) (hnv : ∀ g, narrow (am_ft ci j) (am_v g v) = am_v g v) (hfit : ∀ g, fits (am_ft ci j) (am_v g v) = true) (hsame : ∀ i, i ≠ k → h'.1 i = h.1 i ∧ h'.2.1 i = h.2.1 i ∧ h'.2.2 i = h.2.2 i) (hnew : ∀ (g : am_G) (i : Nat), am_f g h' k (am_ft ci i) i = if i = j then am_v g v else am_f g h k (am_ft ci i) i) (kk : am_R E M (pc + 3) ls st h' n n1 Q) : am_R E M pc ls (v :: .ref k :: st) h n n1 Q := by
  intro p l e s m args below meth c g n0 Z H locs lsc Rm C hR hP hS hn hl hq
  have C0 := C
  obtain ⟨hx, hb, -, -, hown, hts, -, hnm, -, hSt⟩ := C
  obtain ⟨hci, hj, hln⟩ := hf
  have hty := am_ty hci
  have hap := va_apart (own := M.1.cls) hts (am_in hci) (am_ft ci) hty (am_nm hci) hSt.1 (am_cl hci)
  obtain ⟨cell, q1, q2, q3, q4⟩ := hP.obj hk hs
  obtain ⟨hSl, hfc, kC, hkC, hkind⟩ := hSt.1.1 ci _ (am_cl hci)
  obtain ⟨cf, kf, fi, f, hi, hsl⟩ := hSl j hj
  have hst := (u_facts hfc hkC (u_lays hts (am_in hci) hj) hi).1
  have hlay := hts _ (am_in hci _ (u_in_lay hj))
  unfold u_lay at hlay
  have key : ∀ H' : Heap, H'[am_a g k]? = some (cell.setSlot f.slot (am_v g v)) → H'.size = H.size → (∀ q, q ≠ am_a g k → H'[q]? = H[q]?) → W p l e Rm s m args below meth c H' (locs ++ [⟨am_a g k, f.slot⟩]) (n - n0) (am_cs n - am_cs n0) Z (F0 m (pc + 3) lsc (st.map (am_v g))) := by
    intro H' e1 e2 e3
    refine kk p l e s m args below meth c g n0 Z H' _ lsc Rm C0 hR (hP.put hk e2 e3 hsame ?_) (hS.put e2 e3 (by rw [hP.a hk]; exact Nat.le_add_right _ _)) hn hl hq
    unfold am_at
    rw [hs]
    show t_OB _ _ _ _ _ _
    rw [← hP.a hk]
    rw [hsl] at e1
    refine t_OB.to (V := updV (fun i => am_f g h k (am_ft ci i) i) j (am_v g v)) ⟨_, e1, q2, q3, t_set q4 hap hj _⟩ (fun i _ => ?_)
    rw [hnew g i]
    rfl
  rcases hfin with hfin | ⟨hin, hfin, hdecl⟩
  · rw [if_neg (by rw [hfin]; decide)] at hlay
    have h6 := u_store hfc hkC hkind hlay hi (hty j hj) (hnv g) (hfit g)
    exact W.putK hx hb (f := f) ⟨hown, hts _ hln, ⟨_, _, _, hi⟩, hst⟩ (by rw [q2]; exact h6) q1 q3 (by rw [hsl]; exact k2_hasslot (q4 j hj)) rfl rfl hd key
  · rw [if_pos hfin] at hlay
    have hcf : m.cls = cf := by
      obtain ⟨_, _, c', _, _, _, -, -, hf', -, -, -, hown2, -⟩ := Cond.laysFinal_spec hlay
      have e1 : c' = cf := by have := hi.symm.trans hf'; simp at this; exact this.1.symm
      rw [hdecl] at hown2
      rw [← e1]; exact Option.some.inj (hown.symm.trans hown2)
    have h6 := u_fits hfc hkC hkind (Or.inr hlay) hi (hty j hj) (hnv g) (hfit g)
    exact W.putFinK hx hb hown (hts _ hln) hi hst hcf (hnm hin) (by rw [q2]; exact h6) q1 q3 (by rw [hsl]; exact k2_hasslot (q4 j hj)) rfl rfl hd key
/-- may the field be written: not final, or its own constructor -/
def am_wf (M : am_M) (ci j : Nat) : Prop := (am_tb ci j).2.2.2 = false ∨ (M.1.name = "<init>" ∧ (am_tb ci j).2.2.2 = true ∧ (am_tb ci j).1 = M.1.cls)
theorem am_putI {k j idx ci : Nat} {x : Int32} (hd : decode M.2.1 pc = .ok (.putfield idx, 3)) (hf : am_fl M.1.cls idx ci j) (hw : am_wf M ci j) (ht : am_ft ci j = .int) (hs : am_s k = .inr ci) (hk : k < n) (kk : am_R E M (pc + 3) ls st (am_sI h k j x) n n1 Q) : am_R E M pc ls (.int x :: .ref k :: st) h n n1 Q :=
  am_putW (v := .int x) hd hf hw hs hk (fun g => by rw [ht]; rfl) (fun g => by rw [ht]; rfl) (fun i e => am_sR_ne i e) (fun g i => am_f_sR (ty := .int) (Or.inl rfl) _ i (fun e => by rw [e]; exact ht)) kk
theorem am_putZ {k j idx ci : Nat} {x : Int32} (hd : decode M.2.1 pc = .ok (.putfield idx, 3)) (hf : am_fl M.1.cls idx ci j) (hw : am_wf M ci j) (ht : am_ft ci j = .boolean) (hs : am_s k = .inr ci) (hk : k < n) (hx : x = 0 ∨ x = 1) (kk : am_R E M (pc + 3) ls st (am_sI h k j x) n n1 Q) : am_R E M pc ls (.int x :: .ref k :: st) h n n1 Q :=
  am_putW (v := .int x) hd hf hw hs hk (fun g => by rw [ht]; rcases hx with rfl | rfl <;> rfl) (fun g => by rw [ht]; rcases hx with rfl | rfl <;> rfl) (fun i e => am_sR_ne i e) (fun g i => am_f_sR (ty := .boolean) (Or.inr rfl) _ i (fun e => by rw [e]; exact ht)) kk
theorem am_putJ {k j idx ci : Nat} {x : Int64} (hd : decode M.2.1 pc = .ok (.putfield idx, 3)) (hf : am_fl M.1.cls idx ci j) (hw : am_wf M ci j) (ht : am_ft ci j = .long) (hs : am_s k = .inr ci) (hk : k < n) (kk : am_R E M (pc + 3) ls st (am_sJ h k j x) n n1 Q) : am_R E M pc ls (.long x :: .ref k :: st) h n n1 Q :=
  am_putW (v := .long x) hd hf hw hs hk (fun g => by rw [ht]; rfl) (fun g => by rw [ht]; rfl) (fun i e => am_sJ_ne i e) (fun g i => am_f_sJ _ i (fun e => by rw [e]; exact ht)) kk
theorem am_putA {k j idx ci x : Nat} (hd : decode M.2.1 pc = .ok (.putfield idx, 3)) (hf : am_fl M.1.cls idx ci j) (hw : am_wf M ci j) (ht : am_rT (am_ft ci j)) (hs : am_s k = .inr ci) (hk : k < n) (kk : am_R E M (pc + 3) ls st (am_sA h k j (some x)) n n1 Q) : am_R E M pc ls (.ref x :: .ref k :: st) h n n1 Q :=
  am_putW (v := .ref x) hd hf hw hs hk (fun g => by rcases ht with ⟨C, e⟩ | ⟨t, e⟩ <;> rw [e] <;> rfl) (fun g => by rcases ht with ⟨C, e⟩ | ⟨t, e⟩ <;> rw [e] <;> rfl) (fun i e => am_sA_ne i e) (fun g i => am_f_sA (ty := am_ft ci j) ht _ i (fun e => by rw [e])) kk
/-- places of tys -/
def am_t5 (ty : FieldType) : Prop := ty = .int ∨ ty = .long ∨ ty = .boolean ∨ ty = .object RX1 ∨ ty = .object RX8
theorem am_t5_at {g : am_G} {U : State} {H : Heap} {ty : FieldType} (hS : am_S E g U H) (ht : am_t5 ty) : ArrOfT U (g.2.2.1 ty) ty ∧ va_RA U (g.2.2.1 ty) ty := by
  rcases ht with rfl | rfl | rfl | rfl | rfl
  · exact hS.1.2 0 _ rfl
  · exact hS.1.2 1 _ rfl
  · exact hS.1.2 2 _ rfl
  · exact hS.1.2 3 _ rfl
  · exact hS.1.2 4 _ rfl
theorem am_iald {k N : Nat} {i : Int32} (hd : decode M.2.1 pc = .ok (.iaload, 1)) (hs : am_s k = .inl (.int, N)) (hk : k < n) (hi : vp_in i N) (kk : am_R E M (pc + 1) ls (.int (h.1 k i.toNatClampNeg) :: st) h n n1 Q) : am_R E M pc ls (.int i :: .ref k :: st) h n n1 Q := by
  intro p l e s m args below meth c g n0 Z H locs lsc Rm C hR hP hS hn hl hq
  have K := kk p l e s m args below meth c g n0 Z H locs lsc Rm C hR hP hS hn hl hq
  obtain ⟨hx, hb, -, -, hown, hts, -, -, -, hSt⟩ := C
  have hlt : i.toNatClampNeg < N := Nat.not_le.mp fun q => hi (Or.inr q)
  exact W.iald (v := .int (h.1 k i.toNatClampNeg)) hx hb (hP.arr hk hs) ((am_t5_at hSt (Or.inl rfl)).1 N _) (fun q => by cases q) (by rw [arrV_size]; exact hi) (by rw [arrV_read _ _ hlt]; rfl) rfl rfl hd K
theorem am_zald {k N : Nat} {i : Int32} (hd : decode M.2.1 pc = .ok (.baload, 1)) (hs : am_s k = .inl (.boolean, N)) (hk : k < n) (hi : vp_in i N) (kk : am_R E M (pc + 1) ls (.int (h.1 k i.toNatClampNeg) :: st) h n n1 Q) : am_R E M pc ls (.int i :: .ref k :: st) h n n1 Q := by
  intro p l e s m args below meth c g n0 Z H locs lsc Rm C hR hP hS hn hl hq
  have K := kk p l e s m args below meth c g n0 Z H locs lsc Rm C hR hP hS hn hl hq
  obtain ⟨hx, hb, -, -, hown, hts, -, -, -, hSt⟩ := C
  have hlt : i.toNatClampNeg < N := Nat.not_le.mp fun q => hi (Or.inr q)
  exact W.zald (v := .int (h.1 k i.toNatClampNeg)) hx hb (hP.arr hk hs) ((am_t5_at hSt (Or.inr (Or.inr (Or.inl rfl)))).1 N _) (fun q => by cases q) (by rw [arrV_size]; exact hi) (by rw [arrV_read _ _ hlt]; rfl) rfl rfl hd K
theorem am_lald {k N : Nat} {i : Int32} (hd : decode M.2.1 pc = .ok (.laload, 1)) (hs : am_s k = .inl (.long, N)) (hk : k < n) (hi : vp_in i N) (kk : am_R E M (pc + 1) ls (.long (h.2.1 k i.toNatClampNeg) :: st) h n n1 Q) : am_R E M pc ls (.int i :: .ref k :: st) h n n1 Q := by
  intro p l e s m args below meth c g n0 Z H locs lsc Rm C hR hP hS hn hl hq
  have K := kk p l e s m args below meth c g n0 Z H locs lsc Rm C hR hP hS hn hl hq
  obtain ⟨hx, hb, -, -, hown, hts, -, -, -, hSt⟩ := C
  have hlt : i.toNatClampNeg < N := Nat.not_le.mp fun q => hi (Or.inr q)
  exact W.lald (v := .long (h.2.1 k i.toNatClampNeg)) hx hb (hP.arr hk hs) ((am_t5_at hSt (Or.inr (Or.inl rfl))).1 N _) (fun q => by cases q) (by rw [arrV_size]; exact hi) (by rw [arrV_read _ _ hlt]; rfl) rfl rfl hd K
theorem am_aald {k N r : Nat} {C0 : String} {i : Int32} (hd : decode M.2.1 pc = .ok (.aaload, 1)) (hs : am_s k = .inl (.object C0, N)) (h5 : am_t5 (.object C0)) (hk : k < n) (hi : vp_in i N) (hr : h.2.2 k i.toNatClampNeg = some r) (kk : am_R E M (pc + 1) ls (.ref r :: st) h n n1 Q) : am_R E M pc ls (.int i :: .ref k :: st) h n n1 Q := by
  intro p l e s m args below meth c g n0 Z H locs lsc Rm C hR hP hS hn hl hq
  have K := kk p l e s m args below meth c g n0 Z H locs lsc Rm C hR hP hS hn hl hq
  obtain ⟨hx, hb, -, -, hown, hts, -, -, -, hSt⟩ := C
  have hlt : i.toNatClampNeg < N := Nat.not_le.mp fun q => hi (Or.inr q)
  exact W.aald (v := .ref (am_a g r)) (ty := .object C0) hx hb (hP.arr hk hs) ((am_t5_at hSt h5).1 N _) rfl (fun q => by cases q) (by rw [arrV_size]; exact hi) (by rw [arrV_read _ _ hlt]; show some (va_rf ((h.2.2 k i.toNatClampNeg).map (am_a g))) = _; rw [hr]; rfl) rfl rfl hd K
theorem am_alen {k N : Nat} {ty : FieldType} (hd : decode M.2.1 pc = .ok (.arraylength, 1)) (hs : am_s k = .inl (ty, N)) (h5 : am_t5 ty) (hk : k < n) (kk : am_R E M (pc + 1) ls (.int (Int32.ofNat N) :: st) h n n1 Q) : am_R E M pc ls (.ref k :: st) h n n1 Q := by
  intro p l e s m args below meth c g n0 Z H locs lsc Rm C hR hP hS hn hl hq
  have K := kk p l e s m args below meth c g n0 Z H locs lsc Rm C hR hP hS hn hl hq
  obtain ⟨hx, hb, -, -, hown, hts, -, -, -, hSt⟩ := C
  exact W.alen (n := Int32.ofNat N) hx hb (hP.arr hk hs) ((am_t5_at hSt h5).1 N _) (by rw [arrV_size]) rfl rfl hd K
/-- behind a store into an array -/
theorem am_astW {k N j : Nat} {ty : FieldType} {v : Value} {h' : am_H} {p : Program} {l : Launch} {e : Env} {s : State} {m : MethodId} {args : Array Value} {below : List Frame} {meth : Method} {c : Code} {g : am_G} {n0 : Nat} {Z : State → Prop} {H : Heap} {locs : List Loc} {lsc : Array Slot} {Rm : Room} (hs : am_s k = .inl (ty, N)) (hk : k < n) (hsame : ∀ i, i ≠ k → h'.1 i = h.1 i ∧ h'.2.1 i = h.2.1 i ∧ h'.2.2 i = h.2.2 i) (hnew : ∀ i, am_f g h' k ty i = if i = j then v else am_f g h k ty i)
    (C : am_C E M p s m args meth c g Rm) (hR : n1 - n0 ≤ Rm.cells ∧ am_cs n1 - am_cs n0 ≤ Rm.slots) (hP : am_P g h n H) (hS : va_S (am_A g) s.heap H locs) (hn : n0 ≤ n ∧ n ≤ n1) (hl : am_L g lsc M.2.2.1 ls)
    (hq : ∀ (pc' : Nat) (r : Option Value) (h' : am_H) (H' : Heap) (locs' : List Loc) (lsc' : Array Slot), Q r h' → am_P g h' n1 H' → va_S (am_A g) s.heap H' locs' → am_K M pc' r → W p l e Rm s m args below meth c H' locs' (n1 - n0) (am_cs n1 - am_cs n0) Z (F0 m pc' lsc' (r.toList.map (am_v g))))
    (kk : am_R E M (pc + 1) ls st h' n n1 Q) : ∀ H' : Heap, H'[am_a g k]? = some ((arrV (g.2.2.1 ty) N (fun j => am_f g h k ty j)).setSlot j v) → H'.size = H.size → (∀ q, q ≠ am_a g k → H'[q]? = H[q]?) → W p l e Rm s m args below meth c H' (locs ++ [⟨am_a g k, j⟩]) (n - n0) (am_cs n - am_cs n0) Z (F0 m (pc + 1) lsc (st.map (am_v g))) := by
  intro H' e1 e2 e3
  refine kk p l e s m args below meth c g n0 Z H' _ lsc Rm C hR (hP.put hk e2 e3 hsame ?_) (hS.put e2 e3 (by rw [hP.a hk]; exact Nat.le_add_right _ _)) hn hl hq
  unfold am_at
  rw [hs]
  show H'[g.1 + k]? = _
  rw [← hP.a hk, e1, arrV_store]
  congr 2
  funext i
  rw [hnew i]
  rfl
theorem am_iast {k N : Nat} {i x : Int32} (hd : decode M.2.1 pc = .ok (.iastore, 1)) (hs : am_s k = .inl (.int, N)) (hk : k < n) (hi : vp_in i N) (kk : am_R E M (pc + 1) ls st (am_sI h k i.toNatClampNeg x) n n1 Q) : am_R E M pc ls (.int x :: .int i :: .ref k :: st) h n n1 Q := by
  intro p l e s m args below meth c g n0 Z H locs lsc Rm C hR hP hS hn hl hq
  have C0 := C
  obtain ⟨hx, hb, -, -, hown, hts, -, -, -, hSt⟩ := C
  exact W.iast hx hb (hP.arr hk hs) ((am_t5_at hSt (Or.inl rfl)).1 N _) (fun q => by cases q) (by rw [arrV_size]; exact hi) rfl rfl hd (am_astW hs hk (fun i e => am_sR_ne i e) (fun i => am_f_sR (ty := .int) (Or.inl rfl) _ i (fun _ => rfl)) C0 hR hP hS hn hl hq kk)
theorem am_zast {k N : Nat} {i x : Int32} (hd : decode M.2.1 pc = .ok (.bastore, 1)) (hs : am_s k = .inl (.boolean, N)) (hk : k < n) (hi : vp_in i N) (hx : x = 0 ∨ x = 1) (kk : am_R E M (pc + 1) ls st (am_sI h k i.toNatClampNeg x) n n1 Q) : am_R E M pc ls (.int x :: .int i :: .ref k :: st) h n n1 Q := by
  intro p l e s m args below meth c g n0 Z H locs lsc Rm C hR hP hS hn hl hq
  have C0 := C
  obtain ⟨hx', hb, -, -, hown, hts, -, -, -, hSt⟩ := C
  have hnx : narrow .boolean (.int x) = .int x := by rcases hx with rfl | rfl <;> rfl
  exact W.zast hx' hb (hP.arr hk hs) ((am_t5_at hSt (Or.inr (Or.inr (Or.inl rfl)))).1 N _) (fun q => by cases q) (by rw [arrV_size]; exact hi) rfl rfl hd (by rw [hnx]; exact am_astW hs hk (fun i e => am_sR_ne i e) (fun i => am_f_sR (ty := .boolean) (Or.inr rfl) _ i (fun _ => rfl)) C0 hR hP hS hn hl hq kk)
theorem am_last {k N : Nat} {i : Int32} {x : Int64} (hd : decode M.2.1 pc = .ok (.lastore, 1)) (hs : am_s k = .inl (.long, N)) (hk : k < n) (hi : vp_in i N) (kk : am_R E M (pc + 1) ls st (am_sJ h k i.toNatClampNeg x) n n1 Q) : am_R E M pc ls (.long x :: .int i :: .ref k :: st) h n n1 Q := by
  intro p l e s m args below meth c g n0 Z H locs lsc Rm C hR hP hS hn hl hq
  have C0 := C
  obtain ⟨hx, hb, -, -, hown, hts, -, -, -, hSt⟩ := C
  exact W.last hx hb (hP.arr hk hs) ((am_t5_at hSt (Or.inr (Or.inl rfl))).1 N _) (fun q => by cases q) (by rw [arrV_size]; exact hi) rfl rfl hd (am_astW hs hk (fun i e => am_sJ_ne i e) (fun i => am_f_sJ _ i (fun _ => rfl)) C0 hR hP hS hn hl hq kk)
theorem am_aast {k N r ci : Nat} {i : Int32} (hd : decode M.2.1 pc = .ok (.aastore, 1)) (hci : ci < 9) (hs : am_s k = .inl (.object (am_cn ci), N)) (h5 : am_t5 (.object (am_cn ci))) (hk : k < n) (hr : am_s r = .inr ci) (hrk : r < n) (hi : vp_in i N) (kk : am_R E M (pc + 1) ls st (am_sA h k i.toNatClampNeg (some r)) n n1 Q) : am_R E M pc ls (.ref r :: .int i :: .ref k :: st) h n n1 Q := by
  intro p l e s m args below meth c g n0 Z H locs lsc Rm C hR hP hS hn hl hq
  have C0 := C
  obtain ⟨hx, hb, -, -, hown, hts, -, -, -, hSt⟩ := C
  have hlt : i.toNatClampNeg < N := Nat.not_le.mp fun q => hi (Or.inr q)
  have h0 : ¬ i < 0 := fun q => hi (Or.inl q)
  obtain ⟨cellV, g1, g2, g3, -⟩ := hP.obj hrk hr
  have hcls := (hSt.1.1 ci _ (am_cl hci)).2
  obtain ⟨kA, comp, k1, k2, k3, -⟩ := (am_t5_at hSt h5).2
  have hcomp : comp = g.2.2.2.1 ci := Option.some.inj (k3.symm.trans hcls.1)
  subst hcomp
  obtain ⟨kC, hkC, -⟩ := hcls.2
  exact W.aast hx hb (hP.arr hk hs) (fun q h => by cases h) (fun h => by cases h) k1 k2 rfl hkC ⟨h0, by rw [arrV_size]; exact hlt⟩ g1 (fun q h => by rw [g3] at h; cases h) (by rw [g2]; exact hkC) (by rw [g2]; exact va_assign hcls) rfl rfl hd (am_astW hs hk (fun i e => am_sA_ne i e) (fun i => am_f_sA (ty := .object (am_cn ci)) (Or.inl ⟨_, rfl⟩) _ i (fun _ => rfl)) C0 hR hP hS hn hl hq kk)
end AM2
end
section
/-! ===== old cells, new cells, calls ===== -/
section AM3
variable {E : Nat × (Nat → Int32)} {M : am_M} {pc : Nat} {ls : List (Option Value)} {st : List Value} {h : am_H} {n n1 : Nat} {Q : Option Value → am_H → Prop}
/-- FACTORIALS and OVER, read in their own class and in nest mates -/
theorem am_gsF {idx : Nat} (hd : decode M.2.1 pc = .ok (.getstatic idx, 3)) (hf : Cond.fieldLink M.1.cls idx RX9 "FACTORIALS" "[I" ∈ am_TB) (kk : am_R E M (pc + 3) ls (.ref 1001 :: st) h n n1 Q) : am_R E M pc ls st h n n1 Q := by
  intro p l e s m args below meth c g n0 Z H locs lsc Rm C hR hP hS hn hl hq
  have K := kk p l e s m args below meth c g n0 Z H locs lsc Rm C hR hP hS hn hl hq
  obtain ⟨hx, hb, -, -, hown, hts, -, -, -, hSt⟩ := C
  exact va_gets hx hb hSt.2.2.1.1 hS hown (hts _ hf) (fun _ h => h) hd K
theorem am_gsFN {idx : Nat} (hd : decode M.2.1 pc = .ok (.getstatic idx, 3)) (hf : Cond.fieldLinkNest M.1.cls idx RX9 "FACTORIALS" "[I" RX9 ∈ am_nw) (kk : am_R E M (pc + 3) ls (.ref 1001 :: st) h n n1 Q) : am_R E M pc ls st h n n1 Q := by
  intro p l e s m args below meth c g n0 Z H locs lsc Rm C hR hP hS hn hl hq
  have K := kk p l e s m args below meth c g n0 Z H locs lsc Rm C hR hP hS hn hl hq
  obtain ⟨hx, hb, -, -, hown, hts, -, -, -, hSt⟩ := C
  exact va_getsN hx hb hSt.2.2.1.1 hS hown (va_Nw.use rfl (hSt.2.2.2.2.2.2.2.2 _ hf)) (fun _ h => h) hd K
theorem am_gsON {idx : Nat} (hd : decode M.2.1 pc = .ok (.getstatic idx, 3)) (hf : Cond.fieldLinkNest M.1.cls idx RX9 "OVER" "[I" RX9 ∈ am_nw) (kk : am_R E M (pc + 3) ls (.ref 1000 :: st) h n n1 Q) : am_R E M pc ls st h n n1 Q := by
  intro p l e s m args below meth c g n0 Z H locs lsc Rm C hR hP hS hn hl hq
  have K := kk p l e s m args below meth c g n0 Z H locs lsc Rm C hR hP hS hn hl hq
  obtain ⟨hx, hb, -, -, hown, hts, -, -, -, hSt⟩ := C
  exact va_getsN hx hb hSt.2.1.1 hS hown (va_Nw.use rfl (hSt.2.2.2.2.2.2.2.2 _ hf)) (fun _ h => h) hd K
theorem am_gsC {idx : Nat} (hd : decode M.2.1 pc = .ok (.getstatic idx, 3)) (hf : Cond.fieldLink M.1.cls idx RJ0 "COMPACT_STRINGS" "Z" ∈ am_TB) (kk : am_R E M (pc + 3) ls (.int 1 :: st) h n n1 Q) : am_R E M pc ls st h n n1 Q := by
  intro p l e s m args below meth c g n0 Z H locs lsc Rm C hR hP hS hn hl hq
  have K := kk p l e s m args below meth c g n0 Z H locs lsc Rm C hR hP hS hn hl hq
  obtain ⟨hx, hb, -, -, hown, hts, -, -, -, hSt⟩ := C
  exact va_gets hx hb hSt.2.2.2.2.1.1 hS hown (hts _ hf) (fun _ h => h) hd K
theorem am_gsB {idx : Nat} (hd : decode M.2.1 pc = .ok (.getstatic idx, 3)) (hf : Cond.fieldLink M.1.cls idx RJ3 "SIOOBE_FORMATTER" "Ljava/util/function/BiFunction;" ∈ am_TB) (kn : am_R E M (pc + 3) ls (.null :: st) h n n1 Q) (kk : am_R E M (pc + 3) ls (.ref 1003 :: st) h n n1 Q) : am_R E M pc ls st h n n1 Q := by
  intro p l e s m args below meth c g n0 Z H locs lsc Rm C hR hP hS hn hl hq
  have K1 := kn p l e s m args below meth c g n0 Z H locs lsc Rm C hR hP hS hn hl hq
  have K2 := kk p l e s m args below meth c g n0 Z H locs lsc Rm C hR hP hS hn hl hq
  obtain ⟨hx, hb, -, -, hown, hts, -, -, -, hSt⟩ := C
  rcases hSt.2.2.2.2.1.2 with hz | hz
  · exact va_gets hx hb hz hS hown (hts _ hf) (fun _ h => h) hd K1
  · exact va_gets hx hb hz hS hown (hts _ hf) (fun _ h => h) hd K2
theorem am_ildF {i : Int32} (hd : decode M.2.1 pc = .ok (.iaload, 1)) (hi : vp_in i 8) (kk : am_R E M (pc + 1) ls (.int (am_fa i.toNatClampNeg) :: st) h n n1 Q) : am_R E M pc ls (.int i :: .ref 1001 :: st) h n n1 Q := by
  intro p l e s m args below meth c g n0 Z H locs lsc Rm C hR hP hS hn hl hq
  have K := kk p l e s m args below meth c g n0 Z H locs lsc Rm C hR hP hS hn hl hq
  obtain ⟨hx, hb, -, -, hown, hts, -, -, -, hSt⟩ := C
  exact va_ti hx hb hSt.2.2.1.2 hS hi rfl hd K
theorem am_ildO {i : Int32} (hd : decode M.2.1 pc = .ok (.iaload, 1)) (hi : vp_in i 5) (kk : am_R E M (pc + 1) ls (.int (am_ov i.toNatClampNeg) :: st) h n n1 Q) : am_R E M pc ls (.int i :: .ref 1000 :: st) h n n1 Q := by
  intro p l e s m args below meth c g n0 Z H locs lsc Rm C hR hP hS hn hl hq
  have K := kk p l e s m args below meth c g n0 Z H locs lsc Rm C hR hP hS hn hl hq
  obtain ⟨hx, hb, -, -, hown, hts, -, -, -, hSt⟩ := C
  exact va_ti hx hb hSt.2.1.2 hS hi rfl hd K
theorem am_ildX {i : Int32} (hd : decode M.2.1 pc = .ok (.iaload, 1)) (hi : vp_in i E.1) (kk : am_R E M (pc + 1) ls (.int (E.2 i.toNatClampNeg) :: st) h n n1 Q) : am_R E M pc ls (.int i :: .ref 1002 :: st) h n n1 Q := by
  intro p l e s m args below meth c g n0 Z H locs lsc Rm C hR hP hS hn hl hq
  have K := kk p l e s m args below meth c g n0 Z H locs lsc Rm C hR hP hS hn hl hq
  obtain ⟨hx, hb, -, -, hown, hts, -, -, -, hSt⟩ := C
  exact va_ti hx hb hSt.2.2.2.1 hS hi rfl hd K
theorem am_lenX (hd : decode M.2.1 pc = .ok (.arraylength, 1)) (kk : am_R E M (pc + 1) ls (.int (Int32.ofNat E.1) :: st) h n n1 Q) : am_R E M pc ls (.ref 1002 :: st) h n n1 Q := by
  intro p l e s m args below meth c g n0 Z H locs lsc Rm C hR hP hS hn hl hq
  have K := kk p l e s m args below meth c g n0 Z H locs lsc Rm C hR hP hS hn hl hq
  obtain ⟨hx, hb, -, -, hown, hts, -, -, -, hSt⟩ := C
  exact va_tlen hx hb hSt.2.2.2.1 hS rfl hd K
/-- the words of the text -/
theorem am_a10 {g : am_G} (i : Nat) : am_a g (1010 + i) = g.2.1 (1010 + i) := if_neg (by omega)
theorem am_a20 {g : am_G} (i : Nat) : am_a g (1020 + i) = g.2.1 (1020 + i) := if_neg (by omega)
theorem am_ldcS {idx i k : Nat} (hd : decode M.2.1 pc = .ok (.ldc idx, 2)) (ho : M.1.cls = RX6) (hi : i < 9) (hx : am_si i = idx) (hk : 1010 + i = k) (kk : am_R E M (pc + 2) ls (.ref k :: st) h n n1 Q) : am_R E M pc ls st h n n1 Q := by
  intro p l e s m args below meth c g n0 Z H locs lsc Rm C hR hP hS hn hl hq
  have K := kk p l e s m args below meth c g n0 Z H locs lsc Rm C hR hP hS hn hl hq
  obtain ⟨hx', hb, -, -, hown, hts, -, -, -, hSt⟩ := C
  subst hk; subst hx
  rw [ho] at hown
  have K : W p l e Rm s m args below meth c H locs (n - n0) (am_cs n - am_cs n0) Z (F0 m (pc + 2) lsc (.ref (am_a g (1010 + i)) :: st.map (am_v g))) := K
  rw [am_a10] at K
  exact va_ldcS hx' hb hown (hSt.2.2.2.2.2.2.1 i hi) hd K
theorem am_strV {idx i k : Nat} (hd : decode M.2.1 pc = .ok (.getfield idx, 3)) (hf : Cond.fieldLink M.1.cls idx RJ0 "value" "[B" ∈ am_TB) (hi : i < 9) (hk : 1010 + i = k) (kk : am_R E M (pc + 3) ls (.ref (1020 + i) :: st) h n n1 Q) : am_R E M pc ls (.ref k :: st) h n n1 Q := by
  intro p l e s m args below meth c g n0 Z H locs lsc Rm C hR hP hS hn hl hq
  have K := kk p l e s m args below meth c g n0 Z H locs lsc Rm C hR hP hS hn hl hq
  obtain ⟨hx', hb, -, -, hown, hts, -, -, -, hSt⟩ := C
  subst hk
  have K : W p l e Rm s m args below meth c H locs (n - n0) (am_cs n - am_cs n0) Z (F0 m (pc + 3) lsc (.ref (am_a g (1020 + i)) :: st.map (am_v g))) := K
  show W p l e Rm s m args below meth c H locs (n - n0) (am_cs n - am_cs n0) Z (F0 m pc lsc (.ref (am_a g (1010 + i)) :: st.map (am_v g)))
  rw [am_a20] at K
  rw [am_a10]
  exact vk_getf hx' hb (hSt.2.2.2.2.2.1.1 i hi).2.2.1 hS hown (hts _ hf) (fun _ h => h) hd K
theorem am_strC {idx i k : Nat} (hd : decode M.2.1 pc = .ok (.getfield idx, 3)) (hf : Cond.fieldLink M.1.cls idx RJ0 "coder" "B" ∈ am_TB) (hi : i < 9) (hk : 1010 + i = k) (kk : am_R E M (pc + 3) ls (.int 0 :: st) h n n1 Q) : am_R E M pc ls (.ref k :: st) h n n1 Q := by
  intro p l e s m args below meth c g n0 Z H locs lsc Rm C hR hP hS hn hl hq
  have K := kk p l e s m args below meth c g n0 Z H locs lsc Rm C hR hP hS hn hl hq
  obtain ⟨hx', hb, -, -, hown, hts, -, -, -, hSt⟩ := C
  subst hk
  show W p l e Rm s m args below meth c H locs (n - n0) (am_cs n - am_cs n0) Z (F0 m pc lsc (.ref (am_a g (1010 + i)) :: st.map (am_v g)))
  rw [am_a10]
  exact vk_getf hx' hb (hSt.2.2.2.2.2.1.1 i hi).2.1 hS hown (hts _ hf) (fun _ h => h) hd K
theorem am_strL {i k : Nat} (hd : decode M.2.1 pc = .ok (.arraylength, 1)) (hi : i < 9) (hk : 1020 + i = k) (kk : am_R E M (pc + 1) ls (.int (Int32.ofNat (am_sn.getD i 0)) :: st) h n n1 Q) : am_R E M pc ls (.ref k :: st) h n n1 Q := by
  intro p l e s m args below meth c g n0 Z H locs lsc Rm C hR hP hS hn hl hq
  have K := kk p l e s m args below meth c g n0 Z H locs lsc Rm C hR hP hS hn hl hq
  obtain ⟨hx', hb, -, -, hown, hts, -, -, -, hSt⟩ := C
  subst hk
  show W p l e Rm s m args below meth c H locs (n - n0) (am_cs n - am_cs n0) Z (F0 m pc lsc (.ref (am_a g (1020 + i)) :: st.map (am_v g)))
  rw [am_a20]
  exact va_tlen hx' hb (hSt.2.2.2.2.2.1.1 i hi).2.2.2 hS rfl hd K
theorem am_strB {i k : Nat} {x : Int32} (hd : decode M.2.1 pc = .ok (.baload, 1)) (hi : i < 9) (hk : 1020 + i = k) (hin : vp_in x (am_sn.getD i 0)) (kk : am_R E M (pc + 1) ls (.int ((am_sb.getD i []).getD x.toNatClampNeg 0) :: st) h n n1 Q) : am_R E M pc ls (.int x :: .ref k :: st) h n n1 Q := by
  intro p l e s m args below meth c g n0 Z H locs lsc Rm C hR hP hS hn hl hq
  have K := kk p l e s m args below meth c g n0 Z H locs lsc Rm C hR hP hS hn hl hq
  obtain ⟨hx', hb, -, -, hown, hts, -, -, -, hSt⟩ := C
  subst hk
  show W p l e Rm s m args below meth c H locs (n - n0) (am_cs n - am_cs n0) Z (F0 m pc lsc (.int x :: .ref (am_a g (1020 + i)) :: st.map (am_v g)))
  rw [am_a20]
  exact va_tb hx' hb (hSt.2.2.2.2.2.1.1 i hi).2.2.2 hS hin rfl hd K
/-! new cells -/
theorem am_room {n0 : Nat} {Rm : Room} (hR : n1 - n0 ≤ Rm.cells ∧ am_cs n1 - am_cs n0 ≤ Rm.slots) (hn : n0 ≤ n ∧ n ≤ n1) (h1 : n + 1 ≤ n1) : (n - n0) + 1 ≤ Rm.cells ∧ (am_cs n - am_cs n0) + am_z n ≤ Rm.slots ∧ (n - n0) + 1 = n + 1 - n0 ∧ (am_cs n - am_cs n0) + am_z n = am_cs (n + 1) - am_cs n0 := by
  have e1 : am_cs (n + 1) = am_cs n + am_z n := rfl
  have e2 := am_cs_mono h1
  have e3 := am_cs_mono hn.1
  omega
theorem am_new {idx ci : Nat} (hd : decode M.2.1 pc = .ok (.new idx, 3)) (hci : ci < 9) (hs : am_s n = .inr ci) (hc1 : Cond.classLink M.1.cls idx (am_cn ci) ∈ am_TB) (hc2 : Cond.instantiable (am_cn ci) (am_nf ci) ∈ am_TB) (hc3 : Cond.initialized (am_cn ci) ∈ am_TB) (hb1 : n + 1 ≤ n1) (h64 : n + 1 ≤ 64) (kk : am_R E M (pc + 3) ls (.ref n :: st) (am_s0 h n) (n + 1) n1 Q) : am_R E M pc ls st h n n1 Q := by
  intro p l e s m args below meth c g n0 Z H locs lsc Rm C hR hP hS hn hl hq
  have C0 := C
  obtain ⟨hx, hb, -, -, hown, hts, -, -, -, hSt⟩ := C
  obtain ⟨r1, r2, r3, r4⟩ := am_room hR hn hb1
  have hz : am_z n = am_nf ci := by unfold am_z; rw [hs]
  have hKn := hSt.1.1 ci _ (am_cl hci)
  refine W.newcK hx hb hown (hts _ hc1) (hts _ hc2) (hts _ hc3) rfl hd r1 (by rw [← hz]; exact r2) hKn.2.1 (h := am_a g n) (by rw [am_a_lt (by omega), hP.1]) fun H1 kC hkC e1 z1 o1 => ?_
  have ea : am_a g n = H.size := by rw [am_a_lt (by omega), hP.1]
  have hP1 : am_P g (am_s0 h n) (n + 1) H1 := by
    refine hP.push h64 (by rw [z1, ea]) (fun q hq => o1 q (by rw [ea]; exact hq)) (fun j hj => am_s0_ne j (by omega)) ?_
    unfold am_at
    rw [hs]
    show t_OB _ _ _ _ _ _
    rw [← am_a_lt (by omega)]
    refine (u_born (am_ft ci) hts (am_in hci) hKn hkC e1 (am_ty hci)).to (fun j hj => ?_)
    unfold am_f
    cases hty : am_ft ci j with
    | float => rcases (show ci = 0 ∨ ci = 1 ∨ ci = 2 ∨ ci = 3 ∨ ci = 4 ∨ ci = 5 ∨ ci = 6 ∨ ci = 7 ∨ ci = 8 by omega) with rfl | rfl | rfl | rfl | rfl | rfl | rfl | rfl | rfl <;> exact absurd hty ((by decide +kernel : ∀ j, j < 29 → ∀ c, c < 9 → am_ft c j ≠ .float) j (by simp only [am_nf] at hj; omega) _ (by omega))
    | double => rcases (show ci = 0 ∨ ci = 1 ∨ ci = 2 ∨ ci = 3 ∨ ci = 4 ∨ ci = 5 ∨ ci = 6 ∨ ci = 7 ∨ ci = 8 by omega) with rfl | rfl | rfl | rfl | rfl | rfl | rfl | rfl | rfl <;> exact absurd hty ((by decide +kernel : ∀ j, j < 29 → ∀ c, c < 9 → am_ft c j ≠ .double) j (by simp only [am_nf] at hj; omega) _ (by omega))
    | _ => simp [am_s0, defaultValue, va_rf]
  have K := kk p l e s m args below meth c g n0 Z H1 locs lsc Rm C0 hR hP1 ⟨Nat.le_trans hS.1 (by rw [z1, ea]; omega), fun x h1 h2 => (o1 x (by rw [ea]; exact Nat.lt_of_lt_of_le h1 hS.1)).trans (hS.2.1 x h1 h2), hS.2.2⟩ ⟨by omega, hb1⟩ hl hq
  rw [r3, ← hz, r4]
  exact K
theorem am_newa {x : Int32} {N : Nat} {atype : ArrayType} {ty : FieldType} (hd : decode M.2.1 pc = .ok (.newarray atype, 2)) (hty : newarray.typeOf atype = ty) (h5 : ty = .int ∨ ty = .long ∨ ty = .boolean) (hs : am_s n = .inl (ty, N)) (hc : Cond.arrayClass ty ∈ am_TB) (hx0 : ¬ x < 0) (hxN : x.toNatClampNeg = N) (hN : N ≤ 6000) (hb1 : n + 1 ≤ n1) (h64 : n + 1 ≤ 64) (kk : am_R E M (pc + 2) ls (.ref n :: st) (am_s0 h n) (n + 1) n1 Q) : am_R E M pc ls (.int x :: st) h n n1 Q := by
  intro p l e s m args below meth c g n0 Z H locs lsc Rm C hR hP hS hn hl hq
  have C0 := C
  obtain ⟨hx, hb, -, -, hown, hts, -, -, -, hSt⟩ := C
  obtain ⟨r1, r2, r3, r4⟩ := am_room hR hn hb1
  have hz : am_z n = N := by unfold am_z; rw [hs]
  have ea : am_a g n = H.size := by rw [am_a_lt (by omega), hP.1]
  subst hty
  have h5' : am_t5 (newarray.typeOf atype) := by rcases h5 with q | q | q <;> rw [q] <;> simp [am_t5]
  refine va_newaK hx hb (hts _ hc) rfl hd rfl hx0 hxN (by rcases h5 with q | q | q <;> rw [q] <;> simp [componentBytes] <;> omega) r1 (by rw [← hz]; exact r2) (h := am_a g n) ea.symm fun H1 cA e1 z1 o1 hAr hNm => ?_
  have hcA : cA = g.2.2.1 (newarray.typeOf atype) := by
    have h2 := (am_t5_at hSt h5').2
    have h3 : s.vm.findClass ("[" ++ (newarray.typeOf atype).toString) = some (g.2.2.1 (newarray.typeOf atype)) := by
      cases atype <;> exact h2
    exact Option.some.inj (hNm.symm.trans h3)
  have hP1 : am_P g (am_s0 h n) (n + 1) H1 := by
    refine hP.push h64 (by rw [z1, ea]) (fun q hq => o1 q (by rw [ea]; exact hq)) (fun j hj => am_s0_ne j (by omega)) ?_
    unfold am_at
    rw [hs]
    show H1[g.1 + n]? = _
    rw [← am_a_lt (by omega), e1, hcA]
    congr 2
    funext j
    rcases h5 with q | q | q <;> rw [q] <;> simp [am_s0, am_f, defaultValue]
  have K := kk p l e s m args below meth c g n0 Z H1 locs lsc Rm C0 hR hP1 ⟨Nat.le_trans hS.1 (by rw [z1, ea]; omega), fun x h1 h2 => (o1 x (by rw [ea]; exact Nat.lt_of_lt_of_le h1 hS.1)).trans (hS.2.1 x h1 h2), hS.2.2⟩ ⟨by omega, hb1⟩ hl hq
  rw [r3, ← hz, r4]
  exact K
theorem am_anew {x : Int32} {N idx : Nat} {C0 : String} (hd : decode M.2.1 pc = .ok (.anewarray idx, 3)) (h5 : C0 = RX1 ∨ C0 = RX8) (hs : am_s n = .inl (.object C0, N)) (hc : Cond.classLink M.1.cls idx C0 ∈ am_TB) (hx0 : ¬ x < 0) (hxN : x.toNatClampNeg = N) (hN : N ≤ 6000) (hb1 : n + 1 ≤ n1) (h64 : n + 1 ≤ 64) (kk : am_R E M (pc + 3) ls (.ref n :: st) (am_s0 h n) (n + 1) n1 Q) : am_R E M pc ls (.int x :: st) h n n1 Q := by
  intro p l e s m args below meth c g n0 Z H locs lsc Rm C hR hP hS hn hl hq
  have C1 := C
  obtain ⟨hx, hb, -, -, hown, hts, -, -, -, hSt⟩ := C
  obtain ⟨r1, r2, r3, r4⟩ := am_room hR hn hb1
  have hz : am_z n = N := by unfold am_z; rw [hs]
  have ea : am_a g n = H.size := by rw [am_a_lt (by omega), hP.1]
  have h5' : am_t5 (.object C0) := by rcases h5 with q | q <;> rw [q] <;> simp [am_t5]
  have hover : va_AO C0 s := by rcases h5 with q | q <;> rw [q]; exact hSt.2.2.2.2.2.2.2.1.1; exact hSt.2.2.2.2.2.2.2.1.2
  subst hxN
  refine W.anew hx hb hown (hts _ hc) (va_AO.use hover) rfl hd rfl hx0 (by omega) r1 (by rw [← hz]; exact r2) fun cA kA comp f1 f2 f3 f4 => ?_
  generalize hH1 : H.push ({ cls := cA, slots := Array.replicate x.toNatClampNeg .null, vm := .none } : Cell) = H1
  have z1 : H1.size = H.size + 1 := by rw [← hH1, Array.size_push]
  have e1 : H1[H.size]? = some (arrV cA x.toNatClampNeg (fun _ => .null)) := by rw [← hH1, Array.getElem?_push_size, ← arrV_new]
  have o1 : ∀ q : Nat, q < H.size → H1[q]? = H[q]? := fun q hq => by rw [← hH1, Array.getElem?_push, if_neg (Nat.ne_of_lt hq)]
  have hcA : cA = g.2.2.1 (.object C0) := by
    obtain ⟨_, _, _, _, _, h3⟩ := (am_t5_at hSt h5').2
    exact Option.some.inj (f1.symm.trans h3)
  have hP1 : am_P g (am_s0 h n) (n + 1) H1 := by
    refine hP.push h64 z1 o1 (fun j hj => am_s0_ne j (by omega)) ?_
    unfold am_at
    rw [hs]
    show H1[g.1 + n]? = _
    rw [← am_a_lt (by omega), ea, e1, hcA]
    congr 2
    funext j
    simp [am_s0, am_f, va_rf]
  have K := kk p l e s m args below meth c g n0 Z H1 locs lsc Rm C1 hR hP1 ⟨Nat.le_trans hS.1 (by rw [z1]; omega), fun x h1 h2 => (o1 x (Nat.lt_of_lt_of_le h1 hS.1)).trans (hS.2.1 x h1 h2), hS.2.2⟩ ⟨by omega, hb1⟩ hl hq
  rw [← ea, r3, ← hz, r4]
  exact K
end AM3
end
section
/-! ===== calls ===== -/
def am_ws (Z : am_M) : List Cond := Cond.code Z.1 Z.2.1 Z.2.2.1 Z.2.2.2.1 :: am_TB
def am_rm (Z : am_M) (n n1 : Nat) : Room := { frames := Z.2.2.2.2.1, cells := n1 - n, slots := am_cs n1 - am_cs n, locals := Z.2.2.2.2.2 }
def am_Pc (E : Nat × (Nat → Int32)) (g : am_G) (As : List Value) (h : am_H) (n : Nat) : Array Value → State → Prop := va_Pc (As.map (am_v g)) (fun U => am_P g h n U.heap ∧ am_S E g U U.heap)
def am_Qc (g : am_G) (n1 : Nat) (Q : Option Value → am_H → Prop) : Array Value → State → Outcome → State → Prop := fun _ st o t => (∃ r h', o = .returned (r.map (am_v g)) ∧ Q r h' ∧ am_P g h' n1 t.heap) ∧ va_F (am_A g) st t
theorem am_good : ∀ w ∈ am_TB, (w.onTables && w.keeps) = true ∨ ∃ ty, w = .arrayClass ty := fun w hw => good_of_word (List.mem_filter.mp hw).2
theorem am_goodIn {Z : am_M} (hc : Cond.code Z.1 Z.2.1 Z.2.2.1 Z.2.2.2.1 ∈ am_TB) : GoodIn am_TB (am_ws Z) := fun w hw => by
  rcases List.mem_cons.mp hw with e | e
  · rw [e]; exact ⟨hc, am_good _ hc⟩
  · exact ⟨e, am_good _ e⟩
/-- what the tables say of a method -/
def am_mC (Z : am_M) (np : Nat) : Prop := plainName Z.1.cls = true ∧ Cond.code Z.1 Z.2.1 Z.2.2.1 Z.2.2.2.1 ∈ am_TB ∧ (Z.1.cls ≠ "java/lang/invoke/MethodHandle" ∧ Z.1.cls ≠ "java/lang/invoke/VarHandle" ∧ (parseMethodDescriptor Z.1.desc).map (fun d => d.parameters.length) = some np) ∧ Cond.initialized Z.1.cls ∈ am_TB
def am_mS (Z : am_M) (np : Nat) : Prop := am_mC Z np ∧ Cond.static Z.1 ∈ am_TB
def am_mV (Z : am_M) (np : Nat) : Prop := am_mC Z np ∧ Cond.instanceMethod Z.1 ∈ am_TB ∧ Cond.selects Z.1.cls Z.1 Z.1 ∈ am_TB
def am_mI (Z : am_M) (np : Nat) : Prop := am_mC Z np ∧ Cond.instanceMethod Z.1 ∈ am_TB ∧ Z.1.name = "<init>" ∧ Z.2.2.2.1 = none
/-- the callee's frames and locals fit below the caller's -/
def am_fit (M Z : am_M) : Prop := Z.2.2.2.2.1 + 1 ≤ M.2.2.2.2.1 ∧ 8 + (Z.2.2.1 + 11) + Z.2.2.2.2.2 ≤ M.2.2.2.2.2
section AM4
variable {E : Nat × (Nat → Int32)} {M : am_M} {pc : Nat} {ls : List (Option Value)} {st : List Value} {h : am_H} {n n1 : Nat} {Q : Option Value → am_H → Prop}
theorem am_met {Z : am_M} {np : Nat} {As : List Value} {lsZ : List (Option Value)} (l : Launch) (g : am_G) (hm : am_mC Z np) (hlen : (am_e0 As).length ≤ Z.2.2.1) (hen : am_en As Z.2.2.1 = lsZ) (hn : n ≤ n1) (k : am_R E Z 0 lsZ [] h n n1 Q) :
    Met l Z.1 (am_ws Z) (am_rm Z n n1) (am_Pc E g As h n) (am_Qc g n1 Q) (n1 - n) (am_cs n1 - am_cs n) (fun q => g.1 ≤ q) := by
  refine Met.ofW (cc := Z.2.1) (maxL := Z.2.2.1) (ret := Z.2.2.2.1) hm.1 rfl ?_
  intro p e s m args below meth c s₁ B hml hv
  obtain ⟨rfl, hP, hSt⟩ := hv
  have hx := B.exec
  have hb := B.bytes
  have hr := B.returns
  have hts := atoms_spec (ws := am_ws Z) B.pre
  have hown : s.vm.findClass Z.1.cls = some m.cls := findClass_of_methodNamed B.named
  have hlocks : meth.locks = false := B.notSynchronized
  have hin : meth.name = Z.1.name := (name_of_methodNamed B.named B.method).1
  rw [lg_entry_eq]
  have hl := am_L.entry g As hlen
  rw [hen] at hl
  have K := k p l e s m (As.map (am_v g)).toArray below meth c g n (MQ below (am_Qc g n1 Q) (As.map (am_v g)).toArray s (n1 - n) (am_cs n1 - am_cs n) (fun q => g.1 ≤ q)) s.heap [] _ (headSpec (am_ws Z) (am_rm Z n n1)).room
    ⟨hx, hb, hr, hml, hown, fun w hw => hts w (List.mem_cons_of_mem _ hw), hlocks, fun q => hin.trans q, ⟨Nat.le_refl _, Nat.le_refl _⟩, hSt⟩ ⟨Nat.le_refl _, Nat.le_refl _⟩ hP va_S.rf ⟨Nat.le_refl _, hn⟩ hl ?_
  · rw [Nat.sub_self, Nat.sub_self] at K
    exact K
  · intro pc' r h' H' locs' lsc' hQ hP' hS' hK
    match r, hK, hQ with
    | none, hK, hQ => exact W.vret hx hb (hr.trans hK.2) (fun t ht hW => ⟨⟨none, h', rfl, hQ, by rw [ht]; exact hP'⟩, hS'.F ht⟩) hS'.2.2 hK.1
    | some (.int v), hK, hQ =>
      obtain ⟨h1, ty, h2, h3⟩ := hK
      exact W.zret hx hb (hr.trans h2) h3 (fun t ht hW => ⟨⟨some (.int v), h', rfl, hQ, by rw [ht]; exact hP'⟩, hS'.F ht⟩) hS'.2.2 h1
    | some (.long v), hK, hQ => exact W.lret hx hb (hr.trans hK.2) (fun t ht hW => ⟨⟨some (.long v), h', rfl, hQ, by rw [ht]; exact hP'⟩, hS'.F ht⟩) hS'.2.2 hK.1
    | some (.ref v), hK, hQ =>
      obtain ⟨h1, rt, h2, h3⟩ := hK
      exact W.aret hx hb (hr.trans h2) h3 (Or.inr ⟨_, rfl⟩) (fun t ht hW => ⟨⟨some (.ref v), h', rfl, hQ, by rw [ht]; exact hP'⟩, hS'.F ht⟩) hS'.2.2 h1
theorem am_back {p : Program} {l : Launch} {e : Env} {Rm : Room} {s : State} {m : MethodId} {args : Array Value} {below : List Frame} {meth : Method} {c : Code} {H : Heap} {locs : List Loc} {cells slots mc ms : Nat} {g : am_G} {lsc : Array Slot} {st0 rest : List Value} {a : Array Value} {Z : State → Prop}
    (hr : va_Run p l e Rm s m args below meth c H locs cells slots mc ms (F0 m pc lsc st0) rest (am_Qc g n1 Q a) (fun q => g.1 ≤ q)) (hS : va_S (am_A g) s.heap H locs)
    (kk : ∀ (r : Option Value) (h' : am_H) (H1 : Heap) (locs1 : List Loc), Q r h' → am_P g h' n1 H1 → va_S (am_A g) s.heap H1 locs1 → W p l e Rm s m args below meth c H1 locs1 (cells + mc) (slots + ms) Z (F0 m (pc + 3) lsc ((r.map (am_v g)).toList ++ rest))) : W p l e Rm s m args below meth c H locs cells slots Z (F0 m pc lsc st0) := by
  intro T hT X
  obtain ⟨v, st₀, t, T', L, h0, X', hL, e1, e2, ⟨⟨r, h', hv, hQ, hP'⟩, hz, hk⟩, stp⟩ := hr T hT X
  cases hv
  rw [h0] at hz hk
  obtain ⟨t2, a1, b1⟩ := kk r h' T'.heap (locs ++ L) hQ (by rw [e1]; exact hP') ⟨Nat.le_trans hS.1 (by rw [e1]; exact hz), fun q h1 h2 => by rw [e1, hk q (Nat.lt_of_lt_of_le h1 hS.1) h2]; exact hS.2.1 q h1 h2, fun q hq => by
      rcases List.mem_append.mp hq with h | h
      · exact hS.2.2 q h
      · exact hL q h⟩ T' rfl X'
  exact ⟨t2, stp t2 a1, b1⟩
/-- the callee's start, out of the caller's state -/
theorem am_preS {g : am_G} {s : State} {H : Heap} {locs : List Loc} {As : List Value} (hP : am_P g h n H) (hS : va_S (am_A g) s.heap H locs) (hSt : am_S E g s s.heap) : PreS s H (am_Pc E g As h n) (As.map (am_v g)) := by
  refine ⟨fun a U f mk q => ⟨q.1, q.2.1, q.2.2.calling f mk a⟩, fun U hU hW => ⟨rfl, by rw [hU]; exact hP, am_S.warm hW (by rw [hU]; exact hSt.kept hS.2.1)⟩⟩
theorem am_sum {n0 n2 : Nat} {Rm : Room} (hR : n1 - n0 ≤ Rm.cells ∧ am_cs n1 - am_cs n0 ≤ Rm.slots) (hn : n0 ≤ n ∧ n ≤ n1) (h2 : n ≤ n2 ∧ n2 ≤ n1) : ((n - n0) + (n2 - n) ≤ Rm.cells ∧ (am_cs n - am_cs n0) + (am_cs n2 - am_cs n) ≤ Rm.slots) ∧ (n - n0) + (n2 - n) = n2 - n0 ∧ (am_cs n - am_cs n0) + (am_cs n2 - am_cs n) = am_cs n2 - am_cs n0 := by
  have e1 := am_cs_mono hn.1
  have e2 := am_cs_mono h2.1
  have e3 := am_cs_mono h2.2
  omega
theorem am_catm (g : am_G) (st : List Value) : ((st.map (am_v g)).map fun v => v.category).sum = (st.map fun v => v.category).sum := by
  congr 1
  rw [List.map_map]
  exact List.map_congr_left (fun v _ => am_cat g v)
theorem am_tl (g : am_G) (r : Option Value) (st : List Value) : (r.map (am_v g)).toList ++ st.map (am_v g) = (r.toList ++ st).map (am_v g) := by cases r <;> simp
theorem am_invS {Z : am_M} {idx np n2 : Nat} {As : List Value} {lsZ : List (Option Value)} {st0 : List Value} (hd : decode M.2.1 pc = .ok (.invokestatic idx, 3)) (hm : am_mS Z np) (hk : Cond.methodLink M.1.cls idx Z.1 ∈ am_TB) (hfit : am_fit M Z) (hst : st0 = As.reverse ++ st) (hnp : As.length = np) (hlen : (am_e0 As).length ≤ Z.2.2.1) (hen : am_en As Z.2.2.1 = lsZ) (hc8 : (st.map fun v => v.category).sum ≤ 8) (h2 : n ≤ n2 ∧ n2 ≤ n1)
    (k : am_R E Z 0 lsZ [] h n n2 (fun r h' => am_R E M (pc + 3) ls (r.toList ++ st) h' n2 n1 Q)) : am_R E M pc ls st0 h n n1 Q := by
  intro p l e s m args below meth c g n0 Y H locs lsc Rm C hR hP hS hn hl hq
  have C0 := C
  obtain ⟨hx, hb, -, hml, hown, hts, -, -, hrm, hSt⟩ := C
  obtain ⟨a1, a2, a3⟩ := am_sum hR hn h2
  subst hst
  refine am_back (va_runS (Ts := am_TB) (As := As.map (am_v g)) (rest := st.map (am_v g)) ⟨hx, hb, hml, hown, hts⟩ (am_met l g hm.1 hlen hen h2.1 k) ⟨callB_of np hts (am_goodIn hm.1.2.1) rfl rfl rfl (hts _ hm.1.2.2.2) (hts _ hk) hm.1.2.2.1 ⟨Nat.le_trans hfit.1 hrm.1, Nat.le_trans hfit.2 hrm.2⟩, hts _ hm.2⟩ (am_preS hP hS hSt) rfl (by rw [List.length_map]; exact hnp) hl.1 (by simp [F0, List.map_append, List.map_reverse]) (lv_room (by rw [am_catm]; exact hc8)) hd a1) hS ?_
  intro r h' H1 locs1 hQ hP1 hS1
  rw [am_tl, a2, a3]
  exact hQ p l e s m args below meth c g n0 Y H1 locs1 lsc Rm C0 hR hP1 hS1 ⟨Nat.le_trans hn.1 h2.1, h2.2⟩ hl hq
theorem am_recv {g : am_G} {s : State} {H : Heap} {k ci : Nat} (hci : ci < 9) (hP : am_P g h n H) (hSt : am_S E g s s.heap) (hk : k < n) (hs : am_s k = .inr ci) : ∃ cellB : Cell, H[am_a g k]? = some cellB ∧ cellB.vm.isStatics = false ∧ s.vm.findClass (am_cn ci) = some cellB.cls := by
  obtain ⟨cell, q1, q2, q3, q4⟩ := hP.obj hk hs
  exact ⟨cell, q1, by rw [q3]; rfl, by rw [q2]; exact (hSt.1.1 ci _ (am_cl hci)).2.1⟩
theorem am_invVg {Z : am_M} {idx np n2 b : Nat} {As : List Value} {lsZ : List (Option Value)} {st0 : List Value} (hd : decode M.2.1 pc = .ok (.invokevirtual idx, 3)) (hm : am_mV Z np) (hk : Cond.methodLink M.1.cls idx Z.1 ∈ am_TB) (hfit : am_fit M Z) (hrec : ∀ (g : am_G) (s : State) (H : Heap) (locs : List Loc), am_P g h n H → va_S (am_A g) s.heap H locs → am_S E g s s.heap → ∃ cellB : Cell, H[am_a g b]? = some cellB ∧ cellB.vm.isStatics = false ∧ s.vm.findClass Z.1.cls = some cellB.cls) (hst : st0 = As.reverse ++ .ref b :: st) (hnp : As.length = np) (hlen : (am_e0 (.ref b :: As)).length ≤ Z.2.2.1) (hen : am_en (.ref b :: As) Z.2.2.1 = lsZ) (hc8 : (st.map fun v => v.category).sum ≤ 8) (h2 : n ≤ n2 ∧ n2 ≤ n1)
    (k : am_R E Z 0 lsZ [] h n n2 (fun r h' => am_R E M (pc + 3) ls (r.toList ++ st) h' n2 n1 Q)) : am_R E M pc ls st0 h n n1 Q := by
  intro p l e s m args below meth c g n0 Y H locs lsc Rm C hR hP hS hn hl hq
  have C0 := C
  obtain ⟨hx, hb, -, hml, hown, hts, -, -, hrm, hSt⟩ := C
  obtain ⟨a1, a2, a3⟩ := am_sum hR hn h2
  subst hst
  have hpre := am_preS (As := .ref b :: As) hP hS hSt
  refine am_back (va_runV (Ts := am_TB) (C := Z.1.cls) (b := am_a g b) (As := As.map (am_v g)) (rest := st.map (am_v g)) ⟨hx, hb, hml, hown, hts⟩ (am_met l g hm.1 hlen hen h2.1 k) ⟨callB_of np hts (am_goodIn hm.1.2.1) rfl rfl rfl (hts _ hm.1.2.2.2) (hts _ hk) hm.1.2.2.1 ⟨Nat.le_trans hfit.1 hrm.1, Nat.le_trans hfit.2 hrm.2⟩, hts _ hm.2.1, hts _ hm.2.2⟩ ⟨hpre.1, hrec g s H locs hP hS hSt, hpre.2⟩ rfl (by rw [List.length_map]; exact hnp) hl.1 (by simp [F0, List.map_append, List.map_reverse, am_v]) (lv_room (by rw [am_catm]; exact hc8)) hd a1) hS ?_
  intro r h' H1 locs1 hQ hP1 hS1
  rw [am_tl, a2, a3]
  exact hQ p l e s m args below meth c g n0 Y H1 locs1 lsc Rm C0 hR hP1 hS1 ⟨Nat.le_trans hn.1 h2.1, h2.2⟩ hl hq
theorem am_invV {Z : am_M} {idx np n2 b ci : Nat} {As : List Value} {lsZ : List (Option Value)} {st0 : List Value} (hd : decode M.2.1 pc = .ok (.invokevirtual idx, 3)) (hm : am_mV Z np) (hk : Cond.methodLink M.1.cls idx Z.1 ∈ am_TB) (hfit : am_fit M Z) (hci : ci < 9) (hcn : am_cn ci = Z.1.cls) (hbn : b < n) (hs : am_s b = .inr ci) (hst : st0 = As.reverse ++ .ref b :: st) (hnp : As.length = np) (hlen : (am_e0 (.ref b :: As)).length ≤ Z.2.2.1) (hen : am_en (.ref b :: As) Z.2.2.1 = lsZ) (hc8 : (st.map fun v => v.category).sum ≤ 8) (h2 : n ≤ n2 ∧ n2 ≤ n1)
    (k : am_R E Z 0 lsZ [] h n n2 (fun r h' => am_R E M (pc + 3) ls (r.toList ++ st) h' n2 n1 Q)) : am_R E M pc ls st0 h n n1 Q :=
  am_invVg hd hm hk hfit (fun g s H locs hP hS hSt => hcn ▸ am_recv hci hP hSt hbn hs) hst hnp hlen hen hc8 h2 k
theorem am_invT {Z : am_M} {idx np n2 b i : Nat} {As : List Value} {lsZ : List (Option Value)} {st0 : List Value} (hd : decode M.2.1 pc = .ok (.invokevirtual idx, 3)) (hm : am_mV Z np) (hk : Cond.methodLink M.1.cls idx Z.1 ∈ am_TB) (hfit : am_fit M Z) (hcn : Z.1.cls = "java/lang/String") (hi : i < 9) (hb : 1010 + i = b) (hst : st0 = As.reverse ++ .ref b :: st) (hnp : As.length = np) (hlen : (am_e0 (.ref b :: As)).length ≤ Z.2.2.1) (hen : am_en (.ref b :: As) Z.2.2.1 = lsZ) (hc8 : (st.map fun v => v.category).sum ≤ 8) (h2 : n ≤ n2 ∧ n2 ≤ n1)
    (k : am_R E Z 0 lsZ [] h n n2 (fun r h' => am_R E M (pc + 3) ls (r.toList ++ st) h' n2 n1 Q)) : am_R E M pc ls st0 h n n1 Q :=
  am_invVg hd hm hk hfit (fun g s H locs hP hS hSt => by rw [hcn, ← hb, am_a10]; exact vk_recv (adK := fun i => g.2.1 (1010 + i)) (i := i) hSt.2.2.2.2.2.1 hi hS) hst hnp hlen hen hc8 h2 k
theorem am_invI {Z : am_M} {idx np n2 b : Nat} {As : List Value} {lsZ : List (Option Value)} {st0 : List Value} (hd : decode M.2.1 pc = .ok (.invokespecial idx, 3)) (hm : am_mI Z np) (hk : Cond.methodLink M.1.cls idx Z.1 ∈ am_TB) (hfit : am_fit M Z) (hst : st0 = As.reverse ++ .ref b :: st) (hnp : As.length = np) (hlen : (am_e0 (.ref b :: As)).length ≤ Z.2.2.1) (hen : am_en (.ref b :: As) Z.2.2.1 = lsZ) (hc8 : (st.map fun v => v.category).sum ≤ 8) (h2 : n ≤ n2 ∧ n2 ≤ n1)
    (k : am_R E Z 0 lsZ [] h n n2 (fun r h' => am_R E M (pc + 3) ls (r.toList ++ st) h' n2 n1 Q)) : am_R E M pc ls st0 h n n1 Q := by
  intro p l e s m args below meth c g n0 Y H locs lsc Rm C hR hP hS hn hl hq
  have C0 := C
  obtain ⟨hx, hb, -, hml, hown, hts, -, -, hrm, hSt⟩ := C
  obtain ⟨a1, a2, a3⟩ := am_sum hR hn h2
  subst hst
  refine am_back (va_runI (Ts := am_TB) (b := am_a g b) (As := As.map (am_v g)) (rest := st.map (am_v g)) ⟨hx, hb, hml, hown, hts⟩ (am_met l g hm.1 hlen hen h2.1 k) ⟨callB_of np hts (am_goodIn hm.1.2.1) (by unfold am_ws; rw [hm.2.2.2]) rfl rfl (hts _ hm.1.2.2.2) (hts _ hk) hm.1.2.2.1 ⟨Nat.le_trans hfit.1 hrm.1, Nat.le_trans hfit.2 hrm.2⟩, hm.2.2.1, hts _ hm.2.1⟩ (am_preS (As := .ref b :: As) hP hS hSt) rfl (by rw [List.length_map]; exact hnp) hl.1 (by simp [F0, List.map_append, List.map_reverse, am_v]) (lv_room (by rw [am_catm]; exact hc8)) hd a1) hS ?_
  intro r h' H1 locs1 hQ hP1 hS1
  rw [am_tl, a2, a3]
  exact hQ p l e s m args below meth c g n0 Y H1 locs1 lsc Rm C0 hR hP1 hS1 ⟨Nat.le_trans hn.1 h2.1, h2.2⟩ hl hq
theorem am_invIN {Z : am_M} {idx np n2 b : Nat} {As : List Value} {lsZ : List (Option Value)} {st0 : List Value} (hd : decode M.2.1 pc = .ok (.invokespecial idx, 3)) (hm : am_mI Z np) (hk : Cond.methodLinkNest M.1.cls idx Z.1 RX9 ∈ am_nw) (hfit : am_fit M Z) (hst : st0 = As.reverse ++ .ref b :: st) (hnp : As.length = np) (hlen : (am_e0 (.ref b :: As)).length ≤ Z.2.2.1) (hen : am_en (.ref b :: As) Z.2.2.1 = lsZ) (hc8 : (st.map fun v => v.category).sum ≤ 8) (h2 : n ≤ n2 ∧ n2 ≤ n1)
    (k : am_R E Z 0 lsZ [] h n n2 (fun r h' => am_R E M (pc + 3) ls (r.toList ++ st) h' n2 n1 Q)) : am_R E M pc ls st0 h n n1 Q := by
  intro p l e s m args below meth c g n0 Y H locs lsc Rm C hR hP hS hn hl hq
  have C0 := C
  obtain ⟨hx, hb, -, hml, hown, hts, -, -, hrm, hSt⟩ := C
  obtain ⟨a1, a2, a3⟩ := am_sum hR hn h2
  subst hst
  refine am_back (va_runIN (Ts := am_TB) (b := am_a g b) (As := As.map (am_v g)) (rest := st.map (am_v g)) ⟨hx, hb, hml, hown, hts⟩ (am_met l g hm.1 hlen hen h2.1 k) ⟨va_cnB np hts (am_goodIn hm.1.2.1) (by unfold am_ws; rw [hm.2.2.2]) rfl rfl (hSt.2.2.2.2.2.2.2.2 _ hk) (hts _ hm.1.2.2.2) hm.1.2.2.1 ⟨Nat.le_trans hfit.1 hrm.1, Nat.le_trans hfit.2 hrm.2⟩, hm.2.2.1, hts _ hm.2.1⟩ (am_preS (As := .ref b :: As) hP hS hSt) rfl (by rw [List.length_map]; exact hnp) hl.1 (by simp [F0, List.map_append, List.map_reverse, am_v]) (lv_room (by rw [am_catm]; exact hc8)) hd a1) hS ?_
  intro r h' H1 locs1 hQ hP1 hS1
  rw [am_tl, a2, a3]
  exact hQ p l e s m args below meth c g n0 Y H1 locs1 lsc Rm C0 hR hP1 hS1 ⟨Nat.le_trans hn.1 h2.1, h2.2⟩ hl hq
theorem am_invSN {Z : am_M} {idx np n2 : Nat} {As : List Value} {lsZ : List (Option Value)} {st0 : List Value} (hd : decode M.2.1 pc = .ok (.invokestatic idx, 3)) (hm : am_mS Z np) (hk : Cond.methodLinkNest M.1.cls idx Z.1 RX9 ∈ am_nw) (hfit : am_fit M Z) (hst : st0 = As.reverse ++ st) (hnp : As.length = np) (hlen : (am_e0 As).length ≤ Z.2.2.1) (hen : am_en As Z.2.2.1 = lsZ) (hc8 : (st.map fun v => v.category).sum ≤ 8) (h2 : n ≤ n2 ∧ n2 ≤ n1)
    (k : am_R E Z 0 lsZ [] h n n2 (fun r h' => am_R E M (pc + 3) ls (r.toList ++ st) h' n2 n1 Q)) : am_R E M pc ls st0 h n n1 Q := by
  intro p l e s m args below meth c g n0 Y H locs lsc Rm C hR hP hS hn hl hq
  have C0 := C
  obtain ⟨hx, hb, -, hml, hown, hts, -, -, hrm, hSt⟩ := C
  obtain ⟨a1, a2, a3⟩ := am_sum hR hn h2
  subst hst
  refine am_back (va_runSN (Ts := am_TB) (As := As.map (am_v g)) (rest := st.map (am_v g)) ⟨hx, hb, hml, hown, hts⟩ (am_met l g hm.1 hlen hen h2.1 k) ⟨va_cnB np hts (am_goodIn hm.1.2.1) rfl rfl rfl (hSt.2.2.2.2.2.2.2.2 _ hk) (hts _ hm.1.2.2.2) hm.1.2.2.1 ⟨Nat.le_trans hfit.1 hrm.1, Nat.le_trans hfit.2 hrm.2⟩, hts _ hm.2, trivial⟩ (am_preS hP hS hSt) rfl (by rw [List.length_map]; exact hnp) hl.1 (by simp [F0, List.map_append, List.map_reverse]) (lv_room (by rw [am_catm]; exact hc8)) hd a1) hS ?_
  intro r h' H1 locs1 hQ hP1 hS1
  rw [am_tl, a2, a3]
  exact hQ p l e s m args below meth c g n0 Y H1 locs1 lsc Rm C0 hR hP1 hS1 ⟨Nat.le_trans hn.1 h2.1, h2.2⟩ hl hq
theorem am_obj {idx b : Nat} (hd : decode M.2.1 pc = .ok (.invokespecial idx, 3)) (hk : Cond.methodLink M.1.cls idx objectInit ∈ am_TB) (hi : Cond.instanceMethod objectInit ∈ am_TB) (hc : Cond.code objectInit ⟨#[0xb1]⟩ 1 none ∈ am_TB) (hst : (st.map fun v => v.category).sum ≤ 8) (hF : 1 ≤ M.2.2.2.2.1 ∧ 20 ≤ M.2.2.2.2.2) (k : am_R E M (pc + 3) ls st h n n1 Q) : am_R E M pc ls (.ref b :: st) h n n1 Q := by
  intro p l e s m args below meth c g n0 Z H locs lsc Rm C hR hP hS hn hl hq
  have K := k p l e s m args below meth c g n0 Z H locs lsc Rm C hR hP hS hn hl hq
  obtain ⟨hx, hb, -, hml, hown, hts, -, -, hrm, hSt⟩ := C
  refine W.objInit hx hb hown (hts _ hk) (hts _ hi) (hts _ hc) rfl (by rw [hml]; exact hl.1) rfl hd (Nat.le_trans hF.1 hrm.1) ?_ K
  have := lv_room (m := m) (pc := pc) (ls := lsc) (rest := (Value.ref b :: st).map (am_v g)) (st := st.map (am_v g)) (by rw [am_catm]; exact hst)
  have h3 := hF.2
  have h4 := hrm.2
  omega
end AM4
end
section
/-! ===== System.arraycopy of int rows ===== -/
section AM5
variable {E : Nat × (Nat → Int32)} {M : am_M} {pc : Nat} {ls : List (Option Value)} {st : List Value} {h : am_H} {n n1 : Nat} {Q : Option Value → am_H → Prop}
theorem am_copy {idx a0 a1 N0 N1 : Nat} {sp dp x : Int32} (hd : decode M.2.1 pc = .ok (.invokestatic idx, 3)) (hk : Cond.methodLink M.1.cls idx arraycopyName ∈ am_TB) (hnat : Cond.native arraycopyName ∈ am_TB) (hstat : Cond.static arraycopyName ∈ am_TB) (hini : Cond.initialized "java/lang/System" ∈ am_TB) (hs0 : am_s a0 = .inl (.int, N0)) (hs1 : am_s a1 = .inl (.int, N1)) (hk0 : a0 < n) (hk1 : a1 < n) (h1 : ¬ sp < 0) (h2 : ¬ dp < 0) (h3 : ¬ x < 0) (h4 : sp.toNatClampNeg + x.toNatClampNeg ≤ N0) (h5 : dp.toNatClampNeg + x.toNatClampNeg ≤ N1) (hst : (st.map fun v => v.category).sum ≤ 8) (hF : 1 ≤ M.2.2.2.2.1 ∧ 8 + (nativeFrameWords "java/lang/System" "arraycopy" 5 + 11) ≤ M.2.2.2.2.2) (kk : am_R E M (pc + 3) ls st (am_sR h a1 (va_cpy (h.1 a0) (h.1 a1) sp.toNatClampNeg dp.toNatClampNeg x.toNatClampNeg)) n n1 Q) : am_R E M pc ls (.int x :: .int dp :: .ref a1 :: .int sp :: .ref a0 :: st) h n n1 Q := by
  intro p l e s m args below meth c g n0 Z H locs lsc Rm C hR hP hS hn hl hq
  have C0 := C
  obtain ⟨hx, hb, -, hml, hown, hts, -, -, hrm, hSt⟩ := C
  have nn : ∀ z : Int32, ¬ z < 0 → z.toInt = (z.toNatClampNeg : Int) := by
    intro z hz
    have hz0 : (0 : Int) ≤ z.toInt := by
      have := Int32.not_lt.mp hz
      simpa using Int32.le_iff_toInt_le.mp this
    show z.toInt = ((z.toInt.toNat : Nat) : Int)
    omega
  intro T hT X
  have hc0 : H[am_a g a0]? = some (arrV (g.2.2.1 .int) N0 (fun j => .int (h.1 a0 j))) := hP.arr hk0 hs0
  have hc1 : H[am_a g a1]? = some (arrV (g.2.2.1 .int) N1 (fun j => .int (h.1 a1 j))) := hP.arr hk1 hs1
  obtain ⟨-, k0, hk0', cm0, hkk0⟩ := (am_t5_at hSt (Or.inl rfl)).1 N0 (fun j => .int (h.1 a0 j))
  obtain ⟨-, k1, hk1', cm1, hkk1⟩ := (am_t5_at hSt (Or.inl rfl)).1 N1 (fun j => .int (h.1 a1 j))
  obtain ⟨vm', X', step⟩ := X.arraycopy hx hown (hts _ hk) (hts _ hnat) (hts _ hstat) (hts _ hini) (src := am_a g a0) (dst := am_a g a1) (cs := arrV (g.2.2.1 .int) N0 (fun j => .int (h.1 a0 j))) (cd := arrV (g.2.2.1 .int) N1 (fun j => .int (h.1 a1 j))) (srcPos := sp) (destPos := dp) (n := x) (by rw [hT]; exact hc0) (by rw [hT]; exact hc1)
    (fun _ h => by cases h) (fun _ h => by cases h) (fun h => by cases h) (fun h => by cases h) hk0' hk1' hkk0 hkk1 (by simp [refKind]) h1 h2 h3
    (by rw [nn sp h1, nn x h3, arrV_size]; omega)
    (by rw [nn dp h2, nn x h3, arrV_size]; omega)
    (fun vm₁ _ i hi => by
      have e : (arrV (g.2.2.1 .int) N0 (fun j => .int (h.1 a0 j))).slots.getD (sp.toNatClampNeg + i) .null = .int (h.1 a0 (sp.toNatClampNeg + i)) := by
        rw [Array.getD_eq_getD_getElem?, arrV_read _ _ (by omega)]
        rfl
      refine ⟨?_, ?_⟩
      · rw [e]
        rfl
      · rw [e]
        exact trivial)
    (g := F0 m pc lsc (.int x :: .int dp :: .ref (am_a g a1) :: .int sp :: .ref (am_a g a0) :: st.map (am_v g))) rfl (by rw [hml]; exact hl.1) (rest := st.map (am_v g)) rfl (by rw [hb]; exact hd) (Nat.le_trans hF.1 hrm.1) (by
      have e3 := am_catm g st
      have h6 := hF.2
      have h7 := hrm.2
      show 2 * 0 + _ + _ ≤ _
      omega)
  have e1 : copied (arrV (g.2.2.1 .int) N0 (fun j => .int (h.1 a0 j))) (arrV (g.2.2.1 .int) N1 (fun j => .int (h.1 a1 j))) sp dp x = arrV (g.2.2.1 .int) N1 (fun j => .int (va_cpy (h.1 a0) (h.1 a1) sp.toNatClampNeg dp.toNatClampNeg x.toNatClampNeg j)) := va_copied (fun z => .int z) _ _ (h.1 a0) (h.1 a1) h4
  rw [e1] at X' step
  have hlt : am_a g a1 < H.size := (Array.getElem?_eq_some_iff.mp hc1).1
  generalize hcv : arrV (g.2.2.1 .int) N1 (fun j => .int (va_cpy (h.1 a0) (h.1 a1) sp.toNatClampNeg dp.toNatClampNeg x.toNatClampNeg j)) = cv at X' step
  have hheap : ((T.setVm vm').setCell (am_a g a1) cv).heap = H.setIfInBounds (am_a g a1) cv := by rw [← hT]; rfl
  have oq : ∀ q : Nat, q ≠ am_a g a1 → (H.setIfInBounds (am_a g a1) cv)[q]? = H[q]? := fun q hq => by simp [Array.getElem?_setIfInBounds, Ne.symm hq]
  have hself : (H.setIfInBounds (am_a g a1) cv)[am_a g a1]? = some cv := by simp [Array.getElem?_setIfInBounds, hlt]
  have hA1 : am_A g (am_a g a1) := by rw [hP.a hk1]; exact Nat.le_add_right _ _
  have hP1 : am_P g (am_sR h a1 (va_cpy (h.1 a0) (h.1 a1) sp.toNatClampNeg dp.toNatClampNeg x.toNatClampNeg)) n (H.setIfInBounds (am_a g a1) cv) := by
    refine hP.put hk1 (by simp) oq (fun j e => am_sR_ne j e) ?_
    unfold am_at
    rw [hs1]
    show (H.setIfInBounds (am_a g a1) cv)[g.1 + a1]? = _
    rw [← hP.a hk1, hself, ← hcv]
    congr 2
    funext j
    simp [am_f, am_sR]
  obtain ⟨t, b1, b2⟩ := kk p l e s m args below meth c g n0 Z _ _ lsc Rm C0 hR hP1 ⟨by simp; exact hS.1, fun q g1 g2 => by
      rw [oq q (fun e => g2 (by rw [e]; exact hA1))]
      exact hS.2.1 q g1 g2, fun q hq => by
      rcases List.mem_append.mp hq with h | h
      · exact hS.2.2 q h
      · obtain ⟨z, -, hz⟩ := List.mem_map.mp h
        rw [← hz]
        exact hA1⟩ hn hl hq _ hheap X'
  exact ⟨t, step t b1, b2⟩
end AM5
end
section
/-! THE CLAIM OUT OF ONE WALK OF THE LAW'S BODY. Your part is whole_start (and what it stands on); all else here is the same for every law, but numbers. -/
def R_law : String := "DutiesHatLaw"
def lw_P (b : Addr) (xs : List Int32) (args : Array Value) (s : State) : Prop := args = #[.ref b] ∧ s.IntsAt b xs ∧ xs.length ≤ 320 ∧ (Jvm.Cond.and given_1 narrow_1).before args s = true
def lw_Q (_ : Array Value) (s : State) (o : Outcome) (t : State) : Prop := o = .returned (some (.int 1)) ∧ Framed s o t [] 64 13480
def lw_Z (below : List Frame) (a : Array Value) (s : State) : State → Prop := fun t => ∃ o, t.status = .running ∧ Ended t below o ∧ lw_Q a s o t
/-- the law's own end, with 1 on the stack, nothing written that was there before, its room as the claim has it -/
theorem lw_ret {p : Program} {l : Launch} {e : Env} {s : State} {m : MethodId} {below : List Frame} {meth : Method} {c : Code} {b : Nat} (hx : p.tables.exec = Jvm.exec) (hb : c.code = code) (hr : meth.sig.returnType = ret) (hlocks : meth.locks = false) {pc : Nat} {H : Heap} {ls : Array Slot} (hdg : decode code pc = .ok (.ireturn, 1)) : W p l e room_1 s m #[Value.ref b] below meth c H [] 64 13480 (lw_Z below #[Value.ref b] s) (F0 m pc ls [.int 1]) := by
  intro T hT X
  obtain ⟨fs, hret, hrun, hended, hW, hframe⟩ := X.leave (v := some (.int 1)) (hlocks := hlocks) (fun h => by rw [hr] at h; cases h)
  have hmeth' : T.vm.method? m = some meth := X.method'
  refine ⟨T.setFrames fs, ?_, .returned (some (.int 1)), hrun, hended, rfl, ⟨_, rfl⟩, hW, hframe⟩
  jvm_step X.here [X.here.top, hx, hb, hdg, hmeth', hr, ret, narrow_b1]
  (try refine ⟨rfl, ?_⟩); (try refine ⟨rfl, ?_⟩)
  first | (intro acts; rw [hret _ acts rfl rfl rfl]) | rw [hret _ _ rfl rfl rfl]
  exact Steps.refl _
/-- what holds at the law's entry: the machine, the code, the tables' words (any of lw_tbl by 'hts w (by decide +kernel)'), the script of L ints xs at the cell b, what the Statement gives of the start (any of its parts by flat_of_before) -/
def lw_At (p : Program) (s : State) (m : MethodId) (meth : Method) (c : Code) (b L : Nat) (xs : Nat → Int32) : Prop :=
  p.tables.exec = Jvm.exec ∧ c.code = code ∧ meth.sig.returnType = ret ∧ c.maxLocals = 4 ∧ s.vm.findClass R_law = some m.cls ∧ (∀ w ∈ lw_tbl, w.before #[Value.ref b] s = true) ∧ va_X b L xs s s.heap ∧ b < s.heap.size ∧ meth.locks = false ∧ (Jvm.Cond.and given_1 narrow_1).before #[Value.ref b] s = true
set_option maxRecDepth 20000 in
theorem am_inst : ∀ ci, ci < 9 → Cond.instantiable (am_cn ci) (am_nf ci) ∈ am_TB := by decide +kernel
theorem am_sub : ∀ w ∈ am_TB, w ∈ lw_tbl := fun _ h => (List.mem_filter.mp h).1
def am_x (b tO tF tS : Nat) (adK adV : Nat → Nat) (k : Nat) : Nat := if k = 1000 then tO else if k = 1001 then tF else if k = 1002 then b else if k = 1003 then tS else if 1020 ≤ k then adV (k - 1020) else adK (k - 1010)
theorem am_x10 {b tO tF tS : Nat} {adK adV : Nat → Nat} {i : Nat} (hi : i < 9) : am_x b tO tF tS adK adV (1010 + i) = adK i := by
  unfold am_x
  rw [if_neg (by omega), if_neg (by omega), if_neg (by omega), if_neg (by omega), if_neg (by omega), show 1010 + i - 1010 = i by omega]
theorem am_x20 {b tO tF tS : Nat} {adK adV : Nat → Nat} {i : Nat} : am_x b tO tF tS adK adV (1020 + i) = adV i := by
  unfold am_x
  rw [if_neg (by omega), if_neg (by omega), if_neg (by omega), if_neg (by omega), if_pos (by omega), show 1020 + i - 1020 = i by omega]
def am_kt (cI cL cZ cD cT : ClassId) : FieldType → ClassId
  | .int => cI
  | .long => cL
  | .boolean => cZ
  | .object C => if C = RX1 then cD else cT
  | _ => cI
def am_stT (i : Nat) : Term := .string RX6 (am_si i)
set_option maxRecDepth 20000 in
set_option maxHeartbeats 4000000 in
theorem am_start {p : Program} {s : State} {m : MethodId} {meth : Method} {c : Code} {b L : Nat} {xs : Nat → Int32} (hL : L ≤ 320) (C0 : lw_At p s m meth c b L xs) : ∃ g : am_G, g.1 = s.heap.size ∧ g.2.1 1002 = b ∧ am_S (L, xs) g s s.heap := by
  obtain ⟨hx, hb, hr, hml, hown, hts0, hX, hbl, hlk, hgv⟩ := C0
  have hs := flat_of_before _ hgv
  have hts : ∀ w ∈ am_TB, w.before #[Value.ref b] s = true := fun w hw => hts0 w (am_sub w hw)
  have hA : ∀ a : Nat, a < s.heap.size → ¬ (s.heap.size ≤ a) := fun a h => by omega
  have hcls : ∀ ci : Nat, ∃ q : ClassId × (Nat → Nat), ci < 9 → u_Kn s (am_cn ci) (am_tb ci) (am_nf ci) q.1 q.2 := by
    intro ci
    by_cases h : ci < 9
    · obtain ⟨cC, iS, h1⟩ := u_known hts (am_in h) (hts _ (am_inst ci h))
      exact ⟨(cC, iS), fun _ => h1⟩
    · exact ⟨(0, fun _ => 0), fun q => absurd q h⟩
  obtain ⟨dd, hdd⟩ := Classical.axiomOfChoice hcls
  obtain ⟨cI, kI, oI, iI1, iI2, iI3⟩ := Cond.arrayClass_spec (hts (.arrayClass .int) (by decide +kernel))
  obtain ⟨cL, kL, oL, iL1, iL2, iL3⟩ := Cond.arrayClass_spec (hts (.arrayClass .long) (by decide +kernel))
  obtain ⟨cZ, kZ, oZ, iZ1, iZ2, iZ3⟩ := Cond.arrayClass_spec (hts (.arrayClass .boolean) (by decide +kernel))
  have hoD : (Cond.arrayOver (.object RX1)).before #[Value.ref b] s = true := hts0 _ (by decide +kernel)
  have hoT : (Cond.arrayOver (.object RX8)).before #[Value.ref b] s = true := hts0 _ (by decide +kernel)
  obtain ⟨oD, cD, kD, iD1, iD2, iD3, iD4, iD5⟩ := Cond.arrayOver_spec hoD
  obtain ⟨oT, cT, kT, iT1, iT2, iT3, iT4, iT5⟩ := Cond.arrayOver_spec hoT
  obtain ⟨tO, vO, hO⟩ := va_Tof (args := #[Value.ref b]) (s := s) (tm := .static RX9 "OVER" "[I") (ty := .int) (N := 5) (f := fun j => .int (am_ov j)) (A := fun q => s.heap.size ≤ q) (by decide) (hs _ (by decide +kernel)) (va_eqt (hs _ (by decide +kernel))) (fun j hj => by
    rcases (show j = 0 ∨ j = 1 ∨ j = 2 ∨ j = 3 ∨ j = 4 by omega) with rfl | rfl | rfl | rfl | rfl <;> exact va_eqt (hs _ (by decide +kernel))) hA
  obtain ⟨tF, vF, hF⟩ := va_Tof (args := #[Value.ref b]) (s := s) (tm := .static RX9 "FACTORIALS" "[I") (ty := .int) (N := 8) (f := fun j => .int (am_fa j)) (A := fun q => s.heap.size ≤ q) (by decide) (hs _ (by decide +kernel)) (va_eqt (hs _ (by decide +kernel))) (fun j hj => by
    rcases (show j = 0 ∨ j = 1 ∨ j = 2 ∨ j = 3 ∨ j = 4 ∨ j = 5 ∨ j = 6 ∨ j = 7 by omega) with rfl | rfl | rfl | rfl | rfl | rfl | rfl | rfl <;> exact va_eqt (hs _ (by decide +kernel))) hA
  have zO := va_Zof (A := fun q => s.heap.size ≤ q) (hts0 (.laysStatic RX9 "OVER" "[I") (by decide +kernel)) (hts (.initialized RX9) (by decide +kernel)) vO hA
  have zF := va_Zof (A := fun q => s.heap.size ≤ q) (hts0 (.laysStatic RX9 "FACTORIALS" "[I") (by decide +kernel)) (hts (.initialized RX9) (by decide +kernel)) vF hA
  have zC := va_Zof (A := fun q => s.heap.size ≤ q) (hts0 (.laysStatic RJ0 "COMPACT_STRINGS" "Z") (by decide +kernel)) (hts (.initialized RJ0) (by decide +kernel)) (va_eqi (z := 1) (hs _ (by decide +kernel))) hA
  have zS : ∃ tS : Nat, va_Z RJ3 "SIOOBE_FORMATTER" "Ljava/util/function/BiFunction;" .null (fun q => s.heap.size ≤ q) s s.heap ∨ va_Z RJ3 "SIOOBE_FORMATTER" "Ljava/util/function/BiFunction;" (.ref tS) (fun q => s.heap.size ≤ q) s s.heap := by
    rcases va_Zqof (A := fun q => s.heap.size ≤ q) (hts0 (.laysStatic RJ3 "SIOOBE_FORMATTER" "Ljava/util/function/BiFunction;") (by decide +kernel)) (hts (.initialized RJ3) (by decide +kernel)) (hs _ (by decide +kernel)) hA with h | ⟨t, h⟩
    · exact ⟨0, Or.inl h⟩
    · exact ⟨t, Or.inr h⟩
  obtain ⟨tS, zS⟩ := zS
  have h9 : ∀ i, i < 9 → i = 0 ∨ i = 1 ∨ i = 2 ∨ i = 3 ∨ i = 4 ∨ i = 5 ∨ i = 6 ∨ i = 7 ∨ i = 8 := fun i h => by omega
  obtain ⟨adK, adV, hK, hKe⟩ := vk_Sof (args := #[Value.ref b]) (s := s) (N := 9) (tm := am_stT) (len := am_sn) (byt := am_sb) (A := fun q => s.heap.size ≤ q)
    (fun i hi => by rcases h9 i hi with rfl | rfl | rfl | rfl | rfl | rfl | rfl | rfl | rfl <;> decide)
    (fun i hi => hs _ ((by decide +kernel : ∀ i, i < 9 → Cond.exactly (am_stT i) "java/lang/String" ∈ flatC (given_1.and narrow_1)) i hi))
    (fun i hi => hs _ ((by decide +kernel : ∀ i, i < 9 → Cond.eq (.field (am_stT i) "java/lang/String" "coder" "B") (.int 0) ∈ flatC (given_1.and narrow_1)) i hi))
    (fun i hi => hs _ ((by decide +kernel : ∀ i, i < 9 → Cond.arrayOf (.field (am_stT i) "java/lang/String" "value" "[B") .byte ∈ flatC (given_1.and narrow_1)) i hi))
    (fun i hi => hs _ ((by decide +kernel : ∀ i, i < 9 → Cond.eq (.length (.field (am_stT i) "java/lang/String" "value" "[B")) (.int (Int32.ofNat (am_sn.getD i 0))) ∈ flatC (given_1.and narrow_1)) i hi))
    (fun i hi j hj => hs _ ((by decide +kernel : ∀ i, i < 9 → ∀ j, j < am_sn.getD i 0 → Cond.eq (.elem (.field (am_stT i) "java/lang/String" "value" "[B") (.int (Int32.ofNat j))) (.int ((am_sb.getD i []).getD j 0)) ∈ flatC (given_1.and narrow_1)) i hi j hj))
    (fun i j hi hj hne => ((by decide +kernel : ∀ i, i < 9 → ∀ j, j < 9 → i ≠ j → (Cond.not (Cond.eq (am_stT i) (am_stT j)) ∈ flatC (given_1.and narrow_1) ∨ Cond.not (Cond.eq (am_stT j) (am_stT i)) ∈ flatC (given_1.and narrow_1))) i hi j hj hne).imp (fun h => hs _ h) (fun h => hs _ h)) hA
  refine ⟨(s.heap.size, am_x b tO tF tS adK adV, am_kt cI cL cZ cD cT, (fun ci => (dd ci).1, fun ci => (dd ci).2)), rfl, rfl, ⟨fun ci q hq => ?_, fun k q hq => ?_⟩, ⟨zO, hO⟩, ⟨zF, hF⟩, ?_, ⟨zC, zS⟩, ⟨fun i hi => ?_, fun i j hi hj he => ?_⟩, fun i hi => ?_, ⟨hoD, hoT⟩, fun w hw => ?_⟩
  · have hci : ci < 9 := (List.getElem?_eq_some_iff.mp hq).1
    have e := (am_cl hci).symm.trans hq
    cases e
    exact hdd ci hci
  · have hk : k < 5 := (List.getElem?_eq_some_iff.mp hq).1
    rcases (show k = 0 ∨ k = 1 ∨ k = 2 ∨ k = 3 ∨ k = 4 by omega) with rfl | rfl | rfl | rfl | rfl
    · cases hq; exact ⟨fun n z => ⟨fun k h => (by cases h), kI, iI2, oI, iI3⟩, iI1⟩
    · cases hq; exact ⟨fun n z => ⟨fun k h => (by cases h), kL, iL2, oL, iL3⟩, iL1⟩
    · cases hq; exact ⟨fun n z => ⟨fun k h => (by cases h), kZ, iZ2, oZ, iZ3⟩, iZ1⟩
    · cases hq
      have e : am_kt cI cL cZ cD cT (.object RX1) = cD := by simp [am_kt]
      show ArrOfT s (am_kt cI cL cZ cD cT (.object RX1)) _ ∧ va_RA s (am_kt cI cL cZ cD cT (.object RX1)) _
      rw [e]
      exact ⟨fun n z => ⟨fun k h => (by cases h), kD, iD3, oD, iD4⟩, kD, oD, iD3, iD4, iD1, iD5⟩
    · cases hq
      have e : am_kt cI cL cZ cD cT (.object RX8) = cT := by simp [am_kt, show ¬ (RX8 = RX1) by decide]
      show ArrOfT s (am_kt cI cL cZ cD cT (.object RX8)) _ ∧ va_RA s (am_kt cI cL cZ cD cT (.object RX8)) _
      rw [e]
      exact ⟨fun n z => ⟨fun k h => (by cases h), kT, iT3, oT, iT4⟩, kT, oT, iT3, iT4, iT1, iT5⟩
  · obtain ⟨scr, h1, h2, h3, h4, h5⟩ := hX
    exact ⟨scr, h1, h2, h3, by rw [h4]; exact Nat.le_refl _, by rw [h4], h5, hA b hbl⟩
  · show va_O _ (am_x b tO tF tS adK adV (1010 + i)) _ _ _ ∧ va_OF _ _ _ _ (am_x b tO tF tS adK adV (1010 + i)) _ _ _ ∧ va_OF _ _ _ (.ref (am_x b tO tF tS adK adV (1020 + i))) (am_x b tO tF tS adK adV (1010 + i)) _ _ _ ∧ va_T _ (am_x b tO tF tS adK adV (1020 + i)) _ _ _ _ _
    rw [am_x10 hi, am_x20]
    exact hK.1 i hi
  · have he : am_x b tO tF tS adK adV (1010 + i) = am_x b tO tF tS adK adV (1010 + j) := he
    rw [am_x10 hi, am_x10 hj] at he
    exact hK.2 i j hi hj he
  · show vk_R RX6 (am_si i) (am_st i) (am_x b tO tF tS adK adV (1010 + i)) s
    rw [am_x10 hi]
    exact vk_R.of (A := #[Value.ref b]) (hts0 _ ((by decide +kernel : ∀ i, i < 9 → Cond.stringRef RX6 (am_si i) (am_st i) ∈ lw_tbl) i hi)) (hKe i hi)
  · exact va_Nw.of ((by decide +kernel : ∀ w ∈ am_nw, w.onTables = true) w hw) (hts0 w ((by decide +kernel : ∀ w ∈ am_nw, w ∈ lw_tbl) w hw))

def am_h0 : am_H := (fun _ _ => 0, fun _ _ => 0, fun _ _ => none)
def am_law : am_M := (⟨R_law, "law", "([I)Z"⟩, code, 4, ret, 12, 436)
/-- the claim's walk out of the law's run on the abstract machine -/
theorem am_whole (hlaw : ∀ (L : Nat) (xs : Nat → Int32), L ≤ 320 → am_R (L, xs) am_law 0 [some (.ref 1002), none, none, none] [] am_h0 0 64 (fun r _ => r = some (.int 1))) {p : Program} {e : Env} {s : State} {m : MethodId} {below : List Frame} {meth : Method} {c : Code} (l : Launch) {b L : Nat} {xs : Nat → Int32} (hL : L ≤ 320) (C0 : lw_At p s m meth c b L xs) : W p l e room_1 s m #[Value.ref b] below meth c s.heap [] 0 0 (lw_Z below #[Value.ref b] s) (entryFrame m ([Value.ref b] : List Value).toArray 4) := by
  obtain ⟨g, hg, hg2, hSt⟩ := am_start hL C0
  obtain ⟨hx, hb, hr, hml, hown, hts0, hX, hbl, hlk, hgv⟩ := C0
  have hl := am_L.entry g [Value.ref 1002] (nL := 4) (by decide)
  have ea : am_a g 1002 = b := by rw [← hg2]; rfl
  have em : [Value.ref 1002].map (am_v g) = [Value.ref b] := by show [Value.ref (am_a g 1002)] = _; rw [ea]
  rw [em] at hl
  rw [lg_entry_eq]
  have K := hlaw L xs hL p l e s m #[Value.ref b] below meth c g 0 (lw_Z below #[Value.ref b] s) s.heap [] _ room_1 ⟨hx, hb, hr, hml, hown, fun w hw => hts0 w (am_sub w hw), hlk, fun q => absurd q (by decide), ⟨Nat.le_refl _, Nat.le_refl _⟩, hSt⟩ ⟨Nat.le_refl _, by rw [am_cs64]; exact Nat.le_refl _⟩ ⟨by rw [hg]; rfl, by decide, fun k hk => absurd hk (Nat.not_lt_zero k)⟩ va_S.rf ⟨Nat.le_refl _, by decide⟩ hl ?_
  · exact K
  · intro pc' r h' H' locs' lsc' hQ hP' hS' hK
    subst hQ
    rw [am_cs64]
    have h1 : decode code pc' = .ok (.ireturn, 1) := hK.1
    exact va_forget (fun q hq => by have := hS'.2.2 q hq; unfold am_A at this; rw [hg] at this; exact this) (lw_ret hx hb hr hlk h1)
end
section
theorem t_in0 {w : Cond} (i : Nat) (h : (k2_sels lw_privs)[i]? = some w) (hg : goodWord w = true) : w ∈ am_TB := List.mem_filter.mpr ⟨List.mem_append_left _ (List.mem_of_getElem? h), hg⟩
theorem t_in1 {w : Cond} (i : Nat) (h : tables_1_1[i]? = some w) (hg : goodWord w = true) : w ∈ am_TB := List.mem_filter.mpr ⟨List.mem_append_right _ (List.mem_append_left _ (List.mem_of_getElem? h)), hg⟩
theorem t_in2 {w : Cond} (i : Nat) (h : tables_1_2[i]? = some w) (hg : goodWord w = true) : w ∈ am_TB := List.mem_filter.mpr ⟨List.mem_append_right _ (List.mem_append_right _ (List.mem_append_left _ (List.mem_of_getElem? h))), hg⟩
theorem t_in3 {w : Cond} (i : Nat) (h : tables_1_3[i]? = some w) (hg : goodWord w = true) : w ∈ am_TB := List.mem_filter.mpr ⟨List.mem_append_right _ (List.mem_append_right _ (List.mem_append_right _ (List.mem_append_left _ (List.mem_of_getElem? h)))), hg⟩
theorem t_in4 {w : Cond} (i : Nat) (h : tables_1_4[i]? = some w) (hg : goodWord w = true) : w ∈ am_TB := List.mem_filter.mpr ⟨List.mem_append_right _ (List.mem_append_right _ (List.mem_append_right _ (List.mem_append_right _ (List.mem_append_left _ (List.mem_of_getElem? h))))), hg⟩
theorem t_in5 {w : Cond} (i : Nat) (h : tables_1_5[i]? = some w) (hg : goodWord w = true) : w ∈ am_TB := List.mem_filter.mpr ⟨List.mem_append_right _ (List.mem_append_right _ (List.mem_append_right _ (List.mem_append_right _ (List.mem_append_right _ (List.mem_of_getElem? h))))), hg⟩
abbrev mX0_lowest : am_M := (yX0_lowest, cX0_lowest, 12, (some .long), 0, 0)
abbrev mX0_power : am_M := (yX0_power, cX0_power, 6, (some .long), 0, 0)
abbrev mX0_waysOf : am_M := (yX0_waysOf, cX0_waysOf, 8, (some .long), 1, 25)
abbrev mX1_init : am_M := (yX1_init, cX1_init, 1, none, 1, 20)
abbrev mX1_begin : am_M := (yX1_begin, cX1_begin, 2, none, 1, 60)
abbrev mX1_give : am_M := (yX1_give, cX1_give, 2, none, 1, 60)
abbrev mX1_end : am_M := (yX1_end, cX1_end, 1, none, 1, 60)
abbrev mX1_timesOf : am_M := (yX1_timesOf, cX1_timesOf, 5, (some .int), 0, 0)
abbrev mX1_copy : am_M := (yX1_copy, cX1_copy, 2, none, 1, 60)
abbrev mX2_init : am_M := (yX2_init, cX2_init, 1, none, 1, 20)
abbrev mX2_cell : am_M := (yX2_cell, cX2_cell, 2, (some .int), 0, 0)
abbrev mX2_open : am_M := (yX2_open, cX2_open, 3, none, 0, 0)
abbrev mX2_obey : am_M := (yX2_obey, cX2_obey, 5, none, 1, 22)
abbrev mX2_skillOf : am_M := (yX2_skillOf, cX2_skillOf, 3, (some .int), 1, 21)
abbrev mX2_likingOf : am_M := (yX2_likingOf, cX2_likingOf, 3, (some .int), 1, 21)
abbrev mX2_isA : am_M := (yX2_isA, cX2_isA, 5, (some .boolean), 0, 0)
abbrev mX2_mayFollow : am_M := (yX2_mayFollow, cX2_mayFollow, 3, (some .boolean), 0, 0)
abbrev mX2_workOf : am_M := (yX2_workOf, cX2_workOf, 4, (some .int), 2, 43)
abbrev mX2_gladnessOf : am_M := (yX2_gladnessOf, cX2_gladnessOf, 4, (some .int), 2, 43)
abbrev mX3_fill : am_M := (yX3_fill, cX3_fill, 9, none, 0, 0)
abbrev mX3_numberOf : am_M := (yX3_numberOf, cX3_numberOf, 6, (some .int), 1, 20)
abbrev mX3_mix : am_M := (yX3_mix, cX3_mix, 7, (some .int), 0, 0)
abbrev mX4_init : am_M := (yX4_init, cX4_init, 2, none, 1, 20)
abbrev mX4_greatest : am_M := (yX4_greatest, cX4_greatest, 6, (some .int), 4, 93)
abbrev mX4_layRows : am_M := (yX4_layRows, cX4_layRows, 5, none, 3, 66)
abbrev mX4_addDay : am_M := (yX4_addDay, cX4_addDay, 4, none, 3, 70)
abbrev mX4_bestAhead : am_M := (yX4_bestAhead, cX4_bestAhead, 5, (some .int), 2, 46)
abbrev mX4_mayComeBehind : am_M := (yX4_mayComeBehind, cX4_mayComeBehind, 5, (some .boolean), 1, 22)
abbrev mX5_init : am_M := (yX5_init, cX5_init, 2, none, 1, 20)
abbrev mX5_look : am_M := (yX5_look, cX5_look, 5, none, 2, 43)
abbrev mX5_mayDo : am_M := (yX5_mayDo, cX5_mayDo, 3, (some .boolean), 0, 0)
abbrev mX5_allMayDo : am_M := (yX5_allMayDo, cX5_allMayDo, 3, (some .boolean), 1, 22)
abbrev mX5_wants : am_M := (yX5_wants, cX5_wants, 4, (some .boolean), 2, 43)
abbrev mX5_isWanted : am_M := (yX5_isWanted, cX5_isWanted, 5, (some .boolean), 3, 66)
abbrev mX5_pass : am_M := (yX5_pass, cX5_pass, 5, none, 0, 0)
abbrev mX5_find : am_M := (yX5_find, cX5_find, 6, none, 4, 92)
abbrev mX5_findThird : am_M := (yX5_findThird, cX5_findThird, 7, none, 3, 66)
abbrev mX5_note : am_M := (yX5_note, cX5_note, 4, none, 0, 0)
abbrev mX5_passFound : am_M := (yX5_passFound, cX5_passFound, 3, none, 1, 24)
abbrev mX5_passAll : am_M := (yX5_passAll, cX5_passAll, 4, (some .int), 5, 117)
abbrev mX5_bestFor : am_M := (yX5_bestFor, cX5_bestFor, 7, (some .int), 5, 117)
abbrev mX5_isBetter : am_M := (yX5_isBetter, cX5_isBetter, 5, (some .boolean), 2, 43)
abbrev mX5_giverTo : am_M := (yX5_giverTo, cX5_giverTo, 6, (some .int), 0, 0)
abbrev mX6_init : am_M := (yX6_init, cX6_init, 1, none, 1, 20)
abbrev mX6_add : am_M := (yX6_add, cX6_add, 2, none, 0, 0)
abbrev mX6_read : am_M := (yX6_read, cX6_read, 4, (some .int), 8, 174)
abbrev mX6_readLine : am_M := (yX6_readLine, cX6_readLine, 7, (some .boolean), 7, 148)
abbrev mX6_nextToken : am_M := (yX6_nextToken, cX6_nextToken, 2, none, 1, 20)
abbrev mX6_isLetter : am_M := (yX6_isLetter, cX6_isLetter, 1, (some .boolean), 0, 0)
abbrev mX6_isDigit : am_M := (yX6_isDigit, cX6_isDigit, 1, (some .boolean), 0, 0)
abbrev mX6_verbHere : am_M := (yX6_verbHere, cX6_verbHere, 1, (some .int), 6, 128)
abbrev mX6_spells : am_M := (yX6_spells, cX6_spells, 3, (some .boolean), 5, 106)
abbrev mX6_numberHere : am_M := (yX6_numberHere, cX6_numberHere, 4, (some .int), 1, 20)
abbrev mX6_numbersOf : am_M := (yX6_numbersOf, cX6_numbersOf, 1, (some .int), 0, 0)
abbrev mX6_fits : am_M := (yX6_fits, cX6_fits, 4, (some .boolean), 1, 20)
abbrev mX7_init : am_M := (yX7_init, cX7_init, 2, none, 1, 20)
abbrev mX7_from : am_M := (yX7_from, cX7_from, 5, none, 6, 141)
abbrev mX7_reach : am_M := (yX7_reach, cX7_reach, 4, none, 0, 0)
abbrev mX7_takeWaiting : am_M := (yX7_takeWaiting, cX7_takeWaiting, 3, (some .int), 2, 43)
abbrev mX7_lookAt : am_M := (yX7_lookAt, cX7_lookAt, 5, none, 5, 117)
abbrev mX7_addEnd : am_M := (yX7_addEnd, cX7_addEnd, 3, none, 3, 66)
abbrev mX8_init : am_M := (yX8_init, cX8_init, 3, none, 1, 20)
abbrev mX8_make : am_M := (yX8_make, cX8_make, 3, none, 6, 140)
abbrev mX8_addRow : am_M := (yX8_addRow, cX8_addRow, 3, none, 3, 66)
abbrev mX9_init : am_M := (yX9_init, cX9_init, 1, none, 3, 81)
abbrev mX9_write : am_M := (yX9_write, cX9_write, 5, (some .int), 1, 21)
abbrev mX9_erase : am_M := (yX9_erase, cX9_erase, 2, (some .int), 0, 0)
abbrev mX9_fault : am_M := (yX9_fault, cX9_fault, 1, (some .int), 9, 197)
abbrev mX9_hall : am_M := (yX9_hall, cX9_hall, 2, (some .int), 9, 197)
abbrev mX9_monk : am_M := (yX9_monk, cX9_monk, 4, (some .int), 2, 43)
abbrev mX9_as : am_M := (yX9_as, cX9_as, 5, (some .int), 1, 24)
abbrev mX9_lay : am_M := (yX9_lay, cX9_lay, 2, (some .int), 2, 81)
abbrev mX9_draw : am_M := (yX9_draw, cX9_draw, 4, (some .int), 2, 81)
abbrev mX9_has : am_M := (yX9_has, cX9_has, 3, (some .int), 1, 21)
abbrev mX9_trade : am_M := (yX9_trade, cX9_trade, 4, (some .int), 4, 90)
abbrev mX9_settle : am_M := (yX9_settle, cX9_settle, 1, (some .int), 6, 140)
abbrev mX9_dawn : am_M := (yX9_dawn, cX9_dawn, 1, (some .int), 4, 88)
abbrev mX9_today : am_M := (yX9_today, cX9_today, 2, (some .int), 3, 66)
abbrev mX9_ends : am_M := (yX9_ends, cX9_ends, 2, (some .int), 7, 165)
abbrev mX9_hint : am_M := (yX9_hint, cX9_hint, 2, (some .int), 6, 143)
abbrev mX9_lawful : am_M := (yX9_lawful, cX9_lawful, 1, (some .int), 8, 184)
abbrev mX9_mean : am_M := (yX9_mean, cX9_mean, 5, (some .int), 8, 184)
abbrev mX9_odds : am_M := (yX9_odds, cX9_odds, 6, (some .int), 8, 184)
abbrev mX9_week : am_M := (yX9_week, cX9_week, 2, (some .int), 5, 118)
abbrev mX9_often : am_M := (yX9_often, cX9_often, 3, (some .int), 1, 24)
abbrev mX9_tail : am_M := (yX9_tail, cX9_tail, 6, (some .long), 2, 52)
abbrev mX9_named : am_M := (yX9_named, cX9_named, 8, (some .int), 2, 52)
abbrev mX9_keep : am_M := (yX9_keep, cX9_keep, 2, (some .int), 2, 81)
abbrev mX9_back : am_M := (yX9_back, cX9_back, 2, (some .int), 4, 88)
abbrev mX9_count : am_M := (yX9_count, cX9_count, 2, (some .int), 0, 0)
abbrev mX9_isThere : am_M := (yX9_isThere, cX9_isThere, 2, (some .boolean), 0, 0)
abbrev mX9_isRing : am_M := (yX9_isRing, cX9_isRing, 1, (some .boolean), 0, 0)
abbrev mX9_isPart : am_M := (yX9_isPart, cX9_isPart, 1, (some .boolean), 0, 0)
abbrev mX9_yesterdayChanged : am_M := (yX9_yesterdayChanged, cX9_yesterdayChanged, 2, none, 3, 67)
abbrev mX9_tallyOf : am_M := (yX9_tallyOf, cX9_tallyOf, 3, (some (.object "DutiesHat$Tally")), 7, 162)
abbrev mX10_init : am_M := (yX10_init, cX10_init, 1, none, 1, 21)
abbrev mX10_in : am_M := (yX10_in, cX10_in, 3, (some .boolean), 0, 0)
abbrev mX10_isMonk : am_M := (yX10_isMonk, cX10_isMonk, 2, (some .boolean), 1, 22)
abbrev mX10_plain : am_M := (yX10_plain, cX10_plain, 2, none, 0, 0)
abbrev mX10_begin : am_M := (yX10_begin, cX10_begin, 2, none, 0, 0)
abbrev mX10_write : am_M := (yX10_write, cX10_write, 5, (some .int), 1, 22)
abbrev mX10_erase : am_M := (yX10_erase, cX10_erase, 2, (some .int), 0, 0)
abbrev mX10_nextToken : am_M := (yX10_nextToken, cX10_nextToken, 1, none, 1, 22)
abbrev mX10_fails : am_M := (yX10_fails, cX10_fails, 1, (some .boolean), 0, 0)
abbrev mX10_isNumber : am_M := (yX10_isNumber, cX10_isNumber, 4, (some .boolean), 2, 42)
abbrev mX10_isThere : am_M := (yX10_isThere, cX10_isThere, 2, (some .boolean), 3, 65)
abbrev mX10_isHall : am_M := (yX10_isHall, cX10_isHall, 2, (some .boolean), 3, 65)
abbrev mX10_isRing : am_M := (yX10_isRing, cX10_isRing, 2, (some .boolean), 3, 65)
abbrev mX10_isLine : am_M := (yX10_isLine, cX10_isLine, 4, (some .boolean), 4, 86)
abbrev mX10_isRead : am_M := (yX10_isRead, cX10_isRead, 2, (some .boolean), 5, 109)
abbrev mX10_fault : am_M := (yX10_fault, cX10_fault, 1, (some .int), 6, 130)
abbrev mX10_doLine : am_M := (yX10_doLine, cX10_doLine, 3, none, 1, 21)
abbrev mX10_hall : am_M := (yX10_hall, cX10_hall, 2, (some .int), 6, 130)
abbrev mX10_mayBehind : am_M := (yX10_mayBehind, cX10_mayBehind, 5, (some .boolean), 0, 0)
abbrev mX10_may : am_M := (yX10_may, cX10_may, 3, (some .boolean), 1, 24)
abbrev mX10_monk : am_M := (yX10_monk, cX10_monk, 4, (some .int), 2, 46)
abbrev mX10_as : am_M := (yX10_as, cX10_as, 6, (some .int), 2, 46)
abbrev mX10_draws : am_M := (yX10_draws, cX10_draws, 3, (some .int), 0, 0)
abbrev mX10_takeDraw : am_M := (yX10_takeDraw, cX10_takeDraw, 8, none, 1, 22)
abbrev mX10_numberOf : am_M := (yX10_numberOf, cX10_numberOf, 5, (some .int), 1, 22)
abbrev mX10_isLawful : am_M := (yX10_isLawful, cX10_isLawful, 3, (some .boolean), 2, 46)
abbrev mX10_putToday : am_M := (yX10_putToday, cX10_putToday, 2, none, 0, 0)
abbrev mX10_takeToday : am_M := (yX10_takeToday, cX10_takeToday, 2, none, 0, 0)
abbrev mX10_lay : am_M := (yX10_lay, cX10_lay, 2, (some .int), 3, 68)
abbrev mX10_draw : am_M := (yX10_draw, cX10_draw, 6, (some .int), 3, 68)
abbrev mX10_has : am_M := (yX10_has, cX10_has, 3, (some .int), 2, 43)
abbrev mX10_likesMore : am_M := (yX10_likesMore, cX10_likesMore, 3, (some .boolean), 2, 46)
abbrev mX10_isWanted : am_M := (yX10_isWanted, cX10_isWanted, 4, (some .boolean), 3, 68)
abbrev mX10_goRing : am_M := (yX10_goRing, cX10_goRing, 5, none, 0, 0)
abbrev mX10_workOf : am_M := (yX10_workOf, cX10_workOf, 3, (some .int), 0, 0)
abbrev mX10_gladnessOf : am_M := (yX10_gladnessOf, cX10_gladnessOf, 3, (some .int), 0, 0)
abbrev mX10_trade : am_M := (yX10_trade, cX10_trade, 4, (some .int), 4, 91)
abbrev mX10_takeRing : am_M := (yX10_takeRing, cX10_takeRing, 3, none, 0, 0)
abbrev mX10_nextWanted : am_M := (yX10_nextWanted, cX10_nextWanted, 5, (some .int), 4, 91)
abbrev mX10_settleBy : am_M := (yX10_settleBy, cX10_settleBy, 4, (some .int), 5, 115)
abbrev mX10_settle : am_M := (yX10_settle, cX10_settle, 2, (some .int), 6, 138)
abbrev mX10_dawn : am_M := (yX10_dawn, cX10_dawn, 2, (some .int), 0, 0)
abbrev mX10_today : am_M := (yX10_today, cX10_today, 2, (some .int), 2, 46)
abbrev mX10_ends : am_M := (yX10_ends, cX10_ends, 9, (some .int), 5, 115)
abbrev mX10_hint : am_M := (yX10_hint, cX10_hint, 7, (some .int), 5, 115)
abbrev mX10_lawful : am_M := (yX10_lawful, cX10_lawful, 3, (some .int), 3, 68)
abbrev mX10_divisor : am_M := (yX10_divisor, cX10_divisor, 5, (some .int), 0, 0)
abbrev mX10_isRingNumber : am_M := (yX10_isRingNumber, cX10_isRingNumber, 1, (some .boolean), 0, 0)
abbrev mX10_mean : am_M := (yX10_mean, cX10_mean, 7, (some .int), 6, 138)
abbrev mX10_odds : am_M := (yX10_odds, cX10_odds, 8, (some .int), 6, 138)
abbrev mX10_isLawfulBehind : am_M := (yX10_isLawfulBehind, cX10_isLawfulBehind, 3, (some .boolean), 1, 24)
abbrev mX10_week : am_M := (yX10_week, cX10_week, 7, (some .int), 3, 68)
abbrev mX10_oftenOf : am_M := (yX10_oftenOf, cX10_oftenOf, 5, (some .int), 0, 0)
abbrev mX10_often : am_M := (yX10_often, cX10_often, 3, (some .int), 2, 43)
abbrev mX10_tailDown : am_M := (yX10_tailDown, cX10_tailDown, 4, (some .long), 0, 0)
abbrev mX10_tailUp : am_M := (yX10_tailUp, cX10_tailUp, 10, (some .long), 1, 24)
abbrev mX10_tail : am_M := (yX10_tail, cX10_tail, 12, (some .long), 2, 53)
abbrev mX10_named : am_M := (yX10_named, cX10_named, 4, (some .int), 2, 53)
abbrev mX10_copy : am_M := (yX10_copy, cX10_copy, 5, none, 0, 0)
abbrev mX10_keep : am_M := (yX10_keep, cX10_keep, 2, (some .int), 1, 24)
abbrev mX10_back : am_M := (yX10_back, cX10_back, 2, (some .int), 1, 24)
abbrev mX10_count : am_M := (yX10_count, cX10_count, 2, (some .int), 0, 0)
abbrev mJ6_numberOfTrailingZeros_0f7a4 : am_M := (yJ6_numberOfTrailingZeros_0f7a4, cJ6_numberOfTrailingZeros_0f7a4, 2, (some .int), 0, 0)
abbrev mJ6_bitCount_0f7a4 : am_M := (yJ6_bitCount_0f7a4, cJ6_bitCount_0f7a4, 1, (some .int), 0, 0)
abbrev mJ13_numberOfTrailingZeros_95d88 : am_M := (yJ13_numberOfTrailingZeros_95d88, cJ13_numberOfTrailingZeros_95d88, 3, (some .int), 1, 21)
abbrev mJ9_max_7cf53 : am_M := (yJ9_max_7cf53, cJ9_max_7cf53, 2, (some .int), 0, 0)
abbrev mJ0_length_8abf5 : am_M := (yJ0_length_8abf5, cJ0_length_8abf5, 1, (some .int), 1, 20)
abbrev mJ0_charAt_5068e : am_M := (yJ0_charAt_5068e, cJ0_charAt_5068e, 2, (some .char), 4, 85)
abbrev mJ0_coder_7d493 : am_M := (yJ0_coder_7d493, cJ0_coder_7d493, 1, (some .byte), 0, 0)
abbrev mJ0_isLatin1_aae02 : am_M := (yJ0_isLatin1_aae02, cJ0_isLatin1_aae02, 1, (some .boolean), 0, 0)
abbrev mJ0_checkIndex_df160 : am_M := (yJ0_checkIndex_df160, cJ0_checkIndex_df160, 2, none, 1, 22)
abbrev mJ1_charAt_3b067 : am_M := (yJ1_charAt_3b067, cJ1_charAt_3b067, 2, (some .char), 2, 43)
abbrev mJ2_getChar_3b067 : am_M := (yJ2_getChar_3b067, cJ2_getChar_3b067, 2, (some .char), 1, 20)
abbrev mJ2_length_9d52b : am_M := (yJ2_length_9d52b, cJ2_length_9d52b, 1, (some .int), 0, 0)
abbrev mJ2_charAt_3b067 : am_M := (yJ2_charAt_3b067, cJ2_charAt_3b067, 2, (some .char), 3, 64)
abbrev mJ2_checkIndex_2214a : am_M := (yJ2_checkIndex_2214a, cJ2_checkIndex_2214a, 2, none, 2, 43)
abbrev mJ3_checkIndex_8e157 : am_M := (yJ3_checkIndex_8e157, cJ3_checkIndex_8e157, 3, (some .int), 0, 0)
set_option maxRecDepth 4000 in
theorem hX0_lowest : am_mS mX0_lowest 3 := ⟨⟨by decide, (t_in3 156 rfl rfl), ⟨by decide, by decide, by decide +kernel⟩, (t_in1 18 rfl rfl)⟩, (t_in3 155 rfl rfl)⟩
set_option maxRecDepth 4000 in
theorem hX0_power : am_mS mX0_power 2 := ⟨⟨by decide, (t_in3 213 rfl rfl), ⟨by decide, by decide, by decide +kernel⟩, (t_in1 18 rfl rfl)⟩, (t_in3 212 rfl rfl)⟩
set_option maxRecDepth 4000 in
theorem hX0_waysOf : am_mS mX0_waysOf 3 := ⟨⟨by decide, (t_in3 210 rfl rfl), ⟨by decide, by decide, by decide +kernel⟩, (t_in1 18 rfl rfl)⟩, (t_in3 209 rfl rfl)⟩
set_option maxRecDepth 4000 in
theorem hX1_init : am_mI mX1_init 0 := ⟨⟨by decide, (t_in1 93 rfl rfl), ⟨by decide, by decide, by decide +kernel⟩, (t_in1 4 rfl rfl)⟩, (t_in1 92 rfl rfl), rfl, rfl⟩
set_option maxRecDepth 4000 in
theorem hX1_begin : am_mV mX1_begin 1 := ⟨⟨by decide, (t_in2 3 rfl rfl), ⟨by decide, by decide, by decide +kernel⟩, (t_in1 4 rfl rfl)⟩, (t_in2 1 rfl rfl), (t_in2 2 rfl rfl)⟩
set_option maxRecDepth 4000 in
theorem hX1_give : am_mV mX1_give 1 := ⟨⟨by decide, (t_in2 225 rfl rfl), ⟨by decide, by decide, by decide +kernel⟩, (t_in1 4 rfl rfl)⟩, (t_in2 223 rfl rfl), (t_in2 224 rfl rfl)⟩
set_option maxRecDepth 4000 in
theorem hX1_end : am_mV mX1_end 0 := ⟨⟨by decide, (t_in3 51 rfl rfl), ⟨by decide, by decide, by decide +kernel⟩, (t_in1 4 rfl rfl)⟩, (t_in3 49 rfl rfl), (t_in3 50 rfl rfl)⟩
set_option maxRecDepth 4000 in
theorem hX1_timesOf : am_mV mX1_timesOf 2 := ⟨⟨by decide, (t_in3 201 rfl rfl), ⟨by decide, by decide, by decide +kernel⟩, (t_in1 4 rfl rfl)⟩, (t_in3 199 rfl rfl), (t_in3 200 rfl rfl)⟩
set_option maxRecDepth 4000 in
theorem hX1_copy : am_mV mX1_copy 1 := ⟨⟨by decide, (t_in3 227 rfl rfl), ⟨by decide, by decide, by decide +kernel⟩, (t_in1 4 rfl rfl)⟩, (t_in3 225 rfl rfl), (t_in3 226 rfl rfl)⟩
set_option maxRecDepth 4000 in
theorem hX2_init : am_mI mX2_init 0 := ⟨⟨by decide, (t_in1 61 rfl rfl), ⟨by decide, by decide, by decide +kernel⟩, (t_in1 3 rfl rfl)⟩, (t_in1 60 rfl rfl), rfl, rfl⟩
set_option maxRecDepth 4000 in
theorem hX2_cell : am_mS mX2_cell 2 := ⟨⟨by decide, (t_in2 17 rfl rfl), ⟨by decide, by decide, by decide +kernel⟩, (t_in1 3 rfl rfl)⟩, (t_in2 16 rfl rfl)⟩
set_option maxRecDepth 4000 in
theorem hX2_open : am_mV mX2_open 1 := ⟨⟨by decide, (t_in1 239 rfl rfl), ⟨by decide, by decide, by decide +kernel⟩, (t_in1 3 rfl rfl)⟩, (t_in1 237 rfl rfl), (t_in1 238 rfl rfl)⟩
set_option maxRecDepth 4000 in
theorem hX2_obey : am_mV mX2_obey 2 := ⟨⟨by decide, (t_in2 174 rfl rfl), ⟨by decide, by decide, by decide +kernel⟩, (t_in1 3 rfl rfl)⟩, (t_in2 172 rfl rfl), (t_in2 173 rfl rfl)⟩
set_option maxRecDepth 4000 in
theorem hX2_skillOf : am_mV mX2_skillOf 2 := ⟨⟨by decide, (t_in2 14 rfl rfl), ⟨by decide, by decide, by decide +kernel⟩, (t_in1 3 rfl rfl)⟩, (t_in2 12 rfl rfl), (t_in2 13 rfl rfl)⟩
set_option maxRecDepth 4000 in
theorem hX2_likingOf : am_mV mX2_likingOf 2 := ⟨⟨by decide, (t_in2 192 rfl rfl), ⟨by decide, by decide, by decide +kernel⟩, (t_in1 3 rfl rfl)⟩, (t_in2 190 rfl rfl), (t_in2 191 rfl rfl)⟩
set_option maxRecDepth 4000 in
theorem hX2_isA : am_mV mX2_isA 2 := ⟨⟨by decide, (t_in2 204 rfl rfl), ⟨by decide, by decide, by decide +kernel⟩, (t_in1 3 rfl rfl)⟩, (t_in2 202 rfl rfl), (t_in2 203 rfl rfl)⟩
set_option maxRecDepth 4000 in
theorem hX2_mayFollow : am_mV mX2_mayFollow 2 := ⟨⟨by decide, (t_in2 21 rfl rfl), ⟨by decide, by decide, by decide +kernel⟩, (t_in1 3 rfl rfl)⟩, (t_in2 19 rfl rfl), (t_in2 20 rfl rfl)⟩
set_option maxRecDepth 4000 in
theorem hX2_workOf : am_mV mX2_workOf 1 := ⟨⟨by decide, (t_in3 68 rfl rfl), ⟨by decide, by decide, by decide +kernel⟩, (t_in1 3 rfl rfl)⟩, (t_in3 66 rfl rfl), (t_in3 67 rfl rfl)⟩
set_option maxRecDepth 4000 in
theorem hX2_gladnessOf : am_mV mX2_gladnessOf 1 := ⟨⟨by decide, (t_in3 17 rfl rfl), ⟨by decide, by decide, by decide +kernel⟩, (t_in1 3 rfl rfl)⟩, (t_in3 15 rfl rfl), (t_in3 16 rfl rfl)⟩
set_option maxRecDepth 4000 in
theorem hX3_fill : am_mS mX3_fill 3 := ⟨⟨by decide, (t_in2 215 rfl rfl), ⟨by decide, by decide, by decide +kernel⟩, (t_in1 15 rfl rfl)⟩, (t_in2 214 rfl rfl)⟩
set_option maxRecDepth 4000 in
theorem hX3_numberOf : am_mS mX3_numberOf 2 := ⟨⟨by decide, (t_in3 58 rfl rfl), ⟨by decide, by decide, by decide +kernel⟩, (t_in1 15 rfl rfl)⟩, (t_in3 57 rfl rfl)⟩
set_option maxRecDepth 4000 in
theorem hX3_mix : am_mS mX3_mix 3 := ⟨⟨by decide, (t_in2 232 rfl rfl), ⟨by decide, by decide, by decide +kernel⟩, (t_in1 15 rfl rfl)⟩, (t_in2 231 rfl rfl)⟩
set_option maxRecDepth 4000 in
theorem hX4_init : am_mI mX4_init 1 := ⟨⟨by decide, (t_in1 215 rfl rfl), ⟨by decide, by decide, by decide +kernel⟩, (t_in1 8 rfl rfl)⟩, (t_in1 214 rfl rfl), rfl, rfl⟩
set_option maxRecDepth 4000 in
theorem hX4_greatest : am_mV mX4_greatest 2 := ⟨⟨by decide, (t_in3 169 rfl rfl), ⟨by decide, by decide, by decide +kernel⟩, (t_in1 8 rfl rfl)⟩, (t_in3 167 rfl rfl), (t_in3 168 rfl rfl)⟩
set_option maxRecDepth 4000 in
theorem hX4_layRows : am_mV mX4_layRows 1 := ⟨⟨by decide, (t_in3 174 rfl rfl), ⟨by decide, by decide, by decide +kernel⟩, (t_in1 8 rfl rfl)⟩, (t_in3 173 rfl rfl), (t_in0 18 rfl rfl)⟩
set_option maxRecDepth 4000 in
theorem hX4_addDay : am_mV mX4_addDay 1 := ⟨⟨by decide, (t_in3 186 rfl rfl), ⟨by decide, by decide, by decide +kernel⟩, (t_in1 8 rfl rfl)⟩, (t_in3 185 rfl rfl), (t_in0 20 rfl rfl)⟩
set_option maxRecDepth 4000 in
theorem hX4_bestAhead : am_mV mX4_bestAhead 2 := ⟨⟨by decide, (t_in3 190 rfl rfl), ⟨by decide, by decide, by decide +kernel⟩, (t_in1 8 rfl rfl)⟩, (t_in3 189 rfl rfl), (t_in0 21 rfl rfl)⟩
set_option maxRecDepth 4000 in
theorem hX4_mayComeBehind : am_mV mX4_mayComeBehind 3 := ⟨⟨by decide, (t_in3 181 rfl rfl), ⟨by decide, by decide, by decide +kernel⟩, (t_in1 8 rfl rfl)⟩, (t_in3 180 rfl rfl), (t_in0 19 rfl rfl)⟩
set_option maxRecDepth 4000 in
theorem hX5_init : am_mI mX5_init 1 := ⟨⟨by decide, (t_in1 120 rfl rfl), ⟨by decide, by decide, by decide +kernel⟩, (t_in1 5 rfl rfl)⟩, (t_in1 119 rfl rfl), rfl, rfl⟩
set_option maxRecDepth 4000 in
theorem hX5_look : am_mV mX5_look 1 := ⟨⟨by decide, (t_in2 10 rfl rfl), ⟨by decide, by decide, by decide +kernel⟩, (t_in1 5 rfl rfl)⟩, (t_in2 8 rfl rfl), (t_in2 9 rfl rfl)⟩
set_option maxRecDepth 4000 in
theorem hX5_mayDo : am_mV mX5_mayDo 2 := ⟨⟨by decide, (t_in2 196 rfl rfl), ⟨by decide, by decide, by decide +kernel⟩, (t_in1 5 rfl rfl)⟩, (t_in2 194 rfl rfl), (t_in2 195 rfl rfl)⟩
set_option maxRecDepth 4000 in
theorem hX5_allMayDo : am_mV mX5_allMayDo 1 := ⟨⟨by decide, (t_in2 220 rfl rfl), ⟨by decide, by decide, by decide +kernel⟩, (t_in1 5 rfl rfl)⟩, (t_in2 218 rfl rfl), (t_in2 219 rfl rfl)⟩
set_option maxRecDepth 4000 in
theorem hX5_wants : am_mV mX5_wants 3 := ⟨⟨by decide, (t_in3 9 rfl rfl), ⟨by decide, by decide, by decide +kernel⟩, (t_in1 5 rfl rfl)⟩, (t_in3 8 rfl rfl), (t_in0 7 rfl rfl)⟩
set_option maxRecDepth 4000 in
theorem hX5_isWanted : am_mV mX5_isWanted 4 := ⟨⟨by decide, (t_in3 5 rfl rfl), ⟨by decide, by decide, by decide +kernel⟩, (t_in1 5 rfl rfl)⟩, (t_in3 3 rfl rfl), (t_in3 4 rfl rfl)⟩
set_option maxRecDepth 4000 in
theorem hX5_pass : am_mS mX5_pass 4 := ⟨⟨by decide, (t_in3 13 rfl rfl), ⟨by decide, by decide, by decide +kernel⟩, (t_in1 5 rfl rfl)⟩, (t_in3 12 rfl rfl)⟩
set_option maxRecDepth 4000 in
theorem hX5_find : am_mV mX5_find 3 := ⟨⟨by decide, (t_in3 30 rfl rfl), ⟨by decide, by decide, by decide +kernel⟩, (t_in1 5 rfl rfl)⟩, (t_in3 28 rfl rfl), (t_in3 29 rfl rfl)⟩
set_option maxRecDepth 4000 in
theorem hX5_findThird : am_mV mX5_findThird 5 := ⟨⟨by decide, (t_in3 34 rfl rfl), ⟨by decide, by decide, by decide +kernel⟩, (t_in1 5 rfl rfl)⟩, (t_in3 33 rfl rfl), (t_in0 8 rfl rfl)⟩
set_option maxRecDepth 4000 in
theorem hX5_note : am_mV mX5_note 3 := ⟨⟨by decide, (t_in3 38 rfl rfl), ⟨by decide, by decide, by decide +kernel⟩, (t_in1 5 rfl rfl)⟩, (t_in3 37 rfl rfl), (t_in0 9 rfl rfl)⟩
set_option maxRecDepth 4000 in
theorem hX5_passFound : am_mV mX5_passFound 2 := ⟨⟨by decide, (t_in3 42 rfl rfl), ⟨by decide, by decide, by decide +kernel⟩, (t_in1 5 rfl rfl)⟩, (t_in3 40 rfl rfl), (t_in3 41 rfl rfl)⟩
set_option maxRecDepth 4000 in
theorem hX5_passAll : am_mV mX5_passAll 2 := ⟨⟨by decide, (t_in3 26 rfl rfl), ⟨by decide, by decide, by decide +kernel⟩, (t_in1 5 rfl rfl)⟩, (t_in3 24 rfl rfl), (t_in3 25 rfl rfl)⟩
set_option maxRecDepth 4000 in
theorem hX5_bestFor : am_mV mX5_bestFor 3 := ⟨⟨by decide, (t_in3 114 rfl rfl), ⟨by decide, by decide, by decide +kernel⟩, (t_in1 5 rfl rfl)⟩, (t_in3 112 rfl rfl), (t_in3 113 rfl rfl)⟩
set_option maxRecDepth 4000 in
theorem hX5_isBetter : am_mV mX5_isBetter 3 := ⟨⟨by decide, (t_in3 122 rfl rfl), ⟨by decide, by decide, by decide +kernel⟩, (t_in1 5 rfl rfl)⟩, (t_in3 121 rfl rfl), (t_in0 15 rfl rfl)⟩
set_option maxRecDepth 4000 in
theorem hX5_giverTo : am_mV mX5_giverTo 2 := ⟨⟨by decide, (t_in3 118 rfl rfl), ⟨by decide, by decide, by decide +kernel⟩, (t_in1 5 rfl rfl)⟩, (t_in3 117 rfl rfl), (t_in0 14 rfl rfl)⟩
set_option maxRecDepth 4000 in
theorem hX6_init : am_mI mX6_init 0 := ⟨⟨by decide, (t_in1 32 rfl rfl), ⟨by decide, by decide, by decide +kernel⟩, (t_in1 2 rfl rfl)⟩, (t_in1 31 rfl rfl), rfl, rfl⟩
set_option maxRecDepth 4000 in
theorem hX6_add : am_mV mX6_add 1 := ⟨⟨by decide, (t_in2 61 rfl rfl), ⟨by decide, by decide, by decide +kernel⟩, (t_in1 2 rfl rfl)⟩, (t_in2 59 rfl rfl), (t_in2 60 rfl rfl)⟩
set_option maxRecDepth 4000 in
theorem hX6_read : am_mV mX6_read 1 := ⟨⟨by decide, (t_in2 73 rfl rfl), ⟨by decide, by decide, by decide +kernel⟩, (t_in1 2 rfl rfl)⟩, (t_in2 71 rfl rfl), (t_in2 72 rfl rfl)⟩
set_option maxRecDepth 4000 in
theorem hX6_readLine : am_mV mX6_readLine 2 := ⟨⟨by decide, (t_in2 77 rfl rfl), ⟨by decide, by decide, by decide +kernel⟩, (t_in1 2 rfl rfl)⟩, (t_in2 76 rfl rfl), (t_in0 0 rfl rfl)⟩
set_option maxRecDepth 4000 in
theorem hX6_nextToken : am_mV mX6_nextToken 0 := ⟨⟨by decide, (t_in2 81 rfl rfl), ⟨by decide, by decide, by decide +kernel⟩, (t_in1 2 rfl rfl)⟩, (t_in2 80 rfl rfl), (t_in0 1 rfl rfl)⟩
set_option maxRecDepth 4000 in
theorem hX6_isLetter : am_mS mX6_isLetter 1 := ⟨⟨by decide, (t_in2 84 rfl rfl), ⟨by decide, by decide, by decide +kernel⟩, (t_in1 2 rfl rfl)⟩, (t_in2 83 rfl rfl)⟩
set_option maxRecDepth 4000 in
theorem hX6_isDigit : am_mS mX6_isDigit 1 := ⟨⟨by decide, (t_in2 87 rfl rfl), ⟨by decide, by decide, by decide +kernel⟩, (t_in1 2 rfl rfl)⟩, (t_in2 86 rfl rfl)⟩
set_option maxRecDepth 4000 in
theorem hX6_verbHere : am_mV mX6_verbHere 0 := ⟨⟨by decide, (t_in2 91 rfl rfl), ⟨by decide, by decide, by decide +kernel⟩, (t_in1 2 rfl rfl)⟩, (t_in2 90 rfl rfl), (t_in0 2 rfl rfl)⟩
set_option maxRecDepth 4000 in
theorem hX6_spells : am_mV mX6_spells 1 := ⟨⟨by decide, (t_in2 96 rfl rfl), ⟨by decide, by decide, by decide +kernel⟩, (t_in1 2 rfl rfl)⟩, (t_in2 95 rfl rfl), (t_in0 3 rfl rfl)⟩
set_option maxRecDepth 4000 in
theorem hX6_numberHere : am_mV mX6_numberHere 0 := ⟨⟨by decide, (t_in2 159 rfl rfl), ⟨by decide, by decide, by decide +kernel⟩, (t_in1 2 rfl rfl)⟩, (t_in2 158 rfl rfl), (t_in0 4 rfl rfl)⟩
set_option maxRecDepth 4000 in
theorem hX6_numbersOf : am_mS mX6_numbersOf 1 := ⟨⟨by decide, (t_in2 155 rfl rfl), ⟨by decide, by decide, by decide +kernel⟩, (t_in1 2 rfl rfl)⟩, (t_in2 154 rfl rfl)⟩
set_option maxRecDepth 4000 in
theorem hX6_fits : am_mS mX6_fits 4 := ⟨⟨by decide, (t_in2 162 rfl rfl), ⟨by decide, by decide, by decide +kernel⟩, (t_in1 2 rfl rfl)⟩, (t_in2 161 rfl rfl)⟩
set_option maxRecDepth 4000 in
theorem hX7_init : am_mI mX7_init 1 := ⟨⟨by decide, (t_in1 180 rfl rfl), ⟨by decide, by decide, by decide +kernel⟩, (t_in1 7 rfl rfl)⟩, (t_in1 179 rfl rfl), rfl, rfl⟩
set_option maxRecDepth 4000 in
theorem hX7_from : am_mV mX7_from 2 := ⟨⟨by decide, (t_in3 77 rfl rfl), ⟨by decide, by decide, by decide +kernel⟩, (t_in1 7 rfl rfl)⟩, (t_in3 75 rfl rfl), (t_in3 76 rfl rfl)⟩
set_option maxRecDepth 4000 in
theorem hX7_reach : am_mV mX7_reach 1 := ⟨⟨by decide, (t_in3 82 rfl rfl), ⟨by decide, by decide, by decide +kernel⟩, (t_in1 7 rfl rfl)⟩, (t_in3 81 rfl rfl), (t_in0 10 rfl rfl)⟩
set_option maxRecDepth 4000 in
theorem hX7_takeWaiting : am_mV mX7_takeWaiting 0 := ⟨⟨by decide, (t_in3 86 rfl rfl), ⟨by decide, by decide, by decide +kernel⟩, (t_in1 7 rfl rfl)⟩, (t_in3 85 rfl rfl), (t_in0 11 rfl rfl)⟩
set_option maxRecDepth 4000 in
theorem hX7_lookAt : am_mV mX7_lookAt 2 := ⟨⟨by decide, (t_in3 97 rfl rfl), ⟨by decide, by decide, by decide +kernel⟩, (t_in1 7 rfl rfl)⟩, (t_in3 96 rfl rfl), (t_in0 12 rfl rfl)⟩
set_option maxRecDepth 4000 in
theorem hX7_addEnd : am_mV mX7_addEnd 1 := ⟨⟨by decide, (t_in3 103 rfl rfl), ⟨by decide, by decide, by decide +kernel⟩, (t_in1 7 rfl rfl)⟩, (t_in3 102 rfl rfl), (t_in0 13 rfl rfl)⟩
set_option maxRecDepth 4000 in
theorem hX8_init : am_mI mX8_init 2 := ⟨⟨by decide, (t_in1 144 rfl rfl), ⟨by decide, by decide, by decide +kernel⟩, (t_in1 6 rfl rfl)⟩, (t_in1 143 rfl rfl), rfl, rfl⟩
set_option maxRecDepth 4000 in
theorem hX8_make : am_mV mX8_make 0 := ⟨⟨by decide, (t_in3 134 rfl rfl), ⟨by decide, by decide, by decide +kernel⟩, (t_in1 6 rfl rfl)⟩, (t_in3 132 rfl rfl), (t_in3 133 rfl rfl)⟩
set_option maxRecDepth 4000 in
theorem hX8_addRow : am_mV mX8_addRow 1 := ⟨⟨by decide, (t_in3 142 rfl rfl), ⟨by decide, by decide, by decide +kernel⟩, (t_in1 6 rfl rfl)⟩, (t_in3 141 rfl rfl), (t_in0 17 rfl rfl)⟩
set_option maxRecDepth 4000 in
theorem hX9_init : am_mI mX9_init 0 := ⟨⟨by decide, (t_in1 24 rfl rfl), ⟨by decide, by decide, by decide +kernel⟩, (t_in1 1 rfl rfl)⟩, (t_in1 23 rfl rfl), rfl, rfl⟩
set_option maxRecDepth 4000 in
theorem hX9_write : am_mV mX9_write 2 := ⟨⟨by decide, (t_in2 56 rfl rfl), ⟨by decide, by decide, by decide +kernel⟩, (t_in1 1 rfl rfl)⟩, (t_in2 54 rfl rfl), (t_in2 55 rfl rfl)⟩
set_option maxRecDepth 4000 in
theorem hX9_erase : am_mV mX9_erase 0 := ⟨⟨by decide, (t_in2 65 rfl rfl), ⟨by decide, by decide, by decide +kernel⟩, (t_in1 1 rfl rfl)⟩, (t_in2 63 rfl rfl), (t_in2 64 rfl rfl)⟩
set_option maxRecDepth 4000 in
theorem hX9_fault : am_mV mX9_fault 0 := ⟨⟨by decide, (t_in2 69 rfl rfl), ⟨by decide, by decide, by decide +kernel⟩, (t_in1 1 rfl rfl)⟩, (t_in2 67 rfl rfl), (t_in2 68 rfl rfl)⟩
set_option maxRecDepth 4000 in
theorem hX9_hall : am_mV mX9_hall 0 := ⟨⟨by decide, (t_in2 170 rfl rfl), ⟨by decide, by decide, by decide +kernel⟩, (t_in1 1 rfl rfl)⟩, (t_in2 168 rfl rfl), (t_in2 169 rfl rfl)⟩
set_option maxRecDepth 4000 in
theorem hX9_monk : am_mV mX9_monk 3 := ⟨⟨by decide, (t_in2 183 rfl rfl), ⟨by decide, by decide, by decide +kernel⟩, (t_in1 1 rfl rfl)⟩, (t_in2 181 rfl rfl), (t_in2 182 rfl rfl)⟩
set_option maxRecDepth 4000 in
theorem hX9_as : am_mV mX9_as 2 := ⟨⟨by decide, (t_in2 200 rfl rfl), ⟨by decide, by decide, by decide +kernel⟩, (t_in1 1 rfl rfl)⟩, (t_in2 198 rfl rfl), (t_in2 199 rfl rfl)⟩
set_option maxRecDepth 4000 in
theorem hX9_lay : am_mV mX9_lay 1 := ⟨⟨by decide, (t_in2 210 rfl rfl), ⟨by decide, by decide, by decide +kernel⟩, (t_in1 1 rfl rfl)⟩, (t_in2 208 rfl rfl), (t_in2 209 rfl rfl)⟩
set_option maxRecDepth 4000 in
theorem hX9_draw : am_mV mX9_draw 1 := ⟨⟨by decide, (t_in2 229 rfl rfl), ⟨by decide, by decide, by decide +kernel⟩, (t_in1 1 rfl rfl)⟩, (t_in2 227 rfl rfl), (t_in2 228 rfl rfl)⟩
set_option maxRecDepth 4000 in
theorem hX9_has : am_mV mX9_has 2 := ⟨⟨by decide, (t_in2 237 rfl rfl), ⟨by decide, by decide, by decide +kernel⟩, (t_in1 1 rfl rfl)⟩, (t_in2 235 rfl rfl), (t_in2 236 rfl rfl)⟩
set_option maxRecDepth 4000 in
theorem hX9_trade : am_mV mX9_trade 3 := ⟨⟨by decide, (t_in3 1 rfl rfl), ⟨by decide, by decide, by decide +kernel⟩, (t_in1 1 rfl rfl)⟩, (t_in2 239 rfl rfl), (t_in3 0 rfl rfl)⟩
set_option maxRecDepth 4000 in
theorem hX9_settle : am_mV mX9_settle 0 := ⟨⟨by decide, (t_in3 22 rfl rfl), ⟨by decide, by decide, by decide +kernel⟩, (t_in1 1 rfl rfl)⟩, (t_in3 20 rfl rfl), (t_in3 21 rfl rfl)⟩
set_option maxRecDepth 4000 in
theorem hX9_dawn : am_mV mX9_dawn 0 := ⟨⟨by decide, (t_in3 47 rfl rfl), ⟨by decide, by decide, by decide +kernel⟩, (t_in1 1 rfl rfl)⟩, (t_in3 45 rfl rfl), (t_in3 46 rfl rfl)⟩
set_option maxRecDepth 4000 in
theorem hX9_today : am_mV mX9_today 1 := ⟨⟨by decide, (t_in3 55 rfl rfl), ⟨by decide, by decide, by decide +kernel⟩, (t_in1 1 rfl rfl)⟩, (t_in3 53 rfl rfl), (t_in3 54 rfl rfl)⟩
set_option maxRecDepth 4000 in
theorem hX9_ends : am_mV mX9_ends 1 := ⟨⟨by decide, (t_in3 73 rfl rfl), ⟨by decide, by decide, by decide +kernel⟩, (t_in1 1 rfl rfl)⟩, (t_in3 71 rfl rfl), (t_in3 72 rfl rfl)⟩
set_option maxRecDepth 4000 in
theorem hX9_hint : am_mV mX9_hint 1 := ⟨⟨by decide, (t_in3 110 rfl rfl), ⟨by decide, by decide, by decide +kernel⟩, (t_in1 1 rfl rfl)⟩, (t_in3 108 rfl rfl), (t_in3 109 rfl rfl)⟩
set_option maxRecDepth 4000 in
theorem hX9_lawful : am_mV mX9_lawful 0 := ⟨⟨by decide, (t_in3 126 rfl rfl), ⟨by decide, by decide, by decide +kernel⟩, (t_in1 1 rfl rfl)⟩, (t_in3 124 rfl rfl), (t_in3 125 rfl rfl)⟩
set_option maxRecDepth 4000 in
theorem hX9_mean : am_mV mX9_mean 3 := ⟨⟨by decide, (t_in3 149 rfl rfl), ⟨by decide, by decide, by decide +kernel⟩, (t_in1 1 rfl rfl)⟩, (t_in3 147 rfl rfl), (t_in3 148 rfl rfl)⟩
set_option maxRecDepth 4000 in
theorem hX9_odds : am_mV mX9_odds 4 := ⟨⟨by decide, (t_in3 160 rfl rfl), ⟨by decide, by decide, by decide +kernel⟩, (t_in1 1 rfl rfl)⟩, (t_in3 158 rfl rfl), (t_in3 159 rfl rfl)⟩
set_option maxRecDepth 4000 in
theorem hX9_week : am_mV mX9_week 1 := ⟨⟨by decide, (t_in3 165 rfl rfl), ⟨by decide, by decide, by decide +kernel⟩, (t_in1 1 rfl rfl)⟩, (t_in3 163 rfl rfl), (t_in3 164 rfl rfl)⟩
set_option maxRecDepth 4000 in
theorem hX9_often : am_mV mX9_often 2 := ⟨⟨by decide, (t_in3 197 rfl rfl), ⟨by decide, by decide, by decide +kernel⟩, (t_in1 1 rfl rfl)⟩, (t_in3 195 rfl rfl), (t_in3 196 rfl rfl)⟩
set_option maxRecDepth 4000 in
theorem hX9_tail : am_mV mX9_tail 3 := ⟨⟨by decide, (t_in3 205 rfl rfl), ⟨by decide, by decide, by decide +kernel⟩, (t_in1 1 rfl rfl)⟩, (t_in3 203 rfl rfl), (t_in3 204 rfl rfl)⟩
set_option maxRecDepth 4000 in
theorem hX9_named : am_mV mX9_named 1 := ⟨⟨by decide, (t_in3 218 rfl rfl), ⟨by decide, by decide, by decide +kernel⟩, (t_in1 1 rfl rfl)⟩, (t_in3 216 rfl rfl), (t_in3 217 rfl rfl)⟩
set_option maxRecDepth 4000 in
theorem hX9_keep : am_mV mX9_keep 1 := ⟨⟨by decide, (t_in3 223 rfl rfl), ⟨by decide, by decide, by decide +kernel⟩, (t_in1 1 rfl rfl)⟩, (t_in3 221 rfl rfl), (t_in3 222 rfl rfl)⟩
set_option maxRecDepth 4000 in
theorem hX9_back : am_mV mX9_back 1 := ⟨⟨by decide, (t_in3 231 rfl rfl), ⟨by decide, by decide, by decide +kernel⟩, (t_in1 1 rfl rfl)⟩, (t_in3 229 rfl rfl), (t_in3 230 rfl rfl)⟩
set_option maxRecDepth 4000 in
theorem hX9_count : am_mV mX9_count 1 := ⟨⟨by decide, (t_in3 235 rfl rfl), ⟨by decide, by decide, by decide +kernel⟩, (t_in1 1 rfl rfl)⟩, (t_in3 233 rfl rfl), (t_in3 234 rfl rfl)⟩
set_option maxRecDepth 4000 in
theorem hX9_isThere : am_mV mX9_isThere 1 := ⟨⟨by decide, (t_in2 187 rfl rfl), ⟨by decide, by decide, by decide +kernel⟩, (t_in1 1 rfl rfl)⟩, (t_in2 186 rfl rfl), (t_in0 6 rfl rfl)⟩
set_option maxRecDepth 4000 in
theorem hX9_isRing : am_mS mX9_isRing 1 := ⟨⟨by decide, (t_in2 165 rfl rfl), ⟨by decide, by decide, by decide +kernel⟩, (t_in1 1 rfl rfl)⟩, (t_in2 164 rfl rfl)⟩
set_option maxRecDepth 4000 in
theorem hX9_isPart : am_mS mX9_isPart 1 := ⟨⟨by decide, (t_in3 153 rfl rfl), ⟨by decide, by decide, by decide +kernel⟩, (t_in1 1 rfl rfl)⟩, (t_in3 152 rfl rfl)⟩
set_option maxRecDepth 4000 in
theorem hX9_yesterdayChanged : am_mV mX9_yesterdayChanged 0 := ⟨⟨by decide, (t_in2 179 rfl rfl), ⟨by decide, by decide, by decide +kernel⟩, (t_in1 1 rfl rfl)⟩, (t_in2 178 rfl rfl), (t_in0 5 rfl rfl)⟩
set_option maxRecDepth 4000 in
theorem hX9_tallyOf : am_mV mX9_tallyOf 1 := ⟨⟨by decide, (t_in3 130 rfl rfl), ⟨by decide, by decide, by decide +kernel⟩, (t_in1 1 rfl rfl)⟩, (t_in3 129 rfl rfl), (t_in0 16 rfl rfl)⟩
set_option maxRecDepth 4000 in
theorem hX10_init : am_mI mX10_init 0 := ⟨⟨by decide, (t_in4 0 rfl rfl), ⟨by decide, by decide, by decide +kernel⟩, (t_in1 10 rfl rfl)⟩, (t_in3 239 rfl rfl), rfl, rfl⟩
set_option maxRecDepth 4000 in
theorem hX10_in : am_mS mX10_in 3 := ⟨⟨by decide, (t_in4 104 rfl rfl), ⟨by decide, by decide, by decide +kernel⟩, (t_in1 10 rfl rfl)⟩, (t_in4 103 rfl rfl)⟩
set_option maxRecDepth 4000 in
theorem hX10_isMonk : am_mV mX10_isMonk 1 := ⟨⟨by decide, (t_in4 176 rfl rfl), ⟨by decide, by decide, by decide +kernel⟩, (t_in1 10 rfl rfl)⟩, (t_in4 175 rfl rfl), (t_in0 33 rfl rfl)⟩
set_option maxRecDepth 4000 in
theorem hX10_plain : am_mV mX10_plain 0 := ⟨⟨by decide, (t_in4 5 rfl rfl), ⟨by decide, by decide, by decide +kernel⟩, (t_in1 10 rfl rfl)⟩, (t_in4 4 rfl rfl), (t_in0 22 rfl rfl)⟩
set_option maxRecDepth 4000 in
theorem hX10_begin : am_mV mX10_begin 0 := ⟨⟨by decide, (t_in4 9 rfl rfl), ⟨by decide, by decide, by decide +kernel⟩, (t_in1 10 rfl rfl)⟩, (t_in4 8 rfl rfl), (t_in0 23 rfl rfl)⟩
set_option maxRecDepth 4000 in
theorem hX10_write : am_mV mX10_write 2 := ⟨⟨by decide, (t_in4 101 rfl rfl), ⟨by decide, by decide, by decide +kernel⟩, (t_in1 10 rfl rfl)⟩, (t_in4 99 rfl rfl), (t_in4 100 rfl rfl)⟩
set_option maxRecDepth 4000 in
theorem hX10_erase : am_mV mX10_erase 0 := ⟨⟨by decide, (t_in4 109 rfl rfl), ⟨by decide, by decide, by decide +kernel⟩, (t_in1 10 rfl rfl)⟩, (t_in4 107 rfl rfl), (t_in4 108 rfl rfl)⟩
set_option maxRecDepth 4000 in
theorem hX10_nextToken : am_mV mX10_nextToken 0 := ⟨⟨by decide, (t_in4 125 rfl rfl), ⟨by decide, by decide, by decide +kernel⟩, (t_in1 10 rfl rfl)⟩, (t_in4 124 rfl rfl), (t_in0 26 rfl rfl)⟩
set_option maxRecDepth 4000 in
theorem hX10_fails : am_mV mX10_fails 0 := ⟨⟨by decide, (t_in4 152 rfl rfl), ⟨by decide, by decide, by decide +kernel⟩, (t_in1 10 rfl rfl)⟩, (t_in4 151 rfl rfl), (t_in0 29 rfl rfl)⟩
set_option maxRecDepth 4000 in
theorem hX10_isNumber : am_mV mX10_isNumber 3 := ⟨⟨by decide, (t_in4 148 rfl rfl), ⟨by decide, by decide, by decide +kernel⟩, (t_in1 10 rfl rfl)⟩, (t_in4 147 rfl rfl), (t_in0 28 rfl rfl)⟩
set_option maxRecDepth 4000 in
theorem hX10_isThere : am_mV mX10_isThere 1 := ⟨⟨by decide, (t_in4 156 rfl rfl), ⟨by decide, by decide, by decide +kernel⟩, (t_in1 10 rfl rfl)⟩, (t_in4 155 rfl rfl), (t_in0 30 rfl rfl)⟩
set_option maxRecDepth 4000 in
theorem hX10_isHall : am_mV mX10_isHall 1 := ⟨⟨by decide, (t_in4 144 rfl rfl), ⟨by decide, by decide, by decide +kernel⟩, (t_in1 10 rfl rfl)⟩, (t_in4 143 rfl rfl), (t_in0 27 rfl rfl)⟩
set_option maxRecDepth 4000 in
theorem hX10_isRing : am_mV mX10_isRing 1 := ⟨⟨by decide, (t_in4 160 rfl rfl), ⟨by decide, by decide, by decide +kernel⟩, (t_in1 10 rfl rfl)⟩, (t_in4 159 rfl rfl), (t_in0 31 rfl rfl)⟩
set_option maxRecDepth 4000 in
theorem hX10_isLine : am_mV mX10_isLine 1 := ⟨⟨by decide, (t_in4 121 rfl rfl), ⟨by decide, by decide, by decide +kernel⟩, (t_in1 10 rfl rfl)⟩, (t_in4 120 rfl rfl), (t_in0 25 rfl rfl)⟩
set_option maxRecDepth 4000 in
theorem hX10_isRead : am_mV mX10_isRead 0 := ⟨⟨by decide, (t_in4 117 rfl rfl), ⟨by decide, by decide, by decide +kernel⟩, (t_in1 10 rfl rfl)⟩, (t_in4 116 rfl rfl), (t_in0 24 rfl rfl)⟩
set_option maxRecDepth 4000 in
theorem hX10_fault : am_mV mX10_fault 0 := ⟨⟨by decide, (t_in4 113 rfl rfl), ⟨by decide, by decide, by decide +kernel⟩, (t_in1 10 rfl rfl)⟩, (t_in4 111 rfl rfl), (t_in4 112 rfl rfl)⟩
set_option maxRecDepth 4000 in
theorem hX10_doLine : am_mV mX10_doLine 1 := ⟨⟨by decide, (t_in4 168 rfl rfl), ⟨by decide, by decide, by decide +kernel⟩, (t_in1 10 rfl rfl)⟩, (t_in4 167 rfl rfl), (t_in0 32 rfl rfl)⟩
set_option maxRecDepth 4000 in
theorem hX10_hall : am_mV mX10_hall 0 := ⟨⟨by decide, (t_in4 164 rfl rfl), ⟨by decide, by decide, by decide +kernel⟩, (t_in1 10 rfl rfl)⟩, (t_in4 162 rfl rfl), (t_in4 163 rfl rfl)⟩
set_option maxRecDepth 4000 in
theorem hX10_mayBehind : am_mV mX10_mayBehind 3 := ⟨⟨by decide, (t_in4 184 rfl rfl), ⟨by decide, by decide, by decide +kernel⟩, (t_in1 10 rfl rfl)⟩, (t_in4 183 rfl rfl), (t_in0 35 rfl rfl)⟩
set_option maxRecDepth 4000 in
theorem hX10_may : am_mV mX10_may 2 := ⟨⟨by decide, (t_in4 180 rfl rfl), ⟨by decide, by decide, by decide +kernel⟩, (t_in1 10 rfl rfl)⟩, (t_in4 179 rfl rfl), (t_in0 34 rfl rfl)⟩
set_option maxRecDepth 4000 in
theorem hX10_monk : am_mV mX10_monk 3 := ⟨⟨by decide, (t_in4 172 rfl rfl), ⟨by decide, by decide, by decide +kernel⟩, (t_in1 10 rfl rfl)⟩, (t_in4 170 rfl rfl), (t_in4 171 rfl rfl)⟩
set_option maxRecDepth 4000 in
theorem hX10_as : am_mV mX10_as 2 := ⟨⟨by decide, (t_in4 188 rfl rfl), ⟨by decide, by decide, by decide +kernel⟩, (t_in1 10 rfl rfl)⟩, (t_in4 186 rfl rfl), (t_in4 187 rfl rfl)⟩
set_option maxRecDepth 4000 in
theorem hX10_draws : am_mS mX10_draws 1 := ⟨⟨by decide, (t_in4 195 rfl rfl), ⟨by decide, by decide, by decide +kernel⟩, (t_in1 10 rfl rfl)⟩, (t_in4 194 rfl rfl)⟩
set_option maxRecDepth 4000 in
theorem hX10_takeDraw : am_mV mX10_takeDraw 1 := ⟨⟨by decide, (t_in4 199 rfl rfl), ⟨by decide, by decide, by decide +kernel⟩, (t_in1 10 rfl rfl)⟩, (t_in4 198 rfl rfl), (t_in0 36 rfl rfl)⟩
set_option maxRecDepth 4000 in
theorem hX10_numberOf : am_mV mX10_numberOf 0 := ⟨⟨by decide, (t_in5 28 rfl rfl), ⟨by decide, by decide, by decide +kernel⟩, (t_in1 10 rfl rfl)⟩, (t_in5 27 rfl rfl), (t_in0 47 rfl rfl)⟩
set_option maxRecDepth 4000 in
theorem hX10_isLawful : am_mV mX10_isLawful 0 := ⟨⟨by decide, (t_in4 203 rfl rfl), ⟨by decide, by decide, by decide +kernel⟩, (t_in1 10 rfl rfl)⟩, (t_in4 202 rfl rfl), (t_in0 37 rfl rfl)⟩
set_option maxRecDepth 4000 in
theorem hX10_putToday : am_mV mX10_putToday 0 := ⟨⟨by decide, (t_in4 207 rfl rfl), ⟨by decide, by decide, by decide +kernel⟩, (t_in1 10 rfl rfl)⟩, (t_in4 206 rfl rfl), (t_in0 38 rfl rfl)⟩
set_option maxRecDepth 4000 in
theorem hX10_takeToday : am_mV mX10_takeToday 0 := ⟨⟨by decide, (t_in4 224 rfl rfl), ⟨by decide, by decide, by decide +kernel⟩, (t_in1 10 rfl rfl)⟩, (t_in4 223 rfl rfl), (t_in0 39 rfl rfl)⟩
set_option maxRecDepth 4000 in
theorem hX10_lay : am_mV mX10_lay 1 := ⟨⟨by decide, (t_in4 192 rfl rfl), ⟨by decide, by decide, by decide +kernel⟩, (t_in1 10 rfl rfl)⟩, (t_in4 190 rfl rfl), (t_in4 191 rfl rfl)⟩
set_option maxRecDepth 4000 in
theorem hX10_draw : am_mV mX10_draw 1 := ⟨⟨by decide, (t_in4 211 rfl rfl), ⟨by decide, by decide, by decide +kernel⟩, (t_in1 10 rfl rfl)⟩, (t_in4 209 rfl rfl), (t_in4 210 rfl rfl)⟩
set_option maxRecDepth 4000 in
theorem hX10_has : am_mV mX10_has 2 := ⟨⟨by decide, (t_in4 216 rfl rfl), ⟨by decide, by decide, by decide +kernel⟩, (t_in1 10 rfl rfl)⟩, (t_in4 214 rfl rfl), (t_in4 215 rfl rfl)⟩
set_option maxRecDepth 4000 in
theorem hX10_likesMore : am_mV mX10_likesMore 2 := ⟨⟨by decide, (t_in4 232 rfl rfl), ⟨by decide, by decide, by decide +kernel⟩, (t_in1 10 rfl rfl)⟩, (t_in4 231 rfl rfl), (t_in0 41 rfl rfl)⟩
set_option maxRecDepth 4000 in
theorem hX10_isWanted : am_mV mX10_isWanted 3 := ⟨⟨by decide, (t_in4 228 rfl rfl), ⟨by decide, by decide, by decide +kernel⟩, (t_in1 10 rfl rfl)⟩, (t_in4 227 rfl rfl), (t_in0 40 rfl rfl)⟩
set_option maxRecDepth 4000 in
theorem hX10_goRing : am_mV mX10_goRing 3 := ⟨⟨by decide, (t_in4 236 rfl rfl), ⟨by decide, by decide, by decide +kernel⟩, (t_in1 10 rfl rfl)⟩, (t_in4 235 rfl rfl), (t_in0 42 rfl rfl)⟩
set_option maxRecDepth 4000 in
theorem hX10_workOf : am_mV mX10_workOf 0 := ⟨⟨by decide, (t_in5 32 rfl rfl), ⟨by decide, by decide, by decide +kernel⟩, (t_in1 10 rfl rfl)⟩, (t_in5 31 rfl rfl), (t_in0 48 rfl rfl)⟩
set_option maxRecDepth 4000 in
theorem hX10_gladnessOf : am_mV mX10_gladnessOf 0 := ⟨⟨by decide, (t_in5 0 rfl rfl), ⟨by decide, by decide, by decide +kernel⟩, (t_in1 10 rfl rfl)⟩, (t_in4 239 rfl rfl), (t_in0 43 rfl rfl)⟩
set_option maxRecDepth 4000 in
theorem hX10_trade : am_mV mX10_trade 3 := ⟨⟨by decide, (t_in4 220 rfl rfl), ⟨by decide, by decide, by decide +kernel⟩, (t_in1 10 rfl rfl)⟩, (t_in4 218 rfl rfl), (t_in4 219 rfl rfl)⟩
set_option maxRecDepth 4000 in
theorem hX10_takeRing : am_mV mX10_takeRing 2 := ⟨⟨by decide, (t_in5 16 rfl rfl), ⟨by decide, by decide, by decide +kernel⟩, (t_in1 10 rfl rfl)⟩, (t_in5 15 rfl rfl), (t_in0 46 rfl rfl)⟩
set_option maxRecDepth 4000 in
theorem hX10_nextWanted : am_mV mX10_nextWanted 2 := ⟨⟨by decide, (t_in5 12 rfl rfl), ⟨by decide, by decide, by decide +kernel⟩, (t_in1 10 rfl rfl)⟩, (t_in5 11 rfl rfl), (t_in0 45 rfl rfl)⟩
set_option maxRecDepth 4000 in
theorem hX10_settleBy : am_mV mX10_settleBy 1 := ⟨⟨by decide, (t_in5 8 rfl rfl), ⟨by decide, by decide, by decide +kernel⟩, (t_in1 10 rfl rfl)⟩, (t_in5 7 rfl rfl), (t_in0 44 rfl rfl)⟩
set_option maxRecDepth 4000 in
theorem hX10_settle : am_mV mX10_settle 0 := ⟨⟨by decide, (t_in5 4 rfl rfl), ⟨by decide, by decide, by decide +kernel⟩, (t_in1 10 rfl rfl)⟩, (t_in5 2 rfl rfl), (t_in5 3 rfl rfl)⟩
set_option maxRecDepth 4000 in
theorem hX10_dawn : am_mV mX10_dawn 0 := ⟨⟨by decide, (t_in5 20 rfl rfl), ⟨by decide, by decide, by decide +kernel⟩, (t_in1 10 rfl rfl)⟩, (t_in5 18 rfl rfl), (t_in5 19 rfl rfl)⟩
set_option maxRecDepth 4000 in
theorem hX10_today : am_mV mX10_today 1 := ⟨⟨by decide, (t_in5 24 rfl rfl), ⟨by decide, by decide, by decide +kernel⟩, (t_in1 10 rfl rfl)⟩, (t_in5 22 rfl rfl), (t_in5 23 rfl rfl)⟩
set_option maxRecDepth 4000 in
theorem hX10_ends : am_mV mX10_ends 1 := ⟨⟨by decide, (t_in5 36 rfl rfl), ⟨by decide, by decide, by decide +kernel⟩, (t_in1 10 rfl rfl)⟩, (t_in5 34 rfl rfl), (t_in5 35 rfl rfl)⟩
set_option maxRecDepth 4000 in
theorem hX10_hint : am_mV mX10_hint 1 := ⟨⟨by decide, (t_in5 40 rfl rfl), ⟨by decide, by decide, by decide +kernel⟩, (t_in1 10 rfl rfl)⟩, (t_in5 38 rfl rfl), (t_in5 39 rfl rfl)⟩
set_option maxRecDepth 4000 in
theorem hX10_lawful : am_mV mX10_lawful 0 := ⟨⟨by decide, (t_in5 44 rfl rfl), ⟨by decide, by decide, by decide +kernel⟩, (t_in1 10 rfl rfl)⟩, (t_in5 42 rfl rfl), (t_in5 43 rfl rfl)⟩
set_option maxRecDepth 4000 in
theorem hX10_divisor : am_mS mX10_divisor 2 := ⟨⟨by decide, (t_in5 54 rfl rfl), ⟨by decide, by decide, by decide +kernel⟩, (t_in1 10 rfl rfl)⟩, (t_in5 53 rfl rfl)⟩
set_option maxRecDepth 4000 in
theorem hX10_isRingNumber : am_mS mX10_isRingNumber 1 := ⟨⟨by decide, (t_in5 51 rfl rfl), ⟨by decide, by decide, by decide +kernel⟩, (t_in1 10 rfl rfl)⟩, (t_in5 50 rfl rfl)⟩
set_option maxRecDepth 4000 in
theorem hX10_mean : am_mV mX10_mean 3 := ⟨⟨by decide, (t_in5 48 rfl rfl), ⟨by decide, by decide, by decide +kernel⟩, (t_in1 10 rfl rfl)⟩, (t_in5 46 rfl rfl), (t_in5 47 rfl rfl)⟩
set_option maxRecDepth 4000 in
theorem hX10_odds : am_mV mX10_odds 4 := ⟨⟨by decide, (t_in5 58 rfl rfl), ⟨by decide, by decide, by decide +kernel⟩, (t_in1 10 rfl rfl)⟩, (t_in5 56 rfl rfl), (t_in5 57 rfl rfl)⟩
set_option maxRecDepth 4000 in
theorem hX10_isLawfulBehind : am_mV mX10_isLawfulBehind 0 := ⟨⟨by decide, (t_in5 66 rfl rfl), ⟨by decide, by decide, by decide +kernel⟩, (t_in1 10 rfl rfl)⟩, (t_in5 65 rfl rfl), (t_in0 49 rfl rfl)⟩
set_option maxRecDepth 4000 in
theorem hX10_week : am_mV mX10_week 1 := ⟨⟨by decide, (t_in5 62 rfl rfl), ⟨by decide, by decide, by decide +kernel⟩, (t_in1 10 rfl rfl)⟩, (t_in5 60 rfl rfl), (t_in5 61 rfl rfl)⟩
set_option maxRecDepth 4000 in
theorem hX10_oftenOf : am_mV mX10_oftenOf 2 := ⟨⟨by decide, (t_in5 74 rfl rfl), ⟨by decide, by decide, by decide +kernel⟩, (t_in1 10 rfl rfl)⟩, (t_in5 73 rfl rfl), (t_in0 50 rfl rfl)⟩
set_option maxRecDepth 4000 in
theorem hX10_often : am_mV mX10_often 2 := ⟨⟨by decide, (t_in5 70 rfl rfl), ⟨by decide, by decide, by decide +kernel⟩, (t_in1 10 rfl rfl)⟩, (t_in5 68 rfl rfl), (t_in5 69 rfl rfl)⟩
set_option maxRecDepth 4000 in
theorem hX10_tailDown : am_mV mX10_tailDown 0 := ⟨⟨by decide, (t_in5 86 rfl rfl), ⟨by decide, by decide, by decide +kernel⟩, (t_in1 10 rfl rfl)⟩, (t_in5 85 rfl rfl), (t_in0 52 rfl rfl)⟩
set_option maxRecDepth 4000 in
theorem hX10_tailUp : am_mV mX10_tailUp 2 := ⟨⟨by decide, (t_in5 82 rfl rfl), ⟨by decide, by decide, by decide +kernel⟩, (t_in1 10 rfl rfl)⟩, (t_in5 81 rfl rfl), (t_in0 51 rfl rfl)⟩
set_option maxRecDepth 4000 in
theorem hX10_tail : am_mV mX10_tail 3 := ⟨⟨by decide, (t_in5 78 rfl rfl), ⟨by decide, by decide, by decide +kernel⟩, (t_in1 10 rfl rfl)⟩, (t_in5 76 rfl rfl), (t_in5 77 rfl rfl)⟩
set_option maxRecDepth 4000 in
theorem hX10_named : am_mV mX10_named 1 := ⟨⟨by decide, (t_in5 90 rfl rfl), ⟨by decide, by decide, by decide +kernel⟩, (t_in1 10 rfl rfl)⟩, (t_in5 88 rfl rfl), (t_in5 89 rfl rfl)⟩
set_option maxRecDepth 4000 in
theorem hX10_copy : am_mS mX10_copy 4 := ⟨⟨by decide, (t_in5 98 rfl rfl), ⟨by decide, by decide, by decide +kernel⟩, (t_in1 10 rfl rfl)⟩, (t_in5 97 rfl rfl)⟩
set_option maxRecDepth 4000 in
theorem hX10_keep : am_mV mX10_keep 1 := ⟨⟨by decide, (t_in5 95 rfl rfl), ⟨by decide, by decide, by decide +kernel⟩, (t_in1 10 rfl rfl)⟩, (t_in5 93 rfl rfl), (t_in5 94 rfl rfl)⟩
set_option maxRecDepth 4000 in
theorem hX10_back : am_mV mX10_back 1 := ⟨⟨by decide, (t_in5 102 rfl rfl), ⟨by decide, by decide, by decide +kernel⟩, (t_in1 10 rfl rfl)⟩, (t_in5 100 rfl rfl), (t_in5 101 rfl rfl)⟩
set_option maxRecDepth 4000 in
theorem hX10_count : am_mV mX10_count 1 := ⟨⟨by decide, (t_in5 106 rfl rfl), ⟨by decide, by decide, by decide +kernel⟩, (t_in1 10 rfl rfl)⟩, (t_in5 104 rfl rfl), (t_in5 105 rfl rfl)⟩
set_option maxRecDepth 4000 in
theorem hJ6_numberOfTrailingZeros_0f7a4 : am_mS mJ6_numberOfTrailingZeros_0f7a4 1 := ⟨⟨by decide, (t_in3 92 rfl rfl), ⟨by decide, by decide, by decide +kernel⟩, (t_in1 16 rfl rfl)⟩, (t_in3 91 rfl rfl)⟩
set_option maxRecDepth 4000 in
theorem hJ6_bitCount_0f7a4 : am_mS mJ6_bitCount_0f7a4 1 := ⟨⟨by decide, (t_in3 61 rfl rfl), ⟨by decide, by decide, by decide +kernel⟩, (t_in1 16 rfl rfl)⟩, (t_in3 60 rfl rfl)⟩
set_option maxRecDepth 4000 in
theorem hJ13_numberOfTrailingZeros_95d88 : am_mS mJ13_numberOfTrailingZeros_95d88 1 := ⟨⟨by decide, (t_in3 89 rfl rfl), ⟨by decide, by decide, by decide +kernel⟩, (t_in1 17 rfl rfl)⟩, (t_in3 88 rfl rfl)⟩
set_option maxRecDepth 4000 in
theorem hJ0_length_8abf5 : am_mV mJ0_length_8abf5 0 := ⟨⟨by decide, (t_in2 100 rfl rfl), ⟨by decide, by decide, by decide +kernel⟩, (t_in1 11 rfl rfl)⟩, (t_in2 98 rfl rfl), (t_in2 99 rfl rfl)⟩
set_option maxRecDepth 4000 in
theorem hJ0_charAt_5068e : am_mV mJ0_charAt_5068e 1 := ⟨⟨by decide, (t_in2 110 rfl rfl), ⟨by decide, by decide, by decide +kernel⟩, (t_in1 11 rfl rfl)⟩, (t_in2 108 rfl rfl), (t_in2 109 rfl rfl)⟩
set_option maxRecDepth 4000 in
theorem hJ0_coder_7d493 : am_mV mJ0_coder_7d493 0 := ⟨⟨by decide, (t_in2 104 rfl rfl), ⟨by decide, by decide, by decide +kernel⟩, (t_in1 11 rfl rfl)⟩, (t_in2 102 rfl rfl), (t_in2 103 rfl rfl)⟩
set_option maxRecDepth 4000 in
theorem hJ0_isLatin1_aae02 : am_mV mJ0_isLatin1_aae02 0 := ⟨⟨by decide, (t_in2 114 rfl rfl), ⟨by decide, by decide, by decide +kernel⟩, (t_in1 11 rfl rfl)⟩, (t_in2 112 rfl rfl), (t_in2 113 rfl rfl)⟩
set_option maxRecDepth 4000 in
theorem hJ0_checkIndex_df160 : am_mS mJ0_checkIndex_df160 2 := ⟨⟨by decide, (t_in2 120 rfl rfl), ⟨by decide, by decide, by decide +kernel⟩, (t_in1 11 rfl rfl)⟩, (t_in2 119 rfl rfl)⟩
set_option maxRecDepth 4000 in
theorem hJ1_charAt_3b067 : am_mS mJ1_charAt_3b067 2 := ⟨⟨by decide, (t_in2 117 rfl rfl), ⟨by decide, by decide, by decide +kernel⟩, (t_in1 12 rfl rfl)⟩, (t_in2 116 rfl rfl)⟩
set_option maxRecDepth 4000 in
theorem hJ2_getChar_3b067 : am_mS mJ2_getChar_3b067 2 := ⟨⟨by decide, (t_in2 138 rfl rfl), ⟨by decide, by decide, by decide +kernel⟩, (t_in1 14 rfl rfl)⟩, (t_in2 137 rfl rfl)⟩
set_option maxRecDepth 4000 in
theorem hJ2_length_9d52b : am_mS mJ2_length_9d52b 1 := ⟨⟨by decide, (t_in2 134 rfl rfl), ⟨by decide, by decide, by decide +kernel⟩, (t_in1 14 rfl rfl)⟩, (t_in2 133 rfl rfl)⟩
set_option maxRecDepth 4000 in
theorem hJ2_charAt_3b067 : am_mS mJ2_charAt_3b067 2 := ⟨⟨by decide, (t_in2 128 rfl rfl), ⟨by decide, by decide, by decide +kernel⟩, (t_in1 14 rfl rfl)⟩, (t_in2 127 rfl rfl)⟩
set_option maxRecDepth 4000 in
theorem hJ2_checkIndex_2214a : am_mS mJ2_checkIndex_2214a 2 := ⟨⟨by decide, (t_in2 131 rfl rfl), ⟨by decide, by decide, by decide +kernel⟩, (t_in1 14 rfl rfl)⟩, (t_in2 130 rfl rfl)⟩
set_option maxRecDepth 4000 in
theorem hJ3_checkIndex_8e157 : am_mS mJ3_checkIndex_8e157 3 := ⟨⟨by decide, (t_in2 125 rfl rfl), ⟨by decide, by decide, by decide +kernel⟩, (t_in1 13 rfl rfl)⟩, (t_in2 124 rfl rfl)⟩
set_option maxRecDepth 4000 in
theorem flX9_10 : am_fl RX9 10 7 0 := ⟨by decide, by decide, (t_in2 22 rfl rfl)⟩
set_option maxRecDepth 4000 in
theorem flX9_19 : am_fl RX9 19 7 1 := ⟨by decide, by decide, (t_in2 23 rfl rfl)⟩
set_option maxRecDepth 4000 in
theorem flX9_26 : am_fl RX9 26 7 2 := ⟨by decide, by decide, (t_in2 24 rfl rfl)⟩
set_option maxRecDepth 4000 in
theorem flX9_30 : am_fl RX9 30 7 3 := ⟨by decide, by decide, (t_in2 25 rfl rfl)⟩
set_option maxRecDepth 4000 in
theorem flX9_34 : am_fl RX9 34 7 4 := ⟨by decide, by decide, (t_in2 26 rfl rfl)⟩
set_option maxRecDepth 4000 in
theorem flX9_43 : am_fl RX9 43 7 5 := ⟨by decide, by decide, (t_in2 27 rfl rfl)⟩
set_option maxRecDepth 4000 in
theorem flX9_52 : am_fl RX9 52 7 6 := ⟨by decide, by decide, (t_in2 28 rfl rfl)⟩
set_option maxRecDepth 4000 in
theorem flX9_61 : am_fl RX9 61 7 7 := ⟨by decide, by decide, (t_in2 29 rfl rfl)⟩
set_option maxRecDepth 4000 in
theorem flX9_68 : am_fl RX9 68 7 8 := ⟨by decide, by decide, (t_in2 30 rfl rfl)⟩
set_option maxRecDepth 4000 in
theorem flX9_72 : am_fl RX9 72 7 9 := ⟨by decide, by decide, (t_in2 31 rfl rfl)⟩
set_option maxRecDepth 4000 in
theorem flX9_80 : am_fl RX9 80 1 5 := ⟨by decide, by decide, (t_in1 75 rfl rfl)⟩
set_option maxRecDepth 4000 in
theorem flX9_87 : am_fl RX9 87 0 2 := ⟨by decide, by decide, (t_in1 100 rfl rfl)⟩
set_option maxRecDepth 4000 in
theorem flX9_93 : am_fl RX9 93 4 1 := ⟨by decide, by decide, (t_in1 36 rfl rfl)⟩
set_option maxRecDepth 4000 in
theorem flX9_102 : am_fl RX9 102 1 0 := ⟨by decide, by decide, (t_in1 68 rfl rfl)⟩
set_option maxRecDepth 4000 in
theorem flX9_109 : am_fl RX9 109 4 3 := ⟨by decide, by decide, (t_in1 40 rfl rfl)⟩
set_option maxRecDepth 4000 in
theorem flX9_112 : am_fl RX9 112 4 2 := ⟨by decide, by decide, (t_in1 38 rfl rfl)⟩
set_option maxRecDepth 4000 in
theorem fsX9_140 : Cond.fieldLink RX9 140 "DutiesHat" "FACTORIALS" "[I" ∈ am_TB := (t_in2 211 rfl rfl)
set_option maxRecDepth 4000 in
theorem flX9_160 : am_fl RX9 160 0 0 := ⟨by decide, by decide, (t_in1 96 rfl rfl)⟩
set_option maxRecDepth 4000 in
theorem flX9_164 : am_fl RX9 164 0 1 := ⟨by decide, by decide, (t_in1 98 rfl rfl)⟩
set_option maxRecDepth 4000 in
theorem flX9_167 : am_fl RX9 167 1 1 := ⟨by decide, by decide, (t_in1 70 rfl rfl)⟩
set_option maxRecDepth 4000 in
theorem flX9_186 : am_fl RX9 186 0 3 := ⟨by decide, by decide, (t_in1 102 rfl rfl)⟩
set_option maxRecDepth 4000 in
theorem flX9_201 : am_fl RX9 201 5 5 := ⟨by decide, by decide, (t_in1 188 rfl rfl)⟩
set_option maxRecDepth 4000 in
theorem flX9_204 : am_fl RX9 204 5 6 := ⟨by decide, by decide, (t_in1 190 rfl rfl)⟩
set_option maxRecDepth 4000 in
theorem flX9_207 : am_fl RX9 207 5 7 := ⟨by decide, by decide, (t_in1 192 rfl rfl)⟩
set_option maxRecDepth 4000 in
theorem flX9_218 : am_fl RX9 218 6 4 := ⟨by decide, by decide, (t_in1 152 rfl rfl)⟩
set_option maxRecDepth 4000 in
theorem flX9_227 : am_fl RX9 227 6 5 := ⟨by decide, by decide, (t_in1 154 rfl rfl)⟩
set_option maxRecDepth 4000 in
theorem flX9_230 : am_fl RX9 230 6 6 := ⟨by decide, by decide, (t_in1 156 rfl rfl)⟩
set_option maxRecDepth 4000 in
theorem flX9_237 : am_fl RX9 237 6 7 := ⟨by decide, by decide, (t_in1 158 rfl rfl)⟩
set_option maxRecDepth 4000 in
theorem flX9_267 : am_fl RX9 267 6 3 := ⟨by decide, by decide, (t_in1 150 rfl rfl)⟩
set_option maxRecDepth 4000 in
theorem flX1_9 : am_fl RX1 9 0 1 := ⟨by decide, by decide, (t_in1 97 rfl rfl)⟩
set_option maxRecDepth 4000 in
theorem flX1_15 : am_fl RX1 15 0 2 := ⟨by decide, by decide, (t_in1 99 rfl rfl)⟩
set_option maxRecDepth 4000 in
theorem flX1_18 : am_fl RX1 18 0 4 := ⟨by decide, by decide, (t_in1 103 rfl rfl)⟩
set_option maxRecDepth 4000 in
theorem flX1_21 : am_fl RX1 21 0 0 := ⟨by decide, by decide, (t_in1 95 rfl rfl)⟩
set_option maxRecDepth 4000 in
theorem flX1_25 : am_fl RX1 25 0 3 := ⟨by decide, by decide, (t_in1 101 rfl rfl)⟩
set_option maxRecDepth 4000 in
theorem flX2_9 : am_fl RX2 9 1 2 := ⟨by decide, by decide, (t_in1 71 rfl rfl)⟩
set_option maxRecDepth 4000 in
theorem flX2_15 : am_fl RX2 15 1 3 := ⟨by decide, by decide, (t_in1 72 rfl rfl)⟩
set_option maxRecDepth 4000 in
theorem flX2_18 : am_fl RX2 18 1 4 := ⟨by decide, by decide, (t_in1 73 rfl rfl)⟩
set_option maxRecDepth 4000 in
theorem flX2_21 : am_fl RX2 21 1 5 := ⟨by decide, by decide, (t_in1 74 rfl rfl)⟩
set_option maxRecDepth 4000 in
theorem flX2_24 : am_fl RX2 24 1 0 := ⟨by decide, by decide, (t_in1 67 rfl rfl)⟩
set_option maxRecDepth 4000 in
theorem flX2_28 : am_fl RX2 28 1 1 := ⟨by decide, by decide, (t_in1 69 rfl rfl)⟩
set_option maxRecDepth 4000 in
theorem flX4_9 : am_fl RX4 9 2 1 := ⟨by decide, by decide, (t_in1 218 rfl rfl)⟩
set_option maxRecDepth 4000 in
theorem flX4_15 : am_fl RX4 15 2 2 := ⟨by decide, by decide, (t_in1 219 rfl rfl)⟩
set_option maxRecDepth 4000 in
theorem flX4_18 : am_fl RX4 18 2 3 := ⟨by decide, by decide, (t_in1 220 rfl rfl)⟩
set_option maxRecDepth 4000 in
theorem flX4_21 : am_fl RX4 21 2 4 := ⟨by decide, by decide, (t_in1 221 rfl rfl)⟩
set_option maxRecDepth 4000 in
theorem flX4_24 : am_fl RX4 24 2 5 := ⟨by decide, by decide, (t_in1 222 rfl rfl)⟩
set_option maxRecDepth 4000 in
theorem flX4_27 : am_fl RX4 27 2 0 := ⟨by decide, by decide, (t_in1 217 rfl rfl)⟩
set_option maxRecDepth 4000 in
theorem flX4_31 : am_fl RX4 31 1 0 := ⟨by decide, by decide, (t_in1 63 rfl rfl)⟩
set_option maxRecDepth 4000 in
theorem flX5_9 : am_fl RX5 9 3 1 := ⟨by decide, by decide, (t_in1 125 rfl rfl)⟩
set_option maxRecDepth 4000 in
theorem flX5_15 : am_fl RX5 15 3 2 := ⟨by decide, by decide, (t_in1 126 rfl rfl)⟩
set_option maxRecDepth 4000 in
theorem flX5_18 : am_fl RX5 18 3 0 := ⟨by decide, by decide, (t_in1 122 rfl rfl)⟩
set_option maxRecDepth 4000 in
theorem flX5_22 : am_fl RX5 22 1 0 := ⟨by decide, by decide, (t_in1 64 rfl rfl)⟩
set_option maxRecDepth 4000 in
theorem flX5_46 : am_fl RX5 46 3 3 := ⟨by decide, by decide, (t_in1 128 rfl rfl)⟩
set_option maxRecDepth 4000 in
theorem flX6_9 : am_fl RX6 9 4 0 := ⟨by decide, by decide, (t_in1 34 rfl rfl)⟩
set_option maxRecDepth 4000 in
theorem flX6_15 : am_fl RX6 15 4 2 := ⟨by decide, by decide, (t_in1 37 rfl rfl)⟩
set_option maxRecDepth 4000 in
theorem flX6_18 : am_fl RX6 18 4 1 := ⟨by decide, by decide, (t_in1 35 rfl rfl)⟩
set_option maxRecDepth 4000 in
theorem flX6_22 : am_fl RX6 22 4 5 := ⟨by decide, by decide, (t_in1 42 rfl rfl)⟩
set_option maxRecDepth 4000 in
theorem flX6_25 : am_fl RX6 25 4 3 := ⟨by decide, by decide, (t_in1 39 rfl rfl)⟩
set_option maxRecDepth 4000 in
theorem flX6_32 : am_fl RX6 32 4 4 := ⟨by decide, by decide, (t_in1 41 rfl rfl)⟩
set_option maxRecDepth 4000 in
theorem flX7_9 : am_fl RX7 9 5 1 := ⟨by decide, by decide, (t_in1 183 rfl rfl)⟩
set_option maxRecDepth 4000 in
theorem flX7_15 : am_fl RX7 15 5 2 := ⟨by decide, by decide, (t_in1 184 rfl rfl)⟩
set_option maxRecDepth 4000 in
theorem flX7_18 : am_fl RX7 18 5 3 := ⟨by decide, by decide, (t_in1 185 rfl rfl)⟩
set_option maxRecDepth 4000 in
theorem flX7_22 : am_fl RX7 22 5 4 := ⟨by decide, by decide, (t_in1 186 rfl rfl)⟩
set_option maxRecDepth 4000 in
theorem flX7_25 : am_fl RX7 25 5 0 := ⟨by decide, by decide, (t_in1 182 rfl rfl)⟩
set_option maxRecDepth 4000 in
theorem flX7_29 : am_fl RX7 29 5 5 := ⟨by decide, by decide, (t_in1 187 rfl rfl)⟩
set_option maxRecDepth 4000 in
theorem flX7_33 : am_fl RX7 33 5 6 := ⟨by decide, by decide, (t_in1 189 rfl rfl)⟩
set_option maxRecDepth 4000 in
theorem flX7_36 : am_fl RX7 36 5 7 := ⟨by decide, by decide, (t_in1 191 rfl rfl)⟩
set_option maxRecDepth 4000 in
theorem flX7_39 : am_fl RX7 39 3 0 := ⟨by decide, by decide, (t_in1 124 rfl rfl)⟩
set_option maxRecDepth 4000 in
theorem flX7_45 : am_fl RX7 45 1 0 := ⟨by decide, by decide, (t_in1 66 rfl rfl)⟩
set_option maxRecDepth 4000 in
theorem flX7_81 : am_fl RX7 81 3 3 := ⟨by decide, by decide, (t_in1 127 rfl rfl)⟩
set_option maxRecDepth 4000 in
theorem flX8_9 : am_fl RX8 9 6 2 := ⟨by decide, by decide, (t_in1 148 rfl rfl)⟩
set_option maxRecDepth 4000 in
theorem flX8_15 : am_fl RX8 15 6 7 := ⟨by decide, by decide, (t_in1 157 rfl rfl)⟩
set_option maxRecDepth 4000 in
theorem flX8_18 : am_fl RX8 18 6 0 := ⟨by decide, by decide, (t_in1 146 rfl rfl)⟩
set_option maxRecDepth 4000 in
theorem flX8_22 : am_fl RX8 22 6 1 := ⟨by decide, by decide, (t_in1 147 rfl rfl)⟩
set_option maxRecDepth 4000 in
theorem flX8_26 : am_fl RX8 26 6 4 := ⟨by decide, by decide, (t_in1 151 rfl rfl)⟩
set_option maxRecDepth 4000 in
theorem flX8_29 : am_fl RX8 29 6 5 := ⟨by decide, by decide, (t_in1 153 rfl rfl)⟩
set_option maxRecDepth 4000 in
theorem flX8_32 : am_fl RX8 32 6 6 := ⟨by decide, by decide, (t_in1 155 rfl rfl)⟩
set_option maxRecDepth 4000 in
theorem flX8_35 : am_fl RX8 35 3 0 := ⟨by decide, by decide, (t_in1 123 rfl rfl)⟩
set_option maxRecDepth 4000 in
theorem flX8_41 : am_fl RX8 41 1 0 := ⟨by decide, by decide, (t_in1 65 rfl rfl)⟩
set_option maxRecDepth 4000 in
theorem flX8_67 : am_fl RX8 67 6 3 := ⟨by decide, by decide, (t_in1 149 rfl rfl)⟩
set_option maxRecDepth 4000 in
theorem flX10_7 : am_fl RX10 7 8 0 := ⟨by decide, by decide, (t_in4 10 rfl rfl)⟩
set_option maxRecDepth 4000 in
theorem flX10_13 : am_fl RX10 13 8 1 := ⟨by decide, by decide, (t_in4 11 rfl rfl)⟩
set_option maxRecDepth 4000 in
theorem flX10_16 : am_fl RX10 16 8 2 := ⟨by decide, by decide, (t_in4 12 rfl rfl)⟩
set_option maxRecDepth 4000 in
theorem flX10_20 : am_fl RX10 20 8 3 := ⟨by decide, by decide, (t_in4 13 rfl rfl)⟩
set_option maxRecDepth 4000 in
theorem flX10_23 : am_fl RX10 23 8 4 := ⟨by decide, by decide, (t_in4 14 rfl rfl)⟩
set_option maxRecDepth 4000 in
theorem flX10_26 : am_fl RX10 26 8 5 := ⟨by decide, by decide, (t_in4 15 rfl rfl)⟩
set_option maxRecDepth 4000 in
theorem flX10_29 : am_fl RX10 29 8 7 := ⟨by decide, by decide, (t_in4 17 rfl rfl)⟩
set_option maxRecDepth 4000 in
theorem flX10_32 : am_fl RX10 32 8 16 := ⟨by decide, by decide, (t_in4 26 rfl rfl)⟩
set_option maxRecDepth 4000 in
theorem flX10_35 : am_fl RX10 35 8 17 := ⟨by decide, by decide, (t_in4 27 rfl rfl)⟩
set_option maxRecDepth 4000 in
theorem flX10_38 : am_fl RX10 38 8 18 := ⟨by decide, by decide, (t_in4 28 rfl rfl)⟩
set_option maxRecDepth 4000 in
theorem flX10_41 : am_fl RX10 41 8 19 := ⟨by decide, by decide, (t_in4 29 rfl rfl)⟩
set_option maxRecDepth 4000 in
theorem flX10_45 : am_fl RX10 45 8 20 := ⟨by decide, by decide, (t_in4 30 rfl rfl)⟩
set_option maxRecDepth 4000 in
theorem flX10_48 : am_fl RX10 48 8 21 := ⟨by decide, by decide, (t_in4 31 rfl rfl)⟩
set_option maxRecDepth 4000 in
theorem flX10_51 : am_fl RX10 51 8 22 := ⟨by decide, by decide, (t_in4 32 rfl rfl)⟩
set_option maxRecDepth 4000 in
theorem flX10_54 : am_fl RX10 54 8 23 := ⟨by decide, by decide, (t_in4 33 rfl rfl)⟩
set_option maxRecDepth 4000 in
theorem flX10_57 : am_fl RX10 57 8 24 := ⟨by decide, by decide, (t_in4 34 rfl rfl)⟩
set_option maxRecDepth 4000 in
theorem flX10_60 : am_fl RX10 60 8 25 := ⟨by decide, by decide, (t_in4 35 rfl rfl)⟩
set_option maxRecDepth 4000 in
theorem flX10_73 : am_fl RX10 73 8 6 := ⟨by decide, by decide, (t_in4 16 rfl rfl)⟩
set_option maxRecDepth 4000 in
theorem flX10_78 : am_fl RX10 78 8 8 := ⟨by decide, by decide, (t_in4 18 rfl rfl)⟩
set_option maxRecDepth 4000 in
theorem flX10_81 : am_fl RX10 81 8 9 := ⟨by decide, by decide, (t_in4 19 rfl rfl)⟩
set_option maxRecDepth 4000 in
theorem flX10_84 : am_fl RX10 84 8 11 := ⟨by decide, by decide, (t_in4 21 rfl rfl)⟩
set_option maxRecDepth 4000 in
theorem flX10_87 : am_fl RX10 87 8 12 := ⟨by decide, by decide, (t_in4 22 rfl rfl)⟩
set_option maxRecDepth 4000 in
theorem flX10_92 : am_fl RX10 92 8 10 := ⟨by decide, by decide, (t_in4 20 rfl rfl)⟩
set_option maxRecDepth 4000 in
theorem flX10_106 : am_fl RX10 106 8 13 := ⟨by decide, by decide, (t_in4 23 rfl rfl)⟩
set_option maxRecDepth 4000 in
theorem flX10_116 : am_fl RX10 116 8 15 := ⟨by decide, by decide, (t_in4 25 rfl rfl)⟩
set_option maxRecDepth 4000 in
theorem flX10_150 : am_fl RX10 150 8 14 := ⟨by decide, by decide, (t_in4 24 rfl rfl)⟩
set_option maxRecDepth 4000 in
theorem flX10_204 : am_fl RX10 204 8 26 := ⟨by decide, by decide, (t_in4 36 rfl rfl)⟩
set_option maxRecDepth 4000 in
theorem flX10_207 : am_fl RX10 207 8 27 := ⟨by decide, by decide, (t_in4 37 rfl rfl)⟩
set_option maxRecDepth 4000 in
theorem flX10_210 : am_fl RX10 210 8 28 := ⟨by decide, by decide, (t_in4 38 rfl rfl)⟩
set_option maxRecDepth 4000 in
theorem fsJ0_9 : Cond.fieldLink RJ0 9 "java/lang/String" "value" "[B" ∈ am_TB := (t_in5 108 rfl rfl)
set_option maxRecDepth 4000 in
theorem fsJ0_15 : Cond.fieldLink RJ0 15 "java/lang/String" "coder" "B" ∈ am_TB := (t_in5 109 rfl rfl)
set_option maxRecDepth 4000 in
theorem fsJ0_38 : Cond.fieldLink RJ0 38 "java/lang/String" "COMPACT_STRINGS" "Z" ∈ am_TB := (t_in2 105 rfl rfl)
set_option maxRecDepth 4000 in
theorem fsJ0_1053 : Cond.fieldLink RJ0 1053 "jdk/internal/util/Preconditions" "SIOOBE_FORMATTER" "Ljava/util/function/BiFunction;" ∈ am_TB := (t_in2 121 rfl rfl)
set_option maxRecDepth 4000 in
theorem fsJ2_44 : Cond.fieldLink RJ2 44 "java/lang/StringUTF16" "$assertionsDisabled" "Z" ∈ am_TB := (t_in2 139 rfl rfl)
set_option maxRecDepth 4000 in
theorem fsJ2_59 : Cond.fieldLink RJ2 59 "java/lang/StringUTF16" "HI_BYTE_SHIFT" "I" ∈ am_TB := (t_in2 141 rfl rfl)
set_option maxRecDepth 4000 in
theorem fsJ2_63 : Cond.fieldLink RJ2 63 "java/lang/StringUTF16" "LO_BYTE_SHIFT" "I" ∈ am_TB := (t_in2 143 rfl rfl)
set_option maxRecDepth 4000 in
theorem lkX9_1 : Cond.methodLink RX9 1 objectInit ∈ am_TB := (t_in1 25 rfl rfl)
set_option maxRecDepth 4000 in
theorem lkX9_40 : Cond.methodLink RX9 40 yX5_init ∈ am_TB := (t_in1 118 rfl rfl)
set_option maxRecDepth 4000 in
theorem lkX9_49 : Cond.methodLink RX9 49 yX8_init ∈ am_TB := (t_in1 142 rfl rfl)
set_option maxRecDepth 4000 in
theorem lkX9_58 : Cond.methodLink RX9 58 yX7_init ∈ am_TB := (t_in1 178 rfl rfl)
set_option maxRecDepth 4000 in
theorem lkX9_67 : Cond.methodLink RX9 67 yX4_init ∈ am_TB := (t_in1 213 rfl rfl)
set_option maxRecDepth 4000 in
theorem lkX9_76 : Cond.methodLink RX9 76 yX2_open ∈ am_TB := (t_in1 236 rfl rfl)
set_option maxRecDepth 4000 in
theorem lkX9_83 : Cond.methodLink RX9 83 yX1_begin ∈ am_TB := (t_in2 0 rfl rfl)
set_option maxRecDepth 4000 in
theorem lkX9_90 : Cond.methodLink RX9 90 yX5_look ∈ am_TB := (t_in2 7 rfl rfl)
set_option maxRecDepth 4000 in
theorem lkX9_99 : Cond.methodLink RX9 99 yX6_add ∈ am_TB := (t_in2 58 rfl rfl)
set_option maxRecDepth 4000 in
theorem lkX9_105 : Cond.methodLink RX9 105 yX6_read ∈ am_TB := (t_in2 70 rfl rfl)
set_option maxRecDepth 4000 in
theorem lkX9_115 : Cond.methodLink RX9 115 yX2_obey ∈ am_TB := (t_in2 171 rfl rfl)
set_option maxRecDepth 4000 in
theorem lkX9_119 : Cond.methodLink RX9 119 yX9_yesterdayChanged ∈ am_TB := (t_in2 176 rfl rfl)
set_option maxRecDepth 4000 in
theorem lkX9_122 : Cond.methodLink RX9 122 yX9_isThere ∈ am_TB := (t_in2 184 rfl rfl)
set_option maxRecDepth 4000 in
theorem lkX9_126 : Cond.methodLink RX9 126 yX2_skillOf ∈ am_TB := (t_in2 188 rfl rfl)
set_option maxRecDepth 4000 in
theorem lkX9_130 : Cond.methodLink RX9 130 yX2_likingOf ∈ am_TB := (t_in2 189 rfl rfl)
set_option maxRecDepth 4000 in
theorem lkX9_133 : Cond.methodLink RX9 133 yX5_mayDo ∈ am_TB := (t_in2 193 rfl rfl)
set_option maxRecDepth 4000 in
theorem lkX9_137 : Cond.methodLink RX9 137 yX2_isA ∈ am_TB := (t_in2 201 rfl rfl)
set_option maxRecDepth 4000 in
theorem lkX9_143 : Cond.methodLink RX9 143 yX3_fill ∈ am_TB := (t_in2 213 rfl rfl)
set_option maxRecDepth 4000 in
theorem lkX9_149 : Cond.methodLink RX9 149 yX5_allMayDo ∈ am_TB := (t_in2 217 rfl rfl)
set_option maxRecDepth 4000 in
theorem lkX9_153 : Cond.methodLink RX9 153 yX1_give ∈ am_TB := (t_in2 222 rfl rfl)
set_option maxRecDepth 4000 in
theorem lkX9_156 : Cond.methodLink RX9 156 yX3_mix ∈ am_TB := (t_in2 230 rfl rfl)
set_option maxRecDepth 4000 in
theorem lkX9_170 : Cond.methodLink RX9 170 yX5_isWanted ∈ am_TB := (t_in3 2 rfl rfl)
set_option maxRecDepth 4000 in
theorem lkX9_174 : Cond.methodLink RX9 174 yX5_pass ∈ am_TB := (t_in3 11 rfl rfl)
set_option maxRecDepth 4000 in
theorem lkX9_178 : Cond.methodLink RX9 178 yX2_gladnessOf ∈ am_TB := (t_in3 14 rfl rfl)
set_option maxRecDepth 4000 in
theorem lkX9_182 : Cond.methodLink RX9 182 yX5_passAll ∈ am_TB := (t_in3 23 rfl rfl)
set_option maxRecDepth 4000 in
theorem lkX9_189 : Cond.methodLink RX9 189 yX1_end ∈ am_TB := (t_in3 48 rfl rfl)
set_option maxRecDepth 4000 in
theorem lkX9_192 : Cond.methodLink RX9 192 yX3_numberOf ∈ am_TB := (t_in3 56 rfl rfl)
set_option maxRecDepth 4000 in
theorem lkX9_195 : Cond.methodLink RX9 195 yX2_workOf ∈ am_TB := (t_in3 65 rfl rfl)
set_option maxRecDepth 4000 in
theorem lkX9_198 : Cond.methodLink RX9 198 yX7_from ∈ am_TB := (t_in3 74 rfl rfl)
set_option maxRecDepth 4000 in
theorem lkX9_210 : Cond.methodLink RX9 210 yX5_bestFor ∈ am_TB := (t_in3 111 rfl rfl)
set_option maxRecDepth 4000 in
theorem lkX9_214 : Cond.methodLink RX9 214 yX9_tallyOf ∈ am_TB := (t_in3 127 rfl rfl)
set_option maxRecDepth 4000 in
theorem lkX9_221 : Cond.methodLink RX9 221 yX9_isRing ∈ am_TB := (t_in3 150 rfl rfl)
set_option maxRecDepth 4000 in
theorem lkX9_224 : Cond.methodLink RX9 224 yX9_isPart ∈ am_TB := (t_in3 151 rfl rfl)
set_option maxRecDepth 4000 in
theorem lkX9_231 : Cond.methodLink RX9 231 yX0_lowest ∈ am_TB := (t_in3 154 rfl rfl)
set_option maxRecDepth 4000 in
theorem lkX9_240 : Cond.methodLink RX9 240 yX2_cell ∈ am_TB := (t_in3 161 rfl rfl)
set_option maxRecDepth 4000 in
theorem lkX9_243 : Cond.methodLink RX9 243 yX4_greatest ∈ am_TB := (t_in3 166 rfl rfl)
set_option maxRecDepth 4000 in
theorem lkX9_246 : Cond.methodLink RX9 246 yX1_timesOf ∈ am_TB := (t_in3 198 rfl rfl)
set_option maxRecDepth 4000 in
theorem lkX9_253 : Cond.methodLink RX9 253 yX0_waysOf ∈ am_TB := (t_in3 208 rfl rfl)
set_option maxRecDepth 4000 in
theorem lkX9_257 : Cond.methodLink RX9 257 yX0_power ∈ am_TB := (t_in3 214 rfl rfl)
set_option maxRecDepth 4000 in
theorem lkX9_263 : Cond.methodLink RX9 263 yX1_copy ∈ am_TB := (t_in3 224 rfl rfl)
set_option maxRecDepth 4000 in
theorem lkX9_270 : Cond.methodLink RX9 270 yX8_make ∈ am_TB := (t_in3 131 rfl rfl)
set_option maxRecDepth 4000 in
theorem lkX0_7 : Cond.methodLink RX0 7 yX0_power ∈ am_TB := (t_in3 211 rfl rfl)
set_option maxRecDepth 4000 in
theorem lkX1_3 : Cond.methodLink RX1 3 objectInit ∈ am_TB := (t_in1 94 rfl rfl)
set_option maxRecDepth 4000 in
theorem lkX1_29 : Cond.methodLink RX1 29 arraycopyName ∈ am_TB := (t_in2 4 rfl rfl)
set_option maxRecDepth 4000 in
theorem lkX2_3 : Cond.methodLink RX2 3 objectInit ∈ am_TB := (t_in1 62 rfl rfl)
set_option maxRecDepth 4000 in
theorem lkX2_31 : Cond.methodLink RX2 31 yX2_open ∈ am_TB := (t_in2 175 rfl rfl)
set_option maxRecDepth 4000 in
theorem lkX2_35 : Cond.methodLink RX2 35 yX2_cell ∈ am_TB := (t_in2 15 rfl rfl)
set_option maxRecDepth 4000 in
theorem lkX2_42 : Cond.methodLink RX2 42 yX2_skillOf ∈ am_TB := (t_in3 69 rfl rfl)
set_option maxRecDepth 4000 in
theorem lkX2_45 : Cond.methodLink RX2 45 yX2_likingOf ∈ am_TB := (t_in3 18 rfl rfl)
set_option maxRecDepth 4000 in
theorem lkX3_13 : Cond.methodLink RX3 13 yJ6_bitCount_0f7a4 ∈ am_TB := (t_in3 59 rfl rfl)
set_option maxRecDepth 4000 in
theorem lkX4_3 : Cond.methodLink RX4 3 objectInit ∈ am_TB := (t_in1 216 rfl rfl)
set_option maxRecDepth 4000 in
theorem lkX4_40 : Cond.methodLink RX4 40 yX4_layRows ∈ am_TB := (t_in3 171 rfl rfl)
set_option maxRecDepth 4000 in
theorem lkX4_44 : Cond.methodLink RX4 44 yX4_mayComeBehind ∈ am_TB := (t_in3 178 rfl rfl)
set_option maxRecDepth 4000 in
theorem lkX4_48 : Cond.methodLink RX4 48 yX4_addDay ∈ am_TB := (t_in3 183 rfl rfl)
set_option maxRecDepth 4000 in
theorem lkX4_51 : Cond.methodLink RX4 51 yJ9_max_7cf53 ∈ am_TB := (t_in3 191 rfl rfl)
set_option maxRecDepth 4000 in
theorem lkX4_57 : Cond.methodLink RX4 57 yX3_fill ∈ am_TB := (t_in3 175 rfl rfl)
set_option maxRecDepth 4000 in
theorem lkX4_63 : Cond.methodLink RX4 63 yX2_skillOf ∈ am_TB := (t_in3 176 rfl rfl)
set_option maxRecDepth 4000 in
theorem lkX4_66 : Cond.methodLink RX4 66 yX2_workOf ∈ am_TB := (t_in3 177 rfl rfl)
set_option maxRecDepth 4000 in
theorem lkX4_70 : Cond.methodLink RX4 70 yX4_bestAhead ∈ am_TB := (t_in3 187 rfl rfl)
set_option maxRecDepth 4000 in
theorem lkX4_73 : Cond.methodLink RX4 73 yX2_mayFollow ∈ am_TB := (t_in3 182 rfl rfl)
set_option maxRecDepth 4000 in
theorem lkX5_3 : Cond.methodLink RX5 3 objectInit ∈ am_TB := (t_in1 121 rfl rfl)
set_option maxRecDepth 4000 in
theorem lkX5_28 : Cond.methodLink RX5 28 yX2_skillOf ∈ am_TB := (t_in2 11 rfl rfl)
set_option maxRecDepth 4000 in
theorem lkX5_32 : Cond.methodLink RX5 32 yX2_mayFollow ∈ am_TB := (t_in2 18 rfl rfl)
set_option maxRecDepth 4000 in
theorem lkX5_36 : Cond.methodLink RX5 36 yX5_mayDo ∈ am_TB := (t_in2 221 rfl rfl)
set_option maxRecDepth 4000 in
theorem lkX5_39 : Cond.methodLink RX5 39 yX2_likingOf ∈ am_TB := (t_in3 10 rfl rfl)
set_option maxRecDepth 4000 in
theorem lkX5_42 : Cond.methodLink RX5 42 yX5_wants ∈ am_TB := (t_in3 6 rfl rfl)
set_option maxRecDepth 4000 in
theorem lkX5_49 : Cond.methodLink RX5 49 yX5_findThird ∈ am_TB := (t_in3 31 rfl rfl)
set_option maxRecDepth 4000 in
theorem lkX5_53 : Cond.methodLink RX5 53 yX5_note ∈ am_TB := (t_in3 35 rfl rfl)
set_option maxRecDepth 4000 in
theorem lkX5_57 : Cond.methodLink RX5 57 yX5_pass ∈ am_TB := (t_in3 43 rfl rfl)
set_option maxRecDepth 4000 in
theorem lkX5_61 : Cond.methodLink RX5 61 yX5_find ∈ am_TB := (t_in3 27 rfl rfl)
set_option maxRecDepth 4000 in
theorem lkX5_65 : Cond.methodLink RX5 65 yX5_passFound ∈ am_TB := (t_in3 39 rfl rfl)
set_option maxRecDepth 4000 in
theorem lkX5_69 : Cond.methodLink RX5 69 yX5_giverTo ∈ am_TB := (t_in3 115 rfl rfl)
set_option maxRecDepth 4000 in
theorem lkX5_72 : Cond.methodLink RX5 72 yX5_isBetter ∈ am_TB := (t_in3 119 rfl rfl)
set_option maxRecDepth 4000 in
theorem lkX6_3 : Cond.methodLink RX6 3 objectInit ∈ am_TB := (t_in1 33 rfl rfl)
set_option maxRecDepth 4000 in
theorem lkX6_28 : Cond.methodLink RX6 28 yX6_readLine ∈ am_TB := (t_in2 74 rfl rfl)
set_option maxRecDepth 4000 in
theorem lkX6_35 : Cond.methodLink RX6 35 yX6_nextToken ∈ am_TB := (t_in2 78 rfl rfl)
set_option maxRecDepth 4000 in
theorem lkX6_38 : Cond.methodLink RX6 38 yX6_verbHere ∈ am_TB := (t_in2 88 rfl rfl)
set_option maxRecDepth 4000 in
theorem lkX6_42 : Cond.methodLink RX6 42 yX6_numbersOf ∈ am_TB := (t_in2 153 rfl rfl)
set_option maxRecDepth 4000 in
theorem lkX6_46 : Cond.methodLink RX6 46 yX6_numberHere ∈ am_TB := (t_in2 156 rfl rfl)
set_option maxRecDepth 4000 in
theorem lkX6_49 : Cond.methodLink RX6 49 yX6_fits ∈ am_TB := (t_in2 160 rfl rfl)
set_option maxRecDepth 4000 in
theorem lkX6_53 : Cond.methodLink RX6 53 yX6_isLetter ∈ am_TB := (t_in2 82 rfl rfl)
set_option maxRecDepth 4000 in
theorem lkX6_57 : Cond.methodLink RX6 57 yX6_isDigit ∈ am_TB := (t_in2 85 rfl rfl)
set_option maxRecDepth 4000 in
theorem lkX6_62 : Cond.methodLink RX6 62 yX6_spells ∈ am_TB := (t_in2 93 rfl rfl)
set_option maxRecDepth 4000 in
theorem lkX6_82 : Cond.methodLink RX6 82 yJ0_length_8abf5 ∈ am_TB := (t_in2 97 rfl rfl)
set_option maxRecDepth 4000 in
theorem lkX6_86 : Cond.methodLink RX6 86 yJ0_charAt_5068e ∈ am_TB := (t_in2 107 rfl rfl)
set_option maxRecDepth 4000 in
theorem lkX7_3 : Cond.methodLink RX7 3 objectInit ∈ am_TB := (t_in1 181 rfl rfl)
set_option maxRecDepth 4000 in
theorem lkX7_50 : Cond.methodLink RX7 50 yX3_numberOf ∈ am_TB := (t_in3 78 rfl rfl)
set_option maxRecDepth 4000 in
theorem lkX7_56 : Cond.methodLink RX7 56 yX7_reach ∈ am_TB := (t_in3 79 rfl rfl)
set_option maxRecDepth 4000 in
theorem lkX7_60 : Cond.methodLink RX7 60 yX7_takeWaiting ∈ am_TB := (t_in3 83 rfl rfl)
set_option maxRecDepth 4000 in
theorem lkX7_64 : Cond.methodLink RX7 64 yX7_lookAt ∈ am_TB := (t_in3 94 rfl rfl)
set_option maxRecDepth 4000 in
theorem lkX7_68 : Cond.methodLink RX7 68 yJ13_numberOfTrailingZeros_95d88 ∈ am_TB := (t_in3 87 rfl rfl)
set_option maxRecDepth 4000 in
theorem lkX7_74 : Cond.methodLink RX7 74 yX3_fill ∈ am_TB := (t_in3 98 rfl rfl)
set_option maxRecDepth 4000 in
theorem lkX7_78 : Cond.methodLink RX7 78 yX5_find ∈ am_TB := (t_in3 99 rfl rfl)
set_option maxRecDepth 4000 in
theorem lkX7_84 : Cond.methodLink RX7 84 yX7_addEnd ∈ am_TB := (t_in3 100 rfl rfl)
set_option maxRecDepth 4000 in
theorem lkX7_87 : Cond.methodLink RX7 87 arraycopyName ∈ am_TB := (t_in3 105 rfl rfl)
set_option maxRecDepth 4000 in
theorem lkX7_93 : Cond.methodLink RX7 93 yX5_passFound ∈ am_TB := (t_in3 106 rfl rfl)
set_option maxRecDepth 4000 in
theorem lkX7_97 : Cond.methodLink RX7 97 yX2_gladnessOf ∈ am_TB := (t_in3 104 rfl rfl)
set_option maxRecDepth 4000 in
theorem lkX8_3 : Cond.methodLink RX8 3 objectInit ∈ am_TB := (t_in1 145 rfl rfl)
set_option maxRecDepth 4000 in
theorem lkX8_49 : Cond.methodLink RX8 49 yX3_fill ∈ am_TB := (t_in3 136 rfl rfl)
set_option maxRecDepth 4000 in
theorem lkX8_55 : Cond.methodLink RX8 55 yX5_allMayDo ∈ am_TB := (t_in3 137 rfl rfl)
set_option maxRecDepth 4000 in
theorem lkX8_59 : Cond.methodLink RX8 59 yX5_passAll ∈ am_TB := (t_in3 138 rfl rfl)
set_option maxRecDepth 4000 in
theorem lkX8_63 : Cond.methodLink RX8 63 yX8_addRow ∈ am_TB := (t_in3 139 rfl rfl)
set_option maxRecDepth 4000 in
theorem lkX8_71 : Cond.methodLink RX8 71 yX2_workOf ∈ am_TB := (t_in3 143 rfl rfl)
set_option maxRecDepth 4000 in
theorem lkX8_75 : Cond.methodLink RX8 75 yX2_gladnessOf ∈ am_TB := (t_in3 144 rfl rfl)
set_option maxRecDepth 4000 in
theorem lkX8_78 : Cond.methodLink RX8 78 yX2_cell ∈ am_TB := (t_in3 145 rfl rfl)
set_option maxRecDepth 4000 in
theorem lkL_9 : Cond.methodLink RL 9 yX9_init ∈ am_TB := (t_in1 22 rfl rfl)
set_option maxRecDepth 4000 in
theorem lkL_12 : Cond.methodLink RL 12 yX10_init ∈ am_TB := (t_in3 238 rfl rfl)
set_option maxRecDepth 4000 in
theorem lkL_15 : Cond.methodLink RL 15 yX9_write ∈ am_TB := (t_in2 53 rfl rfl)
set_option maxRecDepth 4000 in
theorem lkL_19 : Cond.methodLink RL 19 yX10_write ∈ am_TB := (t_in4 98 rfl rfl)
set_option maxRecDepth 4000 in
theorem lkL_20 : Cond.methodLink RL 20 yX9_erase ∈ am_TB := (t_in2 62 rfl rfl)
set_option maxRecDepth 4000 in
theorem lkL_24 : Cond.methodLink RL 24 yX10_erase ∈ am_TB := (t_in4 106 rfl rfl)
set_option maxRecDepth 4000 in
theorem lkL_25 : Cond.methodLink RL 25 yX9_fault ∈ am_TB := (t_in2 66 rfl rfl)
set_option maxRecDepth 4000 in
theorem lkL_28 : Cond.methodLink RL 28 yX10_fault ∈ am_TB := (t_in4 110 rfl rfl)
set_option maxRecDepth 4000 in
theorem lkL_29 : Cond.methodLink RL 29 yX9_hall ∈ am_TB := (t_in2 167 rfl rfl)
set_option maxRecDepth 4000 in
theorem lkL_32 : Cond.methodLink RL 32 yX10_hall ∈ am_TB := (t_in4 161 rfl rfl)
set_option maxRecDepth 4000 in
theorem lkL_33 : Cond.methodLink RL 33 yX9_monk ∈ am_TB := (t_in2 180 rfl rfl)
set_option maxRecDepth 4000 in
theorem lkL_37 : Cond.methodLink RL 37 yX10_monk ∈ am_TB := (t_in4 169 rfl rfl)
set_option maxRecDepth 4000 in
theorem lkL_38 : Cond.methodLink RL 38 yX9_as ∈ am_TB := (t_in2 197 rfl rfl)
set_option maxRecDepth 4000 in
theorem lkL_42 : Cond.methodLink RL 42 yX10_as ∈ am_TB := (t_in4 185 rfl rfl)
set_option maxRecDepth 4000 in
theorem lkL_43 : Cond.methodLink RL 43 yX9_lay ∈ am_TB := (t_in2 207 rfl rfl)
set_option maxRecDepth 4000 in
theorem lkL_47 : Cond.methodLink RL 47 yX10_lay ∈ am_TB := (t_in4 189 rfl rfl)
set_option maxRecDepth 4000 in
theorem lkL_48 : Cond.methodLink RL 48 yX9_draw ∈ am_TB := (t_in2 226 rfl rfl)
set_option maxRecDepth 4000 in
theorem lkL_51 : Cond.methodLink RL 51 yX10_draw ∈ am_TB := (t_in4 208 rfl rfl)
set_option maxRecDepth 4000 in
theorem lkL_52 : Cond.methodLink RL 52 yX9_has ∈ am_TB := (t_in2 234 rfl rfl)
set_option maxRecDepth 4000 in
theorem lkL_55 : Cond.methodLink RL 55 yX10_has ∈ am_TB := (t_in4 213 rfl rfl)
set_option maxRecDepth 4000 in
theorem lkL_56 : Cond.methodLink RL 56 yX9_trade ∈ am_TB := (t_in2 238 rfl rfl)
set_option maxRecDepth 4000 in
theorem lkL_59 : Cond.methodLink RL 59 yX10_trade ∈ am_TB := (t_in4 217 rfl rfl)
set_option maxRecDepth 4000 in
theorem lkL_60 : Cond.methodLink RL 60 yX9_settle ∈ am_TB := (t_in3 19 rfl rfl)
set_option maxRecDepth 4000 in
theorem lkL_63 : Cond.methodLink RL 63 yX10_settle ∈ am_TB := (t_in5 1 rfl rfl)
set_option maxRecDepth 4000 in
theorem lkL_64 : Cond.methodLink RL 64 yX9_dawn ∈ am_TB := (t_in3 44 rfl rfl)
set_option maxRecDepth 4000 in
theorem lkL_67 : Cond.methodLink RL 67 yX10_dawn ∈ am_TB := (t_in5 17 rfl rfl)
set_option maxRecDepth 4000 in
theorem lkL_68 : Cond.methodLink RL 68 yX9_today ∈ am_TB := (t_in3 52 rfl rfl)
set_option maxRecDepth 4000 in
theorem lkL_71 : Cond.methodLink RL 71 yX10_today ∈ am_TB := (t_in5 21 rfl rfl)
set_option maxRecDepth 4000 in
theorem lkL_72 : Cond.methodLink RL 72 yX9_ends ∈ am_TB := (t_in3 70 rfl rfl)
set_option maxRecDepth 4000 in
theorem lkL_75 : Cond.methodLink RL 75 yX10_ends ∈ am_TB := (t_in5 33 rfl rfl)
set_option maxRecDepth 4000 in
theorem lkL_76 : Cond.methodLink RL 76 yX9_hint ∈ am_TB := (t_in3 107 rfl rfl)
set_option maxRecDepth 4000 in
theorem lkL_79 : Cond.methodLink RL 79 yX10_hint ∈ am_TB := (t_in5 37 rfl rfl)
set_option maxRecDepth 4000 in
theorem lkL_80 : Cond.methodLink RL 80 yX9_lawful ∈ am_TB := (t_in3 123 rfl rfl)
set_option maxRecDepth 4000 in
theorem lkL_83 : Cond.methodLink RL 83 yX10_lawful ∈ am_TB := (t_in5 41 rfl rfl)
set_option maxRecDepth 4000 in
theorem lkL_84 : Cond.methodLink RL 84 yX9_mean ∈ am_TB := (t_in3 146 rfl rfl)
set_option maxRecDepth 4000 in
theorem lkL_87 : Cond.methodLink RL 87 yX10_mean ∈ am_TB := (t_in5 45 rfl rfl)
set_option maxRecDepth 4000 in
theorem lkL_88 : Cond.methodLink RL 88 yX9_odds ∈ am_TB := (t_in3 157 rfl rfl)
set_option maxRecDepth 4000 in
theorem lkL_92 : Cond.methodLink RL 92 yX10_odds ∈ am_TB := (t_in5 55 rfl rfl)
set_option maxRecDepth 4000 in
theorem lkL_93 : Cond.methodLink RL 93 yX9_week ∈ am_TB := (t_in3 162 rfl rfl)
set_option maxRecDepth 4000 in
theorem lkL_96 : Cond.methodLink RL 96 yX10_week ∈ am_TB := (t_in5 59 rfl rfl)
set_option maxRecDepth 4000 in
theorem lkL_97 : Cond.methodLink RL 97 yX9_often ∈ am_TB := (t_in3 194 rfl rfl)
set_option maxRecDepth 4000 in
theorem lkL_100 : Cond.methodLink RL 100 yX10_often ∈ am_TB := (t_in5 67 rfl rfl)
set_option maxRecDepth 4000 in
theorem lkL_101 : Cond.methodLink RL 101 yX9_tail ∈ am_TB := (t_in3 202 rfl rfl)
set_option maxRecDepth 4000 in
theorem lkL_105 : Cond.methodLink RL 105 yX10_tail ∈ am_TB := (t_in5 75 rfl rfl)
set_option maxRecDepth 4000 in
theorem lkL_106 : Cond.methodLink RL 106 yX9_named ∈ am_TB := (t_in3 215 rfl rfl)
set_option maxRecDepth 4000 in
theorem lkL_109 : Cond.methodLink RL 109 yX10_named ∈ am_TB := (t_in5 87 rfl rfl)
set_option maxRecDepth 4000 in
theorem lkL_110 : Cond.methodLink RL 110 yX9_keep ∈ am_TB := (t_in3 220 rfl rfl)
set_option maxRecDepth 4000 in
theorem lkL_113 : Cond.methodLink RL 113 yX10_keep ∈ am_TB := (t_in5 92 rfl rfl)
set_option maxRecDepth 4000 in
theorem lkL_114 : Cond.methodLink RL 114 yX9_back ∈ am_TB := (t_in3 228 rfl rfl)
set_option maxRecDepth 4000 in
theorem lkL_117 : Cond.methodLink RL 117 yX10_back ∈ am_TB := (t_in5 99 rfl rfl)
set_option maxRecDepth 4000 in
theorem lkL_118 : Cond.methodLink RL 118 yX9_count ∈ am_TB := (t_in3 232 rfl rfl)
set_option maxRecDepth 4000 in
theorem lkL_121 : Cond.methodLink RL 121 yX10_count ∈ am_TB := (t_in5 103 rfl rfl)
set_option maxRecDepth 4000 in
theorem lkX10_1 : Cond.methodLink RX10 1 objectInit ∈ am_TB := (t_in4 1 rfl rfl)
set_option maxRecDepth 4000 in
theorem lkX10_63 : Cond.methodLink RX10 63 yX10_plain ∈ am_TB := (t_in4 2 rfl rfl)
set_option maxRecDepth 4000 in
theorem lkX10_66 : Cond.methodLink RX10 66 yX10_begin ∈ am_TB := (t_in4 6 rfl rfl)
set_option maxRecDepth 4000 in
theorem lkX10_69 : Cond.methodLink RX10 69 yX10_in ∈ am_TB := (t_in4 102 rfl rfl)
set_option maxRecDepth 4000 in
theorem lkX10_109 : Cond.methodLink RX10 109 yX10_nextToken ∈ am_TB := (t_in4 122 rfl rfl)
set_option maxRecDepth 4000 in
theorem lkX10_112 : Cond.methodLink RX10 112 yX10_fails ∈ am_TB := (t_in4 149 rfl rfl)
set_option maxRecDepth 4000 in
theorem lkX10_119 : Cond.methodLink RX10 119 yX10_isNumber ∈ am_TB := (t_in4 145 rfl rfl)
set_option maxRecDepth 4000 in
theorem lkX10_140 : Cond.methodLink RX10 140 yX10_isHall ∈ am_TB := (t_in4 141 rfl rfl)
set_option maxRecDepth 4000 in
theorem lkX10_144 : Cond.methodLink RX10 144 yX10_isThere ∈ am_TB := (t_in4 153 rfl rfl)
set_option maxRecDepth 4000 in
theorem lkX10_147 : Cond.methodLink RX10 147 yX10_isRing ∈ am_TB := (t_in4 157 rfl rfl)
set_option maxRecDepth 4000 in
theorem lkX10_153 : Cond.methodLink RX10 153 yX10_isLine ∈ am_TB := (t_in4 118 rfl rfl)
set_option maxRecDepth 4000 in
theorem lkX10_156 : Cond.methodLink RX10 156 yX10_isRead ∈ am_TB := (t_in4 114 rfl rfl)
set_option maxRecDepth 4000 in
theorem lkX10_159 : Cond.methodLink RX10 159 yX10_doLine ∈ am_TB := (t_in4 165 rfl rfl)
set_option maxRecDepth 4000 in
theorem lkX10_163 : Cond.methodLink RX10 163 yX10_mayBehind ∈ am_TB := (t_in4 181 rfl rfl)
set_option maxRecDepth 4000 in
theorem lkX10_166 : Cond.methodLink RX10 166 yX10_isMonk ∈ am_TB := (t_in4 173 rfl rfl)
set_option maxRecDepth 4000 in
theorem lkX10_169 : Cond.methodLink RX10 169 yX10_may ∈ am_TB := (t_in4 177 rfl rfl)
set_option maxRecDepth 4000 in
theorem lkX10_173 : Cond.methodLink RX10 173 yX10_draws ∈ am_TB := (t_in4 193 rfl rfl)
set_option maxRecDepth 4000 in
theorem lkX10_177 : Cond.methodLink RX10 177 yX10_takeDraw ∈ am_TB := (t_in4 196 rfl rfl)
set_option maxRecDepth 4000 in
theorem lkX10_180 : Cond.methodLink RX10 180 yX10_isLawful ∈ am_TB := (t_in4 200 rfl rfl)
set_option maxRecDepth 4000 in
theorem lkX10_183 : Cond.methodLink RX10 183 yX10_putToday ∈ am_TB := (t_in4 204 rfl rfl)
set_option maxRecDepth 4000 in
theorem lkX10_187 : Cond.methodLink RX10 187 yX10_likesMore ∈ am_TB := (t_in4 229 rfl rfl)
set_option maxRecDepth 4000 in
theorem lkX10_190 : Cond.methodLink RX10 190 yX10_takeToday ∈ am_TB := (t_in4 221 rfl rfl)
set_option maxRecDepth 4000 in
theorem lkX10_193 : Cond.methodLink RX10 193 yX10_isWanted ∈ am_TB := (t_in4 225 rfl rfl)
set_option maxRecDepth 4000 in
theorem lkX10_196 : Cond.methodLink RX10 196 yX10_goRing ∈ am_TB := (t_in4 233 rfl rfl)
set_option maxRecDepth 4000 in
theorem lkX10_200 : Cond.methodLink RX10 200 yX10_gladnessOf ∈ am_TB := (t_in4 237 rfl rfl)
set_option maxRecDepth 4000 in
theorem lkX10_213 : Cond.methodLink RX10 213 yX10_takeRing ∈ am_TB := (t_in5 13 rfl rfl)
set_option maxRecDepth 4000 in
theorem lkX10_217 : Cond.methodLink RX10 217 yX10_nextWanted ∈ am_TB := (t_in5 9 rfl rfl)
set_option maxRecDepth 4000 in
theorem lkX10_221 : Cond.methodLink RX10 221 yX10_settleBy ∈ am_TB := (t_in5 5 rfl rfl)
set_option maxRecDepth 4000 in
theorem lkX10_224 : Cond.methodLink RX10 224 yX10_numberOf ∈ am_TB := (t_in5 25 rfl rfl)
set_option maxRecDepth 4000 in
theorem lkX10_227 : Cond.methodLink RX10 227 yX10_workOf ∈ am_TB := (t_in5 29 rfl rfl)
set_option maxRecDepth 4000 in
theorem lkX10_230 : Cond.methodLink RX10 230 yX10_isRingNumber ∈ am_TB := (t_in5 49 rfl rfl)
set_option maxRecDepth 4000 in
theorem lkX10_233 : Cond.methodLink RX10 233 yX10_divisor ∈ am_TB := (t_in5 52 rfl rfl)
set_option maxRecDepth 4000 in
theorem lkX10_236 : Cond.methodLink RX10 236 yX10_isLawfulBehind ∈ am_TB := (t_in5 63 rfl rfl)
set_option maxRecDepth 4000 in
theorem lkX10_239 : Cond.methodLink RX10 239 yX10_oftenOf ∈ am_TB := (t_in5 71 rfl rfl)
set_option maxRecDepth 4000 in
theorem lkX10_242 : Cond.methodLink RX10 242 yX10_tailUp ∈ am_TB := (t_in5 79 rfl rfl)
set_option maxRecDepth 4000 in
theorem lkX10_246 : Cond.methodLink RX10 246 yX10_tailDown ∈ am_TB := (t_in5 83 rfl rfl)
set_option maxRecDepth 4000 in
theorem lkX10_252 : Cond.methodLink RX10 252 yX10_copy ∈ am_TB := (t_in5 96 rfl rfl)
set_option maxRecDepth 4000 in
theorem lkJ13_311 : Cond.methodLink RJ13 311 yJ6_numberOfTrailingZeros_0f7a4 ∈ am_TB := (t_in3 90 rfl rfl)
set_option maxRecDepth 4000 in
theorem lkJ0_335 : Cond.methodLink RJ0 335 yJ0_coder_7d493 ∈ am_TB := (t_in2 101 rfl rfl)
set_option maxRecDepth 4000 in
theorem lkJ0_492 : Cond.methodLink RJ0 492 yJ0_isLatin1_aae02 ∈ am_TB := (t_in2 111 rfl rfl)
set_option maxRecDepth 4000 in
theorem lkJ0_495 : Cond.methodLink RJ0 495 yJ1_charAt_3b067 ∈ am_TB := (t_in2 115 rfl rfl)
set_option maxRecDepth 4000 in
theorem lkJ0_498 : Cond.methodLink RJ0 498 yJ2_charAt_3b067 ∈ am_TB := (t_in2 126 rfl rfl)
set_option maxRecDepth 4000 in
theorem lkJ0_1059 : Cond.methodLink RJ0 1059 yJ3_checkIndex_8e157 ∈ am_TB := (t_in2 123 rfl rfl)
set_option maxRecDepth 4000 in
theorem lkJ1_9 : Cond.methodLink RJ1 9 yJ0_checkIndex_df160 ∈ am_TB := (t_in2 118 rfl rfl)
set_option maxRecDepth 4000 in
theorem lkJ2_48 : Cond.methodLink RJ2 48 yJ2_length_9d52b ∈ am_TB := (t_in2 132 rfl rfl)
set_option maxRecDepth 4000 in
theorem lkJ2_67 : Cond.methodLink RJ2 67 yJ2_checkIndex_2214a ∈ am_TB := (t_in2 129 rfl rfl)
set_option maxRecDepth 4000 in
theorem lkJ2_71 : Cond.methodLink RJ2 71 yJ2_getChar_3b067 ∈ am_TB := (t_in2 136 rfl rfl)
set_option maxRecDepth 4000 in
theorem lkJ2_414 : Cond.methodLink RJ2 414 yJ0_checkIndex_df160 ∈ am_TB := (t_in2 135 rfl rfl)
set_option maxRecDepth 4000 in
theorem kcX3_19 : Cond.constant RX3 19 (65521) ∈ am_TB := (t_in2 233 rfl rfl)
set_option maxRecDepth 4000 in
theorem kcX10_186 : Cond.constant RX10 186 (65521) ∈ am_TB := (t_in4 212 rfl rfl)
set_option maxRecDepth 4000 in
theorem kcJ6_264 : Cond.constant RJ6 264 (65536) ∈ am_TB := (t_in3 93 rfl rfl)
set_option maxRecDepth 4000 in
theorem kcJ6_265 : Cond.constant RJ6 265 (1431655765) ∈ am_TB := (t_in3 62 rfl rfl)
set_option maxRecDepth 4000 in
theorem kcJ6_266 : Cond.constant RJ6 266 (858993459) ∈ am_TB := (t_in3 63 rfl rfl)
set_option maxRecDepth 4000 in
theorem kcJ6_267 : Cond.constant RJ6 267 (252645135) ∈ am_TB := (t_in3 64 rfl rfl)
set_option maxRecDepth 4000 in
theorem kcX9_97 : Cond.constantLong RX9 97 (255) ∈ am_TB := (t_in2 57 rfl rfl)
set_option maxRecDepth 4000 in
theorem kcX9_249 : Cond.constantLong RX9 249 (-2) ∈ am_TB := (t_in3 206 rfl rfl)
set_option maxRecDepth 4000 in
theorem kcX9_251 : Cond.constantLong RX9 251 (-3) ∈ am_TB := (t_in3 207 rfl rfl)
set_option maxRecDepth 4000 in
theorem kcX9_261 : Cond.constantLong RX9 261 (1000) ∈ am_TB := (t_in3 219 rfl rfl)
set_option maxRecDepth 4000 in
theorem kcL_13 : Cond.constantLong RL 13 (4294967295) ∈ am_TB := (t_in5 107 rfl rfl)
set_option maxRecDepth 4000 in
theorem kcX10_76 : Cond.constantLong RX10 76 (255) ∈ am_TB := (t_in4 105 rfl rfl)
set_option maxRecDepth 4000 in
theorem kcX10_90 : Cond.constantLong RX10 90 (-2) ∈ am_TB := (t_in4 126 rfl rfl)
set_option maxRecDepth 4000 in
theorem kcX10_96 : Cond.constantLong RX10 96 (27) ∈ am_TB := (t_in4 127 rfl rfl)
set_option maxRecDepth 4000 in
theorem kcX10_98 : Cond.constantLong RX10 98 (96) ∈ am_TB := (t_in4 128 rfl rfl)
set_option maxRecDepth 4000 in
theorem kcX10_100 : Cond.constantLong RX10 100 (-4) ∈ am_TB := (t_in4 129 rfl rfl)
set_option maxRecDepth 4000 in
theorem kcX10_102 : Cond.constantLong RX10 102 (-1) ∈ am_TB := (t_in4 130 rfl rfl)
set_option maxRecDepth 4000 in
theorem kcX10_104 : Cond.constantLong RX10 104 (-3) ∈ am_TB := (t_in4 131 rfl rfl)
set_option maxRecDepth 4000 in
theorem kcX10_122 : Cond.constantLong RX10 122 (158529) ∈ am_TB := (t_in4 132 rfl rfl)
set_option maxRecDepth 4000 in
theorem kcX10_124 : Cond.constantLong RX10 124 (10320789) ∈ am_TB := (t_in4 133 rfl rfl)
set_option maxRecDepth 4000 in
theorem kcX10_126 : Cond.constantLong RX10 126 (243059) ∈ am_TB := (t_in4 134 rfl rfl)
set_option maxRecDepth 4000 in
theorem kcX10_128 : Cond.constantLong RX10 128 (3163) ∈ am_TB := (t_in4 135 rfl rfl)
set_option maxRecDepth 4000 in
theorem kcX10_130 : Cond.constantLong RX10 130 (361240) ∈ am_TB := (t_in4 136 rfl rfl)
set_option maxRecDepth 4000 in
theorem kcX10_132 : Cond.constantLong RX10 132 (8740238) ∈ am_TB := (t_in4 137 rfl rfl)
set_option maxRecDepth 4000 in
theorem kcX10_134 : Cond.constantLong RX10 134 (292122349) ∈ am_TB := (t_in4 138 rfl rfl)
set_option maxRecDepth 4000 in
theorem kcX10_136 : Cond.constantLong RX10 136 (168748) ∈ am_TB := (t_in4 139 rfl rfl)
set_option maxRecDepth 4000 in
theorem kcX10_138 : Cond.constantLong RX10 138 (10553888) ∈ am_TB := (t_in4 140 rfl rfl)
set_option maxRecDepth 4000 in
theorem kcX10_250 : Cond.constantLong RX10 250 (1000) ∈ am_TB := (t_in5 91 rfl rfl)
set_option maxRecDepth 4000 in
theorem klX9_7 : Cond.classLink RX9 7 RX6 ∈ am_TB := (t_in1 28 rfl rfl)
set_option maxRecDepth 4000 in
theorem klX9_16 : Cond.classLink RX9 16 RX2 ∈ am_TB := (t_in1 57 rfl rfl)
set_option maxRecDepth 4000 in
theorem klX9_23 : Cond.classLink RX9 23 RX1 ∈ am_TB := (t_in1 89 rfl rfl)
set_option maxRecDepth 4000 in
theorem klX9_38 : Cond.classLink RX9 38 RX5 ∈ am_TB := (t_in1 116 rfl rfl)
set_option maxRecDepth 4000 in
theorem klX9_47 : Cond.classLink RX9 47 RX8 ∈ am_TB := (t_in1 139 rfl rfl)
set_option maxRecDepth 4000 in
theorem klX9_56 : Cond.classLink RX9 56 RX7 ∈ am_TB := (t_in1 176 rfl rfl)
set_option maxRecDepth 4000 in
theorem klX9_65 : Cond.classLink RX9 65 RX4 ∈ am_TB := (t_in1 211 rfl rfl)
set_option maxRecDepth 4000 in
theorem klL_7 : Cond.classLink RL 7 RX9 ∈ am_TB := (t_in1 20 rfl rfl)
set_option maxRecDepth 4000 in
theorem klL_10 : Cond.classLink RL 10 RX10 ∈ am_TB := (t_in3 236 rfl rfl)
set_option maxRecDepth 4000 in
theorem kn_copy : Cond.native arraycopyName ∈ am_TB ∧ Cond.static arraycopyName ∈ am_TB ∧ Cond.initialized "java/lang/System" ∈ am_TB := ⟨by decide +kernel, by decide +kernel, by decide +kernel⟩
set_option maxRecDepth 4000 in
theorem kn_obj : Cond.instanceMethod objectInit ∈ am_TB ∧ Cond.code objectInit ⟨#[0xb1]⟩ 1 none ∈ am_TB := ⟨by decide +kernel, by decide +kernel⟩
set_option maxRecDepth 4000 in
theorem kn_arr : Cond.arrayClass .int ∈ am_TB ∧ Cond.arrayClass .long ∈ am_TB ∧ Cond.arrayClass .boolean ∈ am_TB := ⟨by decide +kernel, by decide +kernel, by decide +kernel⟩
set_option maxRecDepth 4000 in
theorem kn_ini : ∀ ci, ci < 9 → Cond.initialized (am_cn ci) ∈ am_TB := by decide +kernel
end
section
/-! ===== places by natural numbers; heaps behind the constructors ===== -/
theorem am_vin {i : Int32} {j N : Nat} (e : i = nI j) (hj : j < N) (hN : N ≤ 6000) : vp_in i N ∧ i.toNatClampNeg = j := by
  subst e
  exact ⟨vp_in_nI hj (by omega), nI_clamp (by omega)⟩
section AM6
variable {E : Nat × (Nat → Int32)} {M : am_M} {pc : Nat} {ls : List (Option Value)} {st : List Value} {h : am_H} {n n1 : Nat} {Q : Option Value → am_H → Prop}
theorem am_ialdN {k N j : Nat} {i : Int32} (hd : decode M.2.1 pc = .ok (.iaload, 1)) (hs : am_s k = .inl (.int, N)) (hk : k < n) (e : i = nI j) (hj : j < N) (hN : N ≤ 6000) (kk : am_R E M (pc + 1) ls (.int (h.1 k j) :: st) h n n1 Q) : am_R E M pc ls (.int i :: .ref k :: st) h n n1 Q := by
  obtain ⟨h1, h2⟩ := am_vin e hj hN
  exact am_iald hd hs hk h1 (by rw [h2]; exact kk)
theorem am_zaldN {k N j : Nat} {i : Int32} (hd : decode M.2.1 pc = .ok (.baload, 1)) (hs : am_s k = .inl (.boolean, N)) (hk : k < n) (e : i = nI j) (hj : j < N) (hN : N ≤ 6000) (kk : am_R E M (pc + 1) ls (.int (h.1 k j) :: st) h n n1 Q) : am_R E M pc ls (.int i :: .ref k :: st) h n n1 Q := by
  obtain ⟨h1, h2⟩ := am_vin e hj hN
  exact am_zald hd hs hk h1 (by rw [h2]; exact kk)
theorem am_laldN {k N j : Nat} {i : Int32} (hd : decode M.2.1 pc = .ok (.laload, 1)) (hs : am_s k = .inl (.long, N)) (hk : k < n) (e : i = nI j) (hj : j < N) (hN : N ≤ 6000) (kk : am_R E M (pc + 1) ls (.long (h.2.1 k j) :: st) h n n1 Q) : am_R E M pc ls (.int i :: .ref k :: st) h n n1 Q := by
  obtain ⟨h1, h2⟩ := am_vin e hj hN
  exact am_lald hd hs hk h1 (by rw [h2]; exact kk)
theorem am_aaldN {k N j r : Nat} {C0 : String} {i : Int32} (hd : decode M.2.1 pc = .ok (.aaload, 1)) (hs : am_s k = .inl (.object C0, N)) (h5 : am_t5 (.object C0)) (hk : k < n) (e : i = nI j) (hj : j < N) (hN : N ≤ 6000) (hr : h.2.2 k j = some r) (kk : am_R E M (pc + 1) ls (.ref r :: st) h n n1 Q) : am_R E M pc ls (.int i :: .ref k :: st) h n n1 Q := by
  obtain ⟨h1, h2⟩ := am_vin e hj hN
  exact am_aald hd hs h5 hk h1 (by rw [h2]; exact hr) kk
theorem am_iastN {k N j : Nat} {i x : Int32} (hd : decode M.2.1 pc = .ok (.iastore, 1)) (hs : am_s k = .inl (.int, N)) (hk : k < n) (e : i = nI j) (hj : j < N) (hN : N ≤ 6000) (kk : am_R E M (pc + 1) ls st (am_sI h k j x) n n1 Q) : am_R E M pc ls (.int x :: .int i :: .ref k :: st) h n n1 Q := by
  obtain ⟨h1, h2⟩ := am_vin e hj hN
  exact am_iast hd hs hk h1 (by rw [h2]; exact kk)
theorem am_zastN {k N j : Nat} {i x : Int32} (hd : decode M.2.1 pc = .ok (.bastore, 1)) (hs : am_s k = .inl (.boolean, N)) (hk : k < n) (e : i = nI j) (hj : j < N) (hN : N ≤ 6000) (hx : x = 0 ∨ x = 1) (kk : am_R E M (pc + 1) ls st (am_sI h k j x) n n1 Q) : am_R E M pc ls (.int x :: .int i :: .ref k :: st) h n n1 Q := by
  obtain ⟨h1, h2⟩ := am_vin e hj hN
  exact am_zast hd hs hk h1 hx (by rw [h2]; exact kk)
theorem am_lastN {k N j : Nat} {i : Int32} {x : Int64} (hd : decode M.2.1 pc = .ok (.lastore, 1)) (hs : am_s k = .inl (.long, N)) (hk : k < n) (e : i = nI j) (hj : j < N) (hN : N ≤ 6000) (kk : am_R E M (pc + 1) ls st (am_sJ h k j x) n n1 Q) : am_R E M pc ls (.long x :: .int i :: .ref k :: st) h n n1 Q := by
  obtain ⟨h1, h2⟩ := am_vin e hj hN
  exact am_last hd hs hk h1 (by rw [h2]; exact kk)
theorem am_ildFN {j : Nat} {i : Int32} (hd : decode M.2.1 pc = .ok (.iaload, 1)) (e : i = nI j) (hj : j < 8) (kk : am_R E M (pc + 1) ls (.int (am_fa j) :: st) h n n1 Q) : am_R E M pc ls (.int i :: .ref 1001 :: st) h n n1 Q := by
  obtain ⟨h1, h2⟩ := am_vin e hj (by decide)
  exact am_ildF hd h1 (by rw [h2]; exact kk)
theorem am_ildON {j : Nat} {i : Int32} (hd : decode M.2.1 pc = .ok (.iaload, 1)) (e : i = nI j) (hj : j < 5) (kk : am_R E M (pc + 1) ls (.int (am_ov j) :: st) h n n1 Q) : am_R E M pc ls (.int i :: .ref 1000 :: st) h n n1 Q := by
  obtain ⟨h1, h2⟩ := am_vin e hj (by decide)
  exact am_ildO hd h1 (by rw [h2]; exact kk)
theorem am_ildXN {j : Nat} {i : Int32} (hd : decode M.2.1 pc = .ok (.iaload, 1)) (e : i = nI j) (hj : j < E.1) (hE : E.1 ≤ 320) (kk : am_R E M (pc + 1) ls (.int (E.2 j) :: st) h n n1 Q) : am_R E M pc ls (.int i :: .ref 1002 :: st) h n n1 Q := by
  obtain ⟨h1, h2⟩ := am_vin e hj (by omega)
  exact am_ildX hd h1 (by rw [h2]; exact kk)
theorem am_copyN {idx a0 a1 N0 N1 s0 d0 x0 : Nat} {sp dp x : Int32} (hd : decode M.2.1 pc = .ok (.invokestatic idx, 3)) (hk : Cond.methodLink M.1.cls idx arraycopyName ∈ am_TB) (hkn : Cond.native arraycopyName ∈ am_TB ∧ Cond.static arraycopyName ∈ am_TB ∧ Cond.initialized "java/lang/System" ∈ am_TB) (hs0 : am_s a0 = .inl (.int, N0)) (hs1 : am_s a1 = .inl (.int, N1)) (hk0 : a0 < n) (hk1 : a1 < n) (h1 : sp = nI s0) (h2 : dp = nI d0) (h3 : x = nI x0) (h4 : s0 + x0 ≤ N0) (h5 : d0 + x0 ≤ N1) (hN : N0 ≤ 6000 ∧ N1 ≤ 6000) (hst : (st.map fun v => v.category).sum ≤ 8) (hF : 1 ≤ M.2.2.2.2.1 ∧ 8 + (nativeFrameWords "java/lang/System" "arraycopy" 5 + 11) ≤ M.2.2.2.2.2) (kk : am_R E M (pc + 3) ls st (am_sR h a1 (va_cpy (h.1 a0) (h.1 a1) s0 d0 x0)) n n1 Q) : am_R E M pc ls (.int x :: .int dp :: .ref a1 :: .int sp :: .ref a0 :: st) h n n1 Q := by
  subst h1; subst h2; subst h3
  have e1 : (nI s0).toNatClampNeg = s0 := nI_clamp (by omega)
  have e2 : (nI d0).toNatClampNeg = d0 := nI_clamp (by omega)
  have e3 : (nI x0).toNatClampNeg = x0 := nI_clamp (by omega)
  refine am_copy hd hk hkn.1 hkn.2.1 hkn.2.2 hs0 hs1 hk0 hk1 (nI_pos (by omega)) (nI_pos (by omega)) (nI_pos (by omega)) ?_ ?_ hst hF ?_
  · rw [e1, e3]; exact h4
  · rw [e2, e3]; exact h5
  · rw [e1, e2, e3]; exact kk
/-- fewer locals are told -/
def am_le : List (Option Value) → List (Option Value) → Prop
  | [], [] => True
  | none :: a, _ :: b => am_le a b
  | some v :: a, w :: b => w = some v ∧ am_le a b
  | _, _ => False
theorem am_le_len : ∀ {a b : List (Option Value)}, am_le a b → a.length = b.length
  | [], [], _ => rfl
  | none :: a, _ :: b, h => congrArg (· + 1) (am_le_len (a := a) (b := b) h)
  | some _ :: a, _ :: b, h => congrArg (· + 1) (am_le_len (a := a) (b := b) h.2)
  | [], _ :: _, h => h.elim
  | none :: _, [], h => h.elim
  | some _ :: _, [], h => h.elim
theorem am_le_at : ∀ {a b : List (Option Value)}, am_le a b → ∀ (i : Nat) (v : Value), a[i]? = some (some v) → b[i]? = some (some v)
  | [], [], _, i, v, q => by simp at q
  | none :: a, _ :: b, h, i, v, q => by
    cases i with
    | zero => simp at q
    | succ i => simp only [List.getElem?_cons_succ] at q ⊢; exact am_le_at (a := a) (b := b) h i v q
  | some w :: a, _ :: b, h, i, v, q => by
    cases i with
    | zero => simp only [List.getElem?_cons_zero, Option.some.injEq] at q ⊢; rw [h.1, q]
    | succ i => simp only [List.getElem?_cons_succ] at q ⊢; exact am_le_at (a := a) (b := b) h.2 i v q
  | [], _ :: _, h, _, _, _ => h.elim
  | none :: _, [], h, _, _, _ => h.elim
  | some _ :: _, [], h, _, _, _ => h.elim
theorem am_R.forget {ls' : List (Option Value)} (k : am_R E M pc ls' st h n n1 Q) (hle : am_le ls' ls) : am_R E M pc ls st h n n1 Q := by
  intro p l e s m args below meth c g n0 Z H locs lsc Rm C hR hP hS hn hl hq
  exact k p l e s m args below meth c g n0 Z H locs lsc Rm C hR hP hS hn ⟨hl.1, hl.2.1, (am_le_len hle).trans hl.2.2.1, fun i v q => hl.2.2.2 i v (am_le_at hle i v q)⟩ hq
theorem am_tabC {dflt lo hi : Int} {offs : Array Int} {len : Nat} {x : Int32} {off : Int} {tgt : Nat} (v : Int32) (hd : decode M.2.1 pc = .ok (.tableswitch dflt lo hi offs, len)) (hx : x = v) (h1 : ¬ v.toInt < lo) (h2 : ¬ hi < v.toInt) (ho : offs[(v.toInt - lo).toNat]? = some off) (ht : (pc : Int) + off = (tgt : Int)) (k : am_R E M tgt ls st h n n1 Q) : am_R E M pc ls (.int x :: st) h n n1 Q := by
  subst hx
  exact am_tabIn hd h1 h2 ho ht k
theorem am_lookC {dflt : Int} {ps : Array (Int × Int)} {len : Nat} {x : Int32} {off : Int} {tgt : Nat} (v : Int32) (hd : decode M.2.1 pc = .ok (.lookupswitch dflt ps, len)) (hx : x = v) (hp : (ps.toList.zip (ps.toList.drop 1)).all (fun (a, next) => a.1 < next.1) = true) (ho : Op.lookupswitch.offset ps.toList dflt v.toInt = off) (ht : (pc : Int) + off = (tgt : Int)) (k : am_R E M tgt ls st h n n1 Q) : am_R E M pc ls (.int x :: st) h n n1 Q := by
  subst hx
  exact am_look hd hp ho ht k
end AM6
theorem am_ne {x v : Int32} (h : ¬ x = v) : x.toInt ≠ v.toInt := fun e => h (Int32.toInt_inj.mp e)
/-- a row's cell is new; a place of a cell is new -/
def u1 (I : Nat → Nat → Int32) (k : Nat) (f : Nat → Int32) : Nat → Nat → Int32 := fun a => if a = k then f else I a
def u2 (I : Nat → Nat → Int32) (k j : Nat) (x : Int32) : Nat → Nat → Int32 := fun a => if a = k then upd (I k) j x else I a
def v2 (J : Nat → Nat → Int64) (k j : Nat) (x : Int64) : Nat → Nat → Int64 := fun a => if a = k then vp_updL (J k) j x else J a
theorem u1_s (I : Nat → Nat → Int32) (k : Nat) (f : Nat → Int32) : u1 I k f k = f := if_pos rfl
theorem u1_n (I : Nat → Nat → Int32) {k a : Nat} (f : Nat → Int32) (h : a ≠ k) : u1 I k f a = I a := if_neg h
theorem u2_s (I : Nat → Nat → Int32) (k j : Nat) (x : Int32) : u2 I k j x k = upd (I k) j x := if_pos rfl
theorem u2_n (I : Nat → Nat → Int32) {k a : Nat} (j : Nat) (x : Int32) (h : a ≠ k) : u2 I k j x a = I a := if_neg h
theorem v2_s (J : Nat → Nat → Int64) (k j : Nat) (x : Int64) : v2 J k j x k = vp_updL (J k) j x := if_pos rfl
theorem v2_n (J : Nat → Nat → Int64) {k a : Nat} (j : Nat) (x : Int64) (h : a ≠ k) : v2 J k j x a = J a := if_neg h
theorem u2_u1 (I : Nat → Nat → Int32) (k j : Nat) (f : Nat → Int32) (x : Int32) : u2 (u1 I k f) k j x = u1 I k (upd f j x) := by
  funext a
  by_cases e : a = k
  · subst e; rw [u2_s, u1_s, u1_s]
  · rw [u2_n _ _ _ e, u1_n _ _ e, u1_n _ _ e]
theorem u1_u1 (I : Nat → Nat → Int32) (k : Nat) (f f' : Nat → Int32) : u1 (u1 I k f) k f' = u1 I k f' := by
  funext a
  by_cases e : a = k
  · subst e; rw [u1_s, u1_s]
  · rw [u1_n _ _ e, u1_n _ _ e, u1_n _ _ e]
theorem u1_self (I : Nat → Nat → Int32) (k : Nat) : u1 I k (I k) = I := by
  funext a
  by_cases e : a = k
  · subst e; rw [u1_s]
  · rw [u1_n _ _ e]
theorem u2_eq (I : Nat → Nat → Int32) (k j : Nat) (x : Int32) : u2 I k j x = u1 I k (upd (I k) j x) := rfl
def pbst (b : Bool) : Nat := if b then 46 else 45
def pnxt (b : Bool) : Nat := if b then 45 else 46
/-- the references that the cells hold behind the constructors; b: best and next of the plan are exchanged -/
def rf (b : Bool) : Nat → Nat → Option Nat := fun k => match k with
  | 0 => fun j => ([some 1, some 4, some 9, some 13, some 22, some 23, some 26, some 36, some 41, some 47] : List (Option Nat)).getD j none
  | 1 => fun j => ([some 2, none, some 3] : List (Option Nat)).getD j none
  | 4 => fun j => ([none, none, some 5, some 6, some 7, some 8] : List (Option Nat)).getD j none
  | 9 => fun j => ([none, some 10, some 11, none, some 12] : List (Option Nat)).getD j none
  | 13 => fun j => ([some 14, some 18] : List (Option Nat)).getD j none
  | 14 => fun j => ([none, some 15, some 16, none, some 17] : List (Option Nat)).getD j none
  | 18 => fun j => ([none, some 19, some 20, none, some 21] : List (Option Nat)).getD j none
  | 23 => fun j => ([some 4, some 24, some 25] : List (Option Nat)).getD j none
  | 26 => fun j => ([some 27, some 30, some 33] : List (Option Nat)).getD j none
  | 27 => fun j => ([some 23, none, some 28, none, none, none, none, some 29] : List (Option Nat)).getD j none
  | 30 => fun j => ([some 23, none, some 31, none, none, none, none, some 32] : List (Option Nat)).getD j none
  | 33 => fun j => ([some 23, none, some 34, none, none, none, none, some 35] : List (Option Nat)).getD j none
  | 36 => fun j => ([some 23, some 37, some 38, some 39, some 40] : List (Option Nat)).getD j none
  | 41 => fun j => ([some 4, some 42, some 43, some 44, some (pbst b), some (pnxt b)] : List (Option Nat)).getD j none
  | 48 => fun j => ([none, none, some 49, some 50, some 51, some 52, none, some 53, none, none, none, none, none, none, none, none, some 54, some 55, some 56, some 57, some 58, some 59, some 60, some 61, some 62, some 63] : List (Option Nat)).getD j none
  | _ => fun _ => none
def hp (I : Nat → Nat → Int32) (J : Nat → Nat → Int64) (b : Bool) : am_H := (I, J, rf b)
theorem am_s_pb (b : Bool) : am_s (pbst b) = .inl (.int, 120) := by cases b <;> rfl
theorem am_s_pn (b : Bool) : am_s (pnxt b) = .inl (.int, 120) := by cases b <;> rfl
theorem am_k_pb (b : Bool) : pbst b < 64 := by cases b <;> decide
theorem am_k_pn (b : Bool) : pnxt b < 64 := by cases b <;> decide
theorem am_max {E : Nat × (Nat → Int32)} {M : am_M} {pc : Nat} {ls : List (Option Value)} {st : List Value} {h : am_H} {n n1 idx : Nat} {Q : Option Value → am_H → Prop} {x y : Int32} (hd : decode M.2.1 pc = .ok (.invokestatic idx, 3)) (hk : Cond.methodLink M.1.cls idx Lib.Math.max.name ∈ am_TB) (hw : Cond.static Lib.Math.max.name ∈ am_TB ∧ Cond.initialized "java/lang/Math" ∈ am_TB ∧ Cond.code Lib.Math.max.name Lib.Math.max.code 2 (some .int) ∈ am_TB) (hst : (st.map fun v => v.category).sum ≤ 8) (hF : 1 ≤ M.2.2.2.2.1 ∧ 21 ≤ M.2.2.2.2.2) (kk : am_R E M (pc + 3) ls (.int (if x < y then y else x) :: st) h n n1 Q) : am_R E M pc ls (.int y :: .int x :: st) h n n1 Q := by
  intro p l e s m args below meth c g n0 Z H locs lsc Rm C hR hP hS hn hl hq
  have K := kk p l e s m args below meth c g n0 Z H locs lsc Rm C hR hP hS hn hl hq
  obtain ⟨hx, hb, -, hml, hown, hts, -, -, hrm, hSt⟩ := C
  have e3 := am_catm g st
  have h6 := hF.2
  have h7 := hrm.2
  have e1 := am_cs_mono hn.2
  exact va_mmax hx hb (hml.trans hl.1.symm) hown (hts _ hk) (hts _ hw.1) (hts _ hw.2.1) (hts _ hw.2.2) (Nat.le_trans hF.1 hrm.1) (by omega) (by omega) (by omega) hd K
set_option maxRecDepth 20000 in
theorem kn_max : Cond.static Lib.Math.max.name ∈ am_TB ∧ Cond.initialized "java/lang/Math" ∈ am_TB ∧ Cond.code Lib.Math.max.name Lib.Math.max.code 2 (some .int) ∈ am_TB := ⟨by decide +kernel, by decide +kernel, by decide +kernel⟩
end
section
/-! ===== what the smallest methods answer ===== -/
section T0
variable {E : Nat × (Nat → Int32)} {I : Nat → Nat → Int32} {J : Nat → Nat → Int64} {b : Bool} {Q : Option Value → am_H → Prop}
theorem nlt {a b : Int32} (h : ¬ a < b) : b ≤ a := Int32.not_lt.mp h
theorem nle {a b : Int32} (h : ¬ a ≤ b) : b < a := Int32.not_le.mp h
theorem bX10_in_0 {E : Nat × (Nat → Int32)} {I : Nat → Nat → Int32} {J : Nat → Nat → Int64} {b : Bool} {a0 : Int32} {a1 : Int32} {a2 : Int32} {Q : Option Value → am_H → Prop}  (wp : ((a0 < a1 → Q (some (.int 0)) (hp I J b)) ∧ (¬ a0 < a1 → ((a2 < a0 → Q (some (.int 0)) (hp I J b)) ∧ (¬ a2 < a0 → Q (some (.int 1)) (hp I J b)))))) : am_R E mX10_in 0 [some (.int a0), some (.int a1), some (.int a2)] [] (hp I J b) 64 64 Q := by
  refine am_iload_n rfl rfl dX10_in_0 ?_
  refine am_iload_n rfl rfl dX10_in_1 ?_
  refine am_icmp_lt dX10_in_2 (tgt := 14) rfl (fun hc1 => ?_) (fun hc1 => ?_)
  · have wp := wp.1 hc1
    refine am_iconst 0 rfl dX10_in_14 ?_
    exact am_iret dX10_in_15 rfl (by decide) wp
  · have wp := wp.2 hc1
    refine am_iload_n rfl rfl dX10_in_5 ?_
    refine am_iload_n rfl rfl dX10_in_6 ?_
    refine am_icmp_gt dX10_in_7 (tgt := 14) rfl (fun hc2 => ?_) (fun hc2 => ?_)
    · have wp := wp.1 hc2
      refine am_iconst 0 rfl dX10_in_14 ?_
      exact am_iret dX10_in_15 rfl (by decide) wp
    · have wp := wp.2 hc2
      refine am_iconst 1 rfl dX10_in_10 ?_
      refine am_goto dX10_in_11 (tgt := 15) rfl ?_
      exact am_iret dX10_in_15 rfl (by decide) wp
theorem tX10_in {v lo hi : Int32} (k1 : (lo ≤ v ∧ v ≤ hi) → Q (some (.int 1)) (hp I J b)) (k0 : ¬ (lo ≤ v ∧ v ≤ hi) → Q (some (.int 0)) (hp I J b)) : am_R E mX10_in 0 [some (.int v), some (.int lo), some (.int hi)] [] (hp I J b) 64 64 Q :=
  bX10_in_0 ⟨fun h => k0 (fun q => Int32.not_lt.mpr q.1 h), fun h => ⟨fun h2 => k0 (fun q => Int32.not_lt.mpr q.2 h2), fun h2 => k1 ⟨nlt h, nlt h2⟩⟩⟩
theorem bX10_isRingNumber_0 {E : Nat × (Nat → Int32)} {I : Nat → Nat → Int32} {J : Nat → Nat → Int64} {b : Bool} {a0 : Int32} {Q : Option Value → am_H → Prop}  (wp : ((a0 = 0 → Q (some (.int 1)) (hp I J b)) ∧ (¬ a0 = 0 → ((a0 = 2 → Q (some (.int 1)) (hp I J b)) ∧ (¬ a0 = 2 → ((¬ a0 = 3 → Q (some (.int 0)) (hp I J b)) ∧ (a0 = 3 → Q (some (.int 1)) (hp I J b)))))))) : am_R E mX10_isRingNumber 0 [some (.int a0)] [] (hp I J b) 64 64 Q := by
  refine am_iload_n rfl rfl dX10_isRingNumber_0 ?_
  refine am_if_eq dX10_isRingNumber_1 (tgt := 14) rfl (fun hc1 => ?_) (fun hc1 => ?_)
  · have wp := wp.1 hc1
    refine am_iconst 1 rfl dX10_isRingNumber_14 ?_
    refine am_goto dX10_isRingNumber_15 (tgt := 19) rfl ?_
    exact am_iret dX10_isRingNumber_19 rfl (by decide) wp
  · have wp := wp.2 hc1
    refine am_iload_n rfl rfl dX10_isRingNumber_4 ?_
    refine am_iconst 2 rfl dX10_isRingNumber_5 ?_
    refine am_icmp_eq dX10_isRingNumber_6 (tgt := 14) rfl (fun hc2 => ?_) (fun hc2 => ?_)
    · have wp := wp.1 hc2
      refine am_iconst 1 rfl dX10_isRingNumber_14 ?_
      refine am_goto dX10_isRingNumber_15 (tgt := 19) rfl ?_
      exact am_iret dX10_isRingNumber_19 rfl (by decide) wp
    · have wp := wp.2 hc2
      refine am_iload_n rfl rfl dX10_isRingNumber_9 ?_
      refine am_iconst 3 rfl dX10_isRingNumber_10 ?_
      refine am_icmp_ne dX10_isRingNumber_11 (tgt := 18) rfl (fun hc3 => ?_) (fun hc3 => ?_)
      · have wp := wp.1 hc3
        refine am_iconst 0 rfl dX10_isRingNumber_18 ?_
        exact am_iret dX10_isRingNumber_19 rfl (by decide) wp
      · have wp := wp.2 hc3
        refine am_iconst 1 rfl dX10_isRingNumber_14 ?_
        refine am_goto dX10_isRingNumber_15 (tgt := 19) rfl ?_
        exact am_iret dX10_isRingNumber_19 rfl (by decide) wp
theorem tX10_isRingNumber {v : Int32} (k1 : (v = 0 ∨ v = 2 ∨ v = 3) → Q (some (.int 1)) (hp I J b)) (k0 : ¬ (v = 0 ∨ v = 2 ∨ v = 3) → Q (some (.int 0)) (hp I J b)) : am_R E mX10_isRingNumber 0 [some (.int v)] [] (hp I J b) 64 64 Q :=
  bX10_isRingNumber_0 ⟨fun h => k1 (Or.inl h), fun h => ⟨fun h2 => k1 (Or.inr (Or.inl h2)), fun h2 => ⟨fun h3 => k0 (fun q => by rcases q with q | q | q <;> contradiction), fun h3 => k1 (Or.inr (Or.inr h3))⟩⟩⟩
theorem bX9_isRing_0 {E : Nat × (Nat → Int32)} {I : Nat → Nat → Int32} {J : Nat → Nat → Int64} {b : Bool} {a0 : Int32} {Q : Option Value → am_H → Prop}  (wp : ((a0 = 0 → Q (some (.int 1)) (hp I J b)) ∧ (¬ a0 = 0 → ((a0 = 2 → Q (some (.int 1)) (hp I J b)) ∧ (¬ a0 = 2 → ((¬ a0 = 3 → Q (some (.int 0)) (hp I J b)) ∧ (a0 = 3 → Q (some (.int 1)) (hp I J b)))))))) : am_R E mX9_isRing 0 [some (.int a0)] [] (hp I J b) 64 64 Q := by
  refine am_iload_n rfl rfl dX9_isRing_0 ?_
  refine am_if_eq dX9_isRing_1 (tgt := 14) rfl (fun hc1 => ?_) (fun hc1 => ?_)
  · have wp := wp.1 hc1
    refine am_iconst 1 rfl dX9_isRing_14 ?_
    refine am_goto dX9_isRing_15 (tgt := 19) rfl ?_
    exact am_iret dX9_isRing_19 rfl (by decide) wp
  · have wp := wp.2 hc1
    refine am_iload_n rfl rfl dX9_isRing_4 ?_
    refine am_iconst 2 rfl dX9_isRing_5 ?_
    refine am_icmp_eq dX9_isRing_6 (tgt := 14) rfl (fun hc2 => ?_) (fun hc2 => ?_)
    · have wp := wp.1 hc2
      refine am_iconst 1 rfl dX9_isRing_14 ?_
      refine am_goto dX9_isRing_15 (tgt := 19) rfl ?_
      exact am_iret dX9_isRing_19 rfl (by decide) wp
    · have wp := wp.2 hc2
      refine am_iload_n rfl rfl dX9_isRing_9 ?_
      refine am_iconst 3 rfl dX9_isRing_10 ?_
      refine am_icmp_ne dX9_isRing_11 (tgt := 18) rfl (fun hc3 => ?_) (fun hc3 => ?_)
      · have wp := wp.1 hc3
        refine am_iconst 0 rfl dX9_isRing_18 ?_
        exact am_iret dX9_isRing_19 rfl (by decide) wp
      · have wp := wp.2 hc3
        refine am_iconst 1 rfl dX9_isRing_14 ?_
        refine am_goto dX9_isRing_15 (tgt := 19) rfl ?_
        exact am_iret dX9_isRing_19 rfl (by decide) wp
theorem tX9_isRing {v : Int32} (k1 : (v = 0 ∨ v = 2 ∨ v = 3) → Q (some (.int 1)) (hp I J b)) (k0 : ¬ (v = 0 ∨ v = 2 ∨ v = 3) → Q (some (.int 0)) (hp I J b)) : am_R E mX9_isRing 0 [some (.int v)] [] (hp I J b) 64 64 Q :=
  bX9_isRing_0 ⟨fun h => k1 (Or.inl h), fun h => ⟨fun h2 => k1 (Or.inr (Or.inl h2)), fun h2 => ⟨fun h3 => k0 (fun q => by rcases q with q | q | q <;> contradiction), fun h3 => k1 (Or.inr (Or.inr h3))⟩⟩⟩
theorem bX9_isPart_0 {E : Nat × (Nat → Int32)} {I : Nat → Nat → Int32} {J : Nat → Nat → Int64} {b : Bool} {a0 : Int32} {Q : Option Value → am_H → Prop}  (wp : ((a0 = 0 → Q (some (.int 1)) (hp I J b)) ∧ (¬ a0 = 0 → ((¬ a0 = 1 → Q (some (.int 0)) (hp I J b)) ∧ (a0 = 1 → Q (some (.int 1)) (hp I J b)))))) : am_R E mX9_isPart 0 [some (.int a0)] [] (hp I J b) 64 64 Q := by
  refine am_iload_n rfl rfl dX9_isPart_0 ?_
  refine am_if_eq dX9_isPart_1 (tgt := 9) rfl (fun hc1 => ?_) (fun hc1 => ?_)
  · have wp := wp.1 hc1
    refine am_iconst 1 rfl dX9_isPart_9 ?_
    refine am_goto dX9_isPart_10 (tgt := 14) rfl ?_
    exact am_iret dX9_isPart_14 rfl (by decide) wp
  · have wp := wp.2 hc1
    refine am_iload_n rfl rfl dX9_isPart_4 ?_
    refine am_iconst 1 rfl dX9_isPart_5 ?_
    refine am_icmp_ne dX9_isPart_6 (tgt := 13) rfl (fun hc2 => ?_) (fun hc2 => ?_)
    · have wp := wp.1 hc2
      refine am_iconst 0 rfl dX9_isPart_13 ?_
      exact am_iret dX9_isPart_14 rfl (by decide) wp
    · have wp := wp.2 hc2
      refine am_iconst 1 rfl dX9_isPart_9 ?_
      refine am_goto dX9_isPart_10 (tgt := 14) rfl ?_
      exact am_iret dX9_isPart_14 rfl (by decide) wp
theorem tX9_isPart {v : Int32} (k1 : (v = 0 ∨ v = 1) → Q (some (.int 1)) (hp I J b)) (k0 : ¬ (v = 0 ∨ v = 1) → Q (some (.int 0)) (hp I J b)) : am_R E mX9_isPart 0 [some (.int v)] [] (hp I J b) 64 64 Q :=
  bX9_isPart_0 ⟨fun h => k1 (Or.inl h), fun h => ⟨fun h3 => k0 (fun q => by rcases q with q | q <;> contradiction), fun h3 => k1 (Or.inr h3)⟩⟩
theorem bX6_isLetter_0 {E : Nat × (Nat → Int32)} {I : Nat → Nat → Int32} {J : Nat → Nat → Int64} {b : Bool} {a0 : Int32} {Q : Option Value → am_H → Prop}  (wp : ((a0 < 97 → Q (some (.int 0)) (hp I J b)) ∧ (¬ a0 < 97 → ((122 < a0 → Q (some (.int 0)) (hp I J b)) ∧ (¬ 122 < a0 → Q (some (.int 1)) (hp I J b)))))) : am_R E mX6_isLetter 0 [some (.int a0)] [] (hp I J b) 64 64 Q := by
  refine am_iload_n rfl rfl dX6_isLetter_0 ?_
  refine am_bipush 97 rfl dX6_isLetter_1 ?_
  refine am_icmp_lt dX6_isLetter_3 (tgt := 16) rfl (fun hc1 => ?_) (fun hc1 => ?_)
  · have wp := wp.1 hc1
    refine am_iconst 0 rfl dX6_isLetter_16 ?_
    exact am_iret dX6_isLetter_17 rfl (by decide) wp
  · have wp := wp.2 hc1
    refine am_iload_n rfl rfl dX6_isLetter_6 ?_
    refine am_bipush 122 rfl dX6_isLetter_7 ?_
    refine am_icmp_gt dX6_isLetter_9 (tgt := 16) rfl (fun hc2 => ?_) (fun hc2 => ?_)
    · have wp := wp.1 hc2
      refine am_iconst 0 rfl dX6_isLetter_16 ?_
      exact am_iret dX6_isLetter_17 rfl (by decide) wp
    · have wp := wp.2 hc2
      refine am_iconst 1 rfl dX6_isLetter_12 ?_
      refine am_goto dX6_isLetter_13 (tgt := 17) rfl ?_
      exact am_iret dX6_isLetter_17 rfl (by decide) wp
theorem tX6_isLetter {v : Int32} (k1 : (97 ≤ v ∧ v ≤ 122) → Q (some (.int 1)) (hp I J b)) (k0 : ¬ (97 ≤ v ∧ v ≤ 122) → Q (some (.int 0)) (hp I J b)) : am_R E mX6_isLetter 0 [some (.int v)] [] (hp I J b) 64 64 Q :=
  bX6_isLetter_0 ⟨fun h => k0 (fun q => Int32.not_lt.mpr q.1 h), fun h => ⟨fun h2 => k0 (fun q => Int32.not_lt.mpr q.2 h2), fun h2 => k1 ⟨nlt h, nlt h2⟩⟩⟩
theorem bX6_isDigit_0 {E : Nat × (Nat → Int32)} {I : Nat → Nat → Int32} {J : Nat → Nat → Int64} {b : Bool} {a0 : Int32} {Q : Option Value → am_H → Prop}  (wp : ((a0 < 48 → Q (some (.int 0)) (hp I J b)) ∧ (¬ a0 < 48 → ((57 < a0 → Q (some (.int 0)) (hp I J b)) ∧ (¬ 57 < a0 → Q (some (.int 1)) (hp I J b)))))) : am_R E mX6_isDigit 0 [some (.int a0)] [] (hp I J b) 64 64 Q := by
  refine am_iload_n rfl rfl dX6_isDigit_0 ?_
  refine am_bipush 48 rfl dX6_isDigit_1 ?_
  refine am_icmp_lt dX6_isDigit_3 (tgt := 16) rfl (fun hc1 => ?_) (fun hc1 => ?_)
  · have wp := wp.1 hc1
    refine am_iconst 0 rfl dX6_isDigit_16 ?_
    exact am_iret dX6_isDigit_17 rfl (by decide) wp
  · have wp := wp.2 hc1
    refine am_iload_n rfl rfl dX6_isDigit_6 ?_
    refine am_bipush 57 rfl dX6_isDigit_7 ?_
    refine am_icmp_gt dX6_isDigit_9 (tgt := 16) rfl (fun hc2 => ?_) (fun hc2 => ?_)
    · have wp := wp.1 hc2
      refine am_iconst 0 rfl dX6_isDigit_16 ?_
      exact am_iret dX6_isDigit_17 rfl (by decide) wp
    · have wp := wp.2 hc2
      refine am_iconst 1 rfl dX6_isDigit_12 ?_
      refine am_goto dX6_isDigit_13 (tgt := 17) rfl ?_
      exact am_iret dX6_isDigit_17 rfl (by decide) wp
theorem tX6_isDigit {v : Int32} (k1 : (48 ≤ v ∧ v ≤ 57) → Q (some (.int 1)) (hp I J b)) (k0 : ¬ (48 ≤ v ∧ v ≤ 57) → Q (some (.int 0)) (hp I J b)) : am_R E mX6_isDigit 0 [some (.int v)] [] (hp I J b) 64 64 Q :=
  bX6_isDigit_0 ⟨fun h => k0 (fun q => Int32.not_lt.mpr q.1 h), fun h => ⟨fun h2 => k0 (fun q => Int32.not_lt.mpr q.2 h2), fun h2 => k1 ⟨nlt h, nlt h2⟩⟩⟩
theorem bX10_isMonk_0 {E : Nat × (Nat → Int32)} {I : Nat → Nat → Int32} {J : Nat → Nat → Int64} {b : Bool} {a1 : Int32} {Q : Option Value → am_H → Prop}  (wp : (((0 ≤ a1 ∧ a1 ≤ ((I 48 0) - 1)) → Q (some (.int 1)) (hp I J b)) ∧ (¬ (0 ≤ a1 ∧ a1 ≤ ((I 48 0) - 1)) → Q (some (.int 0)) (hp I J b)))) : am_R E mX10_isMonk 0 [some (.ref 48), some (.int a1)] [] (hp I J b) 64 64 Q := by
  refine am_iload_n rfl rfl dX10_isMonk_0 ?_
  refine am_iconst 0 rfl dX10_isMonk_1 ?_
  refine am_aload_n rfl rfl dX10_isMonk_2 ?_
  refine am_getI dX10_isMonk_3 flX10_7 (Or.inl rfl) rfl (by decide) ?_
  refine am_iconst 1 rfl dX10_isMonk_6 ?_
  refine am_isub dX10_isMonk_7 ?_
  refine am_invS (As := [.int a1, .int 0, .int ((I 48 0) - 1)]) (lsZ := [some (.int a1), some (.int 0), some (.int ((I 48 0) - 1))]) (st := []) dX10_isMonk_8 hX10_in lkX10_69 ⟨by decide, by decide⟩ rfl rfl (Nat.le_of_ble_eq_true rfl) rfl (Nat.le_of_ble_eq_true rfl) ⟨Nat.le_refl _, Nat.le_refl _⟩ (tX10_in  (fun hc1 => ?_) (fun hc1 => ?_))
  · have wp := wp.1 hc1
    show am_R E mX10_isMonk 11 [some (.ref 48), some (.int a1)] [.int 1] (hp I J b) 64 64 Q
    exact am_iret dX10_isMonk_11 rfl (by decide) wp
  · have wp := wp.2 hc1
    show am_R E mX10_isMonk 11 [some (.ref 48), some (.int a1)] [.int 0] (hp I J b) 64 64 Q
    exact am_iret dX10_isMonk_11 rfl (by decide) wp
theorem tX10_isMonk {m : Int32} (k1 : (0 ≤ m ∧ m ≤ I 48 0 - 1) → Q (some (.int 1)) (hp I J b)) (k0 : ¬ (0 ≤ m ∧ m ≤ I 48 0 - 1) → Q (some (.int 0)) (hp I J b)) : am_R E mX10_isMonk 0 [some (.ref 48), some (.int m)] [] (hp I J b) 64 64 Q := bX10_isMonk_0 ⟨k1, k0⟩
theorem bX9_isThere_0 {E : Nat × (Nat → Int32)} {I : Nat → Nat → Int32} {J : Nat → Nat → Int64} {b : Bool} {a1 : Int32} {Q : Option Value → am_H → Prop}  (wp : ((a1 < 0 → Q (some (.int 0)) (hp I J b)) ∧ (¬ a1 < 0 → (((I 4 0) ≤ a1 → Q (some (.int 0)) (hp I J b)) ∧ (¬ (I 4 0) ≤ a1 → Q (some (.int 1)) (hp I J b)))))) : am_R E mX9_isThere 0 [some (.ref 0), some (.int a1)] [] (hp I J b) 64 64 Q := by
  refine am_iload_n rfl rfl dX9_isThere_0 ?_
  refine am_if_lt dX9_isThere_1 (tgt := 19) rfl (fun hc1 => ?_) (fun hc1 => ?_)
  · have wp := wp.1 hc1
    refine am_iconst 0 rfl dX9_isThere_19 ?_
    exact am_iret dX9_isThere_20 rfl (by decide) wp
  · have wp := wp.2 hc1
    refine am_iload_n rfl rfl dX9_isThere_4 ?_
    refine am_aload_n rfl rfl dX9_isThere_5 ?_
    refine am_getA (r := 4) dX9_isThere_6 flX9_19 (Or.inl ⟨_, rfl⟩) rfl (by decide) rfl ?_
    refine am_getI dX9_isThere_9 flX9_102 (Or.inl rfl) rfl (by decide) ?_
    refine am_icmp_ge dX9_isThere_12 (tgt := 19) rfl (fun hc2 => ?_) (fun hc2 => ?_)
    · have wp := wp.1 hc2
      refine am_iconst 0 rfl dX9_isThere_19 ?_
      exact am_iret dX9_isThere_20 rfl (by decide) wp
    · have wp := wp.2 hc2
      refine am_iconst 1 rfl dX9_isThere_15 ?_
      refine am_goto dX9_isThere_16 (tgt := 20) rfl ?_
      exact am_iret dX9_isThere_20 rfl (by decide) wp
theorem tX9_isThere {m : Int32} (k1 : (0 ≤ m ∧ m < I 4 0) → Q (some (.int 1)) (hp I J b)) (k0 : ¬ (0 ≤ m ∧ m < I 4 0) → Q (some (.int 0)) (hp I J b)) : am_R E mX9_isThere 0 [some (.ref 0), some (.int m)] [] (hp I J b) 64 64 Q :=
  bX9_isThere_0 ⟨fun h => k0 (fun q => Int32.not_lt.mpr q.1 h), fun h => ⟨fun h2 => k0 (fun q => Int32.not_lt.mpr h2 q.2), fun h2 => k1 ⟨nlt h, nle h2⟩⟩⟩
theorem bX2_cell_0 {E : Nat × (Nat → Int32)} {I : Nat → Nat → Int32} {J : Nat → Nat → Int64} {b : Bool} {n : Nat} (hn : 48 ≤ n) {a0 : Int32} {a1 : Int32} {Q : Option Value → am_H → Prop}  (wp : Q (some (.int ((a0 * 7) + a1))) (hp I J b)) : am_R E mX2_cell 0 [some (.int a0), some (.int a1)] [] (hp I J b) n n Q := by
  refine am_iload_n rfl rfl dX2_cell_0 ?_
  refine am_bipush 7 rfl dX2_cell_1 ?_
  refine am_imul dX2_cell_3 ?_
  refine am_iload_n rfl rfl dX2_cell_4 ?_
  refine am_iadd dX2_cell_5 ?_
  exact am_iret dX2_cell_6 rfl rfl wp
theorem tX2_cell {n : Nat} (hn : 48 ≤ n) {m d : Int32} (k : Q (some (.int ((m * 7) + d))) (hp I J b)) : am_R E mX2_cell 0 [some (.int m), some (.int d)] [] (hp I J b) n n Q := bX2_cell_0 hn k
theorem bX2_skillOf_0 {E : Nat × (Nat → Int32)} {I : Nat → Nat → Int32} {J : Nat → Nat → Int64} {b : Bool} {n : Nat} (hn : 48 ≤ n) {a1 : Int32} {a2 : Int32} {Q : Option Value → am_H → Prop}  (wp : ∃ j1, ((a1 * 7) + a2) = nI j1 ∧ j1 < 49 ∧ Q (some (.int (I 5 j1))) (hp I J b)) : am_R E mX2_skillOf 0 [some (.ref 4), some (.int a1), some (.int a2)] [] (hp I J b) n n Q := by
  refine am_aload_n rfl rfl dX2_skillOf_0 ?_
  refine am_getA (r := 5) dX2_skillOf_1 flX2_9 (Or.inr ⟨_, rfl⟩) rfl (by omega) rfl ?_
  refine am_iload_n rfl rfl dX2_skillOf_4 ?_
  refine am_iload_n rfl rfl dX2_skillOf_5 ?_
  refine am_invS (As := [.int a1, .int a2]) (lsZ := [some (.int a1), some (.int a2)]) (st := [.ref 5]) dX2_skillOf_6 hX2_cell lkX2_35 ⟨by decide, by decide⟩ rfl rfl (Nat.le_of_ble_eq_true rfl) rfl (Nat.le_of_ble_eq_true rfl) ⟨Nat.le_refl _, Nat.le_refl _⟩ (tX2_cell hn  ?_)
  show am_R E mX2_skillOf 9 [some (.ref 4), some (.int a1), some (.int a2)] [.int ((a1 * 7) + a2), .ref 5] (hp I J b) n n Q
  obtain ⟨j1, e1, w1, wp⟩ := wp
  refine am_ialdN (j := j1) dX2_skillOf_9 rfl (by omega) e1 w1 (by decide) ?_
  exact am_iret dX2_skillOf_10 rfl rfl wp
theorem tX2_skillOf {n : Nat} (hn : 48 ≤ n) {m d : Int32} {j : Nat} (e : (m * 7) + d = nI j) (hj : j < 49) (k : Q (some (.int (I 5 j))) (hp I J b)) : am_R E mX2_skillOf 0 [some (.ref 4), some (.int m), some (.int d)] [] (hp I J b) n n Q := bX2_skillOf_0 hn ⟨j, e, hj, k⟩
theorem bX2_likingOf_0 {E : Nat × (Nat → Int32)} {I : Nat → Nat → Int32} {J : Nat → Nat → Int64} {b : Bool} {n : Nat} (hn : 48 ≤ n) {a1 : Int32} {a2 : Int32} {Q : Option Value → am_H → Prop}  (wp : ∃ j1, ((a1 * 7) + a2) = nI j1 ∧ j1 < 49 ∧ Q (some (.int (I 6 j1))) (hp I J b)) : am_R E mX2_likingOf 0 [some (.ref 4), some (.int a1), some (.int a2)] [] (hp I J b) n n Q := by
  refine am_aload_n rfl rfl dX2_likingOf_0 ?_
  refine am_getA (r := 6) dX2_likingOf_1 flX2_15 (Or.inr ⟨_, rfl⟩) rfl (by omega) rfl ?_
  refine am_iload_n rfl rfl dX2_likingOf_4 ?_
  refine am_iload_n rfl rfl dX2_likingOf_5 ?_
  refine am_invS (As := [.int a1, .int a2]) (lsZ := [some (.int a1), some (.int a2)]) (st := [.ref 6]) dX2_likingOf_6 hX2_cell lkX2_35 ⟨by decide, by decide⟩ rfl rfl (Nat.le_of_ble_eq_true rfl) rfl (Nat.le_of_ble_eq_true rfl) ⟨Nat.le_refl _, Nat.le_refl _⟩ (tX2_cell hn  ?_)
  show am_R E mX2_likingOf 9 [some (.ref 4), some (.int a1), some (.int a2)] [.int ((a1 * 7) + a2), .ref 6] (hp I J b) n n Q
  obtain ⟨j1, e1, w1, wp⟩ := wp
  refine am_ialdN (j := j1) dX2_likingOf_9 rfl (by omega) e1 w1 (by decide) ?_
  exact am_iret dX2_likingOf_10 rfl rfl wp
theorem tX2_likingOf {n : Nat} (hn : 48 ≤ n) {m d : Int32} {j : Nat} (e : (m * 7) + d = nI j) (hj : j < 49) (k : Q (some (.int (I 6 j))) (hp I J b)) : am_R E mX2_likingOf 0 [some (.ref 4), some (.int m), some (.int d)] [] (hp I J b) n n Q := bX2_likingOf_0 hn ⟨j, e, hj, k⟩
theorem bX5_mayDo_0 {E : Nat × (Nat → Int32)} {I : Nat → Nat → Int32} {J : Nat → Nat → Int64} {b : Bool} {a1 : Int32} {a2 : Int32} {Q : Option Value → am_H → Prop}  (wp : ∃ j1, a1 = nI j1 ∧ j1 < 7 ∧ ((¬ (((I 24 j1) >>> (a2 &&& 31)) &&& 1) = 1 → Q (some (.int 0)) (hp I J b)) ∧ ((((I 24 j1) >>> (a2 &&& 31)) &&& 1) = 1 → Q (some (.int 1)) (hp I J b)))) : am_R E mX5_mayDo 0 [some (.ref 23), some (.int a1), some (.int a2)] [] (hp I J b) 64 64 Q := by
  refine am_aload_n rfl rfl dX5_mayDo_0 ?_
  refine am_getA (r := 24) dX5_mayDo_1 flX5_9 (Or.inr ⟨_, rfl⟩) rfl (by decide) rfl ?_
  refine am_iload_n rfl rfl dX5_mayDo_4 ?_
  obtain ⟨j1, e1, w1, wp⟩ := wp
  refine am_ialdN (j := j1) dX5_mayDo_5 rfl (by decide) e1 w1 (by decide) ?_
  refine am_iload_n rfl rfl dX5_mayDo_6 ?_
  refine am_ishr dX5_mayDo_7 ?_
  refine am_iconst 1 rfl dX5_mayDo_8 ?_
  refine am_iand dX5_mayDo_9 ?_
  refine am_iconst 1 rfl dX5_mayDo_10 ?_
  refine am_icmp_ne dX5_mayDo_11 (tgt := 18) rfl (fun hc2 => ?_) (fun hc2 => ?_)
  · have wp := wp.1 hc2
    refine am_iconst 0 rfl dX5_mayDo_18 ?_
    exact am_iret dX5_mayDo_19 rfl (by decide) wp
  · have wp := wp.2 hc2
    refine am_iconst 1 rfl dX5_mayDo_14 ?_
    refine am_goto dX5_mayDo_15 (tgt := 19) rfl ?_
    exact am_iret dX5_mayDo_19 rfl (by decide) wp
theorem tX5_mayDo {m d : Int32} {j : Nat} (e : m = nI j) (hj : j < 7) (k1 : ((I 24 j >>> (d &&& 31)) &&& 1) = 1 → Q (some (.int 1)) (hp I J b)) (k0 : ¬ ((I 24 j >>> (d &&& 31)) &&& 1) = 1 → Q (some (.int 0)) (hp I J b)) : am_R E mX5_mayDo 0 [some (.ref 23), some (.int m), some (.int d)] [] (hp I J b) 64 64 Q := bX5_mayDo_0 ⟨j, e, hj, k0, k1⟩
theorem bX10_fails_0 {E : Nat × (Nat → Int32)} {I : Nat → Nat → Int32} {J : Nat → Nat → Int64} {b : Bool}  {Q : Option Value → am_H → Prop}  (wp : Q (some (.int 0)) (hp (u2 I 48 13 (I 48 9)) J b)) : am_R E mX10_fails 0 [some (.ref 48)] [] (hp I J b) 64 64 Q := by
  refine am_aload_n rfl rfl dX10_fails_0 ?_
  refine am_aload_n rfl rfl dX10_fails_1 ?_
  refine am_getI dX10_fails_2 flX10_81 (Or.inl rfl) rfl (by decide) ?_
  refine am_putI dX10_fails_5 flX10_106 (Or.inl rfl) rfl rfl (by decide) ?_
  refine am_iconst 0 rfl dX10_fails_8 ?_
  exact am_iret dX10_fails_9 rfl (by decide) wp
theorem bX10_mayBehind_0 {E : Nat × (Nat → Int32)} {I : Nat → Nat → Int32} {J : Nat → Nat → Int64} {b : Bool} {a1 : Int32} {a2 : Int32} {a3 : Int32} {Q : Option Value → am_H → Prop}  (wp : ∃ j1, a2 = nI j1 ∧ j1 < 7 ∧ ((¬ (I 51 j1) = 1 → ∃ j3, ((7 * a1) + a2) = nI j3 ∧ j3 < 49 ∧ (((I 49 j3) ≤ 0 → Q (some (.int 0)) (hp I J b)) ∧ (¬ (I 49 j3) ≤ 0 → ((¬ (I 51 j1) = 2 → Q (some (.int 1)) (hp I J b)) ∧ ((I 51 j1) = 2 → ((a3 = a2 → Q (some (.int 0)) (hp I J b)) ∧ (¬ a3 = a2 → Q (some (.int 1)) (hp I J b)))))))) ∧ ((I 51 j1) = 1 → ((a3 = (-1) → ∃ j8, ((7 * a1) + a2) = nI j8 ∧ j8 < 49 ∧ (((I 49 j8) ≤ 0 → Q (some (.int 0)) (hp I J b)) ∧ (¬ (I 49 j8) ≤ 0 → ((¬ (I 51 j1) = 2 → Q (some (.int 1)) (hp I J b)) ∧ ((I 51 j1) = 2 → ((a3 = a2 → Q (some (.int 0)) (hp I J b)) ∧ (¬ a3 = a2 → Q (some (.int 1)) (hp I J b)))))))) ∧ (¬ a3 = (-1) → ∃ j12, a3 = nI j12 ∧ j12 < 7 ∧ ((¬ (I 51 j12) = 1 → ∃ j14, ((7 * a1) + a2) = nI j14 ∧ j14 < 49 ∧ (((I 49 j14) ≤ 0 → Q (some (.int 0)) (hp I J b)) ∧ (¬ (I 49 j14) ≤ 0 → ((¬ (I 51 j1) = 2 → Q (some (.int 1)) (hp I J b)) ∧ ((I 51 j1) = 2 → ((a3 = a2 → Q (some (.int 0)) (hp I J b)) ∧ (¬ a3 = a2 → Q (some (.int 1)) (hp I J b)))))))) ∧ ((I 51 j12) = 1 → ∃ j18, ((7 * a1) + a2) = nI j18 ∧ j18 < 49 ∧ (((I 49 j18) ≤ 0 → Q (some (.int 0)) (hp I J b)) ∧ (¬ (I 49 j18) ≤ 0 → Q (some (.int 0)) (hp I J b)))))))))) : am_R E mX10_mayBehind 0 [some (.ref 48), some (.int a1), some (.int a2), some (.int a3), none] [] (hp I J b) 64 64 Q := by
  refine am_aload_n rfl rfl dX10_mayBehind_0 ?_
  refine am_getA (r := 51) dX10_mayBehind_1 flX10_23 (Or.inr ⟨_, rfl⟩) rfl (by decide) rfl ?_
  refine am_iload_n rfl rfl dX10_mayBehind_4 ?_
  obtain ⟨j1, e1, w1, wp⟩ := wp
  refine am_ialdN (j := j1) dX10_mayBehind_5 rfl (by decide) e1 w1 (by decide) ?_
  refine am_iconst 1 rfl dX10_mayBehind_6 ?_
  refine am_icmp_ne dX10_mayBehind_7 (tgt := 29) rfl (fun hc2 => ?_) (fun hc2 => ?_)
  · have wp := wp.1 hc2
    refine am_iconst 0 rfl dX10_mayBehind_29 ?_
    refine am_istore (ls' := [some (.ref 48), some (.int a1), some (.int a2), some (.int a3), some (.int 0)]) (by decide) rfl rfl dX10_mayBehind_30 ?_
    refine am_aload_n rfl rfl dX10_mayBehind_32 ?_
    refine am_getA (r := 49) dX10_mayBehind_33 flX10_16 (Or.inr ⟨_, rfl⟩) rfl (by decide) rfl ?_
    refine am_bipush 7 rfl dX10_mayBehind_36 ?_
    refine am_iload_n rfl rfl dX10_mayBehind_38 ?_
    refine am_imul dX10_mayBehind_39 ?_
    refine am_iload_n rfl rfl dX10_mayBehind_40 ?_
    refine am_iadd dX10_mayBehind_41 ?_
    obtain ⟨j3, e3, w3, wp⟩ := wp
    refine am_ialdN (j := j3) dX10_mayBehind_42 rfl (by decide) e3 w3 (by decide) ?_
    refine am_if_le dX10_mayBehind_43 (tgt := 70) rfl (fun hc4 => ?_) (fun hc4 => ?_)
    · have wp := wp.1 hc4
      refine am_iconst 0 rfl dX10_mayBehind_70 ?_
      exact am_iret dX10_mayBehind_71 rfl (by decide) wp
    · have wp := wp.2 hc4
      refine am_iload rfl dX10_mayBehind_46 ?_
      refine am_if_ne dX10_mayBehind_48 (tgt := 70) rfl (fun hc => absurd hc (by decide)) (fun _ => ?_)
      refine am_aload_n rfl rfl dX10_mayBehind_51 ?_
      refine am_getA (r := 51) dX10_mayBehind_52 flX10_23 (Or.inr ⟨_, rfl⟩) rfl (by decide) rfl ?_
      refine am_iload_n rfl rfl dX10_mayBehind_55 ?_
      refine am_ialdN (j := j1) dX10_mayBehind_56 rfl (by decide) e1 w1 (by decide) ?_
      refine am_iconst 2 rfl dX10_mayBehind_57 ?_
      refine am_icmp_ne dX10_mayBehind_58 (tgt := 66) rfl (fun hc5 => ?_) (fun hc5 => ?_)
      · have wp := wp.1 hc5
        refine am_iconst 1 rfl dX10_mayBehind_66 ?_
        refine am_goto dX10_mayBehind_67 (tgt := 71) rfl ?_
        exact am_iret dX10_mayBehind_71 rfl (by decide) wp
      · have wp := wp.2 hc5
        refine am_iload_n rfl rfl dX10_mayBehind_61 ?_
        refine am_iload_n rfl rfl dX10_mayBehind_62 ?_
        refine am_icmp_eq dX10_mayBehind_63 (tgt := 70) rfl (fun hc6 => ?_) (fun hc6 => ?_)
        · have wp := wp.1 hc6
          refine am_iconst 0 rfl dX10_mayBehind_70 ?_
          exact am_iret dX10_mayBehind_71 rfl (by decide) wp
        · have wp := wp.2 hc6
          refine am_iconst 1 rfl dX10_mayBehind_66 ?_
          refine am_goto dX10_mayBehind_67 (tgt := 71) rfl ?_
          exact am_iret dX10_mayBehind_71 rfl (by decide) wp
  · have wp := wp.2 hc2
    refine am_iload_n rfl rfl dX10_mayBehind_10 ?_
    refine am_iconst (-1) rfl dX10_mayBehind_11 ?_
    refine am_icmp_eq dX10_mayBehind_12 (tgt := 29) rfl (fun hc7 => ?_) (fun hc7 => ?_)
    · have wp := wp.1 hc7
      refine am_iconst 0 rfl dX10_mayBehind_29 ?_
      refine am_istore (ls' := [some (.ref 48), some (.int a1), some (.int a2), some (.int a3), some (.int 0)]) (by decide) rfl rfl dX10_mayBehind_30 ?_
      refine am_aload_n rfl rfl dX10_mayBehind_32 ?_
      refine am_getA (r := 49) dX10_mayBehind_33 flX10_16 (Or.inr ⟨_, rfl⟩) rfl (by decide) rfl ?_
      refine am_bipush 7 rfl dX10_mayBehind_36 ?_
      refine am_iload_n rfl rfl dX10_mayBehind_38 ?_
      refine am_imul dX10_mayBehind_39 ?_
      refine am_iload_n rfl rfl dX10_mayBehind_40 ?_
      refine am_iadd dX10_mayBehind_41 ?_
      obtain ⟨j8, e8, w8, wp⟩ := wp
      refine am_ialdN (j := j8) dX10_mayBehind_42 rfl (by decide) e8 w8 (by decide) ?_
      refine am_if_le dX10_mayBehind_43 (tgt := 70) rfl (fun hc9 => ?_) (fun hc9 => ?_)
      · have wp := wp.1 hc9
        refine am_iconst 0 rfl dX10_mayBehind_70 ?_
        exact am_iret dX10_mayBehind_71 rfl (by decide) wp
      · have wp := wp.2 hc9
        refine am_iload rfl dX10_mayBehind_46 ?_
        refine am_if_ne dX10_mayBehind_48 (tgt := 70) rfl (fun hc => absurd hc (by decide)) (fun _ => ?_)
        refine am_aload_n rfl rfl dX10_mayBehind_51 ?_
        refine am_getA (r := 51) dX10_mayBehind_52 flX10_23 (Or.inr ⟨_, rfl⟩) rfl (by decide) rfl ?_
        refine am_iload_n rfl rfl dX10_mayBehind_55 ?_
        refine am_ialdN (j := j1) dX10_mayBehind_56 rfl (by decide) e1 w1 (by decide) ?_
        refine am_iconst 2 rfl dX10_mayBehind_57 ?_
        refine am_icmp_ne dX10_mayBehind_58 (tgt := 66) rfl (fun hc10 => ?_) (fun hc10 => ?_)
        · have wp := wp.1 hc10
          refine am_iconst 1 rfl dX10_mayBehind_66 ?_
          refine am_goto dX10_mayBehind_67 (tgt := 71) rfl ?_
          exact am_iret dX10_mayBehind_71 rfl (by decide) wp
        · have wp := wp.2 hc10
          refine am_iload_n rfl rfl dX10_mayBehind_61 ?_
          refine am_iload_n rfl rfl dX10_mayBehind_62 ?_
          refine am_icmp_eq dX10_mayBehind_63 (tgt := 70) rfl (fun hc11 => ?_) (fun hc11 => ?_)
          · have wp := wp.1 hc11
            refine am_iconst 0 rfl dX10_mayBehind_70 ?_
            exact am_iret dX10_mayBehind_71 rfl (by decide) wp
          · have wp := wp.2 hc11
            refine am_iconst 1 rfl dX10_mayBehind_66 ?_
            refine am_goto dX10_mayBehind_67 (tgt := 71) rfl ?_
            exact am_iret dX10_mayBehind_71 rfl (by decide) wp
    · have wp := wp.2 hc7
      refine am_aload_n rfl rfl dX10_mayBehind_15 ?_
      refine am_getA (r := 51) dX10_mayBehind_16 flX10_23 (Or.inr ⟨_, rfl⟩) rfl (by decide) rfl ?_
      refine am_iload_n rfl rfl dX10_mayBehind_19 ?_
      obtain ⟨j12, e12, w12, wp⟩ := wp
      refine am_ialdN (j := j12) dX10_mayBehind_20 rfl (by decide) e12 w12 (by decide) ?_
      refine am_iconst 1 rfl dX10_mayBehind_21 ?_
      refine am_icmp_ne dX10_mayBehind_22 (tgt := 29) rfl (fun hc13 => ?_) (fun hc13 => ?_)
      · have wp := wp.1 hc13
        refine am_iconst 0 rfl dX10_mayBehind_29 ?_
        refine am_istore (ls' := [some (.ref 48), some (.int a1), some (.int a2), some (.int a3), some (.int 0)]) (by decide) rfl rfl dX10_mayBehind_30 ?_
        refine am_aload_n rfl rfl dX10_mayBehind_32 ?_
        refine am_getA (r := 49) dX10_mayBehind_33 flX10_16 (Or.inr ⟨_, rfl⟩) rfl (by decide) rfl ?_
        refine am_bipush 7 rfl dX10_mayBehind_36 ?_
        refine am_iload_n rfl rfl dX10_mayBehind_38 ?_
        refine am_imul dX10_mayBehind_39 ?_
        refine am_iload_n rfl rfl dX10_mayBehind_40 ?_
        refine am_iadd dX10_mayBehind_41 ?_
        obtain ⟨j14, e14, w14, wp⟩ := wp
        refine am_ialdN (j := j14) dX10_mayBehind_42 rfl (by decide) e14 w14 (by decide) ?_
        refine am_if_le dX10_mayBehind_43 (tgt := 70) rfl (fun hc15 => ?_) (fun hc15 => ?_)
        · have wp := wp.1 hc15
          refine am_iconst 0 rfl dX10_mayBehind_70 ?_
          exact am_iret dX10_mayBehind_71 rfl (by decide) wp
        · have wp := wp.2 hc15
          refine am_iload rfl dX10_mayBehind_46 ?_
          refine am_if_ne dX10_mayBehind_48 (tgt := 70) rfl (fun hc => absurd hc (by decide)) (fun _ => ?_)
          refine am_aload_n rfl rfl dX10_mayBehind_51 ?_
          refine am_getA (r := 51) dX10_mayBehind_52 flX10_23 (Or.inr ⟨_, rfl⟩) rfl (by decide) rfl ?_
          refine am_iload_n rfl rfl dX10_mayBehind_55 ?_
          refine am_ialdN (j := j1) dX10_mayBehind_56 rfl (by decide) e1 w1 (by decide) ?_
          refine am_iconst 2 rfl dX10_mayBehind_57 ?_
          refine am_icmp_ne dX10_mayBehind_58 (tgt := 66) rfl (fun hc16 => ?_) (fun hc16 => ?_)
          · have wp := wp.1 hc16
            refine am_iconst 1 rfl dX10_mayBehind_66 ?_
            refine am_goto dX10_mayBehind_67 (tgt := 71) rfl ?_
            exact am_iret dX10_mayBehind_71 rfl (by decide) wp
          · have wp := wp.2 hc16
            refine am_iload_n rfl rfl dX10_mayBehind_61 ?_
            refine am_iload_n rfl rfl dX10_mayBehind_62 ?_
            refine am_icmp_eq dX10_mayBehind_63 (tgt := 70) rfl (fun hc17 => ?_) (fun hc17 => ?_)
            · have wp := wp.1 hc17
              refine am_iconst 0 rfl dX10_mayBehind_70 ?_
              exact am_iret dX10_mayBehind_71 rfl (by decide) wp
            · have wp := wp.2 hc17
              refine am_iconst 1 rfl dX10_mayBehind_66 ?_
              refine am_goto dX10_mayBehind_67 (tgt := 71) rfl ?_
              exact am_iret dX10_mayBehind_71 rfl (by decide) wp
      · have wp := wp.2 hc13
        refine am_iconst 1 rfl dX10_mayBehind_25 ?_
        refine am_goto dX10_mayBehind_26 (tgt := 30) rfl ?_
        refine am_istore (ls' := [some (.ref 48), some (.int a1), some (.int a2), some (.int a3), some (.int 1)]) (by decide) rfl rfl dX10_mayBehind_30 ?_
        refine am_aload_n rfl rfl dX10_mayBehind_32 ?_
        refine am_getA (r := 49) dX10_mayBehind_33 flX10_16 (Or.inr ⟨_, rfl⟩) rfl (by decide) rfl ?_
        refine am_bipush 7 rfl dX10_mayBehind_36 ?_
        refine am_iload_n rfl rfl dX10_mayBehind_38 ?_
        refine am_imul dX10_mayBehind_39 ?_
        refine am_iload_n rfl rfl dX10_mayBehind_40 ?_
        refine am_iadd dX10_mayBehind_41 ?_
        obtain ⟨j18, e18, w18, wp⟩ := wp
        refine am_ialdN (j := j18) dX10_mayBehind_42 rfl (by decide) e18 w18 (by decide) ?_
        refine am_if_le dX10_mayBehind_43 (tgt := 70) rfl (fun hc19 => ?_) (fun hc19 => ?_)
        · have wp := wp.1 hc19
          refine am_iconst 0 rfl dX10_mayBehind_70 ?_
          exact am_iret dX10_mayBehind_71 rfl (by decide) wp
        · have wp := wp.2 hc19
          refine am_iload rfl dX10_mayBehind_46 ?_
          refine am_if_ne dX10_mayBehind_48 (tgt := 70) rfl (fun _ => ?_) (fun hc => absurd hc (by decide))
          refine am_iconst 0 rfl dX10_mayBehind_70 ?_
          exact am_iret dX10_mayBehind_71 rfl (by decide) wp
theorem k7 (m d : Nat) : 7 * nI m + nI d = nI (7 * m + d) := by
  rw [show (7 : Int32) = nI 7 from rfl, pk_mul, nI_add]
theorem k7' (m d : Nat) : nI m * 7 + nI d = nI (7 * m + d) := by
  rw [show (7 : Int32) = nI 7 from rfl, pk_mul, nI_add, Nat.mul_comm]
/-- of the reference's cells: a monk may do a duty behind what it did -/
abbrev mb (I : Nat → Nat → Int32) (m d : Nat) (y : Int32) : Prop := 0 < I 49 (7 * m + d) ∧ ¬ (I 51 d = 1 ∧ ¬ y = -1 ∧ I 51 y.toNatClampNeg = 1) ∧ (¬ I 51 d = 2 ∨ ¬ y = nI d)
theorem tX10_mayBehind {a1 a2 y : Int32} {m d : Nat} (em : a1 = nI m) (hm : m < 7) (ed : a2 = nI d) (hd : d < 7) (hy : y = -1 ∨ ∃ e, e < 7 ∧ y = nI e) (k1 : mb I m d y → Q (some (.int 1)) (hp I J b)) (k0 : ¬ mb I m d y → Q (some (.int 0)) (hp I J b)) : am_R E mX10_mayBehind 0 [some (.ref 48), some (.int a1), some (.int a2), some (.int y), none] [] (hp I J b) 64 64 Q := by
  subst em; subst ed
  have hl : 7 * m + d < 49 := by omega
  refine bX10_mayBehind_0 ⟨d, rfl, hd, ⟨fun h1 => ⟨7 * m + d, k7 m d, hl, fun h2 => k0 (fun q => Int32.not_le.mpr q.1 h2), fun h2 => ⟨fun h3 => k1 ⟨nle h2, fun q => h1 q.1, Or.inl h3⟩, fun h3 => ⟨fun h4 => k0 (fun q => q.2.2.elim (fun z => z h3) (fun z => z h4)), fun h4 => k1 ⟨nle h2, fun q => h1 q.1, Or.inr h4⟩⟩⟩⟩, fun h1 => ⟨fun h5 => ⟨7 * m + d, k7 m d, hl, fun h2 => k0 (fun q => Int32.not_le.mpr q.1 h2), fun h2 => ⟨fun h3 => k1 ⟨nle h2, fun q => q.2.1 h5, Or.inl h3⟩, fun h3 => ⟨fun h4 => k0 (fun q => q.2.2.elim (fun z => z h3) (fun z => z h4)), fun h4 => k1 ⟨nle h2, fun q => q.2.1 h5, Or.inr h4⟩⟩⟩⟩, fun h5 => ?_⟩⟩⟩
  rcases hy with hy | ⟨e, he, hy⟩
  · exact absurd hy h5
  · have hc : y.toNatClampNeg = e := by rw [hy]; exact nI_clamp (by omega)
    refine ⟨e, hy, he, fun h6 => ⟨7 * m + d, k7 m d, hl, fun h2 => k0 (fun q => Int32.not_le.mpr q.1 h2), fun h2 => ⟨fun h3 => k1 ⟨nle h2, fun q => h6 (by rw [← hc]; exact q.2.2), Or.inl h3⟩, fun h3 => ⟨fun h4 => k0 (fun q => q.2.2.elim (fun z => z h3) (fun z => z h4)), fun h4 => k1 ⟨nle h2, fun q => h6 (by rw [← hc]; exact q.2.2), Or.inr h4⟩⟩⟩⟩, fun h6 => ⟨7 * m + d, k7 m d, hl, fun h2 => k0 (fun q => Int32.not_le.mpr q.1 h2), fun h2 => k0 (fun q => q.2.1 ⟨h1, h5, by rw [hc]; exact h6⟩)⟩⟩
theorem bX2_mayFollow_0 {E : Nat × (Nat → Int32)} {I : Nat → Nat → Int32} {J : Nat → Nat → Int64} {b : Bool} {n : Nat} (hn : 48 ≤ n) {a1 : Int32} {a2 : Int32} {Q : Option Value → am_H → Prop}  (wp : ((a2 < 0 → Q (some (.int 1)) (hp I J b)) ∧ (¬ a2 < 0 → ((a2 < (I 4 0) → ∃ j3, a1 = nI j3 ∧ j3 < 7 ∧ ((¬ (I 7 j3) = 2 → ((¬ (I 7 j3) = 3 → Q (some (.int 1)) (hp I J b)) ∧ ((I 7 j3) = 3 → ((a2 = a1 → Q (some (.int 0)) (hp I J b)) ∧ (¬ a2 = a1 → Q (some (.int 1)) (hp I J b)))))) ∧ ((I 7 j3) = 2 → ∃ j7, a2 = nI j7 ∧ j7 < 7 ∧ (((I 7 j7) = 2 → Q (some (.int 0)) (hp I J b)) ∧ (¬ (I 7 j7) = 2 → Q (some (.int 1)) (hp I J b)))))) ∧ (¬ a2 < (I 4 0) → Q (some (.int 1)) (hp I J b)))))) : am_R E mX2_mayFollow 0 [some (.ref 4), some (.int a1), some (.int a2)] [] (hp I J b) n n Q := by
  refine am_iload_n rfl rfl dX2_mayFollow_0 ?_
  refine am_if_lt dX2_mayFollow_1 (tgt := 12) rfl (fun hc1 => ?_) (fun hc1 => ?_)
  · have wp := wp.1 hc1
    refine am_iconst 1 rfl dX2_mayFollow_12 ?_
    exact am_iret dX2_mayFollow_13 rfl (by decide) wp
  · have wp := wp.2 hc1
    refine am_iload_n rfl rfl dX2_mayFollow_4 ?_
    refine am_aload_n rfl rfl dX2_mayFollow_5 ?_
    refine am_getI dX2_mayFollow_6 flX2_24 (Or.inl rfl) rfl (by omega) ?_
    refine am_icmp_lt dX2_mayFollow_9 (tgt := 14) rfl (fun hc2 => ?_) (fun hc2 => ?_)
    · have wp := wp.1 hc2
      refine am_aload_n rfl rfl dX2_mayFollow_14 ?_
      refine am_getA (r := 7) dX2_mayFollow_15 flX2_18 (Or.inr ⟨_, rfl⟩) rfl (by omega) rfl ?_
      refine am_iload_n rfl rfl dX2_mayFollow_18 ?_
      obtain ⟨j3, e3, w3, wp⟩ := wp
      refine am_ialdN (j := j3) dX2_mayFollow_19 rfl (by omega) e3 w3 (by decide) ?_
      refine am_iconst 2 rfl dX2_mayFollow_20 ?_
      refine am_icmp_ne dX2_mayFollow_21 (tgt := 40) rfl (fun hc4 => ?_) (fun hc4 => ?_)
      · have wp := wp.1 hc4
        refine am_aload_n rfl rfl dX2_mayFollow_40 ?_
        refine am_getA (r := 7) dX2_mayFollow_41 flX2_18 (Or.inr ⟨_, rfl⟩) rfl (by omega) rfl ?_
        refine am_iload_n rfl rfl dX2_mayFollow_44 ?_
        refine am_ialdN (j := j3) dX2_mayFollow_45 rfl (by omega) e3 w3 (by decide) ?_
        refine am_iconst 3 rfl dX2_mayFollow_46 ?_
        refine am_icmp_ne dX2_mayFollow_47 (tgt := 55) rfl (fun hc5 => ?_) (fun hc5 => ?_)
        · have wp := wp.1 hc5
          refine am_iconst 1 rfl dX2_mayFollow_55 ?_
          refine am_goto dX2_mayFollow_56 (tgt := 60) rfl ?_
          exact am_iret dX2_mayFollow_60 rfl (by decide) wp
        · have wp := wp.2 hc5
          refine am_iload_n rfl rfl dX2_mayFollow_50 ?_
          refine am_iload_n rfl rfl dX2_mayFollow_51 ?_
          refine am_icmp_eq dX2_mayFollow_52 (tgt := 59) rfl (fun hc6 => ?_) (fun hc6 => ?_)
          · have wp := wp.1 hc6
            refine am_iconst 0 rfl dX2_mayFollow_59 ?_
            exact am_iret dX2_mayFollow_60 rfl (by decide) wp
          · have wp := wp.2 hc6
            refine am_iconst 1 rfl dX2_mayFollow_55 ?_
            refine am_goto dX2_mayFollow_56 (tgt := 60) rfl ?_
            exact am_iret dX2_mayFollow_60 rfl (by decide) wp
      · have wp := wp.2 hc4
        refine am_aload_n rfl rfl dX2_mayFollow_24 ?_
        refine am_getA (r := 7) dX2_mayFollow_25 flX2_18 (Or.inr ⟨_, rfl⟩) rfl (by omega) rfl ?_
        refine am_iload_n rfl rfl dX2_mayFollow_28 ?_
        obtain ⟨j7, e7, w7, wp⟩ := wp
        refine am_ialdN (j := j7) dX2_mayFollow_29 rfl (by omega) e7 w7 (by decide) ?_
        refine am_iconst 2 rfl dX2_mayFollow_30 ?_
        refine am_icmp_eq dX2_mayFollow_31 (tgt := 38) rfl (fun hc8 => ?_) (fun hc8 => ?_)
        · have wp := wp.1 hc8
          refine am_iconst 0 rfl dX2_mayFollow_38 ?_
          exact am_iret dX2_mayFollow_39 rfl (by decide) wp
        · have wp := wp.2 hc8
          refine am_iconst 1 rfl dX2_mayFollow_34 ?_
          refine am_goto dX2_mayFollow_35 (tgt := 39) rfl ?_
          exact am_iret dX2_mayFollow_39 rfl (by decide) wp
    · have wp := wp.2 hc2
      refine am_iconst 1 rfl dX2_mayFollow_12 ?_
      exact am_iret dX2_mayFollow_13 rfl (by decide) wp
/-- of the class's cells: a duty may come behind another -/
abbrev mf (I : Nat → Nat → Int32) (d : Nat) (y : Int32) : Prop := ¬ (I 7 d = 2 ∧ ¬ y = -1 ∧ I 7 y.toNatClampNeg = 2) ∧ (¬ I 7 d = 3 ∨ ¬ y = nI d)
theorem tX2_mayFollow {n : Nat} (hn : 48 ≤ n) {a1 y : Int32} {d v : Nat} (ed : a1 = nI d) (hd : d < 7) (hv : I 4 0 = nI v) (hv7 : v ≤ 7) (hdv : d < v) (hy : y = -1 ∨ ∃ e, e < v ∧ y = nI e) (k1 : mf I d y → Q (some (.int 1)) (hp I J b)) (k0 : ¬ mf I d y → Q (some (.int 0)) (hp I J b)) : am_R E mX2_mayFollow 0 [some (.ref 4), some (.int a1), some (.int y)] [] (hp I J b) n n Q := by
  subst ed
  have hm1 : ∀ e : Nat, e < 7 → ¬ (-1 : Int32) = nI e := by decide
  refine bX2_mayFollow_0 hn ⟨fun h => k1 ?_, fun h => ?_⟩
  · rcases hy with hy | ⟨e, he, hy⟩
    · exact ⟨fun q => q.2.1 hy, Or.inr (by rw [hy]; exact hm1 d hd)⟩
    · rw [hy] at h; exact absurd h (nI_pos (by omega))
  · rcases hy with hy | ⟨e, he, hy⟩
    · rw [hy] at h; exact absurd (by decide) h
    · have hc : y.toNatClampNeg = e := by rw [hy]; exact nI_clamp (by omega)
      have hn1 : ¬ y = -1 := by rw [hy]; exact fun z => hm1 e (by omega) z.symm
      refine ⟨fun _ => ⟨d, rfl, hd, ⟨fun h1 => ⟨fun h2 => k1 ⟨fun q => h1 q.1, Or.inl h2⟩, fun h2 => ⟨fun h3 => k0 (fun q => q.2.elim (fun z => z h2) (fun z => z h3)), fun h3 => k1 ⟨fun q => h1 q.1, Or.inr h3⟩⟩⟩, fun h1 => ⟨e, hy, by omega, fun h2 => k0 (fun q => q.1 ⟨h1, hn1, by rw [hc]; exact h2⟩), fun h2 => k1 ⟨fun q => h2 (by rw [← hc]; exact q.2.2), Or.inl (by rw [h1]; decide)⟩⟩⟩⟩, fun h1 => absurd (by rw [hv, hy]; exact nI_lt he (by omega)) h1⟩
end T0
end
section
/-! ===== the reference: rows, sums, lawful draws ===== -/
section M1
variable {E : Nat × (Nat → Int32)} {I : Nat → Nat → Int32} {J : Nat → Nat → Int64} {b : Bool} {Q : Option Value → am_H → Prop}
theorem lp_up {n : Nat} {P : Nat → Prop} (hend : P n) (hstep : ∀ m, m < n → P (m + 1) → P m) : P 0 := by
  have : ∀ k m, m + k = n → P m := by
    intro k
    induction k with
    | zero => intro m h; rw [show m = n by omega]; exact hend
    | succ k ih => intro m h; exact hstep m (by omega) (ih (m + 1) (by omega))
  exact this n 0 (by omega)
theorem le_br {x y : Int32} {A B : Prop} {n m : Nat} (hx : x = nI n) (hy : y = nI m) (hn : n < 2 ^ 31) (hm : m < 2 ^ 31) (f : n ≤ m → A) (g : m < n → B) : (x ≤ y → A) ∧ (¬ x ≤ y → B) := by
  subst hx; subst hy
  exact ⟨fun h => f ((nI_leI hn hm).mp h), fun h => g (Nat.lt_of_not_le fun q => h ((nI_leI hn hm).mpr q))⟩
theorem lt_br {x y : Int32} {A B : Prop} {n m : Nat} (hx : x = nI n) (hy : y = nI m) (hn : n < 2 ^ 31) (hm : m < 2 ^ 31) (f : n < m → A) (g : m ≤ n → B) : (x < y → A) ∧ (¬ x < y → B) := by
  subst hx; subst hy
  exact ⟨fun h => f ((nI_ltI hn hm).mp h), fun h => g (Nat.le_of_not_lt fun q => h ((nI_ltI hn hm).mpr q))⟩
theorem n1 (m : Nat) : nI m + 1 = nI (m + 1) := nI_1 m
theorem n1' (m : Nat) : 1 + nI m = nI (1 + m) := by rw [show (1 : Int32) = nI 1 from rfl, nI_add]
theorem n8' (m : Nat) : 8 + nI m = nI (8 + m) := by rw [show (8 : Int32) = nI 8 from rfl, nI_add]
/-- sums -/
def sm (f : Nat → Int32) : Nat → Int32
  | 0 => 0
  | k + 1 => sm f k + f k
theorem sm_cong {f g : Nat → Int32} {n : Nat} (h : ∀ k, k < n → f k = g k) : sm f n = sm g n := by
  induction n with
  | zero => rfl
  | succ n ih => rw [sm, sm, ih (fun k hk => h k (by omega)), h n (by omega)]
theorem cpy_0 {α : Type} (f g : Nat → α) (s d : Nat) : va_cpy f g s d 0 = g := by
  funext k; unfold va_cpy; rw [if_neg (by omega)]
theorem cpy_s (f g : Nat → Int32) (s d m : Nat) : upd (va_cpy f g s d m) (d + m) (f (s + m)) = va_cpy f g s d (m + 1) := by
  funext k
  unfold upd va_cpy
  by_cases e : k = d + m
  · rw [if_pos e, if_pos (by omega)]; congr 1; omega
  · rw [if_neg e]
    by_cases q : d ≤ k ∧ k < d + m
    · rw [if_pos q, if_pos (by omega)]
    · rw [if_neg q, if_neg (by omega)]
/-- the reference's monks -/
def Nn (I : Nat → Nat → Int32) (n : Nat) : Prop := I 48 0 = nI n ∧ 2 ≤ n ∧ n ≤ 7
/-- what was done, of the reference -/
def Yw (I : Nat → Nat → Int32) (n : Nat) : Prop := ∀ m, m < n → I 55 (8 + m) = -1 ∨ ∃ e, e < n ∧ I 55 (8 + m) = nI e
def Rw (f : Nat → Int32) (p : Nat → Nat) (n : Nat) : Prop := ∀ m, m < n → f m = nI (p m) ∧ p m < n
theorem Yw.seven {n m : Nat} (h : Yw I n) (hn : n ≤ 7) (hm : m < n) : I 55 (8 + m) = -1 ∨ ∃ e, e < 7 ∧ I 55 (8 + m) = nI e := (h m hm).imp id (fun ⟨e, h1, h2⟩ => ⟨e, by omega, h2⟩)
/-- a monk may do a duty -/
abbrev my (I : Nat → Nat → Int32) (m d : Nat) : Prop := mb I m d (I 55 (8 + m))
theorem bX10_may_0 {E : Nat × (Nat → Int32)} {I : Nat → Nat → Int32} {J : Nat → Nat → Int64} {b : Bool} {a1 : Int32} {a2 : Int32} {Q : Option Value → am_H → Prop}  (wp : ∃ j1, (8 + a1) = nI j1 ∧ j1 < 128 ∧ ∃ j2, a1 = nI j2 ∧ j2 < 7 ∧ ∃ j3, a2 = nI j3 ∧ j3 < 7 ∧ ((I 55 j1) = -1 ∨ ∃ e, e < 7 ∧ (I 55 j1) = nI e) ∧ (((mb I j2 j3 (I 55 j1)) → Q (some (.int 1)) (hp I J b)) ∧ (¬ (mb I j2 j3 (I 55 j1)) → Q (some (.int 0)) (hp I J b)))) : am_R E mX10_may 0 [some (.ref 48), some (.int a1), some (.int a2)] [] (hp I J b) 64 64 Q := by
  refine am_aload_n rfl rfl dX10_may_0 ?_
  refine am_iload_n rfl rfl dX10_may_1 ?_
  refine am_iload_n rfl rfl dX10_may_2 ?_
  refine am_aload_n rfl rfl dX10_may_3 ?_
  refine am_getA (r := 55) dX10_may_4 flX10_35 (Or.inr ⟨_, rfl⟩) rfl (by decide) rfl ?_
  refine am_bipush 8 rfl dX10_may_7 ?_
  refine am_iload_n rfl rfl dX10_may_9 ?_
  refine am_iadd dX10_may_10 ?_
  obtain ⟨j1, e1, w1, wp⟩ := wp
  refine am_ialdN (j := j1) dX10_may_11 rfl (by decide) e1 w1 (by decide) ?_
  obtain ⟨j2, e2, w2, wp⟩ := wp
  obtain ⟨j3, e3, w3, wp⟩ := wp
  obtain ⟨w4, wp⟩ := wp
  refine am_invV (ci := 8) (As := [.int a1, .int a2, .int (I 55 j1)]) (lsZ := [some (.ref 48), some (.int a1), some (.int a2), some (.int (I 55 j1)), none]) (st := []) dX10_may_12 hX10_mayBehind lkX10_163 ⟨by decide, by decide⟩ (by decide) rfl (by decide) rfl rfl rfl (Nat.le_of_ble_eq_true rfl) rfl (Nat.le_of_ble_eq_true rfl) ⟨Nat.le_refl _, Nat.le_refl _⟩ (tX10_mayBehind (m := j2) (d := j3) e2 w2 e3 w3 w4 (fun hc5 => ?_) (fun hc5 => ?_))
  · have wp := wp.1 hc5
    show am_R E mX10_may 15 [some (.ref 48), some (.int a1), some (.int a2)] [.int 1] (hp I J b) 64 64 Q
    exact am_iret dX10_may_15 rfl (by decide) wp
  · have wp := wp.2 hc5
    show am_R E mX10_may 15 [some (.ref 48), some (.int a1), some (.int a2)] [.int 0] (hp I J b) 64 64 Q
    exact am_iret dX10_may_15 rfl (by decide) wp
theorem tX10_may {a1 a2 : Int32} {m d : Nat} (em : a1 = nI m) (hm : m < 7) (ed : a2 = nI d) (hd : d < 7) (hy : I 55 (8 + m) = -1 ∨ ∃ e, e < 7 ∧ I 55 (8 + m) = nI e) (k1 : my I m d → Q (some (.int 1)) (hp I J b)) (k0 : ¬ my I m d → Q (some (.int 0)) (hp I J b)) : am_R E mX10_may 0 [some (.ref 48), some (.int a1), some (.int a2)] [] (hp I J b) 64 64 Q := by
  subst em; subst ed
  exact bX10_may_0 ⟨8 + m, n8' m, by omega, m, rfl, hm, d, rfl, hd, hy, k1, k0⟩
def fct : Nat → Nat
  | 0 => 1
  | n + 1 => fct n * (n + 1)
theorem bX10_draws_0 {E : Nat × (Nat → Int32)} {I : Nat → Nat → Int32} {J : Nat → Nat → Int64} {b : Bool} {a0 : Int32} {Q : Option Value → am_H → Prop}  (wp : am_R E mX10_draws 4 [some (.int a0), some (.int 1), some (.int 2)] [] (hp I J b) 64 64 Q) : am_R E mX10_draws 0 [some (.int a0), none, none] [] (hp I J b) 64 64 Q := by
  refine am_iconst 1 rfl dX10_draws_0 ?_
  refine am_istore_n (ls' := [some (.int a0), some (.int 1), none]) rfl (by decide) rfl rfl dX10_draws_1 ?_
  refine am_iconst 2 rfl dX10_draws_2 ?_
  refine am_istore_n (ls' := [some (.int a0), some (.int 1), some (.int 2)]) rfl (by decide) rfl rfl dX10_draws_3 ?_
  exact am_R.forget wp ⟨rfl, ⟨rfl, ⟨rfl, trivial⟩⟩⟩
theorem bX10_draws_4 {E : Nat × (Nat → Int32)} {I : Nat → Nat → Int32} {J : Nat → Nat → Int64} {b : Bool} {a0 : Int32} {a1 : Int32} {a2 : Int32} {Q : Option Value → am_H → Prop}  (wp : ((a0 < a2 → Q (some (.int a1)) (hp I J b)) ∧ (¬ a0 < a2 → am_R E mX10_draws 4 [some (.int a0), some (.int (a1 * a2)), some (.int (a2 + 1))] [] (hp I J b) 64 64 Q))) : am_R E mX10_draws 4 [some (.int a0), some (.int a1), some (.int a2)] [] (hp I J b) 64 64 Q := by
  refine am_iload_n rfl rfl dX10_draws_4 ?_
  refine am_iload_n rfl rfl dX10_draws_5 ?_
  refine am_icmp_gt dX10_draws_6 (tgt := 19) rfl (fun hc1 => ?_) (fun hc1 => ?_)
  · have wp := wp.1 hc1
    refine am_iload_n rfl rfl dX10_draws_19 ?_
    exact am_iret dX10_draws_20 rfl rfl wp
  · have wp := wp.2 hc1
    refine am_iload_n rfl rfl dX10_draws_9 ?_
    refine am_iload_n rfl rfl dX10_draws_10 ?_
    refine am_imul dX10_draws_11 ?_
    refine am_istore_n (ls' := [some (.int a0), some (.int (a1 * a2)), some (.int a2)]) rfl (by decide) rfl rfl dX10_draws_12 ?_
    refine am_iinc (ls' := [some (.int a0), some (.int (a1 * a2)), some (.int (a2 + 1))]) (by decide) rfl rfl rfl dX10_draws_13 ?_
    refine am_goto dX10_draws_16 (tgt := 4) rfl ?_
    exact am_R.forget wp ⟨rfl, ⟨rfl, ⟨rfl, trivial⟩⟩⟩
theorem tX10_draws {a0 : Int32} {n : Nat} (e : a0 = nI n) (hn : n ≤ 7) (k : Q (some (.int (nI (fct n)))) (hp I J b)) : am_R E mX10_draws 0 [some (.int a0), none, none] [] (hp I J b) 64 64 Q := by
  subst e
  refine bX10_draws_0 ?_
  have key : ∀ j i, i + j = n → 1 ≤ i → am_R E mX10_draws 4 [some (.int (nI n)), some (.int (nI (fct i))), some (.int (nI (i + 1)))] [] (hp I J b) 64 64 Q := by
    intro j
    induction j with
    | zero =>
      intro i hi _
      refine bX10_draws_4 (lt_br rfl rfl (by omega) (by omega) (fun _ => ?_) (fun h => by omega))
      rw [show i = n by omega]; exact k
    | succ j ih =>
      intro i hi h1
      refine bX10_draws_4 (lt_br rfl rfl (by omega) (by omega) (fun h => by omega) (fun h => ?_))
      rw [pk_mul, n1, show fct i * (i + 1) = fct (i + 1) from rfl]
      exact ih (i + 1) (by omega) (by omega)
  by_cases h0 : n = 0
  · subst h0
    exact bX10_draws_4 (lt_br (n := 0) (m := 2) rfl rfl (by omega) (by omega) (fun _ => k) (fun h => by omega))
  · have := key (n - 1) 1 (by omega) (by omega)
    exact this
theorem bX10_isLawful_0 {E : Nat × (Nat → Int32)} {I : Nat → Nat → Int32} {J : Nat → Nat → Int64} {b : Bool}  {Q : Option Value → am_H → Prop}  (wp : am_R E mX10_isLawful 4 [some (.ref 48), some (.int 1), some (.int 0)] [] (hp I J b) 64 64 Q) : am_R E mX10_isLawful 0 [some (.ref 48), none, none] [] (hp I J b) 64 64 Q := by
  refine am_iconst 1 rfl dX10_isLawful_0 ?_
  refine am_istore_n (ls' := [some (.ref 48), some (.int 1), none]) rfl (by decide) rfl rfl dX10_isLawful_1 ?_
  refine am_iconst 0 rfl dX10_isLawful_2 ?_
  refine am_istore_n (ls' := [some (.ref 48), some (.int 1), some (.int 0)]) rfl (by decide) rfl rfl dX10_isLawful_3 ?_
  exact am_R.forget wp ⟨rfl, ⟨rfl, ⟨rfl, trivial⟩⟩⟩
theorem bX10_isLawful_4 {E : Nat × (Nat → Int32)} {I : Nat → Nat → Int32} {J : Nat → Nat → Int64} {b : Bool} {a1 : Int32} {a2 : Int32} {Q : Option Value → am_H → Prop}  (wp : (((I 48 0) ≤ a2 → (narrow .boolean (.int a1) = .int a1) ∧ Q (some (.int a1)) (hp I J b)) ∧ (¬ (I 48 0) ≤ a2 → ((a1 = 0 → am_R E mX10_isLawful 4 [some (.ref 48), some (.int 0), some (.int (a2 + 1))] [] (hp I J b) 64 64 Q) ∧ (¬ a1 = 0 → ∃ j4, a2 = nI j4 ∧ j4 < 7 ∧ ∃ j5, (I 58 j4) = nI j5 ∧ j5 < 7 ∧ ((I 55 (8 + j4)) = -1 ∨ ∃ e, e < 7 ∧ (I 55 (8 + j4)) = nI e) ∧ (((my I j4 j5) → am_R E mX10_isLawful 4 [some (.ref 48), some (.int 1), some (.int (a2 + 1))] [] (hp I J b) 64 64 Q) ∧ (¬ (my I j4 j5) → am_R E mX10_isLawful 4 [some (.ref 48), some (.int 0), some (.int (a2 + 1))] [] (hp I J b) 64 64 Q))))))) : am_R E mX10_isLawful 4 [some (.ref 48), some (.int a1), some (.int a2)] [] (hp I J b) 64 64 Q := by
  refine am_iload_n rfl rfl dX10_isLawful_4 ?_
  refine am_aload_n rfl rfl dX10_isLawful_5 ?_
  refine am_getI dX10_isLawful_6 flX10_7 (Or.inl rfl) rfl (by decide) ?_
  refine am_icmp_ge dX10_isLawful_9 (tgt := 42) rfl (fun hc1 => ?_) (fun hc1 => ?_)
  · have wp := wp.1 hc1
    refine am_iload_n rfl rfl dX10_isLawful_42 ?_
    exact am_iret dX10_isLawful_43 rfl wp.1 wp.2
  · have wp := wp.2 hc1
    refine am_iload_n rfl rfl dX10_isLawful_12 ?_
    refine am_if_eq dX10_isLawful_13 (tgt := 34) rfl (fun hc3 => ?_) (fun hc3 => ?_)
    · have wp := wp.1 hc3
      refine am_iconst 0 rfl dX10_isLawful_34 ?_
      refine am_istore_n (ls' := [some (.ref 48), some (.int 0), some (.int a2)]) rfl (by decide) rfl rfl dX10_isLawful_35 ?_
      refine am_iinc (ls' := [some (.ref 48), some (.int 0), some (.int (a2 + 1))]) (by decide) rfl rfl rfl dX10_isLawful_36 ?_
      refine am_goto dX10_isLawful_39 (tgt := 4) rfl ?_
      exact am_R.forget wp ⟨rfl, ⟨rfl, ⟨rfl, trivial⟩⟩⟩
    · have wp := wp.2 hc3
      refine am_aload_n rfl rfl dX10_isLawful_16 ?_
      refine am_iload_n rfl rfl dX10_isLawful_17 ?_
      refine am_aload_n rfl rfl dX10_isLawful_18 ?_
      refine am_getA (r := 58) dX10_isLawful_19 flX10_45 (Or.inr ⟨_, rfl⟩) rfl (by decide) rfl ?_
      refine am_iload_n rfl rfl dX10_isLawful_22 ?_
      obtain ⟨j4, e4, w4, wp⟩ := wp
      refine am_ialdN (j := j4) dX10_isLawful_23 rfl (by decide) e4 w4 (by decide) ?_
      obtain ⟨j5, e5, w5, wp⟩ := wp
      obtain ⟨w6, wp⟩ := wp
      refine am_invV (ci := 8) (As := [.int a2, .int (I 58 j4)]) (lsZ := [some (.ref 48), some (.int a2), some (.int (I 58 j4))]) (st := []) dX10_isLawful_24 hX10_may lkX10_169 ⟨by decide, by decide⟩ (by decide) rfl (by decide) rfl rfl rfl (Nat.le_of_ble_eq_true rfl) rfl (Nat.le_of_ble_eq_true rfl) ⟨Nat.le_refl _, Nat.le_refl _⟩ (tX10_may (m := j4) (d := j5) e4 w4 e5 w5 w6 (fun hc7 => ?_) (fun hc7 => ?_))
      · have wp := wp.1 hc7
        show am_R E mX10_isLawful 27 [some (.ref 48), some (.int a1), some (.int a2)] [.int 1] (hp I J b) 64 64 Q
        refine am_if_eq dX10_isLawful_27 (tgt := 34) rfl (fun hc => absurd hc (by decide)) (fun _ => ?_)
        refine am_iconst 1 rfl dX10_isLawful_30 ?_
        refine am_goto dX10_isLawful_31 (tgt := 35) rfl ?_
        refine am_istore_n (ls' := [some (.ref 48), some (.int 1), some (.int a2)]) rfl (by decide) rfl rfl dX10_isLawful_35 ?_
        refine am_iinc (ls' := [some (.ref 48), some (.int 1), some (.int (a2 + 1))]) (by decide) rfl rfl rfl dX10_isLawful_36 ?_
        refine am_goto dX10_isLawful_39 (tgt := 4) rfl ?_
        exact am_R.forget wp ⟨rfl, ⟨rfl, ⟨rfl, trivial⟩⟩⟩
      · have wp := wp.2 hc7
        show am_R E mX10_isLawful 27 [some (.ref 48), some (.int a1), some (.int a2)] [.int 0] (hp I J b) 64 64 Q
        refine am_if_eq dX10_isLawful_27 (tgt := 34) rfl (fun _ => ?_) (fun hc => absurd hc (by decide))
        refine am_iconst 0 rfl dX10_isLawful_34 ?_
        refine am_istore_n (ls' := [some (.ref 48), some (.int 0), some (.int a2)]) rfl (by decide) rfl rfl dX10_isLawful_35 ?_
        refine am_iinc (ls' := [some (.ref 48), some (.int 0), some (.int (a2 + 1))]) (by decide) rfl rfl rfl dX10_isLawful_36 ?_
        refine am_goto dX10_isLawful_39 (tgt := 4) rfl ?_
        exact am_R.forget wp ⟨rfl, ⟨rfl, ⟨rfl, trivial⟩⟩⟩
theorem tX10_isLawful {n : Nat} {p : Nat → Nat} (hN : Nn I n) (hY : Yw I n) (hR : Rw (I 58) p n) (k1 : (∀ m, m < n → my I m (p m)) → Q (some (.int 1)) (hp I J b)) (k0 : ¬ (∀ m, m < n → my I m (p m)) → Q (some (.int 0)) (hp I J b)) : am_R E mX10_isLawful 0 [some (.ref 48), none, none] [] (hp I J b) 64 64 Q := by
  obtain ⟨h0, h2, h7⟩ := hN
  refine bX10_isLawful_0 ?_
  have key : ∀ j m, m + j = n → ∀ v : Int32, (v = 1 ∧ (∀ i, i < m → my I i (p i)) ∨ v = 0 ∧ ¬ (∀ i, i < n → my I i (p i))) → am_R E mX10_isLawful 4 [some (.ref 48), some (.int v), some (.int (nI m))] [] (hp I J b) 64 64 Q := by
    intro j
    induction j with
    | zero =>
      intro m hm v hv
      refine bX10_isLawful_4 (le_br h0 rfl (by omega) (by omega) (fun _ => ?_) (fun h => by omega))
      rcases hv with ⟨rfl, hv⟩ | ⟨rfl, hv⟩
      · exact ⟨rfl, k1 (by rw [← show m = n by omega]; exact hv)⟩
      · exact ⟨rfl, k0 hv⟩
    | succ j ih =>
      intro m hm v hv
      refine bX10_isLawful_4 (le_br h0 rfl (by omega) (by omega) (fun h => by omega) (fun h => ⟨fun hz => ?_, fun hz => ?_⟩))
      · rw [n1]
        refine ih (m + 1) (by omega) 0 (Or.inr ⟨rfl, ?_⟩)
        rcases hv with ⟨rfl, hv⟩ | ⟨rfl, hv⟩
        · exact absurd hz (by decide)
        · exact hv
      · rcases hv with ⟨rfl, hv⟩ | ⟨rfl, hv⟩
        · refine ⟨m, rfl, by omega, p m, (hR m h).1, by have := (hR m h).2; omega, hY.seven h7 h, fun q => ?_, fun q => ?_⟩
          · rw [n1]
            refine ih (m + 1) (by omega) 1 (Or.inl ⟨rfl, fun i hi => ?_⟩)
            rcases Nat.lt_or_ge i m with z | z
            · exact hv i z
            · rw [show i = m by omega]; exact q
          · rw [n1]
            exact ih (m + 1) (by omega) 0 (Or.inr ⟨rfl, fun z => q (z m h)⟩)
        · exact absurd rfl hz
  exact key n 0 (by omega) 1 (Or.inl ⟨rfl, fun i hi => by omega⟩)
theorem bX10_workOf_0 {E : Nat × (Nat → Int32)} {I : Nat → Nat → Int32} {J : Nat → Nat → Int64} {b : Bool}  {Q : Option Value → am_H → Prop}  (wp : am_R E mX10_workOf 4 [some (.ref 48), some (.int 0), some (.int 0)] [] (hp I J b) 64 64 Q) : am_R E mX10_workOf 0 [some (.ref 48), none, none] [] (hp I J b) 64 64 Q := by
  refine am_iconst 0 rfl dX10_workOf_0 ?_
  refine am_istore_n (ls' := [some (.ref 48), some (.int 0), none]) rfl (by decide) rfl rfl dX10_workOf_1 ?_
  refine am_iconst 0 rfl dX10_workOf_2 ?_
  refine am_istore_n (ls' := [some (.ref 48), some (.int 0), some (.int 0)]) rfl (by decide) rfl rfl dX10_workOf_3 ?_
  exact am_R.forget wp ⟨rfl, ⟨rfl, ⟨rfl, trivial⟩⟩⟩
theorem bX10_workOf_4 {E : Nat × (Nat → Int32)} {I : Nat → Nat → Int32} {J : Nat → Nat → Int64} {b : Bool} {a1 : Int32} {a2 : Int32} {Q : Option Value → am_H → Prop}  (wp : (((I 48 0) ≤ a2 → Q (some (.int a1)) (hp I J b)) ∧ (¬ (I 48 0) ≤ a2 → ∃ j2, a2 = nI j2 ∧ j2 < 7 ∧ ∃ j3, ((7 * a2) + (I 58 j2)) = nI j3 ∧ j3 < 49 ∧ am_R E mX10_workOf 4 [some (.ref 48), some (.int (a1 + (I 49 j3))), some (.int (a2 + 1))] [] (hp I J b) 64 64 Q))) : am_R E mX10_workOf 4 [some (.ref 48), some (.int a1), some (.int a2)] [] (hp I J b) 64 64 Q := by
  refine am_iload_n rfl rfl dX10_workOf_4 ?_
  refine am_aload_n rfl rfl dX10_workOf_5 ?_
  refine am_getI dX10_workOf_6 flX10_7 (Or.inl rfl) rfl (by decide) ?_
  refine am_icmp_ge dX10_workOf_9 (tgt := 37) rfl (fun hc1 => ?_) (fun hc1 => ?_)
  · have wp := wp.1 hc1
    refine am_iload_n rfl rfl dX10_workOf_37 ?_
    exact am_iret dX10_workOf_38 rfl rfl wp
  · have wp := wp.2 hc1
    refine am_iload_n rfl rfl dX10_workOf_12 ?_
    refine am_aload_n rfl rfl dX10_workOf_13 ?_
    refine am_getA (r := 49) dX10_workOf_14 flX10_16 (Or.inr ⟨_, rfl⟩) rfl (by decide) rfl ?_
    refine am_bipush 7 rfl dX10_workOf_17 ?_
    refine am_iload_n rfl rfl dX10_workOf_19 ?_
    refine am_imul dX10_workOf_20 ?_
    refine am_aload_n rfl rfl dX10_workOf_21 ?_
    refine am_getA (r := 58) dX10_workOf_22 flX10_45 (Or.inr ⟨_, rfl⟩) rfl (by decide) rfl ?_
    refine am_iload_n rfl rfl dX10_workOf_25 ?_
    obtain ⟨j2, e2, w2, wp⟩ := wp
    refine am_ialdN (j := j2) dX10_workOf_26 rfl (by decide) e2 w2 (by decide) ?_
    refine am_iadd dX10_workOf_27 ?_
    obtain ⟨j3, e3, w3, wp⟩ := wp
    refine am_ialdN (j := j3) dX10_workOf_28 rfl (by decide) e3 w3 (by decide) ?_
    refine am_iadd dX10_workOf_29 ?_
    refine am_istore_n (ls' := [some (.ref 48), some (.int (a1 + (I 49 j3))), some (.int a2)]) rfl (by decide) rfl rfl dX10_workOf_30 ?_
    refine am_iinc (ls' := [some (.ref 48), some (.int (a1 + (I 49 j3))), some (.int (a2 + 1))]) (by decide) rfl rfl rfl dX10_workOf_31 ?_
    refine am_goto dX10_workOf_34 (tgt := 4) rfl ?_
    exact am_R.forget wp ⟨rfl, ⟨rfl, ⟨rfl, trivial⟩⟩⟩
theorem tX10_workOf {n : Nat} {p : Nat → Nat} (hN : Nn I n) (hR : Rw (I 58) p n) (k : Q (some (.int (sm (fun m => I 49 (7 * m + p m)) n))) (hp I J b)) : am_R E mX10_workOf 0 [some (.ref 48), none, none] [] (hp I J b) 64 64 Q := by
  obtain ⟨h0, h2, h7⟩ := hN
  refine bX10_workOf_0 (lp_up (n := n) (P := fun m => am_R E mX10_workOf 4 [some (.ref 48), some (.int (sm (fun m => I 49 (7 * m + p m)) m)), some (.int (nI m))] [] (hp I J b) 64 64 Q) ?_ ?_)
  · exact bX10_workOf_4 (le_br h0 rfl (by omega) (by omega) (fun _ => k) (fun h => by omega))
  · intro m hm ih
    refine bX10_workOf_4 (le_br h0 rfl (by omega) (by omega) (fun h => by omega) (fun _ => ⟨m, rfl, by omega, 7 * m + p m, by rw [(hR m hm).1, k7], by have := (hR m hm).2; omega, ?_⟩))
    rw [n1]; exact ih
theorem bX10_gladnessOf_0 {E : Nat × (Nat → Int32)} {I : Nat → Nat → Int32} {J : Nat → Nat → Int64} {b : Bool}  {Q : Option Value → am_H → Prop}  (wp : am_R E mX10_gladnessOf 4 [some (.ref 48), some (.int 0), some (.int 0)] [] (hp I J b) 64 64 Q) : am_R E mX10_gladnessOf 0 [some (.ref 48), none, none] [] (hp I J b) 64 64 Q := by
  refine am_iconst 0 rfl dX10_gladnessOf_0 ?_
  refine am_istore_n (ls' := [some (.ref 48), some (.int 0), none]) rfl (by decide) rfl rfl dX10_gladnessOf_1 ?_
  refine am_iconst 0 rfl dX10_gladnessOf_2 ?_
  refine am_istore_n (ls' := [some (.ref 48), some (.int 0), some (.int 0)]) rfl (by decide) rfl rfl dX10_gladnessOf_3 ?_
  exact am_R.forget wp ⟨rfl, ⟨rfl, ⟨rfl, trivial⟩⟩⟩
theorem bX10_gladnessOf_4 {E : Nat × (Nat → Int32)} {I : Nat → Nat → Int32} {J : Nat → Nat → Int64} {b : Bool} {a1 : Int32} {a2 : Int32} {Q : Option Value → am_H → Prop}  (wp : (((I 48 0) ≤ a2 → Q (some (.int a1)) (hp I J b)) ∧ (¬ (I 48 0) ≤ a2 → ∃ j2, a2 = nI j2 ∧ j2 < 7 ∧ ∃ j3, ((7 * a2) + (I 58 j2)) = nI j3 ∧ j3 < 49 ∧ am_R E mX10_gladnessOf 4 [some (.ref 48), some (.int (a1 + (I 50 j3))), some (.int (a2 + 1))] [] (hp I J b) 64 64 Q))) : am_R E mX10_gladnessOf 4 [some (.ref 48), some (.int a1), some (.int a2)] [] (hp I J b) 64 64 Q := by
  refine am_iload_n rfl rfl dX10_gladnessOf_4 ?_
  refine am_aload_n rfl rfl dX10_gladnessOf_5 ?_
  refine am_getI dX10_gladnessOf_6 flX10_7 (Or.inl rfl) rfl (by decide) ?_
  refine am_icmp_ge dX10_gladnessOf_9 (tgt := 37) rfl (fun hc1 => ?_) (fun hc1 => ?_)
  · have wp := wp.1 hc1
    refine am_iload_n rfl rfl dX10_gladnessOf_37 ?_
    exact am_iret dX10_gladnessOf_38 rfl rfl wp
  · have wp := wp.2 hc1
    refine am_iload_n rfl rfl dX10_gladnessOf_12 ?_
    refine am_aload_n rfl rfl dX10_gladnessOf_13 ?_
    refine am_getA (r := 50) dX10_gladnessOf_14 flX10_20 (Or.inr ⟨_, rfl⟩) rfl (by decide) rfl ?_
    refine am_bipush 7 rfl dX10_gladnessOf_17 ?_
    refine am_iload_n rfl rfl dX10_gladnessOf_19 ?_
    refine am_imul dX10_gladnessOf_20 ?_
    refine am_aload_n rfl rfl dX10_gladnessOf_21 ?_
    refine am_getA (r := 58) dX10_gladnessOf_22 flX10_45 (Or.inr ⟨_, rfl⟩) rfl (by decide) rfl ?_
    refine am_iload_n rfl rfl dX10_gladnessOf_25 ?_
    obtain ⟨j2, e2, w2, wp⟩ := wp
    refine am_ialdN (j := j2) dX10_gladnessOf_26 rfl (by decide) e2 w2 (by decide) ?_
    refine am_iadd dX10_gladnessOf_27 ?_
    obtain ⟨j3, e3, w3, wp⟩ := wp
    refine am_ialdN (j := j3) dX10_gladnessOf_28 rfl (by decide) e3 w3 (by decide) ?_
    refine am_iadd dX10_gladnessOf_29 ?_
    refine am_istore_n (ls' := [some (.ref 48), some (.int (a1 + (I 50 j3))), some (.int a2)]) rfl (by decide) rfl rfl dX10_gladnessOf_30 ?_
    refine am_iinc (ls' := [some (.ref 48), some (.int (a1 + (I 50 j3))), some (.int (a2 + 1))]) (by decide) rfl rfl rfl dX10_gladnessOf_31 ?_
    refine am_goto dX10_gladnessOf_34 (tgt := 4) rfl ?_
    exact am_R.forget wp ⟨rfl, ⟨rfl, ⟨rfl, trivial⟩⟩⟩
theorem tX10_gladnessOf {n : Nat} {p : Nat → Nat} (hN : Nn I n) (hR : Rw (I 58) p n) (k : Q (some (.int (sm (fun m => I 50 (7 * m + p m)) n))) (hp I J b)) : am_R E mX10_gladnessOf 0 [some (.ref 48), none, none] [] (hp I J b) 64 64 Q := by
  obtain ⟨h0, h2, h7⟩ := hN
  refine bX10_gladnessOf_0 (lp_up (n := n) (P := fun m => am_R E mX10_gladnessOf 4 [some (.ref 48), some (.int (sm (fun m => I 50 (7 * m + p m)) m)), some (.int (nI m))] [] (hp I J b) 64 64 Q) ?_ ?_)
  · exact bX10_gladnessOf_4 (le_br h0 rfl (by omega) (by omega) (fun _ => k) (fun h => by omega))
  · intro m hm ih
    refine bX10_gladnessOf_4 (le_br h0 rfl (by omega) (by omega) (fun h => by omega) (fun _ => ⟨m, rfl, by omega, 7 * m + p m, by rw [(hR m hm).1, k7], by have := (hR m hm).2; omega, ?_⟩))
    rw [n1]; exact ih
theorem bX10_takeToday_0 {E : Nat × (Nat → Int32)} {I : Nat → Nat → Int32} {J : Nat → Nat → Int64} {b : Bool}  {Q : Option Value → am_H → Prop}  (wp : am_R E mX10_takeToday 2 [some (.ref 48), some (.int 0)] [] (hp I J b) 64 64 Q) : am_R E mX10_takeToday 0 [some (.ref 48), none] [] (hp I J b) 64 64 Q := by
  refine am_iconst 0 rfl dX10_takeToday_0 ?_
  refine am_istore_n (ls' := [some (.ref 48), some (.int 0)]) rfl (by decide) rfl rfl dX10_takeToday_1 ?_
  exact am_R.forget wp ⟨rfl, ⟨rfl, trivial⟩⟩
theorem bX10_takeToday_2 {E : Nat × (Nat → Int32)} {I : Nat → Nat → Int32} {J : Nat → Nat → Int64} {b : Bool} {a1 : Int32} {Q : Option Value → am_H → Prop}  (wp : (((I 48 0) ≤ a1 → Q none (hp I J b)) ∧ (¬ (I 48 0) ≤ a1 → ∃ j2, (1 + a1) = nI j2 ∧ j2 < 128 ∧ ∃ j3, a1 = nI j3 ∧ j3 < 7 ∧ am_R E mX10_takeToday 2 [some (.ref 48), some (.int (a1 + 1))] [] (hp (u2 I 58 j3 (I 55 j2)) J b) 64 64 Q))) : am_R E mX10_takeToday 2 [some (.ref 48), some (.int a1)] [] (hp I J b) 64 64 Q := by
  refine am_iload_n rfl rfl dX10_takeToday_2 ?_
  refine am_aload_n rfl rfl dX10_takeToday_3 ?_
  refine am_getI dX10_takeToday_4 flX10_7 (Or.inl rfl) rfl (by decide) ?_
  refine am_icmp_ge dX10_takeToday_7 (tgt := 30) rfl (fun hc1 => ?_) (fun hc1 => ?_)
  · have wp := wp.1 hc1
    exact am_vret dX10_takeToday_30 rfl wp
  · have wp := wp.2 hc1
    refine am_aload_n rfl rfl dX10_takeToday_10 ?_
    refine am_getA (r := 58) dX10_takeToday_11 flX10_45 (Or.inr ⟨_, rfl⟩) rfl (by decide) rfl ?_
    refine am_iload_n rfl rfl dX10_takeToday_14 ?_
    refine am_aload_n rfl rfl dX10_takeToday_15 ?_
    refine am_getA (r := 55) dX10_takeToday_16 flX10_35 (Or.inr ⟨_, rfl⟩) rfl (by decide) rfl ?_
    refine am_iconst 1 rfl dX10_takeToday_19 ?_
    refine am_iload_n rfl rfl dX10_takeToday_20 ?_
    refine am_iadd dX10_takeToday_21 ?_
    obtain ⟨j2, e2, w2, wp⟩ := wp
    refine am_ialdN (j := j2) dX10_takeToday_22 rfl (by decide) e2 w2 (by decide) ?_
    obtain ⟨j3, e3, w3, wp⟩ := wp
    refine am_iastN (j := j3) dX10_takeToday_23 rfl (by decide) e3 w3 (by decide) ?_
    refine am_iinc (ls' := [some (.ref 48), some (.int (a1 + 1))]) (by decide) rfl rfl rfl dX10_takeToday_24 ?_
    refine am_goto dX10_takeToday_27 (tgt := 2) rfl ?_
    exact am_R.forget wp ⟨rfl, ⟨rfl, trivial⟩⟩
theorem tX10_takeToday {n : Nat} (hN : Nn I n) (k : Q none (hp (u1 I 58 (va_cpy (I 55) (I 58) 1 0 n)) J b)) : am_R E mX10_takeToday 0 [some (.ref 48), none] [] (hp I J b) 64 64 Q := by
  obtain ⟨h0, h2, h7⟩ := hN
  have := lp_up (n := n) (P := fun m => am_R E mX10_takeToday 2 [some (.ref 48), some (.int (nI m))] [] (hp (u1 I 58 (va_cpy (I 55) (I 58) 1 0 m)) J b) 64 64 Q) ?_ ?_
  · rw [cpy_0, u1_self] at this
    exact bX10_takeToday_0 this
  · exact bX10_takeToday_2 (le_br (by rw [u1_n _ _ (by decide)]; exact h0) rfl (by omega) (by omega) (fun _ => k) (fun h => by omega))
  · intro m hm ih
    refine bX10_takeToday_2 (le_br (by rw [u1_n _ _ (by decide)]; exact h0) rfl (by omega) (by omega) (fun h => by omega) (fun _ => ⟨1 + m, n1' m, by omega, m, rfl, by omega, ?_⟩))
    rw [n1, u2_u1, u1_n _ _ (by decide)]
    have e := cpy_s (I 55) (I 58) 1 0 m
    rw [Nat.zero_add] at e
    rw [e]; exact ih
theorem bX10_putToday_0 {E : Nat × (Nat → Int32)} {I : Nat → Nat → Int32} {J : Nat → Nat → Int64} {b : Bool}  {Q : Option Value → am_H → Prop}  (wp : am_R E mX10_putToday 9 [some (.ref 48), some (.int 0)] [] (hp (u2 I 55 0 1) J b) 64 64 Q) : am_R E mX10_putToday 0 [some (.ref 48), none] [] (hp I J b) 64 64 Q := by
  refine am_aload_n rfl rfl dX10_putToday_0 ?_
  refine am_getA (r := 55) dX10_putToday_1 flX10_35 (Or.inr ⟨_, rfl⟩) rfl (by decide) rfl ?_
  refine am_iconst 0 rfl dX10_putToday_4 ?_
  refine am_iconst 1 rfl dX10_putToday_5 ?_
  refine am_iastN (j := 0) dX10_putToday_6 rfl (by decide) rfl (by decide) (by decide) ?_
  refine am_iconst 0 rfl dX10_putToday_7 ?_
  refine am_istore_n (ls' := [some (.ref 48), some (.int 0)]) rfl (by decide) rfl rfl dX10_putToday_8 ?_
  exact am_R.forget wp ⟨rfl, ⟨rfl, trivial⟩⟩
theorem bX10_putToday_9 {E : Nat × (Nat → Int32)} {I : Nat → Nat → Int32} {J : Nat → Nat → Int64} {b : Bool} {a1 : Int32} {Q : Option Value → am_H → Prop}  (wp : (((I 48 0) ≤ a1 → Q none (hp I J b)) ∧ (¬ (I 48 0) ≤ a1 → ∃ j2, a1 = nI j2 ∧ j2 < 7 ∧ ∃ j3, (1 + a1) = nI j3 ∧ j3 < 128 ∧ am_R E mX10_putToday 9 [some (.ref 48), some (.int (a1 + 1))] [] (hp (u2 I 55 j3 (I 58 j2)) J b) 64 64 Q))) : am_R E mX10_putToday 9 [some (.ref 48), some (.int a1)] [] (hp I J b) 64 64 Q := by
  refine am_iload_n rfl rfl dX10_putToday_9 ?_
  refine am_aload_n rfl rfl dX10_putToday_10 ?_
  refine am_getI dX10_putToday_11 flX10_7 (Or.inl rfl) rfl (by decide) ?_
  refine am_icmp_ge dX10_putToday_14 (tgt := 37) rfl (fun hc1 => ?_) (fun hc1 => ?_)
  · have wp := wp.1 hc1
    exact am_vret dX10_putToday_37 rfl wp
  · have wp := wp.2 hc1
    refine am_aload_n rfl rfl dX10_putToday_17 ?_
    refine am_getA (r := 55) dX10_putToday_18 flX10_35 (Or.inr ⟨_, rfl⟩) rfl (by decide) rfl ?_
    refine am_iconst 1 rfl dX10_putToday_21 ?_
    refine am_iload_n rfl rfl dX10_putToday_22 ?_
    refine am_iadd dX10_putToday_23 ?_
    refine am_aload_n rfl rfl dX10_putToday_24 ?_
    refine am_getA (r := 58) dX10_putToday_25 flX10_45 (Or.inr ⟨_, rfl⟩) rfl (by decide) rfl ?_
    refine am_iload_n rfl rfl dX10_putToday_28 ?_
    obtain ⟨j2, e2, w2, wp⟩ := wp
    refine am_ialdN (j := j2) dX10_putToday_29 rfl (by decide) e2 w2 (by decide) ?_
    obtain ⟨j3, e3, w3, wp⟩ := wp
    refine am_iastN (j := j3) dX10_putToday_30 rfl (by decide) e3 w3 (by decide) ?_
    refine am_iinc (ls' := [some (.ref 48), some (.int (a1 + 1))]) (by decide) rfl rfl rfl dX10_putToday_31 ?_
    refine am_goto dX10_putToday_34 (tgt := 9) rfl ?_
    exact am_R.forget wp ⟨rfl, ⟨rfl, trivial⟩⟩
theorem tX10_putToday {n : Nat} (hN : Nn I n) (k : Q none (hp (u1 I 55 (va_cpy (I 58) (upd (I 55) 0 1) 0 1 n)) J b)) : am_R E mX10_putToday 0 [some (.ref 48), none] [] (hp I J b) 64 64 Q := by
  obtain ⟨h0, h2, h7⟩ := hN
  have := lp_up (n := n) (P := fun m => am_R E mX10_putToday 9 [some (.ref 48), some (.int (nI m))] [] (hp (u1 I 55 (va_cpy (I 58) (upd (I 55) 0 1) 0 1 m)) J b) 64 64 Q) ?_ ?_
  · rw [cpy_0] at this
    exact bX10_putToday_0 this
  · exact bX10_putToday_9 (le_br (by rw [u1_n _ _ (by decide)]; exact h0) rfl (by omega) (by omega) (fun _ => k) (fun h => by omega))
  · intro m hm ih
    refine bX10_putToday_9 (le_br (by rw [u1_n _ _ (by decide)]; exact h0) rfl (by omega) (by omega) (fun h => by omega) (fun _ => ⟨m, rfl, by omega, 1 + m, n1' m, by omega, ?_⟩))
    rw [n1, u2_u1, u1_n _ _ (by decide)]
    have e := cpy_s (I 58) (upd (I 55) 0 1) 0 1 m
    rw [Nat.zero_add] at e
    rw [e]; exact ih
/-- m likes d more than what it has in the row -/
abbrev lm (I : Nat → Nat → Int32) (p : Nat → Nat) (m d : Nat) : Prop := my I m d ∧ I 50 (7 * m + p m) < I 50 (7 * m + d)
theorem bX10_likesMore_0 {E : Nat × (Nat → Int32)} {I : Nat → Nat → Int32} {J : Nat → Nat → Int64} {b : Bool} {a1 : Int32} {a2 : Int32} {Q : Option Value → am_H → Prop}  (wp : ∃ j1, a1 = nI j1 ∧ j1 < 7 ∧ ∃ j2, a2 = nI j2 ∧ j2 < 7 ∧ ((I 55 (8 + j1)) = -1 ∨ ∃ e, e < 7 ∧ (I 55 (8 + j1)) = nI e) ∧ (((my I j1 j2) → ∃ j5, ((7 * a1) + a2) = nI j5 ∧ j5 < 49 ∧ ∃ j6, ((7 * a1) + (I 58 j1)) = nI j6 ∧ j6 < 49 ∧ (((I 50 j5) ≤ (I 50 j6) → Q (some (.int 0)) (hp I J b)) ∧ (¬ (I 50 j5) ≤ (I 50 j6) → Q (some (.int 1)) (hp I J b)))) ∧ (¬ (my I j1 j2) → Q (some (.int 0)) (hp I J b)))) : am_R E mX10_likesMore 0 [some (.ref 48), some (.int a1), some (.int a2)] [] (hp I J b) 64 64 Q := by
  refine am_aload_n rfl rfl dX10_likesMore_0 ?_
  refine am_iload_n rfl rfl dX10_likesMore_1 ?_
  refine am_iload_n rfl rfl dX10_likesMore_2 ?_
  obtain ⟨j1, e1, w1, wp⟩ := wp
  obtain ⟨j2, e2, w2, wp⟩ := wp
  obtain ⟨w3, wp⟩ := wp
  refine am_invV (ci := 8) (As := [.int a1, .int a2]) (lsZ := [some (.ref 48), some (.int a1), some (.int a2)]) (st := []) dX10_likesMore_3 hX10_may lkX10_169 ⟨by decide, by decide⟩ (by decide) rfl (by decide) rfl rfl rfl (Nat.le_of_ble_eq_true rfl) rfl (Nat.le_of_ble_eq_true rfl) ⟨Nat.le_refl _, Nat.le_refl _⟩ (tX10_may (m := j1) (d := j2) e1 w1 e2 w2 w3 (fun hc4 => ?_) (fun hc4 => ?_))
  · have wp := wp.1 hc4
    show am_R E mX10_likesMore 6 [some (.ref 48), some (.int a1), some (.int a2)] [.int 1] (hp I J b) 64 64 Q
    refine am_if_eq dX10_likesMore_6 (tgt := 43) rfl (fun hc => absurd hc (by decide)) (fun _ => ?_)
    refine am_aload_n rfl rfl dX10_likesMore_9 ?_
    refine am_getA (r := 50) dX10_likesMore_10 flX10_20 (Or.inr ⟨_, rfl⟩) rfl (by decide) rfl ?_
    refine am_bipush 7 rfl dX10_likesMore_13 ?_
    refine am_iload_n rfl rfl dX10_likesMore_15 ?_
    refine am_imul dX10_likesMore_16 ?_
    refine am_iload_n rfl rfl dX10_likesMore_17 ?_
    refine am_iadd dX10_likesMore_18 ?_
    obtain ⟨j5, e5, w5, wp⟩ := wp
    refine am_ialdN (j := j5) dX10_likesMore_19 rfl (by decide) e5 w5 (by decide) ?_
    refine am_aload_n rfl rfl dX10_likesMore_20 ?_
    refine am_getA (r := 50) dX10_likesMore_21 flX10_20 (Or.inr ⟨_, rfl⟩) rfl (by decide) rfl ?_
    refine am_bipush 7 rfl dX10_likesMore_24 ?_
    refine am_iload_n rfl rfl dX10_likesMore_26 ?_
    refine am_imul dX10_likesMore_27 ?_
    refine am_aload_n rfl rfl dX10_likesMore_28 ?_
    refine am_getA (r := 58) dX10_likesMore_29 flX10_45 (Or.inr ⟨_, rfl⟩) rfl (by decide) rfl ?_
    refine am_iload_n rfl rfl dX10_likesMore_32 ?_
    refine am_ialdN (j := j1) dX10_likesMore_33 rfl (by decide) e1 w1 (by decide) ?_
    refine am_iadd dX10_likesMore_34 ?_
    obtain ⟨j6, e6, w6, wp⟩ := wp
    refine am_ialdN (j := j6) dX10_likesMore_35 rfl (by decide) e6 w6 (by decide) ?_
    refine am_icmp_le dX10_likesMore_36 (tgt := 43) rfl (fun hc7 => ?_) (fun hc7 => ?_)
    · have wp := wp.1 hc7
      refine am_iconst 0 rfl dX10_likesMore_43 ?_
      exact am_iret dX10_likesMore_44 rfl (by decide) wp
    · have wp := wp.2 hc7
      refine am_iconst 1 rfl dX10_likesMore_39 ?_
      refine am_goto dX10_likesMore_40 (tgt := 44) rfl ?_
      exact am_iret dX10_likesMore_44 rfl (by decide) wp
  · have wp := wp.2 hc4
    show am_R E mX10_likesMore 6 [some (.ref 48), some (.int a1), some (.int a2)] [.int 0] (hp I J b) 64 64 Q
    refine am_if_eq dX10_likesMore_6 (tgt := 43) rfl (fun _ => ?_) (fun hc => absurd hc (by decide))
    refine am_iconst 0 rfl dX10_likesMore_43 ?_
    exact am_iret dX10_likesMore_44 rfl (by decide) wp
theorem tX10_likesMore {a1 a2 : Int32} {n m d : Nat} {p : Nat → Nat} (em : a1 = nI m) (ed : a2 = nI d) (hn : n ≤ 7) (hm : m < n) (hd : d < n) (hY : Yw I n) (hR : Rw (I 58) p n) (k1 : lm I p m d → Q (some (.int 1)) (hp I J b)) (k0 : ¬ lm I p m d → Q (some (.int 0)) (hp I J b)) : am_R E mX10_likesMore 0 [some (.ref 48), some (.int a1), some (.int a2)] [] (hp I J b) 64 64 Q := by
  subst em; subst ed
  have hp1 := hR m hm
  refine bX10_likesMore_0 ⟨m, rfl, by omega, d, rfl, by omega, hY.seven hn hm, fun q => ⟨7 * m + d, k7 m d, by omega, 7 * m + p m, by rw [hp1.1, k7], by omega, fun h => k0 (fun z => Int32.not_lt.mpr h z.2), fun h => k1 ⟨q, nle h⟩⟩, fun q => k0 (fun z => q z.1)⟩
theorem bX10_goRing_0 {E : Nat × (Nat → Int32)} {I : Nat → Nat → Int32} {J : Nat → Nat → Int64} {b : Bool} {a1 : Int32} {a2 : Int32} {a3 : Int32} {Q : Option Value → am_H → Prop}  (wp : ∃ j1, a1 = nI j1 ∧ j1 < 7 ∧ ∃ j2, a2 = nI j2 ∧ j2 < 7 ∧ ((¬ a3 = (-1) → ∃ j4, a3 = nI j4 ∧ j4 < 7 ∧ Q none (hp (u2 (u2 (u2 I 58 j1 (I 58 j2)) 58 j2 ((u2 I 58 j1 (I 58 j2)) 58 j4)) 58 j4 (I 58 j1)) J b)) ∧ (a3 = (-1) → Q none (hp (u2 (u2 I 58 j1 (I 58 j2)) 58 j2 (I 58 j1)) J b)))) : am_R E mX10_goRing 0 [some (.ref 48), some (.int a1), some (.int a2), some (.int a3), none] [] (hp I J b) 64 64 Q := by
  refine am_aload_n rfl rfl dX10_goRing_0 ?_
  refine am_getA (r := 58) dX10_goRing_1 flX10_45 (Or.inr ⟨_, rfl⟩) rfl (by decide) rfl ?_
  refine am_iload_n rfl rfl dX10_goRing_4 ?_
  obtain ⟨j1, e1, w1, wp⟩ := wp
  refine am_ialdN (j := j1) dX10_goRing_5 rfl (by decide) e1 w1 (by decide) ?_
  refine am_istore (ls' := [some (.ref 48), some (.int a1), some (.int a2), some (.int a3), some (.int (I 58 j1))]) (by decide) rfl rfl dX10_goRing_6 ?_
  refine am_aload_n rfl rfl dX10_goRing_8 ?_
  refine am_getA (r := 58) dX10_goRing_9 flX10_45 (Or.inr ⟨_, rfl⟩) rfl (by decide) rfl ?_
  refine am_iload_n rfl rfl dX10_goRing_12 ?_
  refine am_aload_n rfl rfl dX10_goRing_13 ?_
  refine am_getA (r := 58) dX10_goRing_14 flX10_45 (Or.inr ⟨_, rfl⟩) rfl (by decide) rfl ?_
  refine am_iload_n rfl rfl dX10_goRing_17 ?_
  obtain ⟨j2, e2, w2, wp⟩ := wp
  refine am_ialdN (j := j2) dX10_goRing_18 rfl (by decide) e2 w2 (by decide) ?_
  refine am_iastN (j := j1) dX10_goRing_19 rfl (by decide) e1 w1 (by decide) ?_
  refine am_iload_n rfl rfl dX10_goRing_20 ?_
  refine am_iconst (-1) rfl dX10_goRing_21 ?_
  refine am_icmp_ne dX10_goRing_22 (tgt := 36) rfl (fun hc3 => ?_) (fun hc3 => ?_)
  · have wp := wp.1 hc3
    refine am_aload_n rfl rfl dX10_goRing_36 ?_
    refine am_getA (r := 58) dX10_goRing_37 flX10_45 (Or.inr ⟨_, rfl⟩) rfl (by decide) rfl ?_
    refine am_iload_n rfl rfl dX10_goRing_40 ?_
    refine am_aload_n rfl rfl dX10_goRing_41 ?_
    refine am_getA (r := 58) dX10_goRing_42 flX10_45 (Or.inr ⟨_, rfl⟩) rfl (by decide) rfl ?_
    refine am_iload_n rfl rfl dX10_goRing_45 ?_
    obtain ⟨j4, e4, w4, wp⟩ := wp
    refine am_ialdN (j := j4) dX10_goRing_46 rfl (by decide) e4 w4 (by decide) ?_
    show am_R E mX10_goRing 47 [some (.ref 48), some (.int a1), some (.int a2), some (.int a3), some (.int (I 58 j1))] [.int ((u2 I 58 j1 (I 58 j2)) 58 j4), .int a2, .ref 58] (hp (u2 I 58 j1 (I 58 j2)) J b) 64 64 Q
    refine am_iastN (j := j2) dX10_goRing_47 rfl (by decide) e2 w2 (by decide) ?_
    refine am_aload_n rfl rfl dX10_goRing_48 ?_
    refine am_getA (r := 58) dX10_goRing_49 flX10_45 (Or.inr ⟨_, rfl⟩) rfl (by decide) rfl ?_
    refine am_iload_n rfl rfl dX10_goRing_52 ?_
    refine am_iload rfl dX10_goRing_53 ?_
    refine am_iastN (j := j4) dX10_goRing_55 rfl (by decide) e4 w4 (by decide) ?_
    exact am_vret dX10_goRing_56 rfl wp
  · have wp := wp.2 hc3
    refine am_aload_n rfl rfl dX10_goRing_25 ?_
    refine am_getA (r := 58) dX10_goRing_26 flX10_45 (Or.inr ⟨_, rfl⟩) rfl (by decide) rfl ?_
    refine am_iload_n rfl rfl dX10_goRing_29 ?_
    refine am_iload rfl dX10_goRing_30 ?_
    refine am_iastN (j := j2) dX10_goRing_32 rfl (by decide) e2 w2 (by decide) ?_
    refine am_goto dX10_goRing_33 (tgt := 56) rfl ?_
    exact am_vret dX10_goRing_56 rfl wp
def sw2 {α : Type} (f : Nat → α) (x y : Nat) : Nat → α := va_up (va_up f x (f y)) y (f x)
def sw3 {α : Type} (f : Nat → α) (x y z : Nat) : Nat → α := va_up (va_up (va_up f x (f y)) y (f z)) z (f x)
theorem tX10_goRing {a1 a2 a3 : Int32} {x y : Nat} (ex : a1 = nI x) (hx : x < 7) (ey : a2 = nI y) (hy : y < 7) (hz : a3 = -1 ∨ ∃ z, a3 = nI z ∧ z < 7 ∧ z ≠ x) (k2 : a3 = -1 → Q none (hp (u1 I 58 (sw2 (I 58) x y)) J b)) (k3 : ∀ z, a3 = nI z → z < 7 → Q none (hp (u1 I 58 (sw3 (I 58) x y z)) J b)) : am_R E mX10_goRing 0 [some (.ref 48), some (.int a1), some (.int a2), some (.int a3), none] [] (hp I J b) 64 64 Q := by
  refine bX10_goRing_0 ⟨x, ex, hx, y, ey, hy, fun h => ?_, fun h => ?_⟩
  · rcases hz with hz | ⟨z, h1, h2, h3⟩
    · exact absurd hz h
    · refine ⟨z, h1, h2, ?_⟩
      rw [u2_s, u2_eq I, u2_u1, u2_u1]
      have e : upd (I 58) x (I 58 y) z = I 58 z := by unfold upd; rw [if_neg h3]
      rw [e]
      exact k3 z h1 h2
  · rw [u2_eq I, u2_u1]
    exact k2 h
end M1
end
