section
-- ===== PART A: goes FIRST, ahead of the names: the tables' words, and 'selects' of the private methods out of them =====
/-- a private method of a class that the tables say can be made, by its rows of tables_1 -/
def lw_okq (q : MethodName × Nat) : Prop := (q.1.cls ≠ "java/lang/invoke/MethodHandle" ∧ q.1.cls ≠ "java/lang/invoke/VarHandle") ∧ Cond.instantiable q.1.cls q.2 ∈ tables_1 ∧ Cond.privateMethod q.1 ∈ tables_1 ∧ Cond.instanceMethod q.1 ∈ tables_1
theorem lw_p0 : lw_okq (⟨"DutiesHat$Scroll", "readLine", "(II)Z"⟩, 6) := ⟨⟨by decide +kernel, by decide +kernel⟩, List.mem_of_getElem? (i := 29) (by decide +kernel), List.mem_of_getElem? (i := 315) (by decide +kernel), List.mem_of_getElem? (i := 316) (by decide +kernel)⟩
theorem lw_p1 : lw_okq (⟨"DutiesHat$Scroll", "nextToken", "()V"⟩, 6) := ⟨⟨by decide +kernel, by decide +kernel⟩, List.mem_of_getElem? (i := 29) (by decide +kernel), List.mem_of_getElem? (i := 319) (by decide +kernel), List.mem_of_getElem? (i := 320) (by decide +kernel)⟩
theorem lw_p2 : lw_okq (⟨"DutiesHat$Scroll", "verbHere", "()I"⟩, 6) := ⟨⟨by decide +kernel, by decide +kernel⟩, List.mem_of_getElem? (i := 29) (by decide +kernel), List.mem_of_getElem? (i := 329) (by decide +kernel), List.mem_of_getElem? (i := 330) (by decide +kernel)⟩
theorem lw_p3 : lw_okq (⟨"DutiesHat$Scroll", "spells", "(Ljava/lang/String;)Z"⟩, 6) := ⟨⟨by decide +kernel, by decide +kernel⟩, List.mem_of_getElem? (i := 29) (by decide +kernel), List.mem_of_getElem? (i := 334) (by decide +kernel), List.mem_of_getElem? (i := 335) (by decide +kernel)⟩
theorem lw_p4 : lw_okq (⟨"DutiesHat$Scroll", "numberHere", "()I"⟩, 6) := ⟨⟨by decide +kernel, by decide +kernel⟩, List.mem_of_getElem? (i := 29) (by decide +kernel), List.mem_of_getElem? (i := 397) (by decide +kernel), List.mem_of_getElem? (i := 398) (by decide +kernel)⟩
theorem lw_p5 : lw_okq (⟨"DutiesHat", "yesterdayChanged", "()V"⟩, 10) := ⟨⟨by decide +kernel, by decide +kernel⟩, List.mem_of_getElem? (i := 21) (by decide +kernel), List.mem_of_getElem? (i := 417) (by decide +kernel), List.mem_of_getElem? (i := 418) (by decide +kernel)⟩
theorem lw_p6 : lw_okq (⟨"DutiesHat", "isThere", "(I)Z"⟩, 10) := ⟨⟨by decide +kernel, by decide +kernel⟩, List.mem_of_getElem? (i := 21) (by decide +kernel), List.mem_of_getElem? (i := 425) (by decide +kernel), List.mem_of_getElem? (i := 426) (by decide +kernel)⟩
theorem lw_p7 : lw_okq (⟨"DutiesHat$Rings", "wants", "([III)Z"⟩, 4) := ⟨⟨by decide +kernel, by decide +kernel⟩, List.mem_of_getElem? (i := 117) (by decide +kernel), List.mem_of_getElem? (i := 487) (by decide +kernel), List.mem_of_getElem? (i := 488) (by decide +kernel)⟩
theorem lw_p8 : lw_okq (⟨"DutiesHat$Rings", "findThird", "([IIIII)V"⟩, 4) := ⟨⟨by decide +kernel, by decide +kernel⟩, List.mem_of_getElem? (i := 117) (by decide +kernel), List.mem_of_getElem? (i := 512) (by decide +kernel), List.mem_of_getElem? (i := 513) (by decide +kernel)⟩
theorem lw_p9 : lw_okq (⟨"DutiesHat$Rings", "note", "(III)V"⟩, 4) := ⟨⟨by decide +kernel, by decide +kernel⟩, List.mem_of_getElem? (i := 117) (by decide +kernel), List.mem_of_getElem? (i := 516) (by decide +kernel), List.mem_of_getElem? (i := 517) (by decide +kernel)⟩
theorem lw_p10 : lw_okq (⟨"DutiesHat$Search", "reach", "(I)V"⟩, 8) := ⟨⟨by decide +kernel, by decide +kernel⟩, List.mem_of_getElem? (i := 177) (by decide +kernel), List.mem_of_getElem? (i := 560) (by decide +kernel), List.mem_of_getElem? (i := 561) (by decide +kernel)⟩
theorem lw_p11 : lw_okq (⟨"DutiesHat$Search", "takeWaiting", "()I"⟩, 8) := ⟨⟨by decide +kernel, by decide +kernel⟩, List.mem_of_getElem? (i := 177) (by decide +kernel), List.mem_of_getElem? (i := 564) (by decide +kernel), List.mem_of_getElem? (i := 565) (by decide +kernel)⟩
theorem lw_p12 : lw_okq (⟨"DutiesHat$Search", "lookAt", "(II)V"⟩, 8) := ⟨⟨by decide +kernel, by decide +kernel⟩, List.mem_of_getElem? (i := 177) (by decide +kernel), List.mem_of_getElem? (i := 575) (by decide +kernel), List.mem_of_getElem? (i := 576) (by decide +kernel)⟩
theorem lw_p13 : lw_okq (⟨"DutiesHat$Search", "addEnd", "(I)V"⟩, 8) := ⟨⟨by decide +kernel, by decide +kernel⟩, List.mem_of_getElem? (i := 177) (by decide +kernel), List.mem_of_getElem? (i := 581) (by decide +kernel), List.mem_of_getElem? (i := 582) (by decide +kernel)⟩
theorem lw_p14 : lw_okq (⟨"DutiesHat$Rings", "giverTo", "(II)I"⟩, 4) := ⟨⟨by decide +kernel, by decide +kernel⟩, List.mem_of_getElem? (i := 117) (by decide +kernel), List.mem_of_getElem? (i := 596) (by decide +kernel), List.mem_of_getElem? (i := 597) (by decide +kernel)⟩
theorem lw_p15 : lw_okq (⟨"DutiesHat$Rings", "isBetter", "(III)Z"⟩, 4) := ⟨⟨by decide +kernel, by decide +kernel⟩, List.mem_of_getElem? (i := 117) (by decide +kernel), List.mem_of_getElem? (i := 600) (by decide +kernel), List.mem_of_getElem? (i := 601) (by decide +kernel)⟩
def lw_privs_1 : List (MethodName × Nat) := [(⟨"DutiesHat$Scroll", "readLine", "(II)Z"⟩, 6), (⟨"DutiesHat$Scroll", "nextToken", "()V"⟩, 6), (⟨"DutiesHat$Scroll", "verbHere", "()I"⟩, 6), (⟨"DutiesHat$Scroll", "spells", "(Ljava/lang/String;)Z"⟩, 6), (⟨"DutiesHat$Scroll", "numberHere", "()I"⟩, 6), (⟨"DutiesHat", "yesterdayChanged", "()V"⟩, 10), (⟨"DutiesHat", "isThere", "(I)Z"⟩, 10), (⟨"DutiesHat$Rings", "wants", "([III)Z"⟩, 4), (⟨"DutiesHat$Rings", "findThird", "([IIIII)V"⟩, 4), (⟨"DutiesHat$Rings", "note", "(III)V"⟩, 4), (⟨"DutiesHat$Search", "reach", "(I)V"⟩, 8), (⟨"DutiesHat$Search", "takeWaiting", "()I"⟩, 8), (⟨"DutiesHat$Search", "lookAt", "(II)V"⟩, 8), (⟨"DutiesHat$Search", "addEnd", "(I)V"⟩, 8), (⟨"DutiesHat$Rings", "giverTo", "(II)I"⟩, 4), (⟨"DutiesHat$Rings", "isBetter", "(III)Z"⟩, 4)]
theorem lw_r1 : ∀ q ∈ lw_privs_1, lw_okq q := List.forall_mem_cons.mpr ⟨lw_p0, List.forall_mem_cons.mpr ⟨lw_p1, List.forall_mem_cons.mpr ⟨lw_p2, List.forall_mem_cons.mpr ⟨lw_p3, List.forall_mem_cons.mpr ⟨lw_p4, List.forall_mem_cons.mpr ⟨lw_p5, List.forall_mem_cons.mpr ⟨lw_p6, List.forall_mem_cons.mpr ⟨lw_p7, List.forall_mem_cons.mpr ⟨lw_p8, List.forall_mem_cons.mpr ⟨lw_p9, List.forall_mem_cons.mpr ⟨lw_p10, List.forall_mem_cons.mpr ⟨lw_p11, List.forall_mem_cons.mpr ⟨lw_p12, List.forall_mem_cons.mpr ⟨lw_p13, List.forall_mem_cons.mpr ⟨lw_p14, List.forall_mem_cons.mpr ⟨lw_p15, fun _ h => absurd h List.not_mem_nil⟩⟩⟩⟩⟩⟩⟩⟩⟩⟩⟩⟩⟩⟩⟩⟩
theorem lw_p16 : lw_okq (⟨"DutiesHat", "tallyOf", "(I)LDutiesHat$Tally;"⟩, 10) := ⟨⟨by decide +kernel, by decide +kernel⟩, List.mem_of_getElem? (i := 21) (by decide +kernel), List.mem_of_getElem? (i := 608) (by decide +kernel), List.mem_of_getElem? (i := 609) (by decide +kernel)⟩
theorem lw_p17 : lw_okq (⟨"DutiesHat$Tally", "addRow", "(I)V"⟩, 8) := ⟨⟨by decide +kernel, by decide +kernel⟩, List.mem_of_getElem? (i := 141) (by decide +kernel), List.mem_of_getElem? (i := 620) (by decide +kernel), List.mem_of_getElem? (i := 621) (by decide +kernel)⟩
theorem lw_p18 : lw_okq (⟨"DutiesHat$Plan", "layRows", "(I)V"⟩, 6) := ⟨⟨by decide +kernel, by decide +kernel⟩, List.mem_of_getElem? (i := 212) (by decide +kernel), List.mem_of_getElem? (i := 652) (by decide +kernel), List.mem_of_getElem? (i := 653) (by decide +kernel)⟩
theorem lw_p19 : lw_okq (⟨"DutiesHat$Plan", "mayComeBehind", "([III)Z"⟩, 6) := ⟨⟨by decide +kernel, by decide +kernel⟩, List.mem_of_getElem? (i := 212) (by decide +kernel), List.mem_of_getElem? (i := 659) (by decide +kernel), List.mem_of_getElem? (i := 660) (by decide +kernel)⟩
theorem lw_p20 : lw_okq (⟨"DutiesHat$Plan", "addDay", "(I)V"⟩, 6) := ⟨⟨by decide +kernel, by decide +kernel⟩, List.mem_of_getElem? (i := 212) (by decide +kernel), List.mem_of_getElem? (i := 664) (by decide +kernel), List.mem_of_getElem? (i := 665) (by decide +kernel)⟩
theorem lw_p21 : lw_okq (⟨"DutiesHat$Plan", "bestAhead", "(II)I"⟩, 6) := ⟨⟨by decide +kernel, by decide +kernel⟩, List.mem_of_getElem? (i := 212) (by decide +kernel), List.mem_of_getElem? (i := 668) (by decide +kernel), List.mem_of_getElem? (i := 669) (by decide +kernel)⟩
theorem lw_p22 : lw_okq (⟨"DutiesHatModel", "plain", "()V"⟩, 29) := ⟨⟨by decide +kernel, by decide +kernel⟩, List.mem_of_getElem? (i := 717) (by decide +kernel), List.mem_of_getElem? (i := 723) (by decide +kernel), List.mem_of_getElem? (i := 724) (by decide +kernel)⟩
theorem lw_p23 : lw_okq (⟨"DutiesHatModel", "begin", "()V"⟩, 29) := ⟨⟨by decide +kernel, by decide +kernel⟩, List.mem_of_getElem? (i := 717) (by decide +kernel), List.mem_of_getElem? (i := 727) (by decide +kernel), List.mem_of_getElem? (i := 728) (by decide +kernel)⟩
theorem lw_p24 : lw_okq (⟨"DutiesHatModel", "isRead", "()Z"⟩, 29) := ⟨⟨by decide +kernel, by decide +kernel⟩, List.mem_of_getElem? (i := 717) (by decide +kernel), List.mem_of_getElem? (i := 835) (by decide +kernel), List.mem_of_getElem? (i := 836) (by decide +kernel)⟩
theorem lw_p25 : lw_okq (⟨"DutiesHatModel", "isLine", "(I)Z"⟩, 29) := ⟨⟨by decide +kernel, by decide +kernel⟩, List.mem_of_getElem? (i := 717) (by decide +kernel), List.mem_of_getElem? (i := 839) (by decide +kernel), List.mem_of_getElem? (i := 840) (by decide +kernel)⟩
theorem lw_p26 : lw_okq (⟨"DutiesHatModel", "nextToken", "()V"⟩, 29) := ⟨⟨by decide +kernel, by decide +kernel⟩, List.mem_of_getElem? (i := 717) (by decide +kernel), List.mem_of_getElem? (i := 843) (by decide +kernel), List.mem_of_getElem? (i := 844) (by decide +kernel)⟩
theorem lw_p27 : lw_okq (⟨"DutiesHatModel", "isHall", "(I)Z"⟩, 29) := ⟨⟨by decide +kernel, by decide +kernel⟩, List.mem_of_getElem? (i := 717) (by decide +kernel), List.mem_of_getElem? (i := 862) (by decide +kernel), List.mem_of_getElem? (i := 863) (by decide +kernel)⟩
theorem lw_p28 : lw_okq (⟨"DutiesHatModel", "isNumber", "(III)Z"⟩, 29) := ⟨⟨by decide +kernel, by decide +kernel⟩, List.mem_of_getElem? (i := 717) (by decide +kernel), List.mem_of_getElem? (i := 866) (by decide +kernel), List.mem_of_getElem? (i := 867) (by decide +kernel)⟩
theorem lw_p29 : lw_okq (⟨"DutiesHatModel", "fails", "()Z"⟩, 29) := ⟨⟨by decide +kernel, by decide +kernel⟩, List.mem_of_getElem? (i := 717) (by decide +kernel), List.mem_of_getElem? (i := 870) (by decide +kernel), List.mem_of_getElem? (i := 871) (by decide +kernel)⟩
theorem lw_p30 : lw_okq (⟨"DutiesHatModel", "isThere", "(I)Z"⟩, 29) := ⟨⟨by decide +kernel, by decide +kernel⟩, List.mem_of_getElem? (i := 717) (by decide +kernel), List.mem_of_getElem? (i := 874) (by decide +kernel), List.mem_of_getElem? (i := 875) (by decide +kernel)⟩
theorem lw_p31 : lw_okq (⟨"DutiesHatModel", "isRing", "(I)Z"⟩, 29) := ⟨⟨by decide +kernel, by decide +kernel⟩, List.mem_of_getElem? (i := 717) (by decide +kernel), List.mem_of_getElem? (i := 878) (by decide +kernel), List.mem_of_getElem? (i := 879) (by decide +kernel)⟩
def lw_privs_2 : List (MethodName × Nat) := [(⟨"DutiesHat", "tallyOf", "(I)LDutiesHat$Tally;"⟩, 10), (⟨"DutiesHat$Tally", "addRow", "(I)V"⟩, 8), (⟨"DutiesHat$Plan", "layRows", "(I)V"⟩, 6), (⟨"DutiesHat$Plan", "mayComeBehind", "([III)Z"⟩, 6), (⟨"DutiesHat$Plan", "addDay", "(I)V"⟩, 6), (⟨"DutiesHat$Plan", "bestAhead", "(II)I"⟩, 6), (⟨"DutiesHatModel", "plain", "()V"⟩, 29), (⟨"DutiesHatModel", "begin", "()V"⟩, 29), (⟨"DutiesHatModel", "isRead", "()Z"⟩, 29), (⟨"DutiesHatModel", "isLine", "(I)Z"⟩, 29), (⟨"DutiesHatModel", "nextToken", "()V"⟩, 29), (⟨"DutiesHatModel", "isHall", "(I)Z"⟩, 29), (⟨"DutiesHatModel", "isNumber", "(III)Z"⟩, 29), (⟨"DutiesHatModel", "fails", "()Z"⟩, 29), (⟨"DutiesHatModel", "isThere", "(I)Z"⟩, 29), (⟨"DutiesHatModel", "isRing", "(I)Z"⟩, 29)]
theorem lw_r2 : ∀ q ∈ lw_privs_2, lw_okq q := List.forall_mem_cons.mpr ⟨lw_p16, List.forall_mem_cons.mpr ⟨lw_p17, List.forall_mem_cons.mpr ⟨lw_p18, List.forall_mem_cons.mpr ⟨lw_p19, List.forall_mem_cons.mpr ⟨lw_p20, List.forall_mem_cons.mpr ⟨lw_p21, List.forall_mem_cons.mpr ⟨lw_p22, List.forall_mem_cons.mpr ⟨lw_p23, List.forall_mem_cons.mpr ⟨lw_p24, List.forall_mem_cons.mpr ⟨lw_p25, List.forall_mem_cons.mpr ⟨lw_p26, List.forall_mem_cons.mpr ⟨lw_p27, List.forall_mem_cons.mpr ⟨lw_p28, List.forall_mem_cons.mpr ⟨lw_p29, List.forall_mem_cons.mpr ⟨lw_p30, List.forall_mem_cons.mpr ⟨lw_p31, fun _ h => absurd h List.not_mem_nil⟩⟩⟩⟩⟩⟩⟩⟩⟩⟩⟩⟩⟩⟩⟩⟩
theorem lw_p32 : lw_okq (⟨"DutiesHatModel", "doLine", "(I)V"⟩, 29) := ⟨⟨by decide +kernel, by decide +kernel⟩, List.mem_of_getElem? (i := 717) (by decide +kernel), List.mem_of_getElem? (i := 886) (by decide +kernel), List.mem_of_getElem? (i := 887) (by decide +kernel)⟩
theorem lw_p33 : lw_okq (⟨"DutiesHatModel", "isMonk", "(I)Z"⟩, 29) := ⟨⟨by decide +kernel, by decide +kernel⟩, List.mem_of_getElem? (i := 717) (by decide +kernel), List.mem_of_getElem? (i := 894) (by decide +kernel), List.mem_of_getElem? (i := 895) (by decide +kernel)⟩
theorem lw_p34 : lw_okq (⟨"DutiesHatModel", "may", "(II)Z"⟩, 29) := ⟨⟨by decide +kernel, by decide +kernel⟩, List.mem_of_getElem? (i := 717) (by decide +kernel), List.mem_of_getElem? (i := 898) (by decide +kernel), List.mem_of_getElem? (i := 899) (by decide +kernel)⟩
theorem lw_p35 : lw_okq (⟨"DutiesHatModel", "mayBehind", "(III)Z"⟩, 29) := ⟨⟨by decide +kernel, by decide +kernel⟩, List.mem_of_getElem? (i := 717) (by decide +kernel), List.mem_of_getElem? (i := 902) (by decide +kernel), List.mem_of_getElem? (i := 903) (by decide +kernel)⟩
theorem lw_p36 : lw_okq (⟨"DutiesHatModel", "takeDraw", "(I)V"⟩, 29) := ⟨⟨by decide +kernel, by decide +kernel⟩, List.mem_of_getElem? (i := 717) (by decide +kernel), List.mem_of_getElem? (i := 917) (by decide +kernel), List.mem_of_getElem? (i := 918) (by decide +kernel)⟩
theorem lw_p37 : lw_okq (⟨"DutiesHatModel", "isLawful", "()Z"⟩, 29) := ⟨⟨by decide +kernel, by decide +kernel⟩, List.mem_of_getElem? (i := 717) (by decide +kernel), List.mem_of_getElem? (i := 921) (by decide +kernel), List.mem_of_getElem? (i := 922) (by decide +kernel)⟩
theorem lw_p38 : lw_okq (⟨"DutiesHatModel", "putToday", "()V"⟩, 29) := ⟨⟨by decide +kernel, by decide +kernel⟩, List.mem_of_getElem? (i := 717) (by decide +kernel), List.mem_of_getElem? (i := 925) (by decide +kernel), List.mem_of_getElem? (i := 926) (by decide +kernel)⟩
theorem lw_p39 : lw_okq (⟨"DutiesHatModel", "takeToday", "()V"⟩, 29) := ⟨⟨by decide +kernel, by decide +kernel⟩, List.mem_of_getElem? (i := 717) (by decide +kernel), List.mem_of_getElem? (i := 942) (by decide +kernel), List.mem_of_getElem? (i := 943) (by decide +kernel)⟩
theorem lw_p40 : lw_okq (⟨"DutiesHatModel", "isWanted", "(III)Z"⟩, 29) := ⟨⟨by decide +kernel, by decide +kernel⟩, List.mem_of_getElem? (i := 717) (by decide +kernel), List.mem_of_getElem? (i := 946) (by decide +kernel), List.mem_of_getElem? (i := 947) (by decide +kernel)⟩
theorem lw_p41 : lw_okq (⟨"DutiesHatModel", "likesMore", "(II)Z"⟩, 29) := ⟨⟨by decide +kernel, by decide +kernel⟩, List.mem_of_getElem? (i := 717) (by decide +kernel), List.mem_of_getElem? (i := 950) (by decide +kernel), List.mem_of_getElem? (i := 951) (by decide +kernel)⟩
theorem lw_p42 : lw_okq (⟨"DutiesHatModel", "goRing", "(III)V"⟩, 29) := ⟨⟨by decide +kernel, by decide +kernel⟩, List.mem_of_getElem? (i := 717) (by decide +kernel), List.mem_of_getElem? (i := 954) (by decide +kernel), List.mem_of_getElem? (i := 955) (by decide +kernel)⟩
theorem lw_p43 : lw_okq (⟨"DutiesHatModel", "gladnessOf", "()I"⟩, 29) := ⟨⟨by decide +kernel, by decide +kernel⟩, List.mem_of_getElem? (i := 717) (by decide +kernel), List.mem_of_getElem? (i := 958) (by decide +kernel), List.mem_of_getElem? (i := 959) (by decide +kernel)⟩
theorem lw_p44 : lw_okq (⟨"DutiesHatModel", "settleBy", "(I)I"⟩, 29) := ⟨⟨by decide +kernel, by decide +kernel⟩, List.mem_of_getElem? (i := 717) (by decide +kernel), List.mem_of_getElem? (i := 966) (by decide +kernel), List.mem_of_getElem? (i := 967) (by decide +kernel)⟩
theorem lw_p45 : lw_okq (⟨"DutiesHatModel", "nextWanted", "(II)I"⟩, 29) := ⟨⟨by decide +kernel, by decide +kernel⟩, List.mem_of_getElem? (i := 717) (by decide +kernel), List.mem_of_getElem? (i := 970) (by decide +kernel), List.mem_of_getElem? (i := 971) (by decide +kernel)⟩
theorem lw_p46 : lw_okq (⟨"DutiesHatModel", "takeRing", "(II)V"⟩, 29) := ⟨⟨by decide +kernel, by decide +kernel⟩, List.mem_of_getElem? (i := 717) (by decide +kernel), List.mem_of_getElem? (i := 974) (by decide +kernel), List.mem_of_getElem? (i := 975) (by decide +kernel)⟩
theorem lw_p47 : lw_okq (⟨"DutiesHatModel", "numberOf", "()I"⟩, 29) := ⟨⟨by decide +kernel, by decide +kernel⟩, List.mem_of_getElem? (i := 717) (by decide +kernel), List.mem_of_getElem? (i := 986) (by decide +kernel), List.mem_of_getElem? (i := 987) (by decide +kernel)⟩
def lw_privs_3 : List (MethodName × Nat) := [(⟨"DutiesHatModel", "doLine", "(I)V"⟩, 29), (⟨"DutiesHatModel", "isMonk", "(I)Z"⟩, 29), (⟨"DutiesHatModel", "may", "(II)Z"⟩, 29), (⟨"DutiesHatModel", "mayBehind", "(III)Z"⟩, 29), (⟨"DutiesHatModel", "takeDraw", "(I)V"⟩, 29), (⟨"DutiesHatModel", "isLawful", "()Z"⟩, 29), (⟨"DutiesHatModel", "putToday", "()V"⟩, 29), (⟨"DutiesHatModel", "takeToday", "()V"⟩, 29), (⟨"DutiesHatModel", "isWanted", "(III)Z"⟩, 29), (⟨"DutiesHatModel", "likesMore", "(II)Z"⟩, 29), (⟨"DutiesHatModel", "goRing", "(III)V"⟩, 29), (⟨"DutiesHatModel", "gladnessOf", "()I"⟩, 29), (⟨"DutiesHatModel", "settleBy", "(I)I"⟩, 29), (⟨"DutiesHatModel", "nextWanted", "(II)I"⟩, 29), (⟨"DutiesHatModel", "takeRing", "(II)V"⟩, 29), (⟨"DutiesHatModel", "numberOf", "()I"⟩, 29)]
theorem lw_r3 : ∀ q ∈ lw_privs_3, lw_okq q := List.forall_mem_cons.mpr ⟨lw_p32, List.forall_mem_cons.mpr ⟨lw_p33, List.forall_mem_cons.mpr ⟨lw_p34, List.forall_mem_cons.mpr ⟨lw_p35, List.forall_mem_cons.mpr ⟨lw_p36, List.forall_mem_cons.mpr ⟨lw_p37, List.forall_mem_cons.mpr ⟨lw_p38, List.forall_mem_cons.mpr ⟨lw_p39, List.forall_mem_cons.mpr ⟨lw_p40, List.forall_mem_cons.mpr ⟨lw_p41, List.forall_mem_cons.mpr ⟨lw_p42, List.forall_mem_cons.mpr ⟨lw_p43, List.forall_mem_cons.mpr ⟨lw_p44, List.forall_mem_cons.mpr ⟨lw_p45, List.forall_mem_cons.mpr ⟨lw_p46, List.forall_mem_cons.mpr ⟨lw_p47, fun _ h => absurd h List.not_mem_nil⟩⟩⟩⟩⟩⟩⟩⟩⟩⟩⟩⟩⟩⟩⟩⟩
theorem lw_p48 : lw_okq (⟨"DutiesHatModel", "workOf", "()I"⟩, 29) := ⟨⟨by decide +kernel, by decide +kernel⟩, List.mem_of_getElem? (i := 717) (by decide +kernel), List.mem_of_getElem? (i := 990) (by decide +kernel), List.mem_of_getElem? (i := 991) (by decide +kernel)⟩
theorem lw_p49 : lw_okq (⟨"DutiesHatModel", "isLawfulBehind", "()Z"⟩, 29) := ⟨⟨by decide +kernel, by decide +kernel⟩, List.mem_of_getElem? (i := 717) (by decide +kernel), List.mem_of_getElem? (i := 1024) (by decide +kernel), List.mem_of_getElem? (i := 1025) (by decide +kernel)⟩
theorem lw_p50 : lw_okq (⟨"DutiesHatModel", "oftenOf", "(II)I"⟩, 29) := ⟨⟨by decide +kernel, by decide +kernel⟩, List.mem_of_getElem? (i := 717) (by decide +kernel), List.mem_of_getElem? (i := 1032) (by decide +kernel), List.mem_of_getElem? (i := 1033) (by decide +kernel)⟩
theorem lw_p51 : lw_okq (⟨"DutiesHatModel", "tailUp", "(II)J"⟩, 29) := ⟨⟨by decide +kernel, by decide +kernel⟩, List.mem_of_getElem? (i := 717) (by decide +kernel), List.mem_of_getElem? (i := 1040) (by decide +kernel), List.mem_of_getElem? (i := 1041) (by decide +kernel)⟩
theorem lw_p52 : lw_okq (⟨"DutiesHatModel", "tailDown", "()J"⟩, 29) := ⟨⟨by decide +kernel, by decide +kernel⟩, List.mem_of_getElem? (i := 717) (by decide +kernel), List.mem_of_getElem? (i := 1044) (by decide +kernel), List.mem_of_getElem? (i := 1045) (by decide +kernel)⟩
def lw_privs_4 : List (MethodName × Nat) := [(⟨"DutiesHatModel", "workOf", "()I"⟩, 29), (⟨"DutiesHatModel", "isLawfulBehind", "()Z"⟩, 29), (⟨"DutiesHatModel", "oftenOf", "(II)I"⟩, 29), (⟨"DutiesHatModel", "tailUp", "(II)J"⟩, 29), (⟨"DutiesHatModel", "tailDown", "()J"⟩, 29)]
theorem lw_r4 : ∀ q ∈ lw_privs_4, lw_okq q := List.forall_mem_cons.mpr ⟨lw_p48, List.forall_mem_cons.mpr ⟨lw_p49, List.forall_mem_cons.mpr ⟨lw_p50, List.forall_mem_cons.mpr ⟨lw_p51, List.forall_mem_cons.mpr ⟨lw_p52, fun _ h => absurd h List.not_mem_nil⟩⟩⟩⟩⟩
def lw_privs : List (MethodName × Nat) := lw_privs_1 ++ (lw_privs_2 ++ (lw_privs_3 ++ (lw_privs_4)))
def lw_tbl : List Cond := k2_sels lw_privs ++ tables_1
theorem lw_privs_ok : ∀ q ∈ lw_privs, lw_okq q := by
  show ∀ q ∈ lw_privs_1 ++ (lw_privs_2 ++ (lw_privs_3 ++ (lw_privs_4))), lw_okq q
  exact List.forall_mem_append.mpr ⟨lw_r1, List.forall_mem_append.mpr ⟨lw_r2, List.forall_mem_append.mpr ⟨lw_r3, lw_r4⟩⟩⟩
-- ===== end of PART A; then your names; then what follows =====
end
section
def RX0 : String := "DutiesHat$Chance"
def TX0 : u_T := fun k => match k with
  | _ => ("", "", "", false)
def tyX0 : Nat → FieldType := fun k => match k with
  | _ => .int
abbrev wsX00 : List Cond := u_ws RX0 TX0 0
theorem nmX0 : ∀ a, a < 0 → ∀ b, b < 0 → a ≠ b → (TX0 a).2.1 ≠ (TX0 b).2.1 := by decide +kernel
theorem tyX0_ok : ∀ k, k < 0 → parseFieldDescriptor (TX0 k).2.2.1 = some (tyX0 k) := by decide +kernel
abbrev cX0_lowest : ByteArray := prog_2_method_2_code
def yX0_lowest : MethodName := ⟨RX0, "lowest", "(JJI)J"⟩
abbrev cX0_power : ByteArray := prog_2_method_3_code
def yX0_power : MethodName := ⟨RX0, "power", "(JI)J"⟩
abbrev cX0_waysOf : ByteArray := prog_2_method_4_code
def yX0_waysOf : MethodName := ⟨RX0, "waysOf", "(III)J"⟩
def RX1 : String := "DutiesHat$Days"
def TX1 : u_T := fun k => match k with
  | 0 => ("DutiesHat$Days", "drawn", "Z", false)
  | 1 => ("DutiesHat$Days", "today", "[I", true)
  | 2 => ("DutiesHat$Days", "yesterday", "[I", true)
  | 3 => ("DutiesHat$Days", "dawns", "I", false)
  | _ => ("DutiesHat$Days", "book", "[I", true)
def tyX1 : Nat → FieldType := fun k => match k with
  | 0 => .boolean
  | 1 => .array .int
  | 2 => .array .int
  | 3 => .int
  | _ => .array .int
abbrev wsX10 : List Cond := u_ws RX1 TX1 5
theorem nmX1 : ∀ a, a < 5 → ∀ b, b < 5 → a ≠ b → (TX1 a).2.1 ≠ (TX1 b).2.1 := by decide +kernel
theorem tyX1_ok : ∀ k, k < 5 → parseFieldDescriptor (TX1 k).2.2.1 = some (tyX1 k) := by decide +kernel
abbrev cX1_init : ByteArray := prog_3_method_1_code
def yX1_init : MethodName := ⟨RX1, "<init>", "()V"⟩
abbrev cX1_begin : ByteArray := prog_3_method_2_code
def yX1_begin : MethodName := ⟨RX1, "begin", "([I)V"⟩
abbrev cX1_give : ByteArray := prog_3_method_3_code
def yX1_give : MethodName := ⟨RX1, "give", "([I)V"⟩
abbrev cX1_end : ByteArray := prog_3_method_4_code
def yX1_end : MethodName := ⟨RX1, "end", "()V"⟩
abbrev cX1_timesOf : ByteArray := prog_3_method_5_code
def yX1_timesOf : MethodName := ⟨RX1, "timesOf", "(II)I"⟩
abbrev cX1_copy : ByteArray := prog_3_method_6_code
def yX1_copy : MethodName := ⟨RX1, "copy", "(LDutiesHat$Days;)V"⟩
def RX2 : String := "DutiesHat$House"
def TX2 : u_T := fun k => match k with
  | 0 => ("DutiesHat$House", "monks", "I", false)
  | 1 => ("DutiesHat$House", "ring", "I", false)
  | 2 => ("DutiesHat$House", "skills", "[I", true)
  | 3 => ("DutiesHat$House", "likings", "[I", true)
  | 4 => ("DutiesHat$House", "kinds", "[I", true)
  | _ => ("DutiesHat$House", "told", "[I", true)
def tyX2 : Nat → FieldType := fun k => match k with
  | 0 => .int
  | 1 => .int
  | 2 => .array .int
  | 3 => .array .int
  | 4 => .array .int
  | _ => .array .int
abbrev wsX20 : List Cond := u_ws RX2 TX2 6
theorem nmX2 : ∀ a, a < 6 → ∀ b, b < 6 → a ≠ b → (TX2 a).2.1 ≠ (TX2 b).2.1 := by decide +kernel
theorem tyX2_ok : ∀ k, k < 6 → parseFieldDescriptor (TX2 k).2.2.1 = some (tyX2 k) := by decide +kernel
abbrev cX2_init : ByteArray := prog_4_method_1_code
def yX2_init : MethodName := ⟨RX2, "<init>", "()V"⟩
abbrev cX2_cell : ByteArray := prog_4_method_2_code
def yX2_cell : MethodName := ⟨RX2, "cell", "(II)I"⟩
abbrev cX2_open : ByteArray := prog_4_method_3_code
def yX2_open : MethodName := ⟨RX2, "open", "(I)V"⟩
abbrev cX2_obey : ByteArray := prog_4_method_4_code
def yX2_obey : MethodName := ⟨RX2, "obey", "([II)V"⟩
abbrev cX2_skillOf : ByteArray := prog_4_method_5_code
def yX2_skillOf : MethodName := ⟨RX2, "skillOf", "(II)I"⟩
abbrev cX2_likingOf : ByteArray := prog_4_method_6_code
def yX2_likingOf : MethodName := ⟨RX2, "likingOf", "(II)I"⟩
abbrev cX2_isA : ByteArray := prog_4_method_7_code
def yX2_isA : MethodName := ⟨RX2, "isA", "(II)Z"⟩
abbrev cX2_mayFollow : ByteArray := prog_4_method_8_code
def yX2_mayFollow : MethodName := ⟨RX2, "mayFollow", "(II)Z"⟩
abbrev cX2_workOf : ByteArray := prog_4_method_9_code
def yX2_workOf : MethodName := ⟨RX2, "workOf", "([I)I"⟩
abbrev cX2_gladnessOf : ByteArray := prog_4_method_10_code
def yX2_gladnessOf : MethodName := ⟨RX2, "gladnessOf", "([I)I"⟩
def RX3 : String := "DutiesHat$Lots"
def TX3 : u_T := fun k => match k with
  | _ => ("", "", "", false)
def tyX3 : Nat → FieldType := fun k => match k with
  | _ => .int
abbrev wsX30 : List Cond := u_ws RX3 TX3 0
theorem nmX3 : ∀ a, a < 0 → ∀ b, b < 0 → a ≠ b → (TX3 a).2.1 ≠ (TX3 b).2.1 := by decide +kernel
theorem tyX3_ok : ∀ k, k < 0 → parseFieldDescriptor (TX3 k).2.2.1 = some (tyX3 k) := by decide +kernel
abbrev cX3_fill : ByteArray := prog_5_method_2_code
def yX3_fill : MethodName := ⟨RX3, "fill", "([III)V"⟩
abbrev cX3_numberOf : ByteArray := prog_5_method_3_code
def yX3_numberOf : MethodName := ⟨RX3, "numberOf", "([II)I"⟩
abbrev cX3_mix : ByteArray := prog_5_method_4_code
def yX3_mix : MethodName := ⟨RX3, "mix", "([III)I"⟩
def RX4 : String := "DutiesHat$Plan"
def TX4 : u_T := fun k => match k with
  | 0 => ("DutiesHat$Plan", "house", "LDutiesHat$House;", true)
  | 1 => ("DutiesHat$Plan", "row", "[I", true)
  | 2 => ("DutiesHat$Plan", "rows", "[I", true)
  | 3 => ("DutiesHat$Plan", "works", "[I", true)
  | 4 => ("DutiesHat$Plan", "best", "[I", false)
  | _ => ("DutiesHat$Plan", "next", "[I", false)
def tyX4 : Nat → FieldType := fun k => match k with
  | 0 => .object "DutiesHat$House"
  | 1 => .array .int
  | 2 => .array .int
  | 3 => .array .int
  | 4 => .array .int
  | _ => .array .int
abbrev wsX40 : List Cond := u_ws RX4 TX4 6
theorem nmX4 : ∀ a, a < 6 → ∀ b, b < 6 → a ≠ b → (TX4 a).2.1 ≠ (TX4 b).2.1 := by decide +kernel
theorem tyX4_ok : ∀ k, k < 6 → parseFieldDescriptor (TX4 k).2.2.1 = some (tyX4 k) := by decide +kernel
abbrev cX4_init : ByteArray := prog_6_method_1_code
def yX4_init : MethodName := ⟨RX4, "<init>", "(LDutiesHat$House;)V"⟩
abbrev cX4_greatest : ByteArray := prog_6_method_2_code
def yX4_greatest : MethodName := ⟨RX4, "greatest", "([II)I"⟩
abbrev cX4_layRows : ByteArray := prog_6_method_3_code
def yX4_layRows : MethodName := ⟨RX4, "layRows", "(I)V"⟩
abbrev cX4_addDay : ByteArray := prog_6_method_4_code
def yX4_addDay : MethodName := ⟨RX4, "addDay", "(I)V"⟩
abbrev cX4_bestAhead : ByteArray := prog_6_method_5_code
def yX4_bestAhead : MethodName := ⟨RX4, "bestAhead", "(II)I"⟩
abbrev cX4_mayComeBehind : ByteArray := prog_6_method_6_code
def yX4_mayComeBehind : MethodName := ⟨RX4, "mayComeBehind", "([III)Z"⟩
def RX5 : String := "DutiesHat$Rings"
def TX5 : u_T := fun k => match k with
  | 0 => ("DutiesHat$Rings", "house", "LDutiesHat$House;", true)
  | 1 => ("DutiesHat$Rings", "may", "[I", true)
  | 2 => ("DutiesHat$Rings", "found", "[I", true)
  | _ => ("DutiesHat$Rings", "foundCount", "I", false)
def tyX5 : Nat → FieldType := fun k => match k with
  | 0 => .object "DutiesHat$House"
  | 1 => .array .int
  | 2 => .array .int
  | _ => .int
abbrev wsX50 : List Cond := u_ws RX5 TX5 4
theorem nmX5 : ∀ a, a < 4 → ∀ b, b < 4 → a ≠ b → (TX5 a).2.1 ≠ (TX5 b).2.1 := by decide +kernel
theorem tyX5_ok : ∀ k, k < 4 → parseFieldDescriptor (TX5 k).2.2.1 = some (tyX5 k) := by decide +kernel
abbrev cX5_init : ByteArray := prog_7_method_1_code
def yX5_init : MethodName := ⟨RX5, "<init>", "(LDutiesHat$House;)V"⟩
abbrev cX5_look : ByteArray := prog_7_method_2_code
def yX5_look : MethodName := ⟨RX5, "look", "([I)V"⟩
abbrev cX5_mayDo : ByteArray := prog_7_method_3_code
def yX5_mayDo : MethodName := ⟨RX5, "mayDo", "(II)Z"⟩
abbrev cX5_allMayDo : ByteArray := prog_7_method_4_code
def yX5_allMayDo : MethodName := ⟨RX5, "allMayDo", "([I)Z"⟩
abbrev cX5_wants : ByteArray := prog_7_method_5_code
def yX5_wants : MethodName := ⟨RX5, "wants", "([III)Z"⟩
abbrev cX5_isWanted : ByteArray := prog_7_method_6_code
def yX5_isWanted : MethodName := ⟨RX5, "isWanted", "([IIII)Z"⟩
abbrev cX5_pass : ByteArray := prog_7_method_7_code
def yX5_pass : MethodName := ⟨RX5, "pass", "([IIII)V"⟩
abbrev cX5_find : ByteArray := prog_7_method_8_code
def yX5_find : MethodName := ⟨RX5, "find", "([III)V"⟩
abbrev cX5_findThird : ByteArray := prog_7_method_9_code
def yX5_findThird : MethodName := ⟨RX5, "findThird", "([IIIII)V"⟩
abbrev cX5_note : ByteArray := prog_7_method_10_code
def yX5_note : MethodName := ⟨RX5, "note", "(III)V"⟩
abbrev cX5_passFound : ByteArray := prog_7_method_11_code
def yX5_passFound : MethodName := ⟨RX5, "passFound", "([II)V"⟩
abbrev cX5_passAll : ByteArray := prog_7_method_12_code
def yX5_passAll : MethodName := ⟨RX5, "passAll", "([II)I"⟩
abbrev cX5_bestFor : ByteArray := prog_7_method_13_code
def yX5_bestFor : MethodName := ⟨RX5, "bestFor", "(I[II)I"⟩
abbrev cX5_isBetter : ByteArray := prog_7_method_14_code
def yX5_isBetter : MethodName := ⟨RX5, "isBetter", "(III)Z"⟩
abbrev cX5_giverTo : ByteArray := prog_7_method_15_code
def yX5_giverTo : MethodName := ⟨RX5, "giverTo", "(II)I"⟩
def RX6 : String := "DutiesHat$Scroll"
def TX6 : u_T := fun k => match k with
  | 0 => ("DutiesHat$Scroll", "bytes", "[I", true)
  | 1 => ("DutiesHat$Scroll", "length", "I", false)
  | 2 => ("DutiesHat$Scroll", "lines", "[I", true)
  | 3 => ("DutiesHat$Scroll", "lineCount", "I", false)
  | 4 => ("DutiesHat$Scroll", "tokenStart", "I", false)
  | _ => ("DutiesHat$Scroll", "tokenEnd", "I", false)
def tyX6 : Nat → FieldType := fun k => match k with
  | 0 => .array .int
  | 1 => .int
  | 2 => .array .int
  | 3 => .int
  | 4 => .int
  | _ => .int
abbrev wsX60 : List Cond := u_ws RX6 TX6 6
theorem nmX6 : ∀ a, a < 6 → ∀ b, b < 6 → a ≠ b → (TX6 a).2.1 ≠ (TX6 b).2.1 := by decide +kernel
theorem tyX6_ok : ∀ k, k < 6 → parseFieldDescriptor (TX6 k).2.2.1 = some (tyX6 k) := by decide +kernel
abbrev cX6_init : ByteArray := prog_8_method_1_code
def yX6_init : MethodName := ⟨RX6, "<init>", "()V"⟩
abbrev cX6_add : ByteArray := prog_8_method_2_code
def yX6_add : MethodName := ⟨RX6, "add", "(I)V"⟩
abbrev cX6_read : ByteArray := prog_8_method_3_code
def yX6_read : MethodName := ⟨RX6, "read", "(I)I"⟩
abbrev cX6_readLine : ByteArray := prog_8_method_4_code
def yX6_readLine : MethodName := ⟨RX6, "readLine", "(II)Z"⟩
abbrev cX6_nextToken : ByteArray := prog_8_method_5_code
def yX6_nextToken : MethodName := ⟨RX6, "nextToken", "()V"⟩
abbrev cX6_isLetter : ByteArray := prog_8_method_6_code
def yX6_isLetter : MethodName := ⟨RX6, "isLetter", "(I)Z"⟩
abbrev cX6_isDigit : ByteArray := prog_8_method_7_code
def yX6_isDigit : MethodName := ⟨RX6, "isDigit", "(I)Z"⟩
abbrev cX6_verbHere : ByteArray := prog_8_method_8_code
def yX6_verbHere : MethodName := ⟨RX6, "verbHere", "()I"⟩
abbrev cX6_spells : ByteArray := prog_8_method_9_code
def yX6_spells : MethodName := ⟨RX6, "spells", "(Ljava/lang/String;)Z"⟩
abbrev cX6_numberHere : ByteArray := prog_8_method_10_code
def yX6_numberHere : MethodName := ⟨RX6, "numberHere", "()I"⟩
abbrev cX6_numbersOf : ByteArray := prog_8_method_11_code
def yX6_numbersOf : MethodName := ⟨RX6, "numbersOf", "(I)I"⟩
abbrev cX6_fits : ByteArray := prog_8_method_12_code
def yX6_fits : MethodName := ⟨RX6, "fits", "(IIII)Z"⟩
def RX7 : String := "DutiesHat$Search"
def TX7 : u_T := fun k => match k with
  | 0 => ("DutiesHat$Search", "rings", "LDutiesHat$Rings;", true)
  | 1 => ("DutiesHat$Search", "row", "[I", true)
  | 2 => ("DutiesHat$Search", "next", "[I", true)
  | 3 => ("DutiesHat$Search", "seen", "[J", true)
  | 4 => ("DutiesHat$Search", "waiting", "[J", true)
  | 5 => ("DutiesHat$Search", "howMany", "I", false)
  | 6 => ("DutiesHat$Search", "gladness", "I", false)
  | _ => ("DutiesHat$Search", "number", "I", false)
def tyX7 : Nat → FieldType := fun k => match k with
  | 0 => .object "DutiesHat$Rings"
  | 1 => .array .int
  | 2 => .array .int
  | 3 => .array .long
  | 4 => .array .long
  | 5 => .int
  | 6 => .int
  | _ => .int
abbrev wsX70 : List Cond := u_ws RX7 TX7 8
theorem nmX7 : ∀ a, a < 8 → ∀ b, b < 8 → a ≠ b → (TX7 a).2.1 ≠ (TX7 b).2.1 := by decide +kernel
theorem tyX7_ok : ∀ k, k < 8 → parseFieldDescriptor (TX7 k).2.2.1 = some (tyX7 k) := by decide +kernel
abbrev cX7_init : ByteArray := prog_9_method_1_code
def yX7_init : MethodName := ⟨RX7, "<init>", "(LDutiesHat$Rings;)V"⟩
abbrev cX7_from : ByteArray := prog_9_method_2_code
def yX7_from : MethodName := ⟨RX7, "from", "([II)V"⟩
abbrev cX7_reach : ByteArray := prog_9_method_3_code
def yX7_reach : MethodName := ⟨RX7, "reach", "(I)V"⟩
abbrev cX7_takeWaiting : ByteArray := prog_9_method_4_code
def yX7_takeWaiting : MethodName := ⟨RX7, "takeWaiting", "()I"⟩
abbrev cX7_lookAt : ByteArray := prog_9_method_5_code
def yX7_lookAt : MethodName := ⟨RX7, "lookAt", "(II)V"⟩
abbrev cX7_addEnd : ByteArray := prog_9_method_6_code
def yX7_addEnd : MethodName := ⟨RX7, "addEnd", "(I)V"⟩
def RX8 : String := "DutiesHat$Tally"
def TX8 : u_T := fun k => match k with
  | 0 => ("DutiesHat$Tally", "rings", "LDutiesHat$Rings;", true)
  | 1 => ("DutiesHat$Tally", "ring", "I", true)
  | 2 => ("DutiesHat$Tally", "row", "[I", true)
  | 3 => ("DutiesHat$Tally", "fresh", "Z", false)
  | 4 => ("DutiesHat$Tally", "draws", "I", false)
  | 5 => ("DutiesHat$Tally", "work", "I", false)
  | 6 => ("DutiesHat$Tally", "gladness", "I", false)
  | _ => ("DutiesHat$Tally", "had", "[I", true)
def tyX8 : Nat → FieldType := fun k => match k with
  | 0 => .object "DutiesHat$Rings"
  | 1 => .int
  | 2 => .array .int
  | 3 => .boolean
  | 4 => .int
  | 5 => .int
  | 6 => .int
  | _ => .array .int
abbrev wsX80 : List Cond := u_ws RX8 TX8 8
theorem nmX8 : ∀ a, a < 8 → ∀ b, b < 8 → a ≠ b → (TX8 a).2.1 ≠ (TX8 b).2.1 := by decide +kernel
theorem tyX8_ok : ∀ k, k < 8 → parseFieldDescriptor (TX8 k).2.2.1 = some (tyX8 k) := by decide +kernel
abbrev cX8_init : ByteArray := prog_10_method_1_code
def yX8_init : MethodName := ⟨RX8, "<init>", "(LDutiesHat$Rings;I)V"⟩
abbrev cX8_make : ByteArray := prog_10_method_2_code
def yX8_make : MethodName := ⟨RX8, "make", "()V"⟩
abbrev cX8_addRow : ByteArray := prog_10_method_3_code
def yX8_addRow : MethodName := ⟨RX8, "addRow", "(I)V"⟩
def RX9 : String := "DutiesHat"
def TX9 : u_T := fun k => match k with
  | 0 => ("DutiesHat", "scroll", "LDutiesHat$Scroll;", true)
  | 1 => ("DutiesHat", "house", "LDutiesHat$House;", true)
  | 2 => ("DutiesHat", "days", "LDutiesHat$Days;", true)
  | 3 => ("DutiesHat", "images", "[LDutiesHat$Days;", true)
  | 4 => ("DutiesHat", "imaged", "[Z", true)
  | 5 => ("DutiesHat", "rings", "LDutiesHat$Rings;", true)
  | 6 => ("DutiesHat", "tallies", "[LDutiesHat$Tally;", true)
  | 7 => ("DutiesHat", "search", "LDutiesHat$Search;", true)
  | 8 => ("DutiesHat", "plan", "LDutiesHat$Plan;", true)
  | _ => ("DutiesHat", "lots", "[I", true)
def tyX9 : Nat → FieldType := fun k => match k with
  | 0 => .object "DutiesHat$Scroll"
  | 1 => .object "DutiesHat$House"
  | 2 => .object "DutiesHat$Days"
  | 3 => .array (.object "DutiesHat$Days")
  | 4 => .array .boolean
  | 5 => .object "DutiesHat$Rings"
  | 6 => .array (.object "DutiesHat$Tally")
  | 7 => .object "DutiesHat$Search"
  | 8 => .object "DutiesHat$Plan"
  | _ => .array .int
abbrev wsX90 : List Cond := u_ws RX9 TX9 10
theorem nmX9 : ∀ a, a < 10 → ∀ b, b < 10 → a ≠ b → (TX9 a).2.1 ≠ (TX9 b).2.1 := by decide +kernel
theorem tyX9_ok : ∀ k, k < 10 → parseFieldDescriptor (TX9 k).2.2.1 = some (tyX9 k) := by decide +kernel
abbrev cX9_init : ByteArray := prog_1_method_1_code
def yX9_init : MethodName := ⟨RX9, "<init>", "()V"⟩
abbrev cX9_write : ByteArray := prog_1_method_2_code
def yX9_write : MethodName := ⟨RX9, "write", "(JI)I"⟩
abbrev cX9_erase : ByteArray := prog_1_method_3_code
def yX9_erase : MethodName := ⟨RX9, "erase", "()I"⟩
abbrev cX9_fault : ByteArray := prog_1_method_4_code
def yX9_fault : MethodName := ⟨RX9, "fault", "()I"⟩
abbrev cX9_hall : ByteArray := prog_1_method_5_code
def yX9_hall : MethodName := ⟨RX9, "hall", "()I"⟩
abbrev cX9_monk : ByteArray := prog_1_method_6_code
def yX9_monk : MethodName := ⟨RX9, "monk", "(III)I"⟩
abbrev cX9_as : ByteArray := prog_1_method_7_code
def yX9_as : MethodName := ⟨RX9, "as", "(II)I"⟩
abbrev cX9_lay : ByteArray := prog_1_method_8_code
def yX9_lay : MethodName := ⟨RX9, "lay", "(I)I"⟩
abbrev cX9_draw : ByteArray := prog_1_method_9_code
def yX9_draw : MethodName := ⟨RX9, "draw", "(I)I"⟩
abbrev cX9_has : ByteArray := prog_1_method_10_code
def yX9_has : MethodName := ⟨RX9, "has", "(II)I"⟩
abbrev cX9_trade : ByteArray := prog_1_method_11_code
def yX9_trade : MethodName := ⟨RX9, "trade", "(III)I"⟩
abbrev cX9_settle : ByteArray := prog_1_method_12_code
def yX9_settle : MethodName := ⟨RX9, "settle", "()I"⟩
abbrev cX9_dawn : ByteArray := prog_1_method_13_code
def yX9_dawn : MethodName := ⟨RX9, "dawn", "()I"⟩
abbrev cX9_today : ByteArray := prog_1_method_14_code
def yX9_today : MethodName := ⟨RX9, "today", "(I)I"⟩
abbrev cX9_ends : ByteArray := prog_1_method_15_code
def yX9_ends : MethodName := ⟨RX9, "ends", "(I)I"⟩
abbrev cX9_hint : ByteArray := prog_1_method_16_code
def yX9_hint : MethodName := ⟨RX9, "hint", "(I)I"⟩
abbrev cX9_lawful : ByteArray := prog_1_method_17_code
def yX9_lawful : MethodName := ⟨RX9, "lawful", "()I"⟩
abbrev cX9_mean : ByteArray := prog_1_method_18_code
def yX9_mean : MethodName := ⟨RX9, "mean", "(III)I"⟩
abbrev cX9_odds : ByteArray := prog_1_method_19_code
def yX9_odds : MethodName := ⟨RX9, "odds", "(IIII)I"⟩
abbrev cX9_week : ByteArray := prog_1_method_20_code
def yX9_week : MethodName := ⟨RX9, "week", "(I)I"⟩
abbrev cX9_often : ByteArray := prog_1_method_21_code
def yX9_often : MethodName := ⟨RX9, "often", "(II)I"⟩
abbrev cX9_tail : ByteArray := prog_1_method_22_code
def yX9_tail : MethodName := ⟨RX9, "tail", "(III)J"⟩
abbrev cX9_named : ByteArray := prog_1_method_23_code
def yX9_named : MethodName := ⟨RX9, "named", "(I)I"⟩
abbrev cX9_keep : ByteArray := prog_1_method_24_code
def yX9_keep : MethodName := ⟨RX9, "keep", "(I)I"⟩
abbrev cX9_back : ByteArray := prog_1_method_25_code
def yX9_back : MethodName := ⟨RX9, "back", "(I)I"⟩
abbrev cX9_count : ByteArray := prog_1_method_26_code
def yX9_count : MethodName := ⟨RX9, "count", "(I)I"⟩
abbrev cX9_isThere : ByteArray := prog_1_method_27_code
def yX9_isThere : MethodName := ⟨RX9, "isThere", "(I)Z"⟩
abbrev cX9_isRing : ByteArray := prog_1_method_28_code
def yX9_isRing : MethodName := ⟨RX9, "isRing", "(I)Z"⟩
abbrev cX9_isPart : ByteArray := prog_1_method_29_code
def yX9_isPart : MethodName := ⟨RX9, "isPart", "(I)Z"⟩
abbrev cX9_yesterdayChanged : ByteArray := prog_1_method_30_code
def yX9_yesterdayChanged : MethodName := ⟨RX9, "yesterdayChanged", "()V"⟩
abbrev cX9_tallyOf : ByteArray := prog_1_method_31_code
def yX9_tallyOf : MethodName := ⟨RX9, "tallyOf", "(I)LDutiesHat$Tally;"⟩
def RX10 : String := "DutiesHatModel"
def TX10 : u_T := fun k => match k with
  | 0 => ("DutiesHatModel", "monks", "I", false)
  | 1 => ("DutiesHatModel", "ring", "I", false)
  | 2 => ("DutiesHatModel", "skill", "[I", true)
  | 3 => ("DutiesHatModel", "liking", "[I", true)
  | 4 => ("DutiesHatModel", "kind", "[I", true)
  | 5 => ("DutiesHatModel", "did", "[I", true)
  | 6 => ("DutiesHatModel", "bytes", "I", false)
  | 7 => ("DutiesHatModel", "text", "[I", true)
  | 8 => ("DutiesHatModel", "position", "I", false)
  | 9 => ("DutiesHatModel", "tokenAt", "I", false)
  | 10 => ("DutiesHatModel", "token", "J", false)
  | 11 => ("DutiesHatModel", "digits", "I", false)
  | 12 => ("DutiesHatModel", "number", "I", false)
  | 13 => ("DutiesHatModel", "faultAt", "I", false)
  | 14 => ("DutiesHatModel", "readMany", "I", false)
  | 15 => ("DutiesHatModel", "readMonks", "I", false)
  | 16 => ("DutiesHatModel", "read", "[I", true)
  | 17 => ("DutiesHatModel", "now", "[I", true)
  | 18 => ("DutiesHatModel", "image", "[I", true)
  | 19 => ("DutiesHatModel", "isKept", "[Z", true)
  | 20 => ("DutiesHatModel", "row", "[I", true)
  | 21 => ("DutiesHatModel", "before", "[I", true)
  | 22 => ("DutiesHatModel", "met", "[Z", true)
  | 23 => ("DutiesHatModel", "line", "[I", true)
  | 24 => ("DutiesHatModel", "best", "[I", true)
  | 25 => ("DutiesHatModel", "bestThen", "[I", true)
  | 26 => ("DutiesHatModel", "ringA", "I", false)
  | 27 => ("DutiesHatModel", "ringB", "I", false)
  | _ => ("DutiesHatModel", "ringC", "I", false)
def tyX10 : Nat → FieldType := fun k => match k with
  | 0 => .int
  | 1 => .int
  | 2 => .array .int
  | 3 => .array .int
  | 4 => .array .int
  | 5 => .array .int
  | 6 => .int
  | 7 => .array .int
  | 8 => .int
  | 9 => .int
  | 10 => .long
  | 11 => .int
  | 12 => .int
  | 13 => .int
  | 14 => .int
  | 15 => .int
  | 16 => .array .int
  | 17 => .array .int
  | 18 => .array .int
  | 19 => .array .boolean
  | 20 => .array .int
  | 21 => .array .int
  | 22 => .array .boolean
  | 23 => .array .int
  | 24 => .array .int
  | 25 => .array .int
  | 26 => .int
  | 27 => .int
  | _ => .int
abbrev wsX100 : List Cond := u_ws RX10 TX10 29
theorem nmX10 : ∀ a, a < 29 → ∀ b, b < 29 → a ≠ b → (TX10 a).2.1 ≠ (TX10 b).2.1 := by decide +kernel
theorem tyX10_ok : ∀ k, k < 29 → parseFieldDescriptor (TX10 k).2.2.1 = some (tyX10 k) := by decide +kernel
abbrev cX10_init : ByteArray := prog_12_method_1_code
def yX10_init : MethodName := ⟨RX10, "<init>", "()V"⟩
abbrev cX10_in : ByteArray := prog_12_method_2_code
def yX10_in : MethodName := ⟨RX10, "in", "(III)Z"⟩
abbrev cX10_isMonk : ByteArray := prog_12_method_3_code
def yX10_isMonk : MethodName := ⟨RX10, "isMonk", "(I)Z"⟩
abbrev cX10_plain : ByteArray := prog_12_method_4_code
def yX10_plain : MethodName := ⟨RX10, "plain", "()V"⟩
abbrev cX10_begin : ByteArray := prog_12_method_5_code
def yX10_begin : MethodName := ⟨RX10, "begin", "()V"⟩
abbrev cX10_write : ByteArray := prog_12_method_6_code
def yX10_write : MethodName := ⟨RX10, "write", "(JI)I"⟩
abbrev cX10_erase : ByteArray := prog_12_method_7_code
def yX10_erase : MethodName := ⟨RX10, "erase", "()I"⟩
abbrev cX10_nextToken : ByteArray := prog_12_method_8_code
def yX10_nextToken : MethodName := ⟨RX10, "nextToken", "()V"⟩
abbrev cX10_fails : ByteArray := prog_12_method_9_code
def yX10_fails : MethodName := ⟨RX10, "fails", "()Z"⟩
abbrev cX10_isNumber : ByteArray := prog_12_method_10_code
def yX10_isNumber : MethodName := ⟨RX10, "isNumber", "(III)Z"⟩
abbrev cX10_isThere : ByteArray := prog_12_method_11_code
def yX10_isThere : MethodName := ⟨RX10, "isThere", "(I)Z"⟩
abbrev cX10_isHall : ByteArray := prog_12_method_12_code
def yX10_isHall : MethodName := ⟨RX10, "isHall", "(I)Z"⟩
abbrev cX10_isRing : ByteArray := prog_12_method_13_code
def yX10_isRing : MethodName := ⟨RX10, "isRing", "(I)Z"⟩
abbrev cX10_isLine : ByteArray := prog_12_method_14_code
def yX10_isLine : MethodName := ⟨RX10, "isLine", "(I)Z"⟩
abbrev cX10_isRead : ByteArray := prog_12_method_15_code
def yX10_isRead : MethodName := ⟨RX10, "isRead", "()Z"⟩
abbrev cX10_fault : ByteArray := prog_12_method_16_code
def yX10_fault : MethodName := ⟨RX10, "fault", "()I"⟩
abbrev cX10_doLine : ByteArray := prog_12_method_17_code
def yX10_doLine : MethodName := ⟨RX10, "doLine", "(I)V"⟩
abbrev cX10_hall : ByteArray := prog_12_method_18_code
def yX10_hall : MethodName := ⟨RX10, "hall", "()I"⟩
abbrev cX10_mayBehind : ByteArray := prog_12_method_19_code
def yX10_mayBehind : MethodName := ⟨RX10, "mayBehind", "(III)Z"⟩
abbrev cX10_may : ByteArray := prog_12_method_20_code
def yX10_may : MethodName := ⟨RX10, "may", "(II)Z"⟩
abbrev cX10_monk : ByteArray := prog_12_method_21_code
def yX10_monk : MethodName := ⟨RX10, "monk", "(III)I"⟩
abbrev cX10_as : ByteArray := prog_12_method_22_code
def yX10_as : MethodName := ⟨RX10, "as", "(II)I"⟩
abbrev cX10_draws : ByteArray := prog_12_method_23_code
def yX10_draws : MethodName := ⟨RX10, "draws", "(I)I"⟩
abbrev cX10_takeDraw : ByteArray := prog_12_method_24_code
def yX10_takeDraw : MethodName := ⟨RX10, "takeDraw", "(I)V"⟩
abbrev cX10_numberOf : ByteArray := prog_12_method_25_code
def yX10_numberOf : MethodName := ⟨RX10, "numberOf", "()I"⟩
abbrev cX10_isLawful : ByteArray := prog_12_method_26_code
def yX10_isLawful : MethodName := ⟨RX10, "isLawful", "()Z"⟩
abbrev cX10_putToday : ByteArray := prog_12_method_27_code
def yX10_putToday : MethodName := ⟨RX10, "putToday", "()V"⟩
abbrev cX10_takeToday : ByteArray := prog_12_method_28_code
def yX10_takeToday : MethodName := ⟨RX10, "takeToday", "()V"⟩
abbrev cX10_lay : ByteArray := prog_12_method_29_code
def yX10_lay : MethodName := ⟨RX10, "lay", "(I)I"⟩
abbrev cX10_draw : ByteArray := prog_12_method_30_code
def yX10_draw : MethodName := ⟨RX10, "draw", "(I)I"⟩
abbrev cX10_has : ByteArray := prog_12_method_31_code
def yX10_has : MethodName := ⟨RX10, "has", "(II)I"⟩
abbrev cX10_likesMore : ByteArray := prog_12_method_32_code
def yX10_likesMore : MethodName := ⟨RX10, "likesMore", "(II)Z"⟩
abbrev cX10_isWanted : ByteArray := prog_12_method_33_code
def yX10_isWanted : MethodName := ⟨RX10, "isWanted", "(III)Z"⟩
abbrev cX10_goRing : ByteArray := prog_12_method_34_code
def yX10_goRing : MethodName := ⟨RX10, "goRing", "(III)V"⟩
abbrev cX10_workOf : ByteArray := prog_12_method_35_code
def yX10_workOf : MethodName := ⟨RX10, "workOf", "()I"⟩
abbrev cX10_gladnessOf : ByteArray := prog_12_method_36_code
def yX10_gladnessOf : MethodName := ⟨RX10, "gladnessOf", "()I"⟩
abbrev cX10_trade : ByteArray := prog_12_method_37_code
def yX10_trade : MethodName := ⟨RX10, "trade", "(III)I"⟩
abbrev cX10_takeRing : ByteArray := prog_12_method_38_code
def yX10_takeRing : MethodName := ⟨RX10, "takeRing", "(II)V"⟩
abbrev cX10_nextWanted : ByteArray := prog_12_method_39_code
def yX10_nextWanted : MethodName := ⟨RX10, "nextWanted", "(II)I"⟩
abbrev cX10_settleBy : ByteArray := prog_12_method_40_code
def yX10_settleBy : MethodName := ⟨RX10, "settleBy", "(I)I"⟩
abbrev cX10_settle : ByteArray := prog_12_method_41_code
def yX10_settle : MethodName := ⟨RX10, "settle", "()I"⟩
abbrev cX10_dawn : ByteArray := prog_12_method_42_code
def yX10_dawn : MethodName := ⟨RX10, "dawn", "()I"⟩
abbrev cX10_today : ByteArray := prog_12_method_43_code
def yX10_today : MethodName := ⟨RX10, "today", "(I)I"⟩
abbrev cX10_ends : ByteArray := prog_12_method_44_code
def yX10_ends : MethodName := ⟨RX10, "ends", "(I)I"⟩
abbrev cX10_hint : ByteArray := prog_12_method_45_code
def yX10_hint : MethodName := ⟨RX10, "hint", "(I)I"⟩
abbrev cX10_lawful : ByteArray := prog_12_method_46_code
def yX10_lawful : MethodName := ⟨RX10, "lawful", "()I"⟩
abbrev cX10_divisor : ByteArray := prog_12_method_47_code
def yX10_divisor : MethodName := ⟨RX10, "divisor", "(II)I"⟩
abbrev cX10_isRingNumber : ByteArray := prog_12_method_48_code
def yX10_isRingNumber : MethodName := ⟨RX10, "isRingNumber", "(I)Z"⟩
abbrev cX10_mean : ByteArray := prog_12_method_49_code
def yX10_mean : MethodName := ⟨RX10, "mean", "(III)I"⟩
abbrev cX10_odds : ByteArray := prog_12_method_50_code
def yX10_odds : MethodName := ⟨RX10, "odds", "(IIII)I"⟩
abbrev cX10_isLawfulBehind : ByteArray := prog_12_method_51_code
def yX10_isLawfulBehind : MethodName := ⟨RX10, "isLawfulBehind", "()Z"⟩
abbrev cX10_week : ByteArray := prog_12_method_52_code
def yX10_week : MethodName := ⟨RX10, "week", "(I)I"⟩
abbrev cX10_oftenOf : ByteArray := prog_12_method_53_code
def yX10_oftenOf : MethodName := ⟨RX10, "oftenOf", "(II)I"⟩
abbrev cX10_often : ByteArray := prog_12_method_54_code
def yX10_often : MethodName := ⟨RX10, "often", "(II)I"⟩
abbrev cX10_tailDown : ByteArray := prog_12_method_55_code
def yX10_tailDown : MethodName := ⟨RX10, "tailDown", "()J"⟩
abbrev cX10_tailUp : ByteArray := prog_12_method_56_code
def yX10_tailUp : MethodName := ⟨RX10, "tailUp", "(II)J"⟩
abbrev cX10_tail : ByteArray := prog_12_method_57_code
def yX10_tail : MethodName := ⟨RX10, "tail", "(III)J"⟩
abbrev cX10_named : ByteArray := prog_12_method_58_code
def yX10_named : MethodName := ⟨RX10, "named", "(I)I"⟩
abbrev cX10_copy : ByteArray := prog_12_method_59_code
def yX10_copy : MethodName := ⟨RX10, "copy", "([II[II)V"⟩
abbrev cX10_keep : ByteArray := prog_12_method_60_code
def yX10_keep : MethodName := ⟨RX10, "keep", "(I)I"⟩
abbrev cX10_back : ByteArray := prog_12_method_61_code
def yX10_back : MethodName := ⟨RX10, "back", "(I)I"⟩
abbrev cX10_count : ByteArray := prog_12_method_62_code
def yX10_count : MethodName := ⟨RX10, "count", "(I)I"⟩
def RJ6 : String := "java/lang/Integer"
abbrev cJ6_numberOfTrailingZeros_0f7a4 : ByteArray := prog_13_method_48_code
def yJ6_numberOfTrailingZeros_0f7a4 : MethodName := ⟨RJ6, "numberOfTrailingZeros", "(I)I"⟩
abbrev cJ6_bitCount_0f7a4 : ByteArray := prog_13_method_49_code
def yJ6_bitCount_0f7a4 : MethodName := ⟨RJ6, "bitCount", "(I)I"⟩
def RJ13 : String := "java/lang/Long"
abbrev cJ13_numberOfTrailingZeros_95d88 : ByteArray := prog_14_method_49_code
def yJ13_numberOfTrailingZeros_95d88 : MethodName := ⟨RJ13, "numberOfTrailingZeros", "(J)I"⟩
def RJ9 : String := "java/lang/Math"
abbrev cJ9_max_7cf53 : ByteArray := prog_15_method_65_code
def yJ9_max_7cf53 : MethodName := ⟨RJ9, "max", "(II)I"⟩
def RJ0 : String := "java/lang/String"
abbrev cJ0_length_8abf5 : ByteArray := prog_16_method_54_code
def yJ0_length_8abf5 : MethodName := ⟨RJ0, "length", "()I"⟩
abbrev cJ0_charAt_5068e : ByteArray := prog_16_method_56_code
def yJ0_charAt_5068e : MethodName := ⟨RJ0, "charAt", "(I)C"⟩
abbrev cJ0_coder_7d493 : ByteArray := prog_16_method_152_code
def yJ0_coder_7d493 : MethodName := ⟨RJ0, "coder", "()B"⟩
abbrev cJ0_isLatin1_aae02 : ByteArray := prog_16_method_154_code
def yJ0_isLatin1_aae02 : MethodName := ⟨RJ0, "isLatin1", "()Z"⟩
abbrev cJ0_checkIndex_df160 : ByteArray := prog_16_method_155_code
def yJ0_checkIndex_df160 : MethodName := ⟨RJ0, "checkIndex", "(II)V"⟩
def RJ1 : String := "java/lang/StringLatin1"
abbrev cJ1_charAt_3b067 : ByteArray := prog_17_method_2_code
def yJ1_charAt_3b067 : MethodName := ⟨RJ1, "charAt", "([BI)C"⟩
def RJ2 : String := "java/lang/StringUTF16"
abbrev cJ2_getChar_3b067 : ByteArray := prog_18_method_5_code
def yJ2_getChar_3b067 : MethodName := ⟨RJ2, "getChar", "([BI)C"⟩
abbrev cJ2_length_9d52b : ByteArray := prog_18_method_6_code
def yJ2_length_9d52b : MethodName := ⟨RJ2, "length", "([B)I"⟩
abbrev cJ2_charAt_3b067 : ByteArray := prog_18_method_83_code
def yJ2_charAt_3b067 : MethodName := ⟨RJ2, "charAt", "([BI)C"⟩
abbrev cJ2_checkIndex_2214a : ByteArray := prog_18_method_91_code
def yJ2_checkIndex_2214a : MethodName := ⟨RJ2, "checkIndex", "(I[B)V"⟩
def RJ10 : String := "java/lang/System"
def RJ3 : String := "jdk/internal/util/Preconditions"
abbrev cJ3_checkIndex_8e157 : ByteArray := prog_20_method_11_code
def yJ3_checkIndex_8e157 : MethodName := ⟨RJ3, "checkIndex", "(IILjava/util/function/BiFunction;)I"⟩
def RL : String := "DutiesHatLaw"
abbrev cL_law : ByteArray := code
def yL_law : MethodName := ⟨RL, "law", "([I)Z"⟩
abbrev vwCl : List vw_C := [(RX1, TX1, 5), (RX2, TX2, 6), (RX4, TX4, 6), (RX5, TX5, 4), (RX6, TX6, 6), (RX7, TX7, 8), (RX8, TX8, 8), (RX9, TX9, 10), (RX10, TX10, 29)]
end
section
/-! ===== the abstract machine: heaps by cells' numbers, locals, the judgement am_R ===== -/
abbrev am_H : Type := (Nat → Nat → Int32) × (Nat → Nat → Int64) × (Nat → Nat → Option Nat)
/-- a method: name, code, locals, answer's type, frames below it, words of locals below it -/
abbrev am_M : Type := MethodName × ByteArray × Nat × Option FieldType × Nat × Nat
/-- a start: the first new address, the addresses of the old cells, array classes, classes -/
abbrev am_G : Type := Nat × (Nat → Nat) × (FieldType → ClassId) × va_G
def am_a (g : am_G) (k : Nat) : Nat := if k < 1000 then g.1 + k else g.2.1 k
def am_v (g : am_G) (v : Value) : Value := match v with
  | .ref k => .ref (am_a g k)
  | .int x => .int x
  | .long x => .long x
  | .float x => .float x
  | .double x => .double x
  | .null => .null
  | .retAddr x => .retAddr x
def am_A (g : am_G) : Nat → Prop := fun q => g.1 ≤ q
def am_cn : Nat → String
  | 0 => RX1 | 1 => RX2 | 2 => RX4 | 3 => RX5 | 4 => RX6 | 5 => RX7 | 6 => RX8 | 7 => RX9 | _ => RX10
def am_tb : Nat → u_T
  | 0 => TX1 | 1 => TX2 | 2 => TX4 | 3 => TX5 | 4 => TX6 | 5 => TX7 | 6 => TX8 | 7 => TX9 | _ => TX10
def am_nf : Nat → Nat
  | 0 => 5 | 1 => 6 | 2 => 6 | 3 => 4 | 4 => 6 | 5 => 8 | 6 => 8 | 7 => 10 | _ => 29
def am_ft : Nat → Nat → FieldType
  | 0 => tyX1 | 1 => tyX2 | 2 => tyX4 | 3 => tyX5 | 4 => tyX6 | 5 => tyX7 | 6 => tyX8 | 7 => tyX9 | _ => tyX10
theorem am_cl {ci : Nat} (h : ci < 9) : vwCl[ci]? = some (am_cn ci, am_tb ci, am_nf ci) := by
  match ci, h with
  | 0, _ => rfl
  | 1, _ => rfl
  | 2, _ => rfl
  | 3, _ => rfl
  | 4, _ => rfl
  | 5, _ => rfl
  | 6, _ => rfl
  | 7, _ => rfl
  | 8, _ => rfl
  | n + 9, h => omega
def am_TB : List Cond := lw_tbl.filter goodWord
set_option maxRecDepth 20000 in
theorem am_in0 : ∀ w ∈ u_ws RX1 TX1 5, w ∈ am_TB := by decide +kernel
set_option maxRecDepth 20000 in
theorem am_in1 : ∀ w ∈ u_ws RX2 TX2 6, w ∈ am_TB := by decide +kernel
set_option maxRecDepth 20000 in
theorem am_in2 : ∀ w ∈ u_ws RX4 TX4 6, w ∈ am_TB := by decide +kernel
set_option maxRecDepth 20000 in
theorem am_in3 : ∀ w ∈ u_ws RX5 TX5 4, w ∈ am_TB := by decide +kernel
set_option maxRecDepth 20000 in
theorem am_in4 : ∀ w ∈ u_ws RX6 TX6 6, w ∈ am_TB := by decide +kernel
set_option maxRecDepth 20000 in
theorem am_in5 : ∀ w ∈ u_ws RX7 TX7 8, w ∈ am_TB := by decide +kernel
set_option maxRecDepth 20000 in
theorem am_in6 : ∀ w ∈ u_ws RX8 TX8 8, w ∈ am_TB := by decide +kernel
set_option maxRecDepth 20000 in
theorem am_in7 : ∀ w ∈ u_ws RX9 TX9 10, w ∈ am_TB := by decide +kernel
set_option maxRecDepth 20000 in
theorem am_in8 : ∀ w ∈ u_ws RX10 TX10 29, w ∈ am_TB := by decide +kernel
theorem am_in {ci : Nat} (h : ci < 9) : ∀ w ∈ u_ws (am_cn ci) (am_tb ci) (am_nf ci), w ∈ am_TB := by
  match ci, h with
  | 0, _ => exact am_in0
  | 1, _ => exact am_in1
  | 2, _ => exact am_in2
  | 3, _ => exact am_in3
  | 4, _ => exact am_in4
  | 5, _ => exact am_in5
  | 6, _ => exact am_in6
  | 7, _ => exact am_in7
  | 8, _ => exact am_in8
  | n + 9, h => omega
theorem am_ty {ci : Nat} (h : ci < 9) : ∀ k, k < am_nf ci → parseFieldDescriptor (am_tb ci k).2.2.1 = some (am_ft ci k) := by
  match ci, h with
  | 0, _ => exact tyX1_ok
  | 1, _ => exact tyX2_ok
  | 2, _ => exact tyX4_ok
  | 3, _ => exact tyX5_ok
  | 4, _ => exact tyX6_ok
  | 5, _ => exact tyX7_ok
  | 6, _ => exact tyX8_ok
  | 7, _ => exact tyX9_ok
  | 8, _ => exact tyX10_ok
  | n + 9, h => omega
theorem am_nm {ci : Nat} (h : ci < 9) : ∀ a, a < am_nf ci → ∀ b, b < am_nf ci → a ≠ b → (am_tb ci a).2.1 ≠ (am_tb ci b).2.1 := by
  match ci, h with
  | 0, _ => exact nmX1
  | 1, _ => exact nmX2
  | 2, _ => exact nmX4
  | 3, _ => exact nmX5
  | 4, _ => exact nmX6
  | 5, _ => exact nmX7
  | 6, _ => exact nmX8
  | 7, _ => exact nmX9
  | 8, _ => exact nmX10
  | n + 9, h => omega
/-- the cells in the order in which the law makes them -/
def am_sL : List ((FieldType × Nat) ⊕ Nat) := [.inr 7, .inr 4, .inl (.int, 200), .inl (.int, 56), .inr 1, .inl (.int, 49), .inl (.int, 49), .inl (.int, 7), .inl (.int, 7), .inr 0, .inl (.int, 7), .inl (.int, 7), .inl (.int, 112), .inl (.object RX1, 2), .inr 0, .inl (.int, 7), .inl (.int, 7), .inl (.int, 112), .inr 0, .inl (.int, 7), .inl (.int, 7), .inl (.int, 112), .inl (.boolean, 2), .inr 3, .inl (.int, 7), .inl (.int, 210), .inl (.object RX8, 3), .inr 6, .inl (.int, 7), .inl (.int, 49), .inr 6, .inl (.int, 7), .inl (.int, 49), .inr 6, .inl (.int, 7), .inl (.int, 49), .inr 5, .inl (.int, 7), .inl (.int, 7), .inl (.long, 79), .inl (.long, 79), .inr 2, .inl (.int, 7), .inl (.int, 600), .inl (.int, 120), .inl (.int, 120), .inl (.int, 120), .inl (.int, 7), .inr 8, .inl (.int, 49), .inl (.int, 49), .inl (.int, 7), .inl (.int, 7), .inl (.int, 200), .inl (.int, 56), .inl (.int, 128), .inl (.int, 256), .inl (.boolean, 2), .inl (.int, 7), .inl (.int, 7), .inl (.boolean, 5040), .inl (.int, 5040), .inl (.int, 120), .inl (.int, 120)]
def am_s (k : Nat) : (FieldType × Nat) ⊕ Nat := am_sL.getD k (.inr 99)
def am_z (k : Nat) : Nat := match am_s k with
  | .inl q => q.2
  | .inr ci => am_nf ci
def am_cs : Nat → Nat
  | 0 => 0
  | n + 1 => am_cs n + am_z n
theorem am_cs64 : am_cs 64 = 13480 := by decide +kernel
theorem am_cs_mono {a b : Nat} (h : a ≤ b) : am_cs a ≤ am_cs b := by
  induction b with
  | zero => rw [Nat.le_zero.mp h]; exact Nat.le_refl _
  | succ b ih =>
    rcases Nat.lt_or_ge b a with q | q
    · rw [show a = b + 1 by omega]; exact Nat.le_refl _
    · exact Nat.le_trans (ih q) (Nat.le_add_right _ _)
/-- what a place of type ty of the cell k holds -/
def am_f (g : am_G) (h : am_H) (k : Nat) (ty : FieldType) (j : Nat) : Value := match ty with
  | .long => .long (h.2.1 k j)
  | .object _ => va_rf ((h.2.2 k j).map (am_a g))
  | .array _ => va_rf ((h.2.2 k j).map (am_a g))
  | _ => .int (h.1 k j)
def am_at (g : am_G) (h : am_H) (k : Nat) (H : Heap) : Prop := match am_s k with
  | .inl q => H[g.1 + k]? = some (arrV (g.2.2.1 q.1) q.2 (fun j => am_f g h k q.1 j))
  | .inr ci => t_OB (g.1 + k) (g.2.2.2.1 ci) (am_nf ci) (g.2.2.2.2 ci) H (fun j => am_f g h k (am_ft ci j) j)
def am_P (g : am_G) (h : am_H) (n : Nat) (H : Heap) : Prop := H.size = g.1 + n ∧ n ≤ 64 ∧ ∀ k, k < n → am_at g h k H
theorem am_a_lt {g : am_G} {k : Nat} (h : k < 1000) : am_a g k = g.1 + k := if_pos h
theorem am_P.a {g : am_G} {h : am_H} {n k : Nat} {H : Heap} (hP : am_P g h n H) (hk : k < n) : am_a g k = g.1 + k := if_pos (by have := hP.2.1; omega)
theorem am_P.arr {g : am_G} {h : am_H} {n k N : Nat} {ty : FieldType} {H : Heap} (hP : am_P g h n H) (hk : k < n) (hs : am_s k = .inl (ty, N)) : H[am_a g k]? = some (arrV (g.2.2.1 ty) N (fun j => am_f g h k ty j)) := by
  have h1 := hP.2.2 k hk
  unfold am_at at h1
  rw [hs] at h1
  rw [hP.a hk]
  exact h1
theorem am_P.obj {g : am_G} {h : am_H} {n k ci : Nat} {H : Heap} (hP : am_P g h n H) (hk : k < n) (hs : am_s k = .inr ci) : t_OB (am_a g k) (g.2.2.2.1 ci) (am_nf ci) (g.2.2.2.2 ci) H (fun j => am_f g h k (am_ft ci j) j) := by
  have h1 := hP.2.2 k hk
  unfold am_at at h1
  rw [hs] at h1
  rw [hP.a hk]
  exact h1
/-- the heaps of a store: one cell k is new, the others are as they were -/
theorem am_P.put {g : am_G} {h h' : am_H} {n k : Nat} {H H1 : Heap} (hP : am_P g h n H) (hk : k < n) (hz : H1.size = H.size) (ho : ∀ q, q ≠ am_a g k → H1[q]? = H[q]?) (hsame : ∀ j, j ≠ k → h'.1 j = h.1 j ∧ h'.2.1 j = h.2.1 j ∧ h'.2.2 j = h.2.2 j) (hc : am_at g h' k H1) : am_P g h' n H1 := by
  refine ⟨hz.trans hP.1, hP.2.1, fun j hj => ?_⟩
  by_cases e : j = k
  · rw [e]; exact hc
  · have h1 := hP.2.2 j hj
    have hq : H1[g.1 + j]? = H[g.1 + j]? := ho _ (by rw [hP.a hk]; omega)
    have hf : ∀ (ty : FieldType) (i : Nat), am_f g h' j ty i = am_f g h j ty i := by
      intro ty i
      obtain ⟨q1, q2, q3⟩ := hsame j e
      unfold am_f
      rw [q1, q2, q3]
    unfold am_at at h1 ⊢
    cases hs : am_s j with
    | inl q =>
      rw [hs] at h1
      show H1[g.1 + j]? = _
      rw [hq]
      rw [show (fun i => am_f g h' j q.1 i) = (fun i => am_f g h j q.1 i) from funext (hf q.1)]
      exact h1
    | inr ci =>
      rw [hs] at h1
      show t_OB _ _ _ _ _ _
      rw [show (fun i => am_f g h' j (am_ft ci i) i) = (fun i => am_f g h j (am_ft ci i) i) from funext (fun i => hf _ i)]
      exact h1.kept hq
/-- a new cell -/
theorem am_P.push {g : am_G} {h h' : am_H} {n : Nat} {H H1 : Heap} (hP : am_P g h n H) (hn : n + 1 ≤ 64) (hz : H1.size = H.size + 1) (ho : ∀ q, q < H.size → H1[q]? = H[q]?) (hsame : ∀ j, j < n → h'.1 j = h.1 j ∧ h'.2.1 j = h.2.1 j ∧ h'.2.2 j = h.2.2 j) (hc : am_at g h' n H1) : am_P g h' (n + 1) H1 := by
  refine ⟨by rw [hz, hP.1]; omega, hn, fun j hj => ?_⟩
  by_cases e : j = n
  · rw [e]; exact hc
  · have hj' : j < n := by omega
    have h1 := hP.2.2 j hj'
    have hq : H1[g.1 + j]? = H[g.1 + j]? := ho _ (by rw [hP.1]; omega)
    have hf : ∀ (ty : FieldType) (i : Nat), am_f g h' j ty i = am_f g h j ty i := by
      intro ty i
      obtain ⟨q1, q2, q3⟩ := hsame j hj'
      unfold am_f
      rw [q1, q2, q3]
    unfold am_at at h1 ⊢
    cases hs : am_s j with
    | inl q =>
      rw [hs] at h1
      show H1[g.1 + j]? = _
      rw [hq]
      rw [show (fun i => am_f g h' j q.1 i) = (fun i => am_f g h j q.1 i) from funext (hf q.1)]
      exact h1
    | inr ci =>
      rw [hs] at h1
      show t_OB _ _ _ _ _ _
      rw [show (fun i => am_f g h' j (am_ft ci i) i) = (fun i => am_f g h j (am_ft ci i) i) from funext (fun i => hf _ i)]
      exact h1.kept hq
/-- a heap that says the same of the cells -/
theorem am_P.same {g : am_G} {h h' : am_H} {n : Nat} {H : Heap} (hP : am_P g h n H) (hsame : ∀ j, j < n → ∀ i, i < am_z j → h'.1 j i = h.1 j i ∧ h'.2.1 j i = h.2.1 j i ∧ h'.2.2 j i = h.2.2 j i) : am_P g h' n H := by
  refine ⟨hP.1, hP.2.1, fun j hj => ?_⟩
  have h1 := hP.2.2 j hj
  have hz := hsame j hj
  have hf : ∀ (ty : FieldType) (i : Nat), i < am_z j → am_f g h' j ty i = am_f g h j ty i := by
    intro ty i hi
    obtain ⟨q1, q2, q3⟩ := hz i hi
    unfold am_f
    rw [q1, q2, q3]
  unfold am_z at hf
  unfold am_at at h1 ⊢
  cases hs : am_s j with
  | inl q =>
    rw [hs] at h1 hf
    show H[g.1 + j]? = _
    have e : arrV (g.2.2.1 q.1) q.2 (fun i => am_f g h' j q.1 i) = arrV (g.2.2.1 q.1) q.2 (fun i => am_f g h j q.1 i) := by
      unfold arrV
      congr 2
      funext i
      exact hf q.1 i.val i.isLt
    rw [e]
    exact h1
  | inr ci =>
    rw [hs] at h1 hf
    exact t_OB.to h1 (fun i hi => (hf _ i hi).symm)
end
section
/-! ===== what holds of the old cells, the judgement, calls ===== -/
def am_ov (j : Nat) : Int32 := ([-1, 0, 1, 0, 3] : List Int32).getD j 0
def am_fa (j : Nat) : Int32 := ([1, 1, 2, 6, 24, 120, 720, 5040] : List Int32).getD j 0
/-- the nine words of the text: lengths, bytes, entries -/
def am_sn : List Nat := [4, 5, 4, 5, 6, 4, 5, 4, 3]
def am_sb : List (List Int32) := [[104, 97, 108, 108], [115, 107, 105, 108, 108], [108, 105, 107, 101], [112, 108, 97, 105, 110], [116, 105, 114, 105, 110, 103], [104, 111, 108, 121], [115, 119, 101, 101, 116], [114, 105, 110, 103], [100, 105, 100]]
def am_si (i : Nat) : Nat := 60 + (if i = 0 then 0 else 2 * i + 4)
def am_st (i : Nat) : String := (["hall", "skill", "like", "plain", "tiring", "holy", "sweet", "ring", "did"] : List String).getD i ""
def am_nw : List Cond := [.fieldLinkNest RX2 39 RX9 "OVER" "[I" RX9, .fieldLinkNest RX3 9 RX9 "FACTORIALS" "[I" RX9, .fieldLinkNest RX8 46 RX9 "FACTORIALS" "[I" RX9, .fieldLinkNest RX4 37 RX9 "FACTORIALS" "[I" RX9, .methodLinkNest RX9 9 yX6_init RX9, .methodLinkNest RX9 18 yX2_init RX9, .methodLinkNest RX9 25 yX1_init RX9, .methodLinkNest RX6 90 yX9_isRing RX9]
def am_S (E : Nat × (Nat → Int32)) (g : am_G) (U : State) (H : Heap) : Prop :=
  va_K g.2.2.2 vwCl [(g.2.2.1 .int, .int), (g.2.2.1 .long, .long), (g.2.2.1 .boolean, .boolean), (g.2.2.1 (.object RX1), .object RX1), (g.2.2.1 (.object RX8), .object RX8)] U ∧
  (va_Z RX9 "OVER" "[I" (.ref (g.2.1 1000)) (am_A g) U H ∧ va_T .int (g.2.1 1000) 5 (fun j => .int (am_ov j)) (am_A g) U H) ∧
  (va_Z RX9 "FACTORIALS" "[I" (.ref (g.2.1 1001)) (am_A g) U H ∧ va_T .int (g.2.1 1001) 8 (fun j => .int (am_fa j)) (am_A g) U H) ∧
  va_T .int (g.2.1 1002) E.1 (fun j => .int (E.2 j)) (am_A g) U H ∧
  (va_Z RJ0 "COMPACT_STRINGS" "Z" (.int 1) (am_A g) U H ∧ (va_Z RJ3 "SIOOBE_FORMATTER" "Ljava/util/function/BiFunction;" .null (am_A g) U H ∨ va_Z RJ3 "SIOOBE_FORMATTER" "Ljava/util/function/BiFunction;" (.ref (g.2.1 1003)) (am_A g) U H)) ∧
  vk_S 9 am_sn am_sb (fun i => g.2.1 (1010 + i)) (fun i => g.2.1 (1020 + i)) (am_A g) U H ∧
  (∀ i, i < 9 → vk_R RX6 (am_si i) (am_st i) (g.2.1 (1010 + i)) U) ∧
  (va_AO RX1 U ∧ va_AO RX8 U) ∧ (∀ w ∈ am_nw, va_Nw w U)
theorem am_S.kept {E : Nat × (Nat → Int32)} {g : am_G} {U : State} {H H1 : Heap} (h : am_S E g U H) (hq : ∀ a : Nat, a < H.size → ¬ am_A g a → H1[a]? = H[a]?) : am_S E g U H1 := by
  obtain ⟨h1, ⟨h2, h3⟩, ⟨h4, h5⟩, h6, ⟨h7, h8⟩, h9, h10, h11, h12⟩ := h
  exact ⟨h1, ⟨h2.kept hq, h3.kept hq⟩, ⟨h4.kept hq, h5.kept hq⟩, h6.kept hq, ⟨h7.kept hq, h8.imp (fun z => z.kept hq) (fun z => z.kept hq)⟩, h9.kept hq, h10, h11, h12⟩
theorem am_S.warm {E : Nat × (Nat → Int32)} {g : am_G} {s U : State} {H : Heap} (hW : s.WarmedH U.vm) (h : am_S E g s H) : am_S E g U H := by
  obtain ⟨h1, ⟨h2, h3⟩, ⟨h4, h5⟩, h6, ⟨h7, h8⟩, h9, h10, ⟨h11, h13⟩, h12⟩ := h
  have ha := hW.alike
  refine ⟨va_K.moved ha h1, ⟨va_Z.moved ha h2, va_T.moved ha h3⟩, ⟨va_Z.moved ha h4, va_T.moved ha h5⟩, va_T.moved ha h6, ⟨va_Z.moved ha h7, h8.imp (fun z => va_Z.moved ha z) (fun z => va_Z.moved ha z)⟩, vk_S.moved ha h9, fun i hi => vk_R.warm hW (h10 i hi), ⟨va_AO.moved ha h11, va_AO.moved ha h13⟩, fun w hw => ?_⟩
  have h0 := h12 w hw
  simp only [am_nw, List.mem_cons, List.not_mem_nil, or_false] at hw
  rcases hw with rfl | rfl | rfl | rfl | rfl | rfl | rfl | rfl
  · exact va_Nw.warmF hW h0
  · exact va_Nw.warmF hW h0
  · exact va_Nw.warmF hW h0
  · exact va_Nw.warmF hW h0
  · exact va_Nw.warmM hW h0
  · exact va_Nw.warmM hW h0
  · exact va_Nw.warmM hW h0
  · exact va_Nw.warmM hW h0
theorem am_S.calling {E : Nat × (Nat → Int32)} {g : am_G} {U : State} {H : Heap} (h : am_S E g U H) (f : JFrame) (mk : MethodId) (a : Array Value) : am_S E g (U.calling f mk a) H := am_S.warm (s := U) (State.WarmedH.refl U) h
/-- the locals -/
def am_L (g : am_G) (lsc : Array Slot) (nL : Nat) (ls : List (Option Value)) : Prop := lsc.size = nL ∧ lv_wf lsc ∧ ls.length = nL ∧ ∀ (i : Nat) (v : Value), ls[i]? = some (some v) → lsc[i]? = some (.val (am_v g v))
def am_l (g : am_G) (ls : List (Option Value)) : List (Nat × Value) := (List.range ls.length).filterMap (fun i => (ls.getD i none).map (fun v => (i, am_v g v)))
theorem am_l_mem {g : am_G} {ls : List (Option Value)} {q : Nat × Value} : q ∈ am_l g ls ↔ ∃ v, ls[q.1]? = some (some v) ∧ q.2 = am_v g v := by
  unfold am_l
  rw [List.mem_filterMap]
  constructor
  · rintro ⟨i, hi, he⟩
    rw [List.mem_range] at hi
    cases hv : ls.getD i none with
    | none => rw [hv] at he; cases he
    | some v =>
      rw [hv] at he
      cases he
      refine ⟨v, ?_, rfl⟩
      rw [List.getD_eq_getElem?_getD] at hv
      rw [List.getElem?_eq_getElem hi] at hv ⊢
      exact congrArg some hv
  · rintro ⟨v, h1, h2⟩
    refine ⟨q.1, List.mem_range.mpr (List.getElem?_eq_some_iff.mp h1).1, ?_⟩
    rw [List.getD_eq_getElem?_getD, h1]
    show some (q.1, am_v g v) = some q
    rw [← h2]
theorem am_L.has {g : am_G} {lsc : Array Slot} {nL : Nat} {ls : List (Option Value)} (h : am_L g lsc nL ls) : lv_has lsc nL (am_l g ls) := ⟨h.1, h.2.1, fun q hq => by
  obtain ⟨v, h1, h2⟩ := am_l_mem.mp hq
  rw [h2]
  exact h.2.2.2 _ _ h1⟩
theorem am_cat (g : am_G) (v : Value) : (am_v g v).category = v.category := by cases v <;> rfl
def am_o1 (ls : List (Option Value)) (i : Nat) : Bool := match i with
  | 0 => true
  | j + 1 => match ls.getD j none with
    | some v => v.category == 1
    | none => true
theorem am_L.st1 {g : am_G} {lsc lsc' : Array Slot} {nL i : Nat} {ls : List (Option Value)} {v : Value} (h : am_L g lsc nL ls) (hi : i < nL) (ho : am_o1 ls i = true) (h' : lv_has lsc' nL ((i, am_v g v) :: (am_l g ls).filter (fun q => !(q.1 == i) && !(q.1 + 1 == i && q.2.category == 2)))) : am_L g lsc' nL (ls.set i (some v)) := by
  refine ⟨h'.1, h'.2.1, by rw [List.length_set]; exact h.2.2.1, fun j w hj => ?_⟩
  by_cases e : j = i
  · subst e
    rw [List.getElem?_set_self (by rw [h.2.2.1]; exact hi)] at hj
    cases hj
    exact h'.2.2 (j, am_v g v) List.mem_cons_self
  · rw [List.getElem?_set_ne (Ne.symm e)] at hj
    refine h'.2.2 (j, am_v g w) (List.mem_cons_of_mem _ (List.mem_filter.mpr ⟨am_l_mem.mpr ⟨w, hj, rfl⟩, ?_⟩))
    have e1 : (j == i) = false := by simp [e]
    have e2 : (j + 1 == i && (am_v g w).category == 2) = false := by
      by_cases e3 : j + 1 = i
      · subst e3
        simp only [am_o1, List.getD_eq_getElem?_getD, hj, Option.getD_some, beq_iff_eq] at ho
        rw [am_cat, ho]
        simp
      · simp [e3]
    show (!(j == i) && !(j + 1 == i && (am_v g w).category == 2)) = true
    rw [e1, e2]
    rfl
theorem am_L.st2 {g : am_G} {lsc lsc' : Array Slot} {nL i : Nat} {ls : List (Option Value)} {v : Value} (h : am_L g lsc nL ls) (hi : i + 1 < nL) (ho : am_o1 ls i = true) (h' : lv_has lsc' nL ((i, am_v g v) :: (am_l g ls).filter (fun q => !(q.1 == i) && (!(q.1 == i + 1) && !(q.1 + 1 == i && q.2.category == 2))))) : am_L g lsc' nL ((ls.set i (some v)).set (i + 1) none) := by
  refine ⟨h'.1, h'.2.1, by rw [List.length_set, List.length_set]; exact h.2.2.1, fun j w hj => ?_⟩
  by_cases e0 : j = i + 1
  · subst e0
    rw [List.getElem?_set_self (by rw [List.length_set, h.2.2.1]; exact hi)] at hj
    cases hj
  · rw [List.getElem?_set_ne (Ne.symm e0)] at hj
    by_cases e : j = i
    · subst e
      rw [List.getElem?_set_self (by rw [h.2.2.1]; omega)] at hj
      cases hj
      exact h'.2.2 (j, am_v g v) List.mem_cons_self
    · rw [List.getElem?_set_ne (Ne.symm e)] at hj
      refine h'.2.2 (j, am_v g w) (List.mem_cons_of_mem _ (List.mem_filter.mpr ⟨am_l_mem.mpr ⟨w, hj, rfl⟩, ?_⟩))
      have e1 : (j == i) = false := by simp [e]
      have e4 : (j == i + 1) = false := by simp [e0]
      have e2 : (j + 1 == i && (am_v g w).category == 2) = false := by
        by_cases e3 : j + 1 = i
        · subst e3
          simp only [am_o1, List.getD_eq_getElem?_getD, hj, Option.getD_some, beq_iff_eq] at ho
          rw [am_cat, ho]
          simp
        · simp [e3]
      show (!(j == i) && (!(j == i + 1) && !(j + 1 == i && (am_v g w).category == 2))) = true
      rw [e1, e2, e4]
      rfl
/-- the locals at a method's entry -/
def am_e0 : List Value → List (Option Value)
  | [] => []
  | v :: vs => if v.category = 2 then some v :: none :: am_e0 vs else some v :: am_e0 vs
def am_en (vs : List Value) (nL : Nat) : List (Option Value) := am_e0 vs ++ List.replicate (nL - (am_e0 vs).length) none
theorem am_e0_len (g : am_G) (vs : List Value) : (lg_sl (vs.map (am_v g))).length = (am_e0 vs).length := by
  induction vs with
  | nil => rfl
  | cons v vs ih =>
    show (lg_sl (am_v g v :: vs.map (am_v g))).length = _
    unfold lg_sl at ih ⊢
    rw [List.flatMap_cons, List.length_append, ih, am_e0]
    by_cases h : v.category = 2
    · rw [if_pos h, if_pos (by rw [am_cat]; exact h)]
      simp; omega
    · rw [if_neg h, if_neg (by rw [am_cat]; exact h)]
      simp; omega
theorem am_e0_mem (g : am_G) (vs : List Value) : ∀ (k i : Nat) (v : Value), (am_e0 vs)[i]? = some (some v) → (k + i, am_v g v) ∈ lv_args k (vs.map (am_v g)) := by
  induction vs with
  | nil => intro k i v h; simp [am_e0] at h
  | cons w vs ih =>
    intro k i v h
    rw [am_e0] at h
    show _ ∈ lv_args k (am_v g w :: vs.map (am_v g))
    rw [lv_args]
    by_cases hc : w.category = 2
    · rw [if_pos hc] at h
      rw [if_pos (by rw [am_cat]; exact hc)]
      match i, h with
      | 0, h => simp at h; rw [h]; exact List.mem_cons_self
      | 1, h => simp at h
      | i + 2, h =>
        simp at h
        have := ih (k + 2) i v h
        rw [show k + 2 + i = k + (i + 2) by omega] at this
        exact List.mem_cons_of_mem _ this
    · rw [if_neg hc] at h
      rw [if_neg (by rw [am_cat]; exact hc)]
      match i, h with
      | 0, h => simp at h; rw [h]; exact List.mem_cons_self
      | i + 1, h =>
        simp at h
        have := ih (k + 1) i v h
        rw [show k + 1 + i = k + (i + 1) by omega] at this
        exact List.mem_cons_of_mem _ this
theorem am_L.entry (g : am_G) (vs : List Value) {nL : Nat} (h : (am_e0 vs).length ≤ nL) : am_L g ((lg_sl (vs.map (am_v g)) ++ List.replicate (nL - (lg_sl (vs.map (am_v g))).length) Slot.unset).toArray) nL (am_en vs nL) := by
  have h0 := lv_entry (vs.map (am_v g)) (n := nL) (by rw [am_e0_len]; exact h)
  refine ⟨h0.1, h0.2.1, by unfold am_en; simp; omega, fun i v hi => ?_⟩
  unfold am_en at hi
  rcases Nat.lt_or_ge i (am_e0 vs).length with q | q
  · rw [List.getElem?_append_left q] at hi
    have := am_e0_mem g vs 0 i v hi
    rw [Nat.zero_add] at this
    exact h0.2.2 _ this
  · rw [List.getElem?_append_right q] at hi
    have := List.mem_of_getElem? hi
    have := List.eq_of_mem_replicate this
    cases this
/-- how a method ends at pc -/
def am_K (M : am_M) (pc : Nat) (r : Option Value) : Prop := match r with
  | none => decode M.2.1 pc = .ok (.return_, 1) ∧ M.2.2.2.1 = none
  | some (.int v) => decode M.2.1 pc = .ok (.ireturn, 1) ∧ ∃ ty, M.2.2.2.1 = some ty ∧ narrow ty (.int v) = .int v
  | some (.long _) => decode M.2.1 pc = .ok (.lreturn, 1) ∧ M.2.2.2.1 = some .long
  | some (.ref _) => decode M.2.1 pc = .ok (.areturn, 1) ∧ ∃ rt, M.2.2.2.1 = some rt ∧ ((∃ n, rt = .object n) ∨ ∃ t, rt = .array t)
  | _ => False
def am_C (E : Nat × (Nat → Int32)) (M : am_M) (p : Program) (s : State) (m : MethodId) (args : Array Value) (meth : Method) (c : Code) (g : am_G) (Rm : Room) : Prop :=
  p.tables.exec = Jvm.exec ∧ c.code = M.2.1 ∧ meth.sig.returnType = M.2.2.2.1 ∧ c.maxLocals = M.2.2.1 ∧ s.vm.findClass M.1.cls = some m.cls ∧ (∀ w ∈ am_TB, w.before args s = true) ∧ meth.locks = false ∧ (M.1.name = "<init>" → meth.name = "<init>") ∧ (M.2.2.2.2.1 ≤ Rm.frames ∧ M.2.2.2.2.2 ≤ Rm.locals) ∧ am_S E g s s.heap
def am_R (E : Nat × (Nat → Int32)) (M : am_M) (pc : Nat) (ls : List (Option Value)) (st : List Value) (h : am_H) (n n1 : Nat) (Q : Option Value → am_H → Prop) : Prop :=
  ∀ (p : Program) (l : Launch) (e : Env) (s : State) (m : MethodId) (args : Array Value) (below : List Frame) (meth : Method) (c : Code) (g : am_G) (n0 : Nat) (Z : State → Prop) (H : Heap) (locs : List Loc) (lsc : Array Slot) (Rm : Room),
    am_C E M p s m args meth c g Rm → (n1 - n0 ≤ Rm.cells ∧ am_cs n1 - am_cs n0 ≤ Rm.slots) → am_P g h n H → va_S (am_A g) s.heap H locs → (n0 ≤ n ∧ n ≤ n1) → am_L g lsc M.2.2.1 ls →
    (∀ (pc' : Nat) (r : Option Value) (h' : am_H) (H' : Heap) (locs' : List Loc) (lsc' : Array Slot), Q r h' → am_P g h' n1 H' → va_S (am_A g) s.heap H' locs' → am_K M pc' r → W p l e Rm s m args below meth c H' locs' (n1 - n0) (am_cs n1 - am_cs n0) Z (F0 m pc' lsc' (r.toList.map (am_v g)))) →
    W p l e Rm s m args below meth c H locs (n - n0) (am_cs n - am_cs n0) Z (F0 m pc lsc (st.map (am_v g)))
end
section
section AM
variable {E : Nat × (Nat → Int32)} {M : am_M} {pc : Nat} {ls : List (Option Value)} {st : List Value} {h : am_H} {n n1 : Nat} {Q : Option Value → am_H → Prop}
theorem am_iadd {x y : Int32} (hd : decode M.2.1 pc = .ok (.iadd, 1)) (k : am_R E M (pc + 1) ls (.int (x + y) :: st) h n n1 Q) : am_R E M pc ls (.int y :: .int x :: st) h n n1 Q := by
  intro p l e s m args below meth c g n0 Z H locs lsc Rm C hR hP hS hn hl hq
  exact lv_iadd C.1 C.2.1 hd (k p l e s m args below meth c g n0 Z H locs lsc Rm C hR hP hS hn hl hq)
theorem am_isub {x y : Int32} (hd : decode M.2.1 pc = .ok (.isub, 1)) (k : am_R E M (pc + 1) ls (.int (x - y) :: st) h n n1 Q) : am_R E M pc ls (.int y :: .int x :: st) h n n1 Q := by
  intro p l e s m args below meth c g n0 Z H locs lsc Rm C hR hP hS hn hl hq
  exact lv_isub C.1 C.2.1 hd (k p l e s m args below meth c g n0 Z H locs lsc Rm C hR hP hS hn hl hq)
theorem am_imul {x y : Int32} (hd : decode M.2.1 pc = .ok (.imul, 1)) (k : am_R E M (pc + 1) ls (.int (x * y) :: st) h n n1 Q) : am_R E M pc ls (.int y :: .int x :: st) h n n1 Q := by
  intro p l e s m args below meth c g n0 Z H locs lsc Rm C hR hP hS hn hl hq
  exact lv_imul C.1 C.2.1 hd (k p l e s m args below meth c g n0 Z H locs lsc Rm C hR hP hS hn hl hq)
theorem am_iand {x y : Int32} (hd : decode M.2.1 pc = .ok (.iand, 1)) (k : am_R E M (pc + 1) ls (.int (x &&& y) :: st) h n n1 Q) : am_R E M pc ls (.int y :: .int x :: st) h n n1 Q := by
  intro p l e s m args below meth c g n0 Z H locs lsc Rm C hR hP hS hn hl hq
  exact lv_iand C.1 C.2.1 hd (k p l e s m args below meth c g n0 Z H locs lsc Rm C hR hP hS hn hl hq)
theorem am_ior {x y : Int32} (hd : decode M.2.1 pc = .ok (.ior, 1)) (k : am_R E M (pc + 1) ls (.int (x ||| y) :: st) h n n1 Q) : am_R E M pc ls (.int y :: .int x :: st) h n n1 Q := by
  intro p l e s m args below meth c g n0 Z H locs lsc Rm C hR hP hS hn hl hq
  exact lv_ior C.1 C.2.1 hd (k p l e s m args below meth c g n0 Z H locs lsc Rm C hR hP hS hn hl hq)
theorem am_ixor {x y : Int32} (hd : decode M.2.1 pc = .ok (.ixor, 1)) (k : am_R E M (pc + 1) ls (.int (x ^^^ y) :: st) h n n1 Q) : am_R E M pc ls (.int y :: .int x :: st) h n n1 Q := by
  intro p l e s m args below meth c g n0 Z H locs lsc Rm C hR hP hS hn hl hq
  exact lv_ixor C.1 C.2.1 hd (k p l e s m args below meth c g n0 Z H locs lsc Rm C hR hP hS hn hl hq)
theorem am_ishl {x y : Int32} (hd : decode M.2.1 pc = .ok (.ishl, 1)) (k : am_R E M (pc + 1) ls (.int (x <<< (y &&& 31)) :: st) h n n1 Q) : am_R E M pc ls (.int y :: .int x :: st) h n n1 Q := by
  intro p l e s m args below meth c g n0 Z H locs lsc Rm C hR hP hS hn hl hq
  exact lv_ishl C.1 C.2.1 hd (k p l e s m args below meth c g n0 Z H locs lsc Rm C hR hP hS hn hl hq)
theorem am_ishr {x y : Int32} (hd : decode M.2.1 pc = .ok (.ishr, 1)) (k : am_R E M (pc + 1) ls (.int (x >>> (y &&& 31)) :: st) h n n1 Q) : am_R E M pc ls (.int y :: .int x :: st) h n n1 Q := by
  intro p l e s m args below meth c g n0 Z H locs lsc Rm C hR hP hS hn hl hq
  exact lv_ishr C.1 C.2.1 hd (k p l e s m args below meth c g n0 Z H locs lsc Rm C hR hP hS hn hl hq)
theorem am_idiv {x y : Int32} (h0 : ¬ y = 0) (hd : decode M.2.1 pc = .ok (.idiv, 1)) (k : am_R E M (pc + 1) ls (.int (x / y) :: st) h n n1 Q) : am_R E M pc ls (.int y :: .int x :: st) h n n1 Q := by
  intro p l e s m args below meth c g n0 Z H locs lsc Rm C hR hP hS hn hl hq
  exact lv_idiv C.1 C.2.1 hd h0 (k p l e s m args below meth c g n0 Z H locs lsc Rm C hR hP hS hn hl hq)
theorem am_irem {x y : Int32} (h0 : ¬ y = 0) (hd : decode M.2.1 pc = .ok (.irem, 1)) (k : am_R E M (pc + 1) ls (.int (x - x / y * y) :: st) h n n1 Q) : am_R E M pc ls (.int y :: .int x :: st) h n n1 Q := by
  intro p l e s m args below meth c g n0 Z H locs lsc Rm C hR hP hS hn hl hq
  exact lv_irem C.1 C.2.1 hd h0 (k p l e s m args below meth c g n0 Z H locs lsc Rm C hR hP hS hn hl hq)
theorem am_iushr {x y : Int32} (hd : decode M.2.1 pc = .ok (.iushr, 1)) (k : am_R E M (pc + 1) ls (.int ((x.toUInt32 >>> (y.toUInt32 &&& Int32.toUInt32 31)).toInt32) :: st) h n n1 Q) : am_R E M pc ls (.int y :: .int x :: st) h n n1 Q := by
  intro p l e s m args below meth c g n0 Z H locs lsc Rm C hR hP hS hn hl hq
  exact lv_iushr C.1 C.2.1 hd rfl (k p l e s m args below meth c g n0 Z H locs lsc Rm C hR hP hS hn hl hq)
theorem am_ladd {x y : Int64} (hd : decode M.2.1 pc = .ok (.ladd, 1)) (k : am_R E M (pc + 1) ls (.long (x + y) :: st) h n n1 Q) : am_R E M pc ls (.long y :: .long x :: st) h n n1 Q := by
  intro p l e s m args below meth c g n0 Z H locs lsc Rm C hR hP hS hn hl hq
  exact lv_ladd C.1 C.2.1 hd (k p l e s m args below meth c g n0 Z H locs lsc Rm C hR hP hS hn hl hq)
theorem am_lsub {x y : Int64} (hd : decode M.2.1 pc = .ok (.lsub, 1)) (k : am_R E M (pc + 1) ls (.long (x - y) :: st) h n n1 Q) : am_R E M pc ls (.long y :: .long x :: st) h n n1 Q := by
  intro p l e s m args below meth c g n0 Z H locs lsc Rm C hR hP hS hn hl hq
  exact lv_lsub C.1 C.2.1 hd (k p l e s m args below meth c g n0 Z H locs lsc Rm C hR hP hS hn hl hq)
theorem am_lmul {x y : Int64} (hd : decode M.2.1 pc = .ok (.lmul, 1)) (k : am_R E M (pc + 1) ls (.long (x * y) :: st) h n n1 Q) : am_R E M pc ls (.long y :: .long x :: st) h n n1 Q := by
  intro p l e s m args below meth c g n0 Z H locs lsc Rm C hR hP hS hn hl hq
  exact lv_lmul C.1 C.2.1 hd (k p l e s m args below meth c g n0 Z H locs lsc Rm C hR hP hS hn hl hq)
theorem am_land {x y : Int64} (hd : decode M.2.1 pc = .ok (.land, 1)) (k : am_R E M (pc + 1) ls (.long (x &&& y) :: st) h n n1 Q) : am_R E M pc ls (.long y :: .long x :: st) h n n1 Q := by
  intro p l e s m args below meth c g n0 Z H locs lsc Rm C hR hP hS hn hl hq
  exact lv_land C.1 C.2.1 hd (k p l e s m args below meth c g n0 Z H locs lsc Rm C hR hP hS hn hl hq)
theorem am_lor {x y : Int64} (hd : decode M.2.1 pc = .ok (.lor, 1)) (k : am_R E M (pc + 1) ls (.long (x ||| y) :: st) h n n1 Q) : am_R E M pc ls (.long y :: .long x :: st) h n n1 Q := by
  intro p l e s m args below meth c g n0 Z H locs lsc Rm C hR hP hS hn hl hq
  exact lv_lor C.1 C.2.1 hd (k p l e s m args below meth c g n0 Z H locs lsc Rm C hR hP hS hn hl hq)
theorem am_ldiv {x y : Int64} (h0 : ¬ y = 0) (hd : decode M.2.1 pc = .ok (.ldiv, 1)) (k : am_R E M (pc + 1) ls (.long (x / y) :: st) h n n1 Q) : am_R E M pc ls (.long y :: .long x :: st) h n n1 Q := by
  intro p l e s m args below meth c g n0 Z H locs lsc Rm C hR hP hS hn hl hq
  exact lv_ldiv C.1 C.2.1 hd h0 (k p l e s m args below meth c g n0 Z H locs lsc Rm C hR hP hS hn hl hq)
theorem am_lrem {x y : Int64} (h0 : ¬ y = 0) (hd : decode M.2.1 pc = .ok (.lrem, 1)) (k : am_R E M (pc + 1) ls (.long (x - x / y * y) :: st) h n n1 Q) : am_R E M pc ls (.long y :: .long x :: st) h n n1 Q := by
  intro p l e s m args below meth c g n0 Z H locs lsc Rm C hR hP hS hn hl hq
  exact lv_lrem C.1 C.2.1 hd h0 (k p l e s m args below meth c g n0 Z H locs lsc Rm C hR hP hS hn hl hq)
theorem am_lshl {x : Int64} {y : Int32} (hd : decode M.2.1 pc = .ok (.lshl, 1)) (k : am_R E M (pc + 1) ls (.long (x <<< (y.toInt64 &&& 63)) :: st) h n n1 Q) : am_R E M pc ls (.int y :: .long x :: st) h n n1 Q := by
  intro p l e s m args below meth c g n0 Z H locs lsc Rm C hR hP hS hn hl hq
  exact lv_lshl C.1 C.2.1 hd rfl (k p l e s m args below meth c g n0 Z H locs lsc Rm C hR hP hS hn hl hq)
theorem am_lshr {x : Int64} {y : Int32} (hd : decode M.2.1 pc = .ok (.lshr, 1)) (k : am_R E M (pc + 1) ls (.long (x >>> (y.toInt64 &&& 63)) :: st) h n n1 Q) : am_R E M pc ls (.int y :: .long x :: st) h n n1 Q := by
  intro p l e s m args below meth c g n0 Z H locs lsc Rm C hR hP hS hn hl hq
  exact lv_lshr C.1 C.2.1 hd rfl (k p l e s m args below meth c g n0 Z H locs lsc Rm C hR hP hS hn hl hq)
theorem am_lushr {x : Int64} {y : Int32} (hd : decode M.2.1 pc = .ok (.lushr, 1)) (k : am_R E M (pc + 1) ls (.long ((x.toUInt64 >>> (y.toInt64.toUInt64 &&& Int64.toUInt64 63)).toInt64) :: st) h n n1 Q) : am_R E M pc ls (.int y :: .long x :: st) h n n1 Q := by
  intro p l e s m args below meth c g n0 Z H locs lsc Rm C hR hP hS hn hl hq
  exact lv_lushr C.1 C.2.1 hd rfl (k p l e s m args below meth c g n0 Z H locs lsc Rm C hR hP hS hn hl hq)
theorem am_lcmp {x y : Int64} (hd : decode M.2.1 pc = .ok (.lcmp, 1)) (k : am_R E M (pc + 1) ls (.int (lg_cmp x y) :: st) h n n1 Q) : am_R E M pc ls (.long y :: .long x :: st) h n n1 Q := by
  intro p l e s m args below meth c g n0 Z H locs lsc Rm C hR hP hS hn hl hq
  exact W.lcmp C.1 C.2.1 hd (k p l e s m args below meth c g n0 Z H locs lsc Rm C hR hP hS hn hl hq)
theorem am_i2l {x : Int32} (hd : decode M.2.1 pc = .ok (.i2l, 1)) (k : am_R E M (pc + 1) ls (.long x.toInt64 :: st) h n n1 Q) : am_R E M pc ls (.int x :: st) h n n1 Q := by
  intro p l e s m args below meth c g n0 Z H locs lsc Rm C hR hP hS hn hl hq
  exact lv_i2l C.1 C.2.1 hd rfl (k p l e s m args below meth c g n0 Z H locs lsc Rm C hR hP hS hn hl hq)
theorem am_l2i {x : Int64} (hd : decode M.2.1 pc = .ok (.l2i, 1)) (k : am_R E M (pc + 1) ls (.int x.toInt32 :: st) h n n1 Q) : am_R E M pc ls (.long x :: st) h n n1 Q := by
  intro p l e s m args below meth c g n0 Z H locs lsc Rm C hR hP hS hn hl hq
  exact lv_l2i C.1 C.2.1 hd rfl (k p l e s m args below meth c g n0 Z H locs lsc Rm C hR hP hS hn hl hq)
theorem am_i2c {x : Int32} (hd : decode M.2.1 pc = .ok (.i2c, 1)) (k : am_R E M (pc + 1) ls (.int (x.toUInt32 % 65536).toInt32 :: st) h n n1 Q) : am_R E M pc ls (.int x :: st) h n n1 Q := by
  intro p l e s m args below meth c g n0 Z H locs lsc Rm C hR hP hS hn hl hq
  exact lv_i2c C.1 C.2.1 hd rfl (k p l e s m args below meth c g n0 Z H locs lsc Rm C hR hP hS hn hl hq)
theorem am_iconst {z : Int} (v : Int32) (hv : Int32.ofInt z = v) (hd : decode M.2.1 pc = .ok (.iconst z, 1)) (k : am_R E M (pc + 1) ls (.int v :: st) h n n1 Q) : am_R E M pc ls st h n n1 Q := by
  intro p l e s m args below meth c g n0 Z H locs lsc Rm C hR hP hS hn hl hq
  exact lv_iconst C.1 C.2.1 hd hv (k p l e s m args below meth c g n0 Z H locs lsc Rm C hR hP hS hn hl hq)
theorem am_bipush {z : Int} (v : Int32) (hv : (Int8.ofInt z).toInt32 = v) (hd : decode M.2.1 pc = .ok (.bipush z, 2)) (k : am_R E M (pc + 2) ls (.int v :: st) h n n1 Q) : am_R E M pc ls st h n n1 Q := by
  intro p l e s m args below meth c g n0 Z H locs lsc Rm C hR hP hS hn hl hq
  exact lv_bipush C.1 C.2.1 hd hv (k p l e s m args below meth c g n0 Z H locs lsc Rm C hR hP hS hn hl hq)
theorem am_sipush {z : Int} (v : Int32) (hv : (Int16.ofInt z).toInt32 = v) (hd : decode M.2.1 pc = .ok (.sipush z, 3)) (k : am_R E M (pc + 3) ls (.int v :: st) h n n1 Q) : am_R E M pc ls st h n n1 Q := by
  intro p l e s m args below meth c g n0 Z H locs lsc Rm C hR hP hS hn hl hq
  exact lv_sipush C.1 C.2.1 hd hv (k p l e s m args below meth c g n0 Z H locs lsc Rm C hR hP hS hn hl hq)
theorem am_lconst {z : Fin 2} (v : Int64) (hv : Int64.ofNat (z : Nat) = v) (hd : decode M.2.1 pc = .ok (.lconst z, 1)) (k : am_R E M (pc + 1) ls (.long v :: st) h n n1 Q) : am_R E M pc ls st h n n1 Q := by
  intro p l e s m args below meth c g n0 Z H locs lsc Rm C hR hP hS hn hl hq
  exact lv_lconst C.1 C.2.1 hd hv (k p l e s m args below meth c g n0 Z H locs lsc Rm C hR hP hS hn hl hq)
theorem am_ldc {i : Nat} (v : Int32) (hc : Cond.constant M.1.cls i v ∈ am_TB) (hd : decode M.2.1 pc = .ok (.ldc i, 2)) (k : am_R E M (pc + 2) ls (.int v :: st) h n n1 Q) : am_R E M pc ls st h n n1 Q := by
  intro p l e s m args below meth c g n0 Z H locs lsc Rm C hR hP hS hn hl hq
  exact lv_ldc C.1 C.2.1 C.2.2.2.2.1 (C.2.2.2.2.2.1 _ hc) hd (k p l e s m args below meth c g n0 Z H locs lsc Rm C hR hP hS hn hl hq)
theorem am_ldcw {i : Nat} (v : Int32) (hc : Cond.constant M.1.cls i v ∈ am_TB) (hd : decode M.2.1 pc = .ok (.ldc_w i, 3)) (k : am_R E M (pc + 3) ls (.int v :: st) h n n1 Q) : am_R E M pc ls st h n n1 Q := by
  intro p l e s m args below meth c g n0 Z H locs lsc Rm C hR hP hS hn hl hq
  exact lv_ldcw C.1 C.2.1 C.2.2.2.2.1 (C.2.2.2.2.2.1 _ hc) hd (k p l e s m args below meth c g n0 Z H locs lsc Rm C hR hP hS hn hl hq)
theorem am_ldc2 {i : Nat} (v : Int64) (hc : Cond.constantLong M.1.cls i v ∈ am_TB) (hd : decode M.2.1 pc = .ok (.ldc2_w i, 3)) (k : am_R E M (pc + 3) ls (.long v :: st) h n n1 Q) : am_R E M pc ls st h n n1 Q := by
  intro p l e s m args below meth c g n0 Z H locs lsc Rm C hR hP hS hn hl hq
  exact lv_ldc2 C.1 C.2.1 C.2.2.2.2.1 (C.2.2.2.2.2.1 _ hc) hd (k p l e s m args below meth c g n0 Z H locs lsc Rm C hR hP hS hn hl hq)
theorem am_dup {v : Value} (hv : v.category = 1) (hd : decode M.2.1 pc = .ok (.dup, 1)) (k : am_R E M (pc + 1) ls (v :: v :: st) h n n1 Q) : am_R E M pc ls (v :: st) h n n1 Q := by
  intro p l e s m args below meth c g n0 Z H locs lsc Rm C hR hP hS hn hl hq
  exact lv_dup C.1 C.2.1 hd ((am_cat g v).trans hv) (k p l e s m args below meth c g n0 Z H locs lsc Rm C hR hP hS hn hl hq)
theorem am_pop {v : Value} (hv : v.category = 1) (hd : decode M.2.1 pc = .ok (.pop, 1)) (k : am_R E M (pc + 1) ls st h n n1 Q) : am_R E M pc ls (v :: st) h n n1 Q := by
  intro p l e s m args below meth c g n0 Z H locs lsc Rm C hR hP hS hn hl hq
  exact lv_pop C.1 C.2.1 hd ((am_cat g v).trans hv) (k p l e s m args below meth c g n0 Z H locs lsc Rm C hR hP hS hn hl hq)
theorem am_dup2 {v w : Value} (hv : v.category = 1) (hw : w.category = 1) (hd : decode M.2.1 pc = .ok (.dup2, 1)) (k : am_R E M (pc + 1) ls (v :: w :: v :: w :: st) h n n1 Q) : am_R E M pc ls (v :: w :: st) h n n1 Q := by
  intro p l e s m args below meth c g n0 Z H locs lsc Rm C hR hP hS hn hl hq
  exact lv_dup2_11 C.1 C.2.1 hd ((am_cat g v).trans hv) ((am_cat g w).trans hw) (k p l e s m args below meth c g n0 Z H locs lsc Rm C hR hP hS hn hl hq)
theorem am_iload_n {z : Fin 4} {i : Nat} {x : Int32} (hi : (z : Nat) = i) (hv : ls[i]? = some (some (.int x))) (hd : decode M.2.1 pc = .ok (.iload_n z, 1)) (k : am_R E M (pc + 1) ls (.int x :: st) h n n1 Q) : am_R E M pc ls st h n n1 Q := by
  intro p l e s m args below meth c g n0 Z H locs lsc Rm C hR hP hS hn hl hq
  exact lv_iload_n C.1 C.2.1 hd hi (hl.2.2.2 _ _ hv) (k p l e s m args below meth c g n0 Z H locs lsc Rm C hR hP hS hn hl hq)
theorem am_iload {i : Nat} {x : Int32} (hv : ls[i]? = some (some (.int x))) (hd : decode M.2.1 pc = .ok (.iload i, 2)) (k : am_R E M (pc + 2) ls (.int x :: st) h n n1 Q) : am_R E M pc ls st h n n1 Q := by
  intro p l e s m args below meth c g n0 Z H locs lsc Rm C hR hP hS hn hl hq
  exact lv_iload C.1 C.2.1 hd (hl.2.2.2 _ _ hv) (k p l e s m args below meth c g n0 Z H locs lsc Rm C hR hP hS hn hl hq)
theorem am_lload_n {z : Fin 4} {i : Nat} {x : Int64} (hi : (z : Nat) = i) (hv : ls[i]? = some (some (.long x))) (hd : decode M.2.1 pc = .ok (.lload_n z, 1)) (k : am_R E M (pc + 1) ls (.long x :: st) h n n1 Q) : am_R E M pc ls st h n n1 Q := by
  intro p l e s m args below meth c g n0 Z H locs lsc Rm C hR hP hS hn hl hq
  exact lv_lload_n C.1 C.2.1 hd hi (hl.2.2.2 _ _ hv) (k p l e s m args below meth c g n0 Z H locs lsc Rm C hR hP hS hn hl hq)
theorem am_lload {i : Nat} {x : Int64} (hv : ls[i]? = some (some (.long x))) (hd : decode M.2.1 pc = .ok (.lload i, 2)) (k : am_R E M (pc + 2) ls (.long x :: st) h n n1 Q) : am_R E M pc ls st h n n1 Q := by
  intro p l e s m args below meth c g n0 Z H locs lsc Rm C hR hP hS hn hl hq
  exact lv_lload C.1 C.2.1 hd (hl.2.2.2 _ _ hv) (k p l e s m args below meth c g n0 Z H locs lsc Rm C hR hP hS hn hl hq)
theorem am_aload_n {z : Fin 4} {i : Nat} {x : Nat} (hi : (z : Nat) = i) (hv : ls[i]? = some (some (.ref x))) (hd : decode M.2.1 pc = .ok (.aload_n z, 1)) (k : am_R E M (pc + 1) ls (.ref x :: st) h n n1 Q) : am_R E M pc ls st h n n1 Q := by
  intro p l e s m args below meth c g n0 Z H locs lsc Rm C hR hP hS hn hl hq
  exact lv_aload_n C.1 C.2.1 hd hi (hl.2.2.2 _ _ hv) (k p l e s m args below meth c g n0 Z H locs lsc Rm C hR hP hS hn hl hq)
theorem am_aload {i : Nat} {x : Nat} (hv : ls[i]? = some (some (.ref x))) (hd : decode M.2.1 pc = .ok (.aload i, 2)) (k : am_R E M (pc + 2) ls (.ref x :: st) h n n1 Q) : am_R E M pc ls st h n n1 Q := by
  intro p l e s m args below meth c g n0 Z H locs lsc Rm C hR hP hS hn hl hq
  exact lv_aload C.1 C.2.1 hd (hl.2.2.2 _ _ hv) (k p l e s m args below meth c g n0 Z H locs lsc Rm C hR hP hS hn hl hq)
theorem am_istore_n {z : Fin 4} {i : Nat} {x : Int32} {ls' : List (Option Value)} (hz : (z : Nat) = i) (hi : i < M.2.2.1) (ho : am_o1 ls i = true) (hv : ls.set i (some (.int x)) = ls') (hd : decode M.2.1 pc = .ok (.istore_n z, 1)) (k : am_R E M (pc + 1) ls' st h n n1 Q) : am_R E M pc ls (.int x :: st) h n n1 Q := by
  intro p l e s m args below meth c g n0 Z H locs lsc Rm C hR hP hS hn hl hq
  exact lv_istore_n C.1 C.2.1 hd hz hl.has hi rfl (fun ls2 h2 => (k p l e s m args below meth c g n0 Z H locs ls2 Rm C hR hP hS hn (hv ▸ hl.st1 hi ho h2) hq))
theorem am_istore {i : Nat} {x : Int32} {ls' : List (Option Value)} (hi : i < M.2.2.1) (ho : am_o1 ls i = true) (hv : ls.set i (some (.int x)) = ls') (hd : decode M.2.1 pc = .ok (.istore i, 2)) (k : am_R E M (pc + 2) ls' st h n n1 Q) : am_R E M pc ls (.int x :: st) h n n1 Q := by
  intro p l e s m args below meth c g n0 Z H locs lsc Rm C hR hP hS hn hl hq
  exact lv_istore C.1 C.2.1 hd hl.has hi rfl (fun ls2 h2 => (k p l e s m args below meth c g n0 Z H locs ls2 Rm C hR hP hS hn (hv ▸ hl.st1 hi ho h2) hq))
theorem am_astore_n {z : Fin 4} {i : Nat} {x : Nat} {ls' : List (Option Value)} (hz : (z : Nat) = i) (hi : i < M.2.2.1) (ho : am_o1 ls i = true) (hv : ls.set i (some (.ref x)) = ls') (hd : decode M.2.1 pc = .ok (.astore_n z, 1)) (k : am_R E M (pc + 1) ls' st h n n1 Q) : am_R E M pc ls (.ref x :: st) h n n1 Q := by
  intro p l e s m args below meth c g n0 Z H locs lsc Rm C hR hP hS hn hl hq
  exact lv_astore_n C.1 C.2.1 hd hz hl.has hi rfl (fun ls2 h2 => (k p l e s m args below meth c g n0 Z H locs ls2 Rm C hR hP hS hn (hv ▸ hl.st1 hi ho h2) hq))
theorem am_astore {i : Nat} {x : Nat} {ls' : List (Option Value)} (hi : i < M.2.2.1) (ho : am_o1 ls i = true) (hv : ls.set i (some (.ref x)) = ls') (hd : decode M.2.1 pc = .ok (.astore i, 2)) (k : am_R E M (pc + 2) ls' st h n n1 Q) : am_R E M pc ls (.ref x :: st) h n n1 Q := by
  intro p l e s m args below meth c g n0 Z H locs lsc Rm C hR hP hS hn hl hq
  exact lv_astore C.1 C.2.1 hd hl.has hi rfl (fun ls2 h2 => (k p l e s m args below meth c g n0 Z H locs ls2 Rm C hR hP hS hn (hv ▸ hl.st1 hi ho h2) hq))
theorem am_lstore_n {z : Fin 4} {i : Nat} {x : Int64} {ls' : List (Option Value)} (hz : (z : Nat) = i) (hi : i + 1 < M.2.2.1) (ho : am_o1 ls i = true) (hv : (ls.set i (some (.long x))).set (i + 1) none = ls') (hd : decode M.2.1 pc = .ok (.lstore_n z, 1)) (k : am_R E M (pc + 1) ls' st h n n1 Q) : am_R E M pc ls (.long x :: st) h n n1 Q := by
  intro p l e s m args below meth c g n0 Z H locs lsc Rm C hR hP hS hn hl hq
  exact lv_lstore_n C.1 C.2.1 hd hz hl.has hi rfl (fun ls2 h2 => (k p l e s m args below meth c g n0 Z H locs ls2 Rm C hR hP hS hn (hv ▸ hl.st2 hi ho h2) hq))
theorem am_lstore {i : Nat} {x : Int64} {ls' : List (Option Value)} (hi : i + 1 < M.2.2.1) (ho : am_o1 ls i = true) (hv : (ls.set i (some (.long x))).set (i + 1) none = ls') (hd : decode M.2.1 pc = .ok (.lstore i, 2)) (k : am_R E M (pc + 2) ls' st h n n1 Q) : am_R E M pc ls (.long x :: st) h n n1 Q := by
  intro p l e s m args below meth c g n0 Z H locs lsc Rm C hR hP hS hn hl hq
  exact lv_lstore C.1 C.2.1 hd hl.has hi rfl (fun ls2 h2 => (k p l e s m args below meth c g n0 Z H locs ls2 Rm C hR hP hS hn (hv ▸ hl.st2 hi ho h2) hq))
theorem am_iinc {z : Int} {i : Nat} {x : Int32} {ls' : List (Option Value)} (hi : i < M.2.2.1) (hx : ls[i]? = some (some (.int x))) (ho : am_o1 ls i = true) (hv : ls.set i (some (.int (x + Int32.ofInt z))) = ls') (hd : decode M.2.1 pc = .ok (.iinc i z, 3)) (k : am_R E M (pc + 3) ls' st h n n1 Q) : am_R E M pc ls st h n n1 Q := by
  intro p l e s m args below meth c g n0 Z H locs lsc Rm C hR hP hS hn hl hq
  obtain ⟨j, hj⟩ := List.getElem?_of_mem (am_l_mem.mpr ⟨_, hx, rfl⟩ : (i, Value.int x) ∈ am_l g ls)
  exact lv_iinc C.1 C.2.1 hd hl.has hj rfl hi rfl (fun ls2 h2 => (k p l e s m args below meth c g n0 Z H locs ls2 Rm C hR hP hS hn (hv ▸ hl.st1 (v := .int (x + Int32.ofInt z)) hi ho h2) hq))
theorem am_if_eq {x : Int32} {off : Int} {tgt : Nat} (hd : decode M.2.1 pc = .ok (.ifCond .eq off, 3)) (ht : (pc : Int) + off = (tgt : Int)) (kt : x = 0 → am_R E M tgt ls st h n n1 Q) (kf : ¬ x = 0 → am_R E M (pc + 3) ls st h n n1 Q) : am_R E M pc ls (.int x :: st) h n n1 Q := by
  intro p l e s m args below meth c g n0 Z H locs lsc Rm C hR hP hS hn hl hq
  exact lv_if_eq C.1 C.2.1 hd ht (fun hh => (kt hh p l e s m args below meth c g n0 Z H locs lsc Rm C hR hP hS hn hl hq)) (fun hh => (kf hh p l e s m args below meth c g n0 Z H locs lsc Rm C hR hP hS hn hl hq))
theorem am_if_ne {x : Int32} {off : Int} {tgt : Nat} (hd : decode M.2.1 pc = .ok (.ifCond .ne off, 3)) (ht : (pc : Int) + off = (tgt : Int)) (kt : ¬ x = 0 → am_R E M tgt ls st h n n1 Q) (kf : x = 0 → am_R E M (pc + 3) ls st h n n1 Q) : am_R E M pc ls (.int x :: st) h n n1 Q := by
  intro p l e s m args below meth c g n0 Z H locs lsc Rm C hR hP hS hn hl hq
  exact lv_if_ne C.1 C.2.1 hd ht (fun hh => (kt hh p l e s m args below meth c g n0 Z H locs lsc Rm C hR hP hS hn hl hq)) (fun hh => (kf hh p l e s m args below meth c g n0 Z H locs lsc Rm C hR hP hS hn hl hq))
theorem am_if_lt {x : Int32} {off : Int} {tgt : Nat} (hd : decode M.2.1 pc = .ok (.ifCond .lt off, 3)) (ht : (pc : Int) + off = (tgt : Int)) (kt : x < 0 → am_R E M tgt ls st h n n1 Q) (kf : ¬ x < 0 → am_R E M (pc + 3) ls st h n n1 Q) : am_R E M pc ls (.int x :: st) h n n1 Q := by
  intro p l e s m args below meth c g n0 Z H locs lsc Rm C hR hP hS hn hl hq
  exact lv_if_lt C.1 C.2.1 hd ht (fun hh => (kt hh p l e s m args below meth c g n0 Z H locs lsc Rm C hR hP hS hn hl hq)) (fun hh => (kf hh p l e s m args below meth c g n0 Z H locs lsc Rm C hR hP hS hn hl hq))
theorem am_if_ge {x : Int32} {off : Int} {tgt : Nat} (hd : decode M.2.1 pc = .ok (.ifCond .ge off, 3)) (ht : (pc : Int) + off = (tgt : Int)) (kt : 0 ≤ x → am_R E M tgt ls st h n n1 Q) (kf : ¬ 0 ≤ x → am_R E M (pc + 3) ls st h n n1 Q) : am_R E M pc ls (.int x :: st) h n n1 Q := by
  intro p l e s m args below meth c g n0 Z H locs lsc Rm C hR hP hS hn hl hq
  exact lv_if_ge C.1 C.2.1 hd ht (fun hh => (kt hh p l e s m args below meth c g n0 Z H locs lsc Rm C hR hP hS hn hl hq)) (fun hh => (kf hh p l e s m args below meth c g n0 Z H locs lsc Rm C hR hP hS hn hl hq))
theorem am_if_gt {x : Int32} {off : Int} {tgt : Nat} (hd : decode M.2.1 pc = .ok (.ifCond .gt off, 3)) (ht : (pc : Int) + off = (tgt : Int)) (kt : 0 < x → am_R E M tgt ls st h n n1 Q) (kf : ¬ 0 < x → am_R E M (pc + 3) ls st h n n1 Q) : am_R E M pc ls (.int x :: st) h n n1 Q := by
  intro p l e s m args below meth c g n0 Z H locs lsc Rm C hR hP hS hn hl hq
  exact lv_if_gt C.1 C.2.1 hd ht (fun hh => (kt hh p l e s m args below meth c g n0 Z H locs lsc Rm C hR hP hS hn hl hq)) (fun hh => (kf hh p l e s m args below meth c g n0 Z H locs lsc Rm C hR hP hS hn hl hq))
theorem am_if_le {x : Int32} {off : Int} {tgt : Nat} (hd : decode M.2.1 pc = .ok (.ifCond .le off, 3)) (ht : (pc : Int) + off = (tgt : Int)) (kt : x ≤ 0 → am_R E M tgt ls st h n n1 Q) (kf : ¬ x ≤ 0 → am_R E M (pc + 3) ls st h n n1 Q) : am_R E M pc ls (.int x :: st) h n n1 Q := by
  intro p l e s m args below meth c g n0 Z H locs lsc Rm C hR hP hS hn hl hq
  exact lv_if_le C.1 C.2.1 hd ht (fun hh => (kt hh p l e s m args below meth c g n0 Z H locs lsc Rm C hR hP hS hn hl hq)) (fun hh => (kf hh p l e s m args below meth c g n0 Z H locs lsc Rm C hR hP hS hn hl hq))
theorem am_icmp_eq {x y : Int32} {off : Int} {tgt : Nat} (hd : decode M.2.1 pc = .ok (.if_icmp .eq off, 3)) (ht : (pc : Int) + off = (tgt : Int)) (kt : x = y → am_R E M tgt ls st h n n1 Q) (kf : ¬ x = y → am_R E M (pc + 3) ls st h n n1 Q) : am_R E M pc ls (.int y :: .int x :: st) h n n1 Q := by
  intro p l e s m args below meth c g n0 Z H locs lsc Rm C hR hP hS hn hl hq
  exact lv_icmp_eq C.1 C.2.1 hd ht (fun hh => (kt hh p l e s m args below meth c g n0 Z H locs lsc Rm C hR hP hS hn hl hq)) (fun hh => (kf hh p l e s m args below meth c g n0 Z H locs lsc Rm C hR hP hS hn hl hq))
theorem am_icmp_ne {x y : Int32} {off : Int} {tgt : Nat} (hd : decode M.2.1 pc = .ok (.if_icmp .ne off, 3)) (ht : (pc : Int) + off = (tgt : Int)) (kt : ¬ x = y → am_R E M tgt ls st h n n1 Q) (kf : x = y → am_R E M (pc + 3) ls st h n n1 Q) : am_R E M pc ls (.int y :: .int x :: st) h n n1 Q := by
  intro p l e s m args below meth c g n0 Z H locs lsc Rm C hR hP hS hn hl hq
  exact lv_icmp_ne C.1 C.2.1 hd ht (fun hh => (kt hh p l e s m args below meth c g n0 Z H locs lsc Rm C hR hP hS hn hl hq)) (fun hh => (kf hh p l e s m args below meth c g n0 Z H locs lsc Rm C hR hP hS hn hl hq))
theorem am_icmp_lt {x y : Int32} {off : Int} {tgt : Nat} (hd : decode M.2.1 pc = .ok (.if_icmp .lt off, 3)) (ht : (pc : Int) + off = (tgt : Int)) (kt : x < y → am_R E M tgt ls st h n n1 Q) (kf : ¬ x < y → am_R E M (pc + 3) ls st h n n1 Q) : am_R E M pc ls (.int y :: .int x :: st) h n n1 Q := by
  intro p l e s m args below meth c g n0 Z H locs lsc Rm C hR hP hS hn hl hq
  exact lv_icmp_lt C.1 C.2.1 hd ht (fun hh => (kt hh p l e s m args below meth c g n0 Z H locs lsc Rm C hR hP hS hn hl hq)) (fun hh => (kf hh p l e s m args below meth c g n0 Z H locs lsc Rm C hR hP hS hn hl hq))
theorem am_icmp_ge {x y : Int32} {off : Int} {tgt : Nat} (hd : decode M.2.1 pc = .ok (.if_icmp .ge off, 3)) (ht : (pc : Int) + off = (tgt : Int)) (kt : y ≤ x → am_R E M tgt ls st h n n1 Q) (kf : ¬ y ≤ x → am_R E M (pc + 3) ls st h n n1 Q) : am_R E M pc ls (.int y :: .int x :: st) h n n1 Q := by
  intro p l e s m args below meth c g n0 Z H locs lsc Rm C hR hP hS hn hl hq
  exact lv_icmp_ge C.1 C.2.1 hd ht (fun hh => (kt hh p l e s m args below meth c g n0 Z H locs lsc Rm C hR hP hS hn hl hq)) (fun hh => (kf hh p l e s m args below meth c g n0 Z H locs lsc Rm C hR hP hS hn hl hq))
theorem am_icmp_gt {x y : Int32} {off : Int} {tgt : Nat} (hd : decode M.2.1 pc = .ok (.if_icmp .gt off, 3)) (ht : (pc : Int) + off = (tgt : Int)) (kt : y < x → am_R E M tgt ls st h n n1 Q) (kf : ¬ y < x → am_R E M (pc + 3) ls st h n n1 Q) : am_R E M pc ls (.int y :: .int x :: st) h n n1 Q := by
  intro p l e s m args below meth c g n0 Z H locs lsc Rm C hR hP hS hn hl hq
  exact lv_icmp_gt C.1 C.2.1 hd ht (fun hh => (kt hh p l e s m args below meth c g n0 Z H locs lsc Rm C hR hP hS hn hl hq)) (fun hh => (kf hh p l e s m args below meth c g n0 Z H locs lsc Rm C hR hP hS hn hl hq))
theorem am_icmp_le {x y : Int32} {off : Int} {tgt : Nat} (hd : decode M.2.1 pc = .ok (.if_icmp .le off, 3)) (ht : (pc : Int) + off = (tgt : Int)) (kt : x ≤ y → am_R E M tgt ls st h n n1 Q) (kf : ¬ x ≤ y → am_R E M (pc + 3) ls st h n n1 Q) : am_R E M pc ls (.int y :: .int x :: st) h n n1 Q := by
  intro p l e s m args below meth c g n0 Z H locs lsc Rm C hR hP hS hn hl hq
  exact lv_icmp_le C.1 C.2.1 hd ht (fun hh => (kt hh p l e s m args below meth c g n0 Z H locs lsc Rm C hR hP hS hn hl hq)) (fun hh => (kf hh p l e s m args below meth c g n0 Z H locs lsc Rm C hR hP hS hn hl hq))
theorem am_goto {off : Int} {tgt : Nat} (hd : decode M.2.1 pc = .ok (.goto off, 3)) (ht : (pc : Int) + off = (tgt : Int)) (k : am_R E M tgt ls st h n n1 Q) : am_R E M pc ls st h n n1 Q := by
  intro p l e s m args below meth c g n0 Z H locs lsc Rm C hR hP hS hn hl hq
  exact lv_goto C.1 C.2.1 hd ht (k p l e s m args below meth c g n0 Z H locs lsc Rm C hR hP hS hn hl hq)
theorem am_tabIn {dflt lo hi : Int} {offs : Array Int} {len : Nat} {x : Int32} {off : Int} {tgt : Nat} (hd : decode M.2.1 pc = .ok (.tableswitch dflt lo hi offs, len)) (h1 : ¬ x.toInt < lo) (h2 : ¬ hi < x.toInt) (ho : offs[(x.toInt - lo).toNat]? = some off) (ht : (pc : Int) + off = (tgt : Int)) (k : am_R E M tgt ls st h n n1 Q) : am_R E M pc ls (.int x :: st) h n n1 Q := by
  intro p l e s m args below meth c g n0 Z H locs lsc Rm C hR hP hS hn hl hq
  exact lv_tableIn C.1 C.2.1 hd h1 h2 ho ht (k p l e s m args below meth c g n0 Z H locs lsc Rm C hR hP hS hn hl hq)
theorem am_tabOut {dflt lo hi : Int} {offs : Array Int} {len : Nat} {x : Int32} {tgt : Nat} (hd : decode M.2.1 pc = .ok (.tableswitch dflt lo hi offs, len)) (h1 : x.toInt < lo ∨ hi < x.toInt) (ht : (pc : Int) + dflt = (tgt : Int)) (k : am_R E M tgt ls st h n n1 Q) : am_R E M pc ls (.int x :: st) h n n1 Q := by
  intro p l e s m args below meth c g n0 Z H locs lsc Rm C hR hP hS hn hl hq
  exact lv_tableOut C.1 C.2.1 hd h1 ht (k p l e s m args below meth c g n0 Z H locs lsc Rm C hR hP hS hn hl hq)
theorem am_look {dflt : Int} {ps : Array (Int × Int)} {len : Nat} {x : Int32} {off : Int} {tgt : Nat} (hd : decode M.2.1 pc = .ok (.lookupswitch dflt ps, len)) (hp : (ps.toList.zip (ps.toList.drop 1)).all (fun (a, next) => a.1 < next.1) = true) (ho : Op.lookupswitch.offset ps.toList dflt x.toInt = off) (ht : (pc : Int) + off = (tgt : Int)) (k : am_R E M tgt ls st h n n1 Q) : am_R E M pc ls (.int x :: st) h n n1 Q := by
  intro p l e s m args below meth c g n0 Z H locs lsc Rm C hR hP hS hn hl hq
  exact lv_lookup C.1 C.2.1 hd hp ho ht (k p l e s m args below meth c g n0 Z H locs lsc Rm C hR hP hS hn hl hq)
theorem am_iret {v : Int32} {ty : FieldType} (hd : decode M.2.1 pc = .ok (.ireturn, 1)) (hr : M.2.2.2.1 = some ty) (hw : narrow ty (.int v) = .int v) (k : Q (some (.int v)) h) : am_R E M pc ls [.int v] h n n Q := by
  intro p l e s m args below meth c g n0 Z H locs lsc Rm C hR hP hS hn hl hq
  exact hq pc (some (.int v)) h H locs lsc k hP hS ⟨hd, ty, hr, hw⟩
theorem am_lret {v : Int64} (hd : decode M.2.1 pc = .ok (.lreturn, 1)) (hr : M.2.2.2.1 = some .long) (k : Q (some (.long v)) h) : am_R E M pc ls [.long v] h n n Q := by
  intro p l e s m args below meth c g n0 Z H locs lsc Rm C hR hP hS hn hl hq
  exact hq pc (some (.long v)) h H locs lsc k hP hS ⟨hd, hr⟩
theorem am_aret {v : Nat} {rt : FieldType} (hd : decode M.2.1 pc = .ok (.areturn, 1)) (hr : M.2.2.2.1 = some rt) (hw : (∃ n, rt = .object n) ∨ ∃ t, rt = .array t) (k : Q (some (.ref v)) h) : am_R E M pc ls [.ref v] h n n Q := by
  intro p l e s m args below meth c g n0 Z H locs lsc Rm C hR hP hS hn hl hq
  exact hq pc (some (.ref v)) h H locs lsc k hP hS ⟨hd, rt, hr, hw⟩
theorem am_vret (hd : decode M.2.1 pc = .ok (.return_, 1)) (hr : M.2.2.2.1 = none) (k : Q none h) : am_R E M pc ls [] h n n Q := by
  intro p l e s m args below meth c g n0 Z H locs lsc Rm C hR hP hS hn hl hq
  exact hq pc none h H locs lsc k hP hS ⟨hd, hr⟩
theorem am_R.mono {Q' : Option Value → am_H → Prop} (k : am_R E M pc ls st h n n1 Q) (hQ : ∀ r h', Q r h' → Q' r h') : am_R E M pc ls st h n n1 Q' := by
  intro p l e s m args below meth c g n0 Z H locs lsc Rm C hR hP hS hn hl hq
  exact k p l e s m args below meth c g n0 Z H locs lsc Rm C hR hP hS hn hl (fun pc' r h' H' locs' lsc' q => hq pc' r h' H' locs' lsc' (hQ r h' q))
theorem am_R.heq {h2 : am_H} (k : am_R E M pc ls st h2 n n1 Q) (hs : ∀ j, j < n → ∀ i, i < am_z j → h2.1 j i = h.1 j i ∧ h2.2.1 j i = h.2.1 j i ∧ h2.2.2 j i = h.2.2 j i) : am_R E M pc ls st h n n1 Q := by
  intro p l e s m args below meth c g n0 Z H locs lsc Rm C hR hP hS hn hl hq
  exact k p l e s m args below meth c g n0 Z H locs lsc Rm C hR (hP.same hs) hS hn hl hq
end AM
end
section
/-! ===== fields and arrays ===== -/
def am_sR (h : am_H) (k : Nat) (f : Nat → Int32) : am_H := (fun a => if a = k then f else h.1 a, h.2.1, h.2.2)
def am_sI (h : am_H) (k j : Nat) (x : Int32) : am_H := am_sR h k (upd (h.1 k) j x)
def am_sJ (h : am_H) (k j : Nat) (x : Int64) : am_H := (h.1, fun a => if a = k then vp_updL (h.2.1 k) j x else h.2.1 a, h.2.2)
def am_sA (h : am_H) (k j : Nat) (x : Option Nat) : am_H := (h.1, h.2.1, fun a => if a = k then va_up (h.2.2 k) j x else h.2.2 a)
def am_s0 (h : am_H) (k : Nat) : am_H := (fun a => if a = k then (fun _ => 0) else h.1 a, fun a => if a = k then (fun _ => 0) else h.2.1 a, fun a => if a = k then (fun _ => none) else h.2.2 a)
theorem am_sR_ne {h : am_H} {k : Nat} {f : Nat → Int32} (j : Nat) (e : j ≠ k) : (am_sR h k f).1 j = h.1 j ∧ (am_sR h k f).2.1 j = h.2.1 j ∧ (am_sR h k f).2.2 j = h.2.2 j := ⟨if_neg e, rfl, rfl⟩
theorem am_sJ_ne {h : am_H} {k i : Nat} {x : Int64} (j : Nat) (e : j ≠ k) : (am_sJ h k i x).1 j = h.1 j ∧ (am_sJ h k i x).2.1 j = h.2.1 j ∧ (am_sJ h k i x).2.2 j = h.2.2 j := ⟨rfl, if_neg e, rfl⟩
theorem am_sA_ne {h : am_H} {k i : Nat} {x : Option Nat} (j : Nat) (e : j ≠ k) : (am_sA h k i x).1 j = h.1 j ∧ (am_sA h k i x).2.1 j = h.2.1 j ∧ (am_sA h k i x).2.2 j = h.2.2 j := ⟨rfl, rfl, if_neg e⟩
theorem am_s0_ne {h : am_H} {k : Nat} (j : Nat) (e : j ≠ k) : (am_s0 h k).1 j = h.1 j ∧ (am_s0 h k).2.1 j = h.2.1 j ∧ (am_s0 h k).2.2 j = h.2.2 j := ⟨if_neg e, if_neg e, if_neg e⟩
/-- types whose places hold ints -/
def am_iT (ty : FieldType) : Prop := ty = .int ∨ ty = .boolean
def am_rT (ty : FieldType) : Prop := (∃ C, ty = .object C) ∨ ∃ t, ty = .array t
theorem am_f_i {g : am_G} {h : am_H} {k j : Nat} {ty : FieldType} (ht : am_iT ty) : am_f g h k ty j = .int (h.1 k j) := by
  rcases ht with rfl | rfl <;> rfl
theorem am_f_r {g : am_G} {h : am_H} {k j : Nat} {ty : FieldType} (ht : am_rT ty) : am_f g h k ty j = va_rf ((h.2.2 k j).map (am_a g)) := by
  rcases ht with ⟨C, rfl⟩ | ⟨t, rfl⟩ <;> rfl
theorem am_f_sR {g : am_G} {h : am_H} {k j : Nat} {x : Int32} {ty : FieldType} (ht : am_iT ty) (ty2 : FieldType) (i : Nat) (hh : i = j → ty2 = ty) : am_f g (am_sI h k j x) k ty2 i = if i = j then .int x else am_f g h k ty2 i := by
  by_cases e : i = j
  · subst e
    rw [if_pos rfl, hh rfl, am_f_i ht]
    simp [am_sI, am_sR, upd]
  · rw [if_neg e]
    unfold am_f
    cases ty2 <;> simp [am_sI, am_sR, upd, e]
theorem am_f_sJ {g : am_G} {h : am_H} {k j : Nat} {x : Int64} (ty2 : FieldType) (i : Nat) (hh : i = j → ty2 = .long) : am_f g (am_sJ h k j x) k ty2 i = if i = j then .long x else am_f g h k ty2 i := by
  by_cases e : i = j
  · subst e
    rw [if_pos rfl, hh rfl]
    simp [am_sJ, vp_updL, am_f]
  · rw [if_neg e]
    unfold am_f
    cases ty2 <;> simp [am_sJ, vp_updL, e]
theorem am_f_sA {g : am_G} {h : am_H} {k j : Nat} {x : Option Nat} {ty : FieldType} (ht : am_rT ty) (ty2 : FieldType) (i : Nat) (hh : i = j → ty2 = ty) : am_f g (am_sA h k j x) k ty2 i = if i = j then va_rf (x.map (am_a g)) else am_f g h k ty2 i := by
  by_cases e : i = j
  · subst e
    rw [if_pos rfl, hh rfl, am_f_r ht]
    simp [am_sA, va_up]
  · rw [if_neg e]
    unfold am_f
    cases ty2 <;> simp [am_sA, va_up, e]
/-- a field's link: the class's own entry idx is the place j of class ci -/
def am_fl (own : String) (idx ci j : Nat) : Prop := ci < 9 ∧ j < am_nf ci ∧ Cond.fieldLink own idx (am_tb ci j).1 (am_tb ci j).2.1 (am_tb ci j).2.2.1 ∈ am_TB
section AM2
variable {E : Nat × (Nat → Int32)} {M : am_M} {pc : Nat} {ls : List (Option Value)} {st : List Value} {h : am_H} {n n1 : Nat} {Q : Option Value → am_H → Prop}
theorem am_getW {k j idx ci : Nat} (hd : decode M.2.1 pc = .ok (.getfield idx, 3)) (hf : am_fl M.1.cls idx ci j) (hs : am_s k = .inr ci) (hk : k < n) {v : Value} (hv : ∀ g : am_G, am_f g h k (am_ft ci j) j = am_v g v) (kk : am_R E M (pc + 3) ls (v :: st) h n n1 Q) : am_R E M pc ls (.ref k :: st) h n n1 Q := by
  intro p l e s m args below meth c g n0 Z H locs lsc Rm C hR hP hS hn hl hq
  have K := kk p l e s m args below meth c g n0 Z H locs lsc Rm C hR hP hS hn hl hq
  obtain ⟨hx, hb, -, -, hown, hts, -, -, -, hSt⟩ := C
  obtain ⟨hci, hj, hln⟩ := hf
  obtain ⟨cell, q1, q2, q3, q4⟩ := hP.obj hk hs
  obtain ⟨hSl, hfc, kC, hkC, hkind⟩ := hSt.1.1 ci _ (am_cl hci)
  obtain ⟨cf, kf, fi, f, hi, hsl⟩ := hSl j hj
  refine W.getf hx hb hown (hts _ hln) hi (u_facts hfc hkC (u_lays hts (am_in hci) hj) hi).1 q1 (by rw [q3]; exact fun h => by cases h) (v := am_v g v) ?_ rfl rfl hd K
  rw [hsl, q4 j hj]
  exact congrArg some (hv g)
theorem am_getI {k j idx ci : Nat} (hd : decode M.2.1 pc = .ok (.getfield idx, 3)) (hf : am_fl M.1.cls idx ci j) (ht : am_iT (am_ft ci j)) (hs : am_s k = .inr ci) (hk : k < n) (kk : am_R E M (pc + 3) ls (.int (h.1 k j) :: st) h n n1 Q) : am_R E M pc ls (.ref k :: st) h n n1 Q :=
  am_getW hd hf hs hk (v := .int (h.1 k j)) (fun _ => am_f_i ht) kk
theorem am_getJ {k j idx ci : Nat} (hd : decode M.2.1 pc = .ok (.getfield idx, 3)) (hf : am_fl M.1.cls idx ci j) (ht : am_ft ci j = .long) (hs : am_s k = .inr ci) (hk : k < n) (kk : am_R E M (pc + 3) ls (.long (h.2.1 k j) :: st) h n n1 Q) : am_R E M pc ls (.ref k :: st) h n n1 Q :=
  am_getW hd hf hs hk (v := .long (h.2.1 k j)) (fun _ => by rw [ht]; rfl) kk
theorem am_getA {k j idx ci r : Nat} (hd : decode M.2.1 pc = .ok (.getfield idx, 3)) (hf : am_fl M.1.cls idx ci j) (ht : am_rT (am_ft ci j)) (hs : am_s k = .inr ci) (hk : k < n) (hr : h.2.2 k j = some r) (kk : am_R E M (pc + 3) ls (.ref r :: st) h n n1 Q) : am_R E M pc ls (.ref k :: st) h n n1 Q :=
  am_getW hd hf hs hk (v := .ref r) (fun _ => by rw [am_f_r ht, hr]; rfl) kk
/-- a store into a field -/
theorem am_putW {k j idx ci : Nat} {v : Value} {h' : am_H} (hd : decode M.2.1 pc = .ok (.putfield idx, 3)) (hf : am_fl M.1.cls idx ci j) (hfin : (am_tb ci j).2.2.2 = false ∨ (M.1.name = "<init>" ∧ (am_tb ci j).2.2.2 = true ∧ (am_tb ci j).1 = M.1.cls)) (hs : am_s k = .inr ci) (hk : k < n) (hnv : ∀ g, narrow (am_ft ci j) (am_v g v) = am_v g v) (hfit : ∀ g, fits (am_ft ci j) (am_v g v) = true) (hsame : ∀ i, i ≠ k → h'.1 i = h.1 i ∧ h'.2.1 i = h.2.1 i ∧ h'.2.2 i = h.2.2 i) (hnew : ∀ (g : am_G) (i : Nat), am_f g h' k (am_ft ci i) i = if i = j then am_v g v else am_f g h k (am_ft ci i) i) (kk : am_R E M (pc + 3) ls st h' n n1 Q) : am_R E M pc ls (v :: .ref k :: st) h n n1 Q := by
  intro p l e s m args below meth c g n0 Z H locs lsc Rm C hR hP hS hn hl hq
  have C0 := C
  obtain ⟨hx, hb, -, -, hown, hts, -, hnm, -, hSt⟩ := C
  obtain ⟨hci, hj, hln⟩ := hf
  have hty := am_ty hci
  have hap := va_apart (own := M.1.cls) hts (am_in hci) (am_ft ci) hty (am_nm hci) hSt.1 (am_cl hci)
  obtain ⟨cell, q1, q2, q3, q4⟩ := hP.obj hk hs
  obtain ⟨hSl, hfc, kC, hkC, hkind⟩ := hSt.1.1 ci _ (am_cl hci)
  obtain ⟨cf, kf, fi, f, hi, hsl⟩ := hSl j hj
  have hst := (u_facts hfc hkC (u_lays hts (am_in hci) hj) hi).1
  have hlay := hts _ (am_in hci _ (u_in_lay hj))
  unfold u_lay at hlay
  have key : ∀ H' : Heap, H'[am_a g k]? = some (cell.setSlot f.slot (am_v g v)) → H'.size = H.size → (∀ q, q ≠ am_a g k → H'[q]? = H[q]?) → W p l e Rm s m args below meth c H' (locs ++ [⟨am_a g k, f.slot⟩]) (n - n0) (am_cs n - am_cs n0) Z (F0 m (pc + 3) lsc (st.map (am_v g))) := by
    intro H' e1 e2 e3
    refine kk p l e s m args below meth c g n0 Z H' _ lsc Rm C0 hR (hP.put hk e2 e3 hsame ?_) (hS.put e2 e3 (by rw [hP.a hk]; exact Nat.le_add_right _ _)) hn hl hq
    unfold am_at
    rw [hs]
    show t_OB _ _ _ _ _ _
    rw [← hP.a hk]
    rw [hsl] at e1
    refine t_OB.to (V := updV (fun i => am_f g h k (am_ft ci i) i) j (am_v g v)) ⟨_, e1, q2, q3, t_set q4 hap hj _⟩ (fun i _ => ?_)
    rw [hnew g i]
    rfl
  rcases hfin with hfin | ⟨hin, hfin, hdecl⟩
  · rw [if_neg (by rw [hfin]; decide)] at hlay
    have h6 := u_store hfc hkC hkind hlay hi (hty j hj) (hnv g) (hfit g)
    exact W.putK hx hb (f := f) ⟨hown, hts _ hln, ⟨_, _, _, hi⟩, hst⟩ (by rw [q2]; exact h6) q1 q3 (by rw [hsl]; exact k2_hasslot (q4 j hj)) rfl rfl hd key
  · rw [if_pos hfin] at hlay
    have hcf : m.cls = cf := by
      obtain ⟨_, _, c', _, _, _, -, -, hf', -, -, -, hown2, -⟩ := Cond.laysFinal_spec hlay
      have e1 : c' = cf := by have := hi.symm.trans hf'; simp at this; exact this.1.symm
      rw [hdecl] at hown2
      rw [← e1]; exact Option.some.inj (hown.symm.trans hown2)
    have h6 := u_fits hfc hkC hkind (Or.inr hlay) hi (hty j hj) (hnv g) (hfit g)
    exact W.putFinK hx hb hown (hts _ hln) hi hst hcf (hnm hin) (by rw [q2]; exact h6) q1 q3 (by rw [hsl]; exact k2_hasslot (q4 j hj)) rfl rfl hd key
/-- may the field be written: not final, or its own constructor -/
def am_wf (M : am_M) (ci j : Nat) : Prop := (am_tb ci j).2.2.2 = false ∨ (M.1.name = "<init>" ∧ (am_tb ci j).2.2.2 = true ∧ (am_tb ci j).1 = M.1.cls)
theorem am_putI {k j idx ci : Nat} {x : Int32} (hd : decode M.2.1 pc = .ok (.putfield idx, 3)) (hf : am_fl M.1.cls idx ci j) (hw : am_wf M ci j) (ht : am_ft ci j = .int) (hs : am_s k = .inr ci) (hk : k < n) (kk : am_R E M (pc + 3) ls st (am_sI h k j x) n n1 Q) : am_R E M pc ls (.int x :: .ref k :: st) h n n1 Q :=
  am_putW (v := .int x) hd hf hw hs hk (fun g => by rw [ht]; rfl) (fun g => by rw [ht]; rfl) (fun i e => am_sR_ne i e) (fun g i => am_f_sR (ty := .int) (Or.inl rfl) _ i (fun e => by rw [e]; exact ht)) kk
theorem am_putZ {k j idx ci : Nat} {x : Int32} (hd : decode M.2.1 pc = .ok (.putfield idx, 3)) (hf : am_fl M.1.cls idx ci j) (hw : am_wf M ci j) (ht : am_ft ci j = .boolean) (hs : am_s k = .inr ci) (hk : k < n) (hx : x = 0 ∨ x = 1) (kk : am_R E M (pc + 3) ls st (am_sI h k j x) n n1 Q) : am_R E M pc ls (.int x :: .ref k :: st) h n n1 Q :=
  am_putW (v := .int x) hd hf hw hs hk (fun g => by rw [ht]; rcases hx with rfl | rfl <;> rfl) (fun g => by rw [ht]; rcases hx with rfl | rfl <;> rfl) (fun i e => am_sR_ne i e) (fun g i => am_f_sR (ty := .boolean) (Or.inr rfl) _ i (fun e => by rw [e]; exact ht)) kk
theorem am_putJ {k j idx ci : Nat} {x : Int64} (hd : decode M.2.1 pc = .ok (.putfield idx, 3)) (hf : am_fl M.1.cls idx ci j) (hw : am_wf M ci j) (ht : am_ft ci j = .long) (hs : am_s k = .inr ci) (hk : k < n) (kk : am_R E M (pc + 3) ls st (am_sJ h k j x) n n1 Q) : am_R E M pc ls (.long x :: .ref k :: st) h n n1 Q :=
  am_putW (v := .long x) hd hf hw hs hk (fun g => by rw [ht]; rfl) (fun g => by rw [ht]; rfl) (fun i e => am_sJ_ne i e) (fun g i => am_f_sJ _ i (fun e => by rw [e]; exact ht)) kk
theorem am_putA {k j idx ci x : Nat} (hd : decode M.2.1 pc = .ok (.putfield idx, 3)) (hf : am_fl M.1.cls idx ci j) (hw : am_wf M ci j) (ht : am_rT (am_ft ci j)) (hs : am_s k = .inr ci) (hk : k < n) (kk : am_R E M (pc + 3) ls st (am_sA h k j (some x)) n n1 Q) : am_R E M pc ls (.ref x :: .ref k :: st) h n n1 Q :=
  am_putW (v := .ref x) hd hf hw hs hk (fun g => by rcases ht with ⟨C, e⟩ | ⟨t, e⟩ <;> rw [e] <;> rfl) (fun g => by rcases ht with ⟨C, e⟩ | ⟨t, e⟩ <;> rw [e] <;> rfl) (fun i e => am_sA_ne i e) (fun g i => am_f_sA (ty := am_ft ci j) ht _ i (fun e => by rw [e])) kk
/-- places of tys -/
def am_t5 (ty : FieldType) : Prop := ty = .int ∨ ty = .long ∨ ty = .boolean ∨ ty = .object RX1 ∨ ty = .object RX8
theorem am_t5_at {g : am_G} {U : State} {H : Heap} {ty : FieldType} (hS : am_S E g U H) (ht : am_t5 ty) : ArrOfT U (g.2.2.1 ty) ty ∧ va_RA U (g.2.2.1 ty) ty := by
  rcases ht with rfl | rfl | rfl | rfl | rfl
  · exact hS.1.2 0 _ rfl
  · exact hS.1.2 1 _ rfl
  · exact hS.1.2 2 _ rfl
  · exact hS.1.2 3 _ rfl
  · exact hS.1.2 4 _ rfl
theorem am_iald {k N : Nat} {i : Int32} (hd : decode M.2.1 pc = .ok (.iaload, 1)) (hs : am_s k = .inl (.int, N)) (hk : k < n) (hi : vp_in i N) (kk : am_R E M (pc + 1) ls (.int (h.1 k i.toNatClampNeg) :: st) h n n1 Q) : am_R E M pc ls (.int i :: .ref k :: st) h n n1 Q := by
  intro p l e s m args below meth c g n0 Z H locs lsc Rm C hR hP hS hn hl hq
  have K := kk p l e s m args below meth c g n0 Z H locs lsc Rm C hR hP hS hn hl hq
  obtain ⟨hx, hb, -, -, hown, hts, -, -, -, hSt⟩ := C
  have hlt : i.toNatClampNeg < N := Nat.not_le.mp fun q => hi (Or.inr q)
  exact W.iald (v := .int (h.1 k i.toNatClampNeg)) hx hb (hP.arr hk hs) ((am_t5_at hSt (Or.inl rfl)).1 N _) (fun q => by cases q) (by rw [arrV_size]; exact hi) (by rw [arrV_read _ _ hlt]; rfl) rfl rfl hd K
theorem am_zald {k N : Nat} {i : Int32} (hd : decode M.2.1 pc = .ok (.baload, 1)) (hs : am_s k = .inl (.boolean, N)) (hk : k < n) (hi : vp_in i N) (kk : am_R E M (pc + 1) ls (.int (h.1 k i.toNatClampNeg) :: st) h n n1 Q) : am_R E M pc ls (.int i :: .ref k :: st) h n n1 Q := by
  intro p l e s m args below meth c g n0 Z H locs lsc Rm C hR hP hS hn hl hq
  have K := kk p l e s m args below meth c g n0 Z H locs lsc Rm C hR hP hS hn hl hq
  obtain ⟨hx, hb, -, -, hown, hts, -, -, -, hSt⟩ := C
  have hlt : i.toNatClampNeg < N := Nat.not_le.mp fun q => hi (Or.inr q)
  exact W.zald (v := .int (h.1 k i.toNatClampNeg)) hx hb (hP.arr hk hs) ((am_t5_at hSt (Or.inr (Or.inr (Or.inl rfl)))).1 N _) (fun q => by cases q) (by rw [arrV_size]; exact hi) (by rw [arrV_read _ _ hlt]; rfl) rfl rfl hd K
theorem am_lald {k N : Nat} {i : Int32} (hd : decode M.2.1 pc = .ok (.laload, 1)) (hs : am_s k = .inl (.long, N)) (hk : k < n) (hi : vp_in i N) (kk : am_R E M (pc + 1) ls (.long (h.2.1 k i.toNatClampNeg) :: st) h n n1 Q) : am_R E M pc ls (.int i :: .ref k :: st) h n n1 Q := by
  intro p l e s m args below meth c g n0 Z H locs lsc Rm C hR hP hS hn hl hq
  have K := kk p l e s m args below meth c g n0 Z H locs lsc Rm C hR hP hS hn hl hq
  obtain ⟨hx, hb, -, -, hown, hts, -, -, -, hSt⟩ := C
  have hlt : i.toNatClampNeg < N := Nat.not_le.mp fun q => hi (Or.inr q)
  exact W.lald (v := .long (h.2.1 k i.toNatClampNeg)) hx hb (hP.arr hk hs) ((am_t5_at hSt (Or.inr (Or.inl rfl))).1 N _) (fun q => by cases q) (by rw [arrV_size]; exact hi) (by rw [arrV_read _ _ hlt]; rfl) rfl rfl hd K
theorem am_aald {k N r : Nat} {C0 : String} {i : Int32} (hd : decode M.2.1 pc = .ok (.aaload, 1)) (hs : am_s k = .inl (.object C0, N)) (h5 : am_t5 (.object C0)) (hk : k < n) (hi : vp_in i N) (hr : h.2.2 k i.toNatClampNeg = some r) (kk : am_R E M (pc + 1) ls (.ref r :: st) h n n1 Q) : am_R E M pc ls (.int i :: .ref k :: st) h n n1 Q := by
  intro p l e s m args below meth c g n0 Z H locs lsc Rm C hR hP hS hn hl hq
  have K := kk p l e s m args below meth c g n0 Z H locs lsc Rm C hR hP hS hn hl hq
  obtain ⟨hx, hb, -, -, hown, hts, -, -, -, hSt⟩ := C
  have hlt : i.toNatClampNeg < N := Nat.not_le.mp fun q => hi (Or.inr q)
  exact W.aald (v := .ref (am_a g r)) (ty := .object C0) hx hb (hP.arr hk hs) ((am_t5_at hSt h5).1 N _) rfl (fun q => by cases q) (by rw [arrV_size]; exact hi) (by rw [arrV_read _ _ hlt]; show some (va_rf ((h.2.2 k i.toNatClampNeg).map (am_a g))) = _; rw [hr]; rfl) rfl rfl hd K
theorem am_alen {k N : Nat} {ty : FieldType} (hd : decode M.2.1 pc = .ok (.arraylength, 1)) (hs : am_s k = .inl (ty, N)) (h5 : am_t5 ty) (hk : k < n) (kk : am_R E M (pc + 1) ls (.int (Int32.ofNat N) :: st) h n n1 Q) : am_R E M pc ls (.ref k :: st) h n n1 Q := by
  intro p l e s m args below meth c g n0 Z H locs lsc Rm C hR hP hS hn hl hq
  have K := kk p l e s m args below meth c g n0 Z H locs lsc Rm C hR hP hS hn hl hq
  obtain ⟨hx, hb, -, -, hown, hts, -, -, -, hSt⟩ := C
  exact W.alen (n := Int32.ofNat N) hx hb (hP.arr hk hs) ((am_t5_at hSt h5).1 N _) (by rw [arrV_size]) rfl rfl hd K
/-- behind a store into an array -/
theorem am_astW {k N j : Nat} {ty : FieldType} {v : Value} {h' : am_H} {p : Program} {l : Launch} {e : Env} {s : State} {m : MethodId} {args : Array Value} {below : List Frame} {meth : Method} {c : Code} {g : am_G} {n0 : Nat} {Z : State → Prop} {H : Heap} {locs : List Loc} {lsc : Array Slot} {Rm : Room} (hs : am_s k = .inl (ty, N)) (hk : k < n) (hsame : ∀ i, i ≠ k → h'.1 i = h.1 i ∧ h'.2.1 i = h.2.1 i ∧ h'.2.2 i = h.2.2 i) (hnew : ∀ i, am_f g h' k ty i = if i = j then v else am_f g h k ty i)
    (C : am_C E M p s m args meth c g Rm) (hR : n1 - n0 ≤ Rm.cells ∧ am_cs n1 - am_cs n0 ≤ Rm.slots) (hP : am_P g h n H) (hS : va_S (am_A g) s.heap H locs) (hn : n0 ≤ n ∧ n ≤ n1) (hl : am_L g lsc M.2.2.1 ls)
    (hq : ∀ (pc' : Nat) (r : Option Value) (h' : am_H) (H' : Heap) (locs' : List Loc) (lsc' : Array Slot), Q r h' → am_P g h' n1 H' → va_S (am_A g) s.heap H' locs' → am_K M pc' r → W p l e Rm s m args below meth c H' locs' (n1 - n0) (am_cs n1 - am_cs n0) Z (F0 m pc' lsc' (r.toList.map (am_v g))))
    (kk : am_R E M (pc + 1) ls st h' n n1 Q) : ∀ H' : Heap, H'[am_a g k]? = some ((arrV (g.2.2.1 ty) N (fun j => am_f g h k ty j)).setSlot j v) → H'.size = H.size → (∀ q, q ≠ am_a g k → H'[q]? = H[q]?) → W p l e Rm s m args below meth c H' (locs ++ [⟨am_a g k, j⟩]) (n - n0) (am_cs n - am_cs n0) Z (F0 m (pc + 1) lsc (st.map (am_v g))) := by
  intro H' e1 e2 e3
  refine kk p l e s m args below meth c g n0 Z H' _ lsc Rm C hR (hP.put hk e2 e3 hsame ?_) (hS.put e2 e3 (by rw [hP.a hk]; exact Nat.le_add_right _ _)) hn hl hq
  unfold am_at
  rw [hs]
  show H'[g.1 + k]? = _
  rw [← hP.a hk, e1, arrV_store]
  congr 2
  funext i
  rw [hnew i]
  rfl
theorem am_iast {k N : Nat} {i x : Int32} (hd : decode M.2.1 pc = .ok (.iastore, 1)) (hs : am_s k = .inl (.int, N)) (hk : k < n) (hi : vp_in i N) (kk : am_R E M (pc + 1) ls st (am_sI h k i.toNatClampNeg x) n n1 Q) : am_R E M pc ls (.int x :: .int i :: .ref k :: st) h n n1 Q := by
  intro p l e s m args below meth c g n0 Z H locs lsc Rm C hR hP hS hn hl hq
  have C0 := C
  obtain ⟨hx, hb, -, -, hown, hts, -, -, -, hSt⟩ := C
  exact W.iast hx hb (hP.arr hk hs) ((am_t5_at hSt (Or.inl rfl)).1 N _) (fun q => by cases q) (by rw [arrV_size]; exact hi) rfl rfl hd (am_astW hs hk (fun i e => am_sR_ne i e) (fun i => am_f_sR (ty := .int) (Or.inl rfl) _ i (fun _ => rfl)) C0 hR hP hS hn hl hq kk)
theorem am_zast {k N : Nat} {i x : Int32} (hd : decode M.2.1 pc = .ok (.bastore, 1)) (hs : am_s k = .inl (.boolean, N)) (hk : k < n) (hi : vp_in i N) (hx : x = 0 ∨ x = 1) (kk : am_R E M (pc + 1) ls st (am_sI h k i.toNatClampNeg x) n n1 Q) : am_R E M pc ls (.int x :: .int i :: .ref k :: st) h n n1 Q := by
  intro p l e s m args below meth c g n0 Z H locs lsc Rm C hR hP hS hn hl hq
  have C0 := C
  obtain ⟨hx', hb, -, -, hown, hts, -, -, -, hSt⟩ := C
  have hnx : narrow .boolean (.int x) = .int x := by rcases hx with rfl | rfl <;> rfl
  exact W.zast hx' hb (hP.arr hk hs) ((am_t5_at hSt (Or.inr (Or.inr (Or.inl rfl)))).1 N _) (fun q => by cases q) (by rw [arrV_size]; exact hi) rfl rfl hd (by rw [hnx]; exact am_astW hs hk (fun i e => am_sR_ne i e) (fun i => am_f_sR (ty := .boolean) (Or.inr rfl) _ i (fun _ => rfl)) C0 hR hP hS hn hl hq kk)
theorem am_last {k N : Nat} {i : Int32} {x : Int64} (hd : decode M.2.1 pc = .ok (.lastore, 1)) (hs : am_s k = .inl (.long, N)) (hk : k < n) (hi : vp_in i N) (kk : am_R E M (pc + 1) ls st (am_sJ h k i.toNatClampNeg x) n n1 Q) : am_R E M pc ls (.long x :: .int i :: .ref k :: st) h n n1 Q := by
  intro p l e s m args below meth c g n0 Z H locs lsc Rm C hR hP hS hn hl hq
  have C0 := C
  obtain ⟨hx, hb, -, -, hown, hts, -, -, -, hSt⟩ := C
  exact W.last hx hb (hP.arr hk hs) ((am_t5_at hSt (Or.inr (Or.inl rfl))).1 N _) (fun q => by cases q) (by rw [arrV_size]; exact hi) rfl rfl hd (am_astW hs hk (fun i e => am_sJ_ne i e) (fun i => am_f_sJ _ i (fun _ => rfl)) C0 hR hP hS hn hl hq kk)
theorem am_aast {k N r ci : Nat} {i : Int32} (hd : decode M.2.1 pc = .ok (.aastore, 1)) (hci : ci < 9) (hs : am_s k = .inl (.object (am_cn ci), N)) (h5 : am_t5 (.object (am_cn ci))) (hk : k < n) (hr : am_s r = .inr ci) (hrk : r < n) (hi : vp_in i N) (kk : am_R E M (pc + 1) ls st (am_sA h k i.toNatClampNeg (some r)) n n1 Q) : am_R E M pc ls (.ref r :: .int i :: .ref k :: st) h n n1 Q := by
  intro p l e s m args below meth c g n0 Z H locs lsc Rm C hR hP hS hn hl hq
  have C0 := C
  obtain ⟨hx, hb, -, -, hown, hts, -, -, -, hSt⟩ := C
  have hlt : i.toNatClampNeg < N := Nat.not_le.mp fun q => hi (Or.inr q)
  have h0 : ¬ i < 0 := fun q => hi (Or.inl q)
  obtain ⟨cellV, g1, g2, g3, -⟩ := hP.obj hrk hr
  have hcls := (hSt.1.1 ci _ (am_cl hci)).2
  obtain ⟨kA, comp, k1, k2, k3, -⟩ := (am_t5_at hSt h5).2
  have hcomp : comp = g.2.2.2.1 ci := Option.some.inj (k3.symm.trans hcls.1)
  subst hcomp
  obtain ⟨kC, hkC, -⟩ := hcls.2
  exact W.aast hx hb (hP.arr hk hs) (fun q h => by cases h) (fun h => by cases h) k1 k2 rfl hkC ⟨h0, by rw [arrV_size]; exact hlt⟩ g1 (fun q h => by rw [g3] at h; cases h) (by rw [g2]; exact hkC) (by rw [g2]; exact va_assign hcls) rfl rfl hd (am_astW hs hk (fun i e => am_sA_ne i e) (fun i => am_f_sA (ty := .object (am_cn ci)) (Or.inl ⟨_, rfl⟩) _ i (fun _ => rfl)) C0 hR hP hS hn hl hq kk)
end AM2
end
section
/-! ===== old cells, new cells, calls ===== -/
section AM3
variable {E : Nat × (Nat → Int32)} {M : am_M} {pc : Nat} {ls : List (Option Value)} {st : List Value} {h : am_H} {n n1 : Nat} {Q : Option Value → am_H → Prop}
/-- FACTORIALS and OVER, read in their own class and in nest mates -/
theorem am_gsF {idx : Nat} (hd : decode M.2.1 pc = .ok (.getstatic idx, 3)) (hf : Cond.fieldLink M.1.cls idx RX9 "FACTORIALS" "[I" ∈ am_TB) (kk : am_R E M (pc + 3) ls (.ref 1001 :: st) h n n1 Q) : am_R E M pc ls st h n n1 Q := by
  intro p l e s m args below meth c g n0 Z H locs lsc Rm C hR hP hS hn hl hq
  have K := kk p l e s m args below meth c g n0 Z H locs lsc Rm C hR hP hS hn hl hq
  obtain ⟨hx, hb, -, -, hown, hts, -, -, -, hSt⟩ := C
  exact va_gets hx hb hSt.2.2.1.1 hS hown (hts _ hf) (fun _ h => h) hd K
theorem am_gsFN {idx : Nat} (hd : decode M.2.1 pc = .ok (.getstatic idx, 3)) (hf : Cond.fieldLinkNest M.1.cls idx RX9 "FACTORIALS" "[I" RX9 ∈ am_nw) (kk : am_R E M (pc + 3) ls (.ref 1001 :: st) h n n1 Q) : am_R E M pc ls st h n n1 Q := by
  intro p l e s m args below meth c g n0 Z H locs lsc Rm C hR hP hS hn hl hq
  have K := kk p l e s m args below meth c g n0 Z H locs lsc Rm C hR hP hS hn hl hq
  obtain ⟨hx, hb, -, -, hown, hts, -, -, -, hSt⟩ := C
  exact va_getsN hx hb hSt.2.2.1.1 hS hown (va_Nw.use rfl (hSt.2.2.2.2.2.2.2.2 _ hf)) (fun _ h => h) hd K
theorem am_gsON {idx : Nat} (hd : decode M.2.1 pc = .ok (.getstatic idx, 3)) (hf : Cond.fieldLinkNest M.1.cls idx RX9 "OVER" "[I" RX9 ∈ am_nw) (kk : am_R E M (pc + 3) ls (.ref 1000 :: st) h n n1 Q) : am_R E M pc ls st h n n1 Q := by
  intro p l e s m args below meth c g n0 Z H locs lsc Rm C hR hP hS hn hl hq
  have K := kk p l e s m args below meth c g n0 Z H locs lsc Rm C hR hP hS hn hl hq
  obtain ⟨hx, hb, -, -, hown, hts, -, -, -, hSt⟩ := C
  exact va_getsN hx hb hSt.2.1.1 hS hown (va_Nw.use rfl (hSt.2.2.2.2.2.2.2.2 _ hf)) (fun _ h => h) hd K
theorem am_gsC {idx : Nat} (hd : decode M.2.1 pc = .ok (.getstatic idx, 3)) (hf : Cond.fieldLink M.1.cls idx RJ0 "COMPACT_STRINGS" "Z" ∈ am_TB) (kk : am_R E M (pc + 3) ls (.int 1 :: st) h n n1 Q) : am_R E M pc ls st h n n1 Q := by
  intro p l e s m args below meth c g n0 Z H locs lsc Rm C hR hP hS hn hl hq
  have K := kk p l e s m args below meth c g n0 Z H locs lsc Rm C hR hP hS hn hl hq
  obtain ⟨hx, hb, -, -, hown, hts, -, -, -, hSt⟩ := C
  exact va_gets hx hb hSt.2.2.2.2.1.1 hS hown (hts _ hf) (fun _ h => h) hd K
theorem am_gsB {idx : Nat} (hd : decode M.2.1 pc = .ok (.getstatic idx, 3)) (hf : Cond.fieldLink M.1.cls idx RJ3 "SIOOBE_FORMATTER" "Ljava/util/function/BiFunction;" ∈ am_TB) (kn : am_R E M (pc + 3) ls (.null :: st) h n n1 Q) (kk : am_R E M (pc + 3) ls (.ref 1003 :: st) h n n1 Q) : am_R E M pc ls st h n n1 Q := by
  intro p l e s m args below meth c g n0 Z H locs lsc Rm C hR hP hS hn hl hq
  have K1 := kn p l e s m args below meth c g n0 Z H locs lsc Rm C hR hP hS hn hl hq
  have K2 := kk p l e s m args below meth c g n0 Z H locs lsc Rm C hR hP hS hn hl hq
  obtain ⟨hx, hb, -, -, hown, hts, -, -, -, hSt⟩ := C
  rcases hSt.2.2.2.2.1.2 with hz | hz
  · exact va_gets hx hb hz hS hown (hts _ hf) (fun _ h => h) hd K1
  · exact va_gets hx hb hz hS hown (hts _ hf) (fun _ h => h) hd K2
theorem am_ildF {i : Int32} (hd : decode M.2.1 pc = .ok (.iaload, 1)) (hi : vp_in i 8) (kk : am_R E M (pc + 1) ls (.int (am_fa i.toNatClampNeg) :: st) h n n1 Q) : am_R E M pc ls (.int i :: .ref 1001 :: st) h n n1 Q := by
  intro p l e s m args below meth c g n0 Z H locs lsc Rm C hR hP hS hn hl hq
  have K := kk p l e s m args below meth c g n0 Z H locs lsc Rm C hR hP hS hn hl hq
  obtain ⟨hx, hb, -, -, hown, hts, -, -, -, hSt⟩ := C
  exact va_ti hx hb hSt.2.2.1.2 hS hi rfl hd K
theorem am_ildO {i : Int32} (hd : decode M.2.1 pc = .ok (.iaload, 1)) (hi : vp_in i 5) (kk : am_R E M (pc + 1) ls (.int (am_ov i.toNatClampNeg) :: st) h n n1 Q) : am_R E M pc ls (.int i :: .ref 1000 :: st) h n n1 Q := by
  intro p l e s m args below meth c g n0 Z H locs lsc Rm C hR hP hS hn hl hq
  have K := kk p l e s m args below meth c g n0 Z H locs lsc Rm C hR hP hS hn hl hq
  obtain ⟨hx, hb, -, -, hown, hts, -, -, -, hSt⟩ := C
  exact va_ti hx hb hSt.2.1.2 hS hi rfl hd K
theorem am_ildX {i : Int32} (hd : decode M.2.1 pc = .ok (.iaload, 1)) (hi : vp_in i E.1) (kk : am_R E M (pc + 1) ls (.int (E.2 i.toNatClampNeg) :: st) h n n1 Q) : am_R E M pc ls (.int i :: .ref 1002 :: st) h n n1 Q := by
  intro p l e s m args below meth c g n0 Z H locs lsc Rm C hR hP hS hn hl hq
  have K := kk p l e s m args below meth c g n0 Z H locs lsc Rm C hR hP hS hn hl hq
  obtain ⟨hx, hb, -, -, hown, hts, -, -, -, hSt⟩ := C
  exact va_ti hx hb hSt.2.2.2.1 hS hi rfl hd K
theorem am_lenX (hd : decode M.2.1 pc = .ok (.arraylength, 1)) (kk : am_R E M (pc + 1) ls (.int (Int32.ofNat E.1) :: st) h n n1 Q) : am_R E M pc ls (.ref 1002 :: st) h n n1 Q := by
  intro p l e s m args below meth c g n0 Z H locs lsc Rm C hR hP hS hn hl hq
  have K := kk p l e s m args below meth c g n0 Z H locs lsc Rm C hR hP hS hn hl hq
  obtain ⟨hx, hb, -, -, hown, hts, -, -, -, hSt⟩ := C
  exact va_tlen hx hb hSt.2.2.2.1 hS rfl hd K
/-- the words of the text -/
theorem am_a10 {g : am_G} (i : Nat) : am_a g (1010 + i) = g.2.1 (1010 + i) := if_neg (by omega)
theorem am_a20 {g : am_G} (i : Nat) : am_a g (1020 + i) = g.2.1 (1020 + i) := if_neg (by omega)
theorem am_ldcS {idx i k : Nat} (hd : decode M.2.1 pc = .ok (.ldc idx, 2)) (ho : M.1.cls = RX6) (hi : i < 9) (hx : am_si i = idx) (hk : 1010 + i = k) (kk : am_R E M (pc + 2) ls (.ref k :: st) h n n1 Q) : am_R E M pc ls st h n n1 Q := by
  intro p l e s m args below meth c g n0 Z H locs lsc Rm C hR hP hS hn hl hq
  have K := kk p l e s m args below meth c g n0 Z H locs lsc Rm C hR hP hS hn hl hq
  obtain ⟨hx', hb, -, -, hown, hts, -, -, -, hSt⟩ := C
  subst hk; subst hx
  rw [ho] at hown
  have K : W p l e Rm s m args below meth c H locs (n - n0) (am_cs n - am_cs n0) Z (F0 m (pc + 2) lsc (.ref (am_a g (1010 + i)) :: st.map (am_v g))) := K
  rw [am_a10] at K
  exact va_ldcS hx' hb hown (hSt.2.2.2.2.2.2.1 i hi) hd K
theorem am_strV {idx i k : Nat} (hd : decode M.2.1 pc = .ok (.getfield idx, 3)) (hf : Cond.fieldLink M.1.cls idx RJ0 "value" "[B" ∈ am_TB) (hi : i < 9) (hk : 1010 + i = k) (kk : am_R E M (pc + 3) ls (.ref (1020 + i) :: st) h n n1 Q) : am_R E M pc ls (.ref k :: st) h n n1 Q := by
  intro p l e s m args below meth c g n0 Z H locs lsc Rm C hR hP hS hn hl hq
  have K := kk p l e s m args below meth c g n0 Z H locs lsc Rm C hR hP hS hn hl hq
  obtain ⟨hx', hb, -, -, hown, hts, -, -, -, hSt⟩ := C
  subst hk
  have K : W p l e Rm s m args below meth c H locs (n - n0) (am_cs n - am_cs n0) Z (F0 m (pc + 3) lsc (.ref (am_a g (1020 + i)) :: st.map (am_v g))) := K
  show W p l e Rm s m args below meth c H locs (n - n0) (am_cs n - am_cs n0) Z (F0 m pc lsc (.ref (am_a g (1010 + i)) :: st.map (am_v g)))
  rw [am_a20] at K
  rw [am_a10]
  exact vk_getf hx' hb (hSt.2.2.2.2.2.1.1 i hi).2.2.1 hS hown (hts _ hf) (fun _ h => h) hd K
theorem am_strC {idx i k : Nat} (hd : decode M.2.1 pc = .ok (.getfield idx, 3)) (hf : Cond.fieldLink M.1.cls idx RJ0 "coder" "B" ∈ am_TB) (hi : i < 9) (hk : 1010 + i = k) (kk : am_R E M (pc + 3) ls (.int 0 :: st) h n n1 Q) : am_R E M pc ls (.ref k :: st) h n n1 Q := by
  intro p l e s m args below meth c g n0 Z H locs lsc Rm C hR hP hS hn hl hq
  have K := kk p l e s m args below meth c g n0 Z H locs lsc Rm C hR hP hS hn hl hq
  obtain ⟨hx', hb, -, -, hown, hts, -, -, -, hSt⟩ := C
  subst hk
  show W p l e Rm s m args below meth c H locs (n - n0) (am_cs n - am_cs n0) Z (F0 m pc lsc (.ref (am_a g (1010 + i)) :: st.map (am_v g)))
  rw [am_a10]
  exact vk_getf hx' hb (hSt.2.2.2.2.2.1.1 i hi).2.1 hS hown (hts _ hf) (fun _ h => h) hd K
theorem am_strL {i k : Nat} (hd : decode M.2.1 pc = .ok (.arraylength, 1)) (hi : i < 9) (hk : 1020 + i = k) (kk : am_R E M (pc + 1) ls (.int (Int32.ofNat (am_sn.getD i 0)) :: st) h n n1 Q) : am_R E M pc ls (.ref k :: st) h n n1 Q := by
  intro p l e s m args below meth c g n0 Z H locs lsc Rm C hR hP hS hn hl hq
  have K := kk p l e s m args below meth c g n0 Z H locs lsc Rm C hR hP hS hn hl hq
  obtain ⟨hx', hb, -, -, hown, hts, -, -, -, hSt⟩ := C
  subst hk
  show W p l e Rm s m args below meth c H locs (n - n0) (am_cs n - am_cs n0) Z (F0 m pc lsc (.ref (am_a g (1020 + i)) :: st.map (am_v g)))
  rw [am_a20]
  exact va_tlen hx' hb (hSt.2.2.2.2.2.1.1 i hi).2.2.2 hS rfl hd K
theorem am_strB {i k : Nat} {x : Int32} (hd : decode M.2.1 pc = .ok (.baload, 1)) (hi : i < 9) (hk : 1020 + i = k) (hin : vp_in x (am_sn.getD i 0)) (kk : am_R E M (pc + 1) ls (.int ((am_sb.getD i []).getD x.toNatClampNeg 0) :: st) h n n1 Q) : am_R E M pc ls (.int x :: .ref k :: st) h n n1 Q := by
  intro p l e s m args below meth c g n0 Z H locs lsc Rm C hR hP hS hn hl hq
  have K := kk p l e s m args below meth c g n0 Z H locs lsc Rm C hR hP hS hn hl hq
  obtain ⟨hx', hb, -, -, hown, hts, -, -, -, hSt⟩ := C
  subst hk
  show W p l e Rm s m args below meth c H locs (n - n0) (am_cs n - am_cs n0) Z (F0 m pc lsc (.int x :: .ref (am_a g (1020 + i)) :: st.map (am_v g)))
  rw [am_a20]
  exact va_tb hx' hb (hSt.2.2.2.2.2.1.1 i hi).2.2.2 hS hin rfl hd K
/-! new cells -/
theorem am_room {n0 : Nat} {Rm : Room} (hR : n1 - n0 ≤ Rm.cells ∧ am_cs n1 - am_cs n0 ≤ Rm.slots) (hn : n0 ≤ n ∧ n ≤ n1) (h1 : n + 1 ≤ n1) : (n - n0) + 1 ≤ Rm.cells ∧ (am_cs n - am_cs n0) + am_z n ≤ Rm.slots ∧ (n - n0) + 1 = n + 1 - n0 ∧ (am_cs n - am_cs n0) + am_z n = am_cs (n + 1) - am_cs n0 := by
  have e1 : am_cs (n + 1) = am_cs n + am_z n := rfl
  have e2 := am_cs_mono h1
  have e3 := am_cs_mono hn.1
  omega
theorem am_new {idx ci : Nat} (hd : decode M.2.1 pc = .ok (.new idx, 3)) (hci : ci < 9) (hs : am_s n = .inr ci) (hc1 : Cond.classLink M.1.cls idx (am_cn ci) ∈ am_TB) (hc2 : Cond.instantiable (am_cn ci) (am_nf ci) ∈ am_TB) (hc3 : Cond.initialized (am_cn ci) ∈ am_TB) (hb1 : n + 1 ≤ n1) (h64 : n + 1 ≤ 64) (kk : am_R E M (pc + 3) ls (.ref n :: st) (am_s0 h n) (n + 1) n1 Q) : am_R E M pc ls st h n n1 Q := by
  intro p l e s m args below meth c g n0 Z H locs lsc Rm C hR hP hS hn hl hq
  have C0 := C
  obtain ⟨hx, hb, -, -, hown, hts, -, -, -, hSt⟩ := C
  obtain ⟨r1, r2, r3, r4⟩ := am_room hR hn hb1
  have hz : am_z n = am_nf ci := by unfold am_z; rw [hs]
  have hKn := hSt.1.1 ci _ (am_cl hci)
  refine W.newcK hx hb hown (hts _ hc1) (hts _ hc2) (hts _ hc3) rfl hd r1 (by rw [← hz]; exact r2) hKn.2.1 (h := am_a g n) (by rw [am_a_lt (by omega), hP.1]) fun H1 kC hkC e1 z1 o1 => ?_
  have ea : am_a g n = H.size := by rw [am_a_lt (by omega), hP.1]
  have hP1 : am_P g (am_s0 h n) (n + 1) H1 := by
    refine hP.push h64 (by rw [z1, ea]) (fun q hq => o1 q (by rw [ea]; exact hq)) (fun j hj => am_s0_ne j (by omega)) ?_
    unfold am_at
    rw [hs]
    show t_OB _ _ _ _ _ _
    rw [← am_a_lt (by omega)]
    refine (u_born (am_ft ci) hts (am_in hci) hKn hkC e1 (am_ty hci)).to (fun j hj => ?_)
    unfold am_f
    cases hty : am_ft ci j with
    | float => rcases (show ci = 0 ∨ ci = 1 ∨ ci = 2 ∨ ci = 3 ∨ ci = 4 ∨ ci = 5 ∨ ci = 6 ∨ ci = 7 ∨ ci = 8 by omega) with rfl | rfl | rfl | rfl | rfl | rfl | rfl | rfl | rfl <;> exact absurd hty ((by decide +kernel : ∀ j, j < 29 → ∀ c, c < 9 → am_ft c j ≠ .float) j (by simp only [am_nf] at hj; omega) _ (by omega))
    | double => rcases (show ci = 0 ∨ ci = 1 ∨ ci = 2 ∨ ci = 3 ∨ ci = 4 ∨ ci = 5 ∨ ci = 6 ∨ ci = 7 ∨ ci = 8 by omega) with rfl | rfl | rfl | rfl | rfl | rfl | rfl | rfl | rfl <;> exact absurd hty ((by decide +kernel : ∀ j, j < 29 → ∀ c, c < 9 → am_ft c j ≠ .double) j (by simp only [am_nf] at hj; omega) _ (by omega))
    | _ => simp [am_s0, defaultValue, va_rf]
  have K := kk p l e s m args below meth c g n0 Z H1 locs lsc Rm C0 hR hP1 ⟨Nat.le_trans hS.1 (by rw [z1, ea]; omega), fun x h1 h2 => (o1 x (by rw [ea]; exact Nat.lt_of_lt_of_le h1 hS.1)).trans (hS.2.1 x h1 h2), hS.2.2⟩ ⟨by omega, hb1⟩ hl hq
  rw [r3, ← hz, r4]
  exact K
theorem am_newa {x : Int32} {N : Nat} {atype : ArrayType} {ty : FieldType} (hd : decode M.2.1 pc = .ok (.newarray atype, 2)) (hty : newarray.typeOf atype = ty) (h5 : ty = .int ∨ ty = .long ∨ ty = .boolean) (hs : am_s n = .inl (ty, N)) (hc : Cond.arrayClass ty ∈ am_TB) (hx0 : ¬ x < 0) (hxN : x.toNatClampNeg = N) (hN : N ≤ 6000) (hb1 : n + 1 ≤ n1) (h64 : n + 1 ≤ 64) (kk : am_R E M (pc + 2) ls (.ref n :: st) (am_s0 h n) (n + 1) n1 Q) : am_R E M pc ls (.int x :: st) h n n1 Q := by
  intro p l e s m args below meth c g n0 Z H locs lsc Rm C hR hP hS hn hl hq
  have C0 := C
  obtain ⟨hx, hb, -, -, hown, hts, -, -, -, hSt⟩ := C
  obtain ⟨r1, r2, r3, r4⟩ := am_room hR hn hb1
  have hz : am_z n = N := by unfold am_z; rw [hs]
  have ea : am_a g n = H.size := by rw [am_a_lt (by omega), hP.1]
  subst hty
  have h5' : am_t5 (newarray.typeOf atype) := by rcases h5 with q | q | q <;> rw [q] <;> simp [am_t5]
  refine va_newaK hx hb (hts _ hc) rfl hd rfl hx0 hxN (by rcases h5 with q | q | q <;> rw [q] <;> simp [componentBytes] <;> omega) r1 (by rw [← hz]; exact r2) (h := am_a g n) ea.symm fun H1 cA e1 z1 o1 hAr hNm => ?_
  have hcA : cA = g.2.2.1 (newarray.typeOf atype) := by
    have h2 := (am_t5_at hSt h5').2
    have h3 : s.vm.findClass ("[" ++ (newarray.typeOf atype).toString) = some (g.2.2.1 (newarray.typeOf atype)) := by
      cases atype <;> exact h2
    exact Option.some.inj (hNm.symm.trans h3)
  have hP1 : am_P g (am_s0 h n) (n + 1) H1 := by
    refine hP.push h64 (by rw [z1, ea]) (fun q hq => o1 q (by rw [ea]; exact hq)) (fun j hj => am_s0_ne j (by omega)) ?_
    unfold am_at
    rw [hs]
    show H1[g.1 + n]? = _
    rw [← am_a_lt (by omega), e1, hcA]
    congr 2
    funext j
    rcases h5 with q | q | q <;> rw [q] <;> simp [am_s0, am_f, defaultValue]
  have K := kk p l e s m args below meth c g n0 Z H1 locs lsc Rm C0 hR hP1 ⟨Nat.le_trans hS.1 (by rw [z1, ea]; omega), fun x h1 h2 => (o1 x (by rw [ea]; exact Nat.lt_of_lt_of_le h1 hS.1)).trans (hS.2.1 x h1 h2), hS.2.2⟩ ⟨by omega, hb1⟩ hl hq
  rw [r3, ← hz, r4]
  exact K
theorem am_anew {x : Int32} {N idx : Nat} {C0 : String} (hd : decode M.2.1 pc = .ok (.anewarray idx, 3)) (h5 : C0 = RX1 ∨ C0 = RX8) (hs : am_s n = .inl (.object C0, N)) (hc : Cond.classLink M.1.cls idx C0 ∈ am_TB) (hx0 : ¬ x < 0) (hxN : x.toNatClampNeg = N) (hN : N ≤ 6000) (hb1 : n + 1 ≤ n1) (h64 : n + 1 ≤ 64) (kk : am_R E M (pc + 3) ls (.ref n :: st) (am_s0 h n) (n + 1) n1 Q) : am_R E M pc ls (.int x :: st) h n n1 Q := by
  intro p l e s m args below meth c g n0 Z H locs lsc Rm C hR hP hS hn hl hq
  have C1 := C
  obtain ⟨hx, hb, -, -, hown, hts, -, -, -, hSt⟩ := C
  obtain ⟨r1, r2, r3, r4⟩ := am_room hR hn hb1
  have hz : am_z n = N := by unfold am_z; rw [hs]
  have ea : am_a g n = H.size := by rw [am_a_lt (by omega), hP.1]
  have h5' : am_t5 (.object C0) := by rcases h5 with q | q <;> rw [q] <;> simp [am_t5]
  have hover : va_AO C0 s := by rcases h5 with q | q <;> rw [q]; exact hSt.2.2.2.2.2.2.2.1.1; exact hSt.2.2.2.2.2.2.2.1.2
  subst hxN
  refine W.anew hx hb hown (hts _ hc) (va_AO.use hover) rfl hd rfl hx0 (by omega) r1 (by rw [← hz]; exact r2) fun cA kA comp f1 f2 f3 f4 => ?_
  generalize hH1 : H.push ({ cls := cA, slots := Array.replicate x.toNatClampNeg .null, vm := .none } : Cell) = H1
  have z1 : H1.size = H.size + 1 := by rw [← hH1, Array.size_push]
  have e1 : H1[H.size]? = some (arrV cA x.toNatClampNeg (fun _ => .null)) := by rw [← hH1, Array.getElem?_push_size, ← arrV_new]
  have o1 : ∀ q : Nat, q < H.size → H1[q]? = H[q]? := fun q hq => by rw [← hH1, Array.getElem?_push, if_neg (Nat.ne_of_lt hq)]
  have hcA : cA = g.2.2.1 (.object C0) := by
    obtain ⟨_, _, _, _, _, h3⟩ := (am_t5_at hSt h5').2
    exact Option.some.inj (f1.symm.trans h3)
  have hP1 : am_P g (am_s0 h n) (n + 1) H1 := by
    refine hP.push h64 z1 o1 (fun j hj => am_s0_ne j (by omega)) ?_
    unfold am_at
    rw [hs]
    show H1[g.1 + n]? = _
    rw [← am_a_lt (by omega), ea, e1, hcA]
    congr 2
    funext j
    simp [am_s0, am_f, va_rf]
  have K := kk p l e s m args below meth c g n0 Z H1 locs lsc Rm C1 hR hP1 ⟨Nat.le_trans hS.1 (by rw [z1]; omega), fun x h1 h2 => (o1 x (Nat.lt_of_lt_of_le h1 hS.1)).trans (hS.2.1 x h1 h2), hS.2.2⟩ ⟨by omega, hb1⟩ hl hq
  rw [← ea, r3, ← hz, r4]
  exact K
end AM3
end
section
/-! ===== calls ===== -/
def am_ws (Z : am_M) : List Cond := Cond.code Z.1 Z.2.1 Z.2.2.1 Z.2.2.2.1 :: am_TB
def am_rm (Z : am_M) (n n1 : Nat) : Room := { frames := Z.2.2.2.2.1, cells := n1 - n, slots := am_cs n1 - am_cs n, locals := Z.2.2.2.2.2 }
def am_Pc (E : Nat × (Nat → Int32)) (g : am_G) (As : List Value) (h : am_H) (n : Nat) : Array Value → State → Prop := va_Pc (As.map (am_v g)) (fun U => am_P g h n U.heap ∧ am_S E g U U.heap)
def am_Qc (g : am_G) (n1 : Nat) (Q : Option Value → am_H → Prop) : Array Value → State → Outcome → State → Prop := fun _ st o t => (∃ r h', o = .returned (r.map (am_v g)) ∧ Q r h' ∧ am_P g h' n1 t.heap) ∧ va_F (am_A g) st t
theorem am_good : ∀ w ∈ am_TB, (w.onTables && w.keeps) = true ∨ ∃ ty, w = .arrayClass ty := fun w hw => good_of_word (List.mem_filter.mp hw).2
theorem am_goodIn {Z : am_M} (hc : Cond.code Z.1 Z.2.1 Z.2.2.1 Z.2.2.2.1 ∈ am_TB) : GoodIn am_TB (am_ws Z) := fun w hw => by
  rcases List.mem_cons.mp hw with e | e
  · rw [e]; exact ⟨hc, am_good _ hc⟩
  · exact ⟨e, am_good _ e⟩
/-- what the tables say of a method -/
def am_mC (Z : am_M) (np : Nat) : Prop := plainName Z.1.cls = true ∧ Cond.code Z.1 Z.2.1 Z.2.2.1 Z.2.2.2.1 ∈ am_TB ∧ (Z.1.cls ≠ "java/lang/invoke/MethodHandle" ∧ Z.1.cls ≠ "java/lang/invoke/VarHandle" ∧ (parseMethodDescriptor Z.1.desc).map (fun d => d.parameters.length) = some np) ∧ Cond.initialized Z.1.cls ∈ am_TB
def am_mS (Z : am_M) (np : Nat) : Prop := am_mC Z np ∧ Cond.static Z.1 ∈ am_TB
def am_mV (Z : am_M) (np : Nat) : Prop := am_mC Z np ∧ Cond.instanceMethod Z.1 ∈ am_TB ∧ Cond.selects Z.1.cls Z.1 Z.1 ∈ am_TB
def am_mI (Z : am_M) (np : Nat) : Prop := am_mC Z np ∧ Cond.instanceMethod Z.1 ∈ am_TB ∧ Z.1.name = "<init>" ∧ Z.2.2.2.1 = none
/-- the callee's frames and locals fit below the caller's -/
def am_fit (M Z : am_M) : Prop := Z.2.2.2.2.1 + 1 ≤ M.2.2.2.2.1 ∧ 8 + (Z.2.2.1 + 11) + Z.2.2.2.2.2 ≤ M.2.2.2.2.2
section AM4
variable {E : Nat × (Nat → Int32)} {M : am_M} {pc : Nat} {ls : List (Option Value)} {st : List Value} {h : am_H} {n n1 : Nat} {Q : Option Value → am_H → Prop}
theorem am_met {Z : am_M} {np : Nat} {As : List Value} {lsZ : List (Option Value)} (l : Launch) (g : am_G) (hm : am_mC Z np) (hlen : (am_e0 As).length ≤ Z.2.2.1) (hen : am_en As Z.2.2.1 = lsZ) (hn : n ≤ n1) (k : am_R E Z 0 lsZ [] h n n1 Q) :
    Met l Z.1 (am_ws Z) (am_rm Z n n1) (am_Pc E g As h n) (am_Qc g n1 Q) (n1 - n) (am_cs n1 - am_cs n) (fun q => g.1 ≤ q) := by
  refine Met.ofW (cc := Z.2.1) (maxL := Z.2.2.1) (ret := Z.2.2.2.1) hm.1 rfl ?_
  intro p e s m args below meth c s₁ B hml hv
  obtain ⟨rfl, hP, hSt⟩ := hv
  have hx := B.exec
  have hb := B.bytes
  have hr := B.returns
  have hts := atoms_spec (ws := am_ws Z) B.pre
  have hown : s.vm.findClass Z.1.cls = some m.cls := findClass_of_methodNamed B.named
  have hlocks : meth.locks = false := B.notSynchronized
  have hin : meth.name = Z.1.name := (name_of_methodNamed B.named B.method).1
  rw [lg_entry_eq]
  have hl := am_L.entry g As hlen
  rw [hen] at hl
  have K := k p l e s m (As.map (am_v g)).toArray below meth c g n (MQ below (am_Qc g n1 Q) (As.map (am_v g)).toArray s (n1 - n) (am_cs n1 - am_cs n) (fun q => g.1 ≤ q)) s.heap [] _ (headSpec (am_ws Z) (am_rm Z n n1)).room
    ⟨hx, hb, hr, hml, hown, fun w hw => hts w (List.mem_cons_of_mem _ hw), hlocks, fun q => hin.trans q, ⟨Nat.le_refl _, Nat.le_refl _⟩, hSt⟩ ⟨Nat.le_refl _, Nat.le_refl _⟩ hP va_S.rf ⟨Nat.le_refl _, hn⟩ hl ?_
  · rw [Nat.sub_self, Nat.sub_self] at K
    exact K
  · intro pc' r h' H' locs' lsc' hQ hP' hS' hK
    match r, hK, hQ with
    | none, hK, hQ => exact W.vret hx hb (hr.trans hK.2) (fun t ht hW => ⟨⟨none, h', rfl, hQ, by rw [ht]; exact hP'⟩, hS'.F ht⟩) hS'.2.2 hK.1
    | some (.int v), hK, hQ =>
      obtain ⟨h1, ty, h2, h3⟩ := hK
      exact W.zret hx hb (hr.trans h2) h3 (fun t ht hW => ⟨⟨some (.int v), h', rfl, hQ, by rw [ht]; exact hP'⟩, hS'.F ht⟩) hS'.2.2 h1
    | some (.long v), hK, hQ => exact W.lret hx hb (hr.trans hK.2) (fun t ht hW => ⟨⟨some (.long v), h', rfl, hQ, by rw [ht]; exact hP'⟩, hS'.F ht⟩) hS'.2.2 hK.1
    | some (.ref v), hK, hQ =>
      obtain ⟨h1, rt, h2, h3⟩ := hK
      exact W.aret hx hb (hr.trans h2) h3 (Or.inr ⟨_, rfl⟩) (fun t ht hW => ⟨⟨some (.ref v), h', rfl, hQ, by rw [ht]; exact hP'⟩, hS'.F ht⟩) hS'.2.2 h1
theorem am_back {p : Program} {l : Launch} {e : Env} {Rm : Room} {s : State} {m : MethodId} {args : Array Value} {below : List Frame} {meth : Method} {c : Code} {H : Heap} {locs : List Loc} {cells slots mc ms : Nat} {g : am_G} {lsc : Array Slot} {st0 rest : List Value} {a : Array Value} {Z : State → Prop}
    (hr : va_Run p l e Rm s m args below meth c H locs cells slots mc ms (F0 m pc lsc st0) rest (am_Qc g n1 Q a) (fun q => g.1 ≤ q)) (hS : va_S (am_A g) s.heap H locs)
    (kk : ∀ (r : Option Value) (h' : am_H) (H1 : Heap) (locs1 : List Loc), Q r h' → am_P g h' n1 H1 → va_S (am_A g) s.heap H1 locs1 → W p l e Rm s m args below meth c H1 locs1 (cells + mc) (slots + ms) Z (F0 m (pc + 3) lsc ((r.map (am_v g)).toList ++ rest))) : W p l e Rm s m args below meth c H locs cells slots Z (F0 m pc lsc st0) := by
  intro T hT X
  obtain ⟨v, st₀, t, T', L, h0, X', hL, e1, e2, ⟨⟨r, h', hv, hQ, hP'⟩, hz, hk⟩, stp⟩ := hr T hT X
  cases hv
  rw [h0] at hz hk
  obtain ⟨t2, a1, b1⟩ := kk r h' T'.heap (locs ++ L) hQ (by rw [e1]; exact hP') ⟨Nat.le_trans hS.1 (by rw [e1]; exact hz), fun q h1 h2 => by rw [e1, hk q (Nat.lt_of_lt_of_le h1 hS.1) h2]; exact hS.2.1 q h1 h2, fun q hq => by
      rcases List.mem_append.mp hq with h | h
      · exact hS.2.2 q h
      · exact hL q h⟩ T' rfl X'
  exact ⟨t2, stp t2 a1, b1⟩
/-- the callee's start, out of the caller's state -/
theorem am_preS {g : am_G} {s : State} {H : Heap} {locs : List Loc} {As : List Value} (hP : am_P g h n H) (hS : va_S (am_A g) s.heap H locs) (hSt : am_S E g s s.heap) : PreS s H (am_Pc E g As h n) (As.map (am_v g)) := by
  refine ⟨fun a U f mk q => ⟨q.1, q.2.1, q.2.2.calling f mk a⟩, fun U hU hW => ⟨rfl, by rw [hU]; exact hP, am_S.warm hW (by rw [hU]; exact hSt.kept hS.2.1)⟩⟩
theorem am_sum {n0 n2 : Nat} {Rm : Room} (hR : n1 - n0 ≤ Rm.cells ∧ am_cs n1 - am_cs n0 ≤ Rm.slots) (hn : n0 ≤ n ∧ n ≤ n1) (h2 : n ≤ n2 ∧ n2 ≤ n1) : ((n - n0) + (n2 - n) ≤ Rm.cells ∧ (am_cs n - am_cs n0) + (am_cs n2 - am_cs n) ≤ Rm.slots) ∧ (n - n0) + (n2 - n) = n2 - n0 ∧ (am_cs n - am_cs n0) + (am_cs n2 - am_cs n) = am_cs n2 - am_cs n0 := by
  have e1 := am_cs_mono hn.1
  have e2 := am_cs_mono h2.1
  have e3 := am_cs_mono h2.2
  omega
theorem am_catm (g : am_G) (st : List Value) : ((st.map (am_v g)).map fun v => v.category).sum = (st.map fun v => v.category).sum := by
  congr 1
  rw [List.map_map]
  exact List.map_congr_left (fun v _ => am_cat g v)
theorem am_tl (g : am_G) (r : Option Value) (st : List Value) : (r.map (am_v g)).toList ++ st.map (am_v g) = (r.toList ++ st).map (am_v g) := by cases r <;> simp
theorem am_invS {Z : am_M} {idx np n2 : Nat} {As : List Value} {lsZ : List (Option Value)} {st0 : List Value} (hd : decode M.2.1 pc = .ok (.invokestatic idx, 3)) (hm : am_mS Z np) (hk : Cond.methodLink M.1.cls idx Z.1 ∈ am_TB) (hfit : am_fit M Z) (hst : st0 = As.reverse ++ st) (hnp : As.length = np) (hlen : (am_e0 As).length ≤ Z.2.2.1) (hen : am_en As Z.2.2.1 = lsZ) (hc8 : (st.map fun v => v.category).sum ≤ 8) (h2 : n ≤ n2 ∧ n2 ≤ n1)
    (k : am_R E Z 0 lsZ [] h n n2 (fun r h' => am_R E M (pc + 3) ls (r.toList ++ st) h' n2 n1 Q)) : am_R E M pc ls st0 h n n1 Q := by
  intro p l e s m args below meth c g n0 Y H locs lsc Rm C hR hP hS hn hl hq
  have C0 := C
  obtain ⟨hx, hb, -, hml, hown, hts, -, -, hrm, hSt⟩ := C
  obtain ⟨a1, a2, a3⟩ := am_sum hR hn h2
  subst hst
  refine am_back (va_runS (Ts := am_TB) (As := As.map (am_v g)) (rest := st.map (am_v g)) ⟨hx, hb, hml, hown, hts⟩ (am_met l g hm.1 hlen hen h2.1 k) ⟨callB_of np hts (am_goodIn hm.1.2.1) rfl rfl rfl (hts _ hm.1.2.2.2) (hts _ hk) hm.1.2.2.1 ⟨Nat.le_trans hfit.1 hrm.1, Nat.le_trans hfit.2 hrm.2⟩, hts _ hm.2⟩ (am_preS hP hS hSt) rfl (by rw [List.length_map]; exact hnp) hl.1 (by simp [F0, List.map_append, List.map_reverse]) (lv_room (by rw [am_catm]; exact hc8)) hd a1) hS ?_
  intro r h' H1 locs1 hQ hP1 hS1
  rw [am_tl, a2, a3]
  exact hQ p l e s m args below meth c g n0 Y H1 locs1 lsc Rm C0 hR hP1 hS1 ⟨Nat.le_trans hn.1 h2.1, h2.2⟩ hl hq
theorem am_recv {g : am_G} {s : State} {H : Heap} {k ci : Nat} (hci : ci < 9) (hP : am_P g h n H) (hSt : am_S E g s s.heap) (hk : k < n) (hs : am_s k = .inr ci) : ∃ cellB : Cell, H[am_a g k]? = some cellB ∧ cellB.vm.isStatics = false ∧ s.vm.findClass (am_cn ci) = some cellB.cls := by
  obtain ⟨cell, q1, q2, q3, q4⟩ := hP.obj hk hs
  exact ⟨cell, q1, by rw [q3]; rfl, by rw [q2]; exact (hSt.1.1 ci _ (am_cl hci)).2.1⟩
theorem am_invVg {Z : am_M} {idx np n2 b : Nat} {As : List Value} {lsZ : List (Option Value)} {st0 : List Value} (hd : decode M.2.1 pc = .ok (.invokevirtual idx, 3)) (hm : am_mV Z np) (hk : Cond.methodLink M.1.cls idx Z.1 ∈ am_TB) (hfit : am_fit M Z) (hrec : ∀ (g : am_G) (s : State) (H : Heap) (locs : List Loc), am_P g h n H → va_S (am_A g) s.heap H locs → am_S E g s s.heap → ∃ cellB : Cell, H[am_a g b]? = some cellB ∧ cellB.vm.isStatics = false ∧ s.vm.findClass Z.1.cls = some cellB.cls) (hst : st0 = As.reverse ++ .ref b :: st) (hnp : As.length = np) (hlen : (am_e0 (.ref b :: As)).length ≤ Z.2.2.1) (hen : am_en (.ref b :: As) Z.2.2.1 = lsZ) (hc8 : (st.map fun v => v.category).sum ≤ 8) (h2 : n ≤ n2 ∧ n2 ≤ n1)
    (k : am_R E Z 0 lsZ [] h n n2 (fun r h' => am_R E M (pc + 3) ls (r.toList ++ st) h' n2 n1 Q)) : am_R E M pc ls st0 h n n1 Q := by
  intro p l e s m args below meth c g n0 Y H locs lsc Rm C hR hP hS hn hl hq
  have C0 := C
  obtain ⟨hx, hb, -, hml, hown, hts, -, -, hrm, hSt⟩ := C
  obtain ⟨a1, a2, a3⟩ := am_sum hR hn h2
  subst hst
  have hpre := am_preS (As := .ref b :: As) hP hS hSt
  refine am_back (va_runV (Ts := am_TB) (C := Z.1.cls) (b := am_a g b) (As := As.map (am_v g)) (rest := st.map (am_v g)) ⟨hx, hb, hml, hown, hts⟩ (am_met l g hm.1 hlen hen h2.1 k) ⟨callB_of np hts (am_goodIn hm.1.2.1) rfl rfl rfl (hts _ hm.1.2.2.2) (hts _ hk) hm.1.2.2.1 ⟨Nat.le_trans hfit.1 hrm.1, Nat.le_trans hfit.2 hrm.2⟩, hts _ hm.2.1, hts _ hm.2.2⟩ ⟨hpre.1, hrec g s H locs hP hS hSt, hpre.2⟩ rfl (by rw [List.length_map]; exact hnp) hl.1 (by simp [F0, List.map_append, List.map_reverse, am_v]) (lv_room (by rw [am_catm]; exact hc8)) hd a1) hS ?_
  intro r h' H1 locs1 hQ hP1 hS1
  rw [am_tl, a2, a3]
  exact hQ p l e s m args below meth c g n0 Y H1 locs1 lsc Rm C0 hR hP1 hS1 ⟨Nat.le_trans hn.1 h2.1, h2.2⟩ hl hq
theorem am_invV {Z : am_M} {idx np n2 b ci : Nat} {As : List Value} {lsZ : List (Option Value)} {st0 : List Value} (hd : decode M.2.1 pc = .ok (.invokevirtual idx, 3)) (hm : am_mV Z np) (hk : Cond.methodLink M.1.cls idx Z.1 ∈ am_TB) (hfit : am_fit M Z) (hci : ci < 9) (hcn : am_cn ci = Z.1.cls) (hbn : b < n) (hs : am_s b = .inr ci) (hst : st0 = As.reverse ++ .ref b :: st) (hnp : As.length = np) (hlen : (am_e0 (.ref b :: As)).length ≤ Z.2.2.1) (hen : am_en (.ref b :: As) Z.2.2.1 = lsZ) (hc8 : (st.map fun v => v.category).sum ≤ 8) (h2 : n ≤ n2 ∧ n2 ≤ n1)
    (k : am_R E Z 0 lsZ [] h n n2 (fun r h' => am_R E M (pc + 3) ls (r.toList ++ st) h' n2 n1 Q)) : am_R E M pc ls st0 h n n1 Q :=
  am_invVg hd hm hk hfit (fun g s H locs hP hS hSt => hcn ▸ am_recv hci hP hSt hbn hs) hst hnp hlen hen hc8 h2 k
theorem am_invT {Z : am_M} {idx np n2 b i : Nat} {As : List Value} {lsZ : List (Option Value)} {st0 : List Value} (hd : decode M.2.1 pc = .ok (.invokevirtual idx, 3)) (hm : am_mV Z np) (hk : Cond.methodLink M.1.cls idx Z.1 ∈ am_TB) (hfit : am_fit M Z) (hcn : Z.1.cls = "java/lang/String") (hi : i < 9) (hb : 1010 + i = b) (hst : st0 = As.reverse ++ .ref b :: st) (hnp : As.length = np) (hlen : (am_e0 (.ref b :: As)).length ≤ Z.2.2.1) (hen : am_en (.ref b :: As) Z.2.2.1 = lsZ) (hc8 : (st.map fun v => v.category).sum ≤ 8) (h2 : n ≤ n2 ∧ n2 ≤ n1)
    (k : am_R E Z 0 lsZ [] h n n2 (fun r h' => am_R E M (pc + 3) ls (r.toList ++ st) h' n2 n1 Q)) : am_R E M pc ls st0 h n n1 Q :=
  am_invVg hd hm hk hfit (fun g s H locs hP hS hSt => by rw [hcn, ← hb, am_a10]; exact vk_recv (adK := fun i => g.2.1 (1010 + i)) (i := i) hSt.2.2.2.2.2.1 hi hS) hst hnp hlen hen hc8 h2 k
theorem am_invI {Z : am_M} {idx np n2 b : Nat} {As : List Value} {lsZ : List (Option Value)} {st0 : List Value} (hd : decode M.2.1 pc = .ok (.invokespecial idx, 3)) (hm : am_mI Z np) (hk : Cond.methodLink M.1.cls idx Z.1 ∈ am_TB) (hfit : am_fit M Z) (hst : st0 = As.reverse ++ .ref b :: st) (hnp : As.length = np) (hlen : (am_e0 (.ref b :: As)).length ≤ Z.2.2.1) (hen : am_en (.ref b :: As) Z.2.2.1 = lsZ) (hc8 : (st.map fun v => v.category).sum ≤ 8) (h2 : n ≤ n2 ∧ n2 ≤ n1)
    (k : am_R E Z 0 lsZ [] h n n2 (fun r h' => am_R E M (pc + 3) ls (r.toList ++ st) h' n2 n1 Q)) : am_R E M pc ls st0 h n n1 Q := by
  intro p l e s m args below meth c g n0 Y H locs lsc Rm C hR hP hS hn hl hq
  have C0 := C
  obtain ⟨hx, hb, -, hml, hown, hts, -, -, hrm, hSt⟩ := C
  obtain ⟨a1, a2, a3⟩ := am_sum hR hn h2
  subst hst
  refine am_back (va_runI (Ts := am_TB) (b := am_a g b) (As := As.map (am_v g)) (rest := st.map (am_v g)) ⟨hx, hb, hml, hown, hts⟩ (am_met l g hm.1 hlen hen h2.1 k) ⟨callB_of np hts (am_goodIn hm.1.2.1) (by unfold am_ws; rw [hm.2.2.2]) rfl rfl (hts _ hm.1.2.2.2) (hts _ hk) hm.1.2.2.1 ⟨Nat.le_trans hfit.1 hrm.1, Nat.le_trans hfit.2 hrm.2⟩, hm.2.2.1, hts _ hm.2.1⟩ (am_preS (As := .ref b :: As) hP hS hSt) rfl (by rw [List.length_map]; exact hnp) hl.1 (by simp [F0, List.map_append, List.map_reverse, am_v]) (lv_room (by rw [am_catm]; exact hc8)) hd a1) hS ?_
  intro r h' H1 locs1 hQ hP1 hS1
  rw [am_tl, a2, a3]
  exact hQ p l e s m args below meth c g n0 Y H1 locs1 lsc Rm C0 hR hP1 hS1 ⟨Nat.le_trans hn.1 h2.1, h2.2⟩ hl hq
theorem am_invIN {Z : am_M} {idx np n2 b : Nat} {As : List Value} {lsZ : List (Option Value)} {st0 : List Value} (hd : decode M.2.1 pc = .ok (.invokespecial idx, 3)) (hm : am_mI Z np) (hk : Cond.methodLinkNest M.1.cls idx Z.1 RX9 ∈ am_nw) (hfit : am_fit M Z) (hst : st0 = As.reverse ++ .ref b :: st) (hnp : As.length = np) (hlen : (am_e0 (.ref b :: As)).length ≤ Z.2.2.1) (hen : am_en (.ref b :: As) Z.2.2.1 = lsZ) (hc8 : (st.map fun v => v.category).sum ≤ 8) (h2 : n ≤ n2 ∧ n2 ≤ n1)
    (k : am_R E Z 0 lsZ [] h n n2 (fun r h' => am_R E M (pc + 3) ls (r.toList ++ st) h' n2 n1 Q)) : am_R E M pc ls st0 h n n1 Q := by
  intro p l e s m args below meth c g n0 Y H locs lsc Rm C hR hP hS hn hl hq
  have C0 := C
  obtain ⟨hx, hb, -, hml, hown, hts, -, -, hrm, hSt⟩ := C
  obtain ⟨a1, a2, a3⟩ := am_sum hR hn h2
  subst hst
  refine am_back (va_runIN (Ts := am_TB) (b := am_a g b) (As := As.map (am_v g)) (rest := st.map (am_v g)) ⟨hx, hb, hml, hown, hts⟩ (am_met l g hm.1 hlen hen h2.1 k) ⟨va_cnB np hts (am_goodIn hm.1.2.1) (by unfold am_ws; rw [hm.2.2.2]) rfl rfl (hSt.2.2.2.2.2.2.2.2 _ hk) (hts _ hm.1.2.2.2) hm.1.2.2.1 ⟨Nat.le_trans hfit.1 hrm.1, Nat.le_trans hfit.2 hrm.2⟩, hm.2.2.1, hts _ hm.2.1⟩ (am_preS (As := .ref b :: As) hP hS hSt) rfl (by rw [List.length_map]; exact hnp) hl.1 (by simp [F0, List.map_append, List.map_reverse, am_v]) (lv_room (by rw [am_catm]; exact hc8)) hd a1) hS ?_
  intro r h' H1 locs1 hQ hP1 hS1
  rw [am_tl, a2, a3]
  exact hQ p l e s m args below meth c g n0 Y H1 locs1 lsc Rm C0 hR hP1 hS1 ⟨Nat.le_trans hn.1 h2.1, h2.2⟩ hl hq
theorem am_invSN {Z : am_M} {idx np n2 : Nat} {As : List Value} {lsZ : List (Option Value)} {st0 : List Value} (hd : decode M.2.1 pc = .ok (.invokestatic idx, 3)) (hm : am_mS Z np) (hk : Cond.methodLinkNest M.1.cls idx Z.1 RX9 ∈ am_nw) (hfit : am_fit M Z) (hst : st0 = As.reverse ++ st) (hnp : As.length = np) (hlen : (am_e0 As).length ≤ Z.2.2.1) (hen : am_en As Z.2.2.1 = lsZ) (hc8 : (st.map fun v => v.category).sum ≤ 8) (h2 : n ≤ n2 ∧ n2 ≤ n1)
    (k : am_R E Z 0 lsZ [] h n n2 (fun r h' => am_R E M (pc + 3) ls (r.toList ++ st) h' n2 n1 Q)) : am_R E M pc ls st0 h n n1 Q := by
  intro p l e s m args below meth c g n0 Y H locs lsc Rm C hR hP hS hn hl hq
  have C0 := C
  obtain ⟨hx, hb, -, hml, hown, hts, -, -, hrm, hSt⟩ := C
  obtain ⟨a1, a2, a3⟩ := am_sum hR hn h2
  subst hst
  refine am_back (va_runSN (Ts := am_TB) (As := As.map (am_v g)) (rest := st.map (am_v g)) ⟨hx, hb, hml, hown, hts⟩ (am_met l g hm.1 hlen hen h2.1 k) ⟨va_cnB np hts (am_goodIn hm.1.2.1) rfl rfl rfl (hSt.2.2.2.2.2.2.2.2 _ hk) (hts _ hm.1.2.2.2) hm.1.2.2.1 ⟨Nat.le_trans hfit.1 hrm.1, Nat.le_trans hfit.2 hrm.2⟩, hts _ hm.2, trivial⟩ (am_preS hP hS hSt) rfl (by rw [List.length_map]; exact hnp) hl.1 (by simp [F0, List.map_append, List.map_reverse]) (lv_room (by rw [am_catm]; exact hc8)) hd a1) hS ?_
  intro r h' H1 locs1 hQ hP1 hS1
  rw [am_tl, a2, a3]
  exact hQ p l e s m args below meth c g n0 Y H1 locs1 lsc Rm C0 hR hP1 hS1 ⟨Nat.le_trans hn.1 h2.1, h2.2⟩ hl hq
theorem am_obj {idx b : Nat} (hd : decode M.2.1 pc = .ok (.invokespecial idx, 3)) (hk : Cond.methodLink M.1.cls idx objectInit ∈ am_TB) (hi : Cond.instanceMethod objectInit ∈ am_TB) (hc : Cond.code objectInit ⟨#[0xb1]⟩ 1 none ∈ am_TB) (hst : (st.map fun v => v.category).sum ≤ 8) (hF : 1 ≤ M.2.2.2.2.1 ∧ 20 ≤ M.2.2.2.2.2) (k : am_R E M (pc + 3) ls st h n n1 Q) : am_R E M pc ls (.ref b :: st) h n n1 Q := by
  intro p l e s m args below meth c g n0 Z H locs lsc Rm C hR hP hS hn hl hq
  have K := k p l e s m args below meth c g n0 Z H locs lsc Rm C hR hP hS hn hl hq
  obtain ⟨hx, hb, -, hml, hown, hts, -, -, hrm, hSt⟩ := C
  refine W.objInit hx hb hown (hts _ hk) (hts _ hi) (hts _ hc) rfl (by rw [hml]; exact hl.1) rfl hd (Nat.le_trans hF.1 hrm.1) ?_ K
  have := lv_room (m := m) (pc := pc) (ls := lsc) (rest := (Value.ref b :: st).map (am_v g)) (st := st.map (am_v g)) (by rw [am_catm]; exact hst)
  have h3 := hF.2
  have h4 := hrm.2
  omega
end AM4
end
section
/-! ===== System.arraycopy of int rows ===== -/
section AM5
variable {E : Nat × (Nat → Int32)} {M : am_M} {pc : Nat} {ls : List (Option Value)} {st : List Value} {h : am_H} {n n1 : Nat} {Q : Option Value → am_H → Prop}
theorem am_copy {idx a0 a1 N0 N1 : Nat} {sp dp x : Int32} (hd : decode M.2.1 pc = .ok (.invokestatic idx, 3)) (hk : Cond.methodLink M.1.cls idx arraycopyName ∈ am_TB) (hnat : Cond.native arraycopyName ∈ am_TB) (hstat : Cond.static arraycopyName ∈ am_TB) (hini : Cond.initialized "java/lang/System" ∈ am_TB) (hs0 : am_s a0 = .inl (.int, N0)) (hs1 : am_s a1 = .inl (.int, N1)) (hk0 : a0 < n) (hk1 : a1 < n) (h1 : ¬ sp < 0) (h2 : ¬ dp < 0) (h3 : ¬ x < 0) (h4 : sp.toNatClampNeg + x.toNatClampNeg ≤ N0) (h5 : dp.toNatClampNeg + x.toNatClampNeg ≤ N1) (hst : (st.map fun v => v.category).sum ≤ 8) (hF : 1 ≤ M.2.2.2.2.1 ∧ 8 + (nativeFrameWords "java/lang/System" "arraycopy" 5 + 11) ≤ M.2.2.2.2.2) (kk : am_R E M (pc + 3) ls st (am_sR h a1 (va_cpy (h.1 a0) (h.1 a1) sp.toNatClampNeg dp.toNatClampNeg x.toNatClampNeg)) n n1 Q) : am_R E M pc ls (.int x :: .int dp :: .ref a1 :: .int sp :: .ref a0 :: st) h n n1 Q := by
  intro p l e s m args below meth c g n0 Z H locs lsc Rm C hR hP hS hn hl hq
  have C0 := C
  obtain ⟨hx, hb, -, hml, hown, hts, -, -, hrm, hSt⟩ := C
  have nn : ∀ z : Int32, ¬ z < 0 → z.toInt = (z.toNatClampNeg : Int) := by
    intro z hz
    have hz0 : (0 : Int) ≤ z.toInt := by
      have := Int32.not_lt.mp hz
      simpa using Int32.le_iff_toInt_le.mp this
    show z.toInt = ((z.toInt.toNat : Nat) : Int)
    omega
  intro T hT X
  have hc0 : H[am_a g a0]? = some (arrV (g.2.2.1 .int) N0 (fun j => .int (h.1 a0 j))) := hP.arr hk0 hs0
  have hc1 : H[am_a g a1]? = some (arrV (g.2.2.1 .int) N1 (fun j => .int (h.1 a1 j))) := hP.arr hk1 hs1
  obtain ⟨-, k0, hk0', cm0, hkk0⟩ := (am_t5_at hSt (Or.inl rfl)).1 N0 (fun j => .int (h.1 a0 j))
  obtain ⟨-, k1, hk1', cm1, hkk1⟩ := (am_t5_at hSt (Or.inl rfl)).1 N1 (fun j => .int (h.1 a1 j))
  obtain ⟨vm', X', step⟩ := X.arraycopy hx hown (hts _ hk) (hts _ hnat) (hts _ hstat) (hts _ hini) (src := am_a g a0) (dst := am_a g a1) (cs := arrV (g.2.2.1 .int) N0 (fun j => .int (h.1 a0 j))) (cd := arrV (g.2.2.1 .int) N1 (fun j => .int (h.1 a1 j))) (srcPos := sp) (destPos := dp) (n := x) (by rw [hT]; exact hc0) (by rw [hT]; exact hc1)
    (fun _ h => by cases h) (fun _ h => by cases h) (fun h => by cases h) (fun h => by cases h) hk0' hk1' hkk0 hkk1 (by simp [refKind]) h1 h2 h3
    (by rw [nn sp h1, nn x h3, arrV_size]; omega)
    (by rw [nn dp h2, nn x h3, arrV_size]; omega)
    (fun vm₁ _ i hi => by
      have e : (arrV (g.2.2.1 .int) N0 (fun j => .int (h.1 a0 j))).slots.getD (sp.toNatClampNeg + i) .null = .int (h.1 a0 (sp.toNatClampNeg + i)) := by
        rw [Array.getD_eq_getD_getElem?, arrV_read _ _ (by omega)]
        rfl
      refine ⟨?_, ?_⟩
      · rw [e]
        rfl
      · rw [e]
        exact trivial)
    (g := F0 m pc lsc (.int x :: .int dp :: .ref (am_a g a1) :: .int sp :: .ref (am_a g a0) :: st.map (am_v g))) rfl (by rw [hml]; exact hl.1) (rest := st.map (am_v g)) rfl (by rw [hb]; exact hd) (Nat.le_trans hF.1 hrm.1) (by
      have e3 := am_catm g st
      have h6 := hF.2
      have h7 := hrm.2
      show 2 * 0 + _ + _ ≤ _
      omega)
  have e1 : copied (arrV (g.2.2.1 .int) N0 (fun j => .int (h.1 a0 j))) (arrV (g.2.2.1 .int) N1 (fun j => .int (h.1 a1 j))) sp dp x = arrV (g.2.2.1 .int) N1 (fun j => .int (va_cpy (h.1 a0) (h.1 a1) sp.toNatClampNeg dp.toNatClampNeg x.toNatClampNeg j)) := va_copied (fun z => .int z) _ _ (h.1 a0) (h.1 a1) h4
  rw [e1] at X' step
  have hlt : am_a g a1 < H.size := (Array.getElem?_eq_some_iff.mp hc1).1
  generalize hcv : arrV (g.2.2.1 .int) N1 (fun j => .int (va_cpy (h.1 a0) (h.1 a1) sp.toNatClampNeg dp.toNatClampNeg x.toNatClampNeg j)) = cv at X' step
  have hheap : ((T.setVm vm').setCell (am_a g a1) cv).heap = H.setIfInBounds (am_a g a1) cv := by rw [← hT]; rfl
  have oq : ∀ q : Nat, q ≠ am_a g a1 → (H.setIfInBounds (am_a g a1) cv)[q]? = H[q]? := fun q hq => by simp [Array.getElem?_setIfInBounds, Ne.symm hq]
  have hself : (H.setIfInBounds (am_a g a1) cv)[am_a g a1]? = some cv := by simp [Array.getElem?_setIfInBounds, hlt]
  have hA1 : am_A g (am_a g a1) := by rw [hP.a hk1]; exact Nat.le_add_right _ _
  have hP1 : am_P g (am_sR h a1 (va_cpy (h.1 a0) (h.1 a1) sp.toNatClampNeg dp.toNatClampNeg x.toNatClampNeg)) n (H.setIfInBounds (am_a g a1) cv) := by
    refine hP.put hk1 (by simp) oq (fun j e => am_sR_ne j e) ?_
    unfold am_at
    rw [hs1]
    show (H.setIfInBounds (am_a g a1) cv)[g.1 + a1]? = _
    rw [← hP.a hk1, hself, ← hcv]
    congr 2
    funext j
    simp [am_f, am_sR]
  obtain ⟨t, b1, b2⟩ := kk p l e s m args below meth c g n0 Z _ _ lsc Rm C0 hR hP1 ⟨by simp; exact hS.1, fun q g1 g2 => by
      rw [oq q (fun e => g2 (by rw [e]; exact hA1))]
      exact hS.2.1 q g1 g2, fun q hq => by
      rcases List.mem_append.mp hq with h | h
      · exact hS.2.2 q h
      · obtain ⟨z, -, hz⟩ := List.mem_map.mp h
        rw [← hz]
        exact hA1⟩ hn hl hq _ hheap X'
  exact ⟨t, step t b1, b2⟩
end AM5
end
section
/-! THE CLAIM OUT OF ONE WALK OF THE LAW'S BODY. Your part is whole_start (and what it stands on); all else here is the same for every law, but numbers. -/
def R_law : String := "DutiesHatLaw"
def lw_P (b : Addr) (xs : List Int32) (args : Array Value) (s : State) : Prop := args = #[.ref b] ∧ s.IntsAt b xs ∧ xs.length ≤ 320 ∧ (Jvm.Cond.and given_1 narrow_1).before args s = true
def lw_Q (_ : Array Value) (s : State) (o : Outcome) (t : State) : Prop := o = .returned (some (.int 1)) ∧ Framed s o t [] 64 13480
def lw_Z (below : List Frame) (a : Array Value) (s : State) : State → Prop := fun t => ∃ o, t.status = .running ∧ Ended t below o ∧ lw_Q a s o t
/-- the law's own end, with 1 on the stack, nothing written that was there before, its room as the claim has it -/
theorem lw_ret {p : Program} {l : Launch} {e : Env} {s : State} {m : MethodId} {below : List Frame} {meth : Method} {c : Code} {b : Nat} (hx : p.tables.exec = Jvm.exec) (hb : c.code = code) (hr : meth.sig.returnType = ret) (hlocks : meth.locks = false) {pc : Nat} {H : Heap} {ls : Array Slot} (hdg : decode code pc = .ok (.ireturn, 1)) : W p l e room_1 s m #[Value.ref b] below meth c H [] 64 13480 (lw_Z below #[Value.ref b] s) (F0 m pc ls [.int 1]) := by
  intro T hT X
  obtain ⟨fs, hret, hrun, hended, hW, hframe⟩ := X.leave (v := some (.int 1)) (hlocks := hlocks) (fun h => by rw [hr] at h; cases h)
  have hmeth' : T.vm.method? m = some meth := X.method'
  refine ⟨T.setFrames fs, ?_, .returned (some (.int 1)), hrun, hended, rfl, ⟨_, rfl⟩, hW, hframe⟩
  jvm_step X.here [X.here.top, hx, hb, hdg, hmeth', hr, ret, narrow_b1]
  (try refine ⟨rfl, ?_⟩); (try refine ⟨rfl, ?_⟩)
  first | (intro acts; rw [hret _ acts rfl rfl rfl]) | rw [hret _ _ rfl rfl rfl]
  exact Steps.refl _
/-- what holds at the law's entry: the machine, the code, the tables' words (any of lw_tbl by 'hts w (by decide +kernel)'), the script of L ints xs at the cell b, what the Statement gives of the start (any of its parts by flat_of_before) -/
def lw_At (p : Program) (s : State) (m : MethodId) (meth : Method) (c : Code) (b L : Nat) (xs : Nat → Int32) : Prop :=
  p.tables.exec = Jvm.exec ∧ c.code = code ∧ meth.sig.returnType = ret ∧ c.maxLocals = 4 ∧ s.vm.findClass R_law = some m.cls ∧ (∀ w ∈ lw_tbl, w.before #[Value.ref b] s = true) ∧ va_X b L xs s s.heap ∧ b < s.heap.size ∧ meth.locks = false ∧ (Jvm.Cond.and given_1 narrow_1).before #[Value.ref b] s = true
set_option maxRecDepth 20000 in
theorem am_inst : ∀ ci, ci < 9 → Cond.instantiable (am_cn ci) (am_nf ci) ∈ am_TB := by decide +kernel
theorem am_sub : ∀ w ∈ am_TB, w ∈ lw_tbl := fun _ h => (List.mem_filter.mp h).1
def am_x (b tO tF tS : Nat) (adK adV : Nat → Nat) (k : Nat) : Nat := if k = 1000 then tO else if k = 1001 then tF else if k = 1002 then b else if k = 1003 then tS else if 1020 ≤ k then adV (k - 1020) else adK (k - 1010)
theorem am_x10 {b tO tF tS : Nat} {adK adV : Nat → Nat} {i : Nat} (hi : i < 9) : am_x b tO tF tS adK adV (1010 + i) = adK i := by
  unfold am_x
  rw [if_neg (by omega), if_neg (by omega), if_neg (by omega), if_neg (by omega), if_neg (by omega), show 1010 + i - 1010 = i by omega]
theorem am_x20 {b tO tF tS : Nat} {adK adV : Nat → Nat} {i : Nat} : am_x b tO tF tS adK adV (1020 + i) = adV i := by
  unfold am_x
  rw [if_neg (by omega), if_neg (by omega), if_neg (by omega), if_neg (by omega), if_pos (by omega), show 1020 + i - 1020 = i by omega]
def am_kt (cI cL cZ cD cT : ClassId) : FieldType → ClassId
  | .int => cI
  | .long => cL
  | .boolean => cZ
  | .object C => if C = RX1 then cD else cT
  | _ => cI
def am_stT (i : Nat) : Term := .string RX6 (am_si i)
set_option maxRecDepth 20000 in
set_option maxHeartbeats 4000000 in
theorem am_start {p : Program} {s : State} {m : MethodId} {meth : Method} {c : Code} {b L : Nat} {xs : Nat → Int32} (hL : L ≤ 320) (C0 : lw_At p s m meth c b L xs) : ∃ g : am_G, g.1 = s.heap.size ∧ g.2.1 1002 = b ∧ am_S (L, xs) g s s.heap := by
  obtain ⟨hx, hb, hr, hml, hown, hts0, hX, hbl, hlk, hgv⟩ := C0
  have hs := flat_of_before _ hgv
  have hts : ∀ w ∈ am_TB, w.before #[Value.ref b] s = true := fun w hw => hts0 w (am_sub w hw)
  have hA : ∀ a : Nat, a < s.heap.size → ¬ (s.heap.size ≤ a) := fun a h => by omega
  have hcls : ∀ ci : Nat, ∃ q : ClassId × (Nat → Nat), ci < 9 → u_Kn s (am_cn ci) (am_tb ci) (am_nf ci) q.1 q.2 := by
    intro ci
    by_cases h : ci < 9
    · obtain ⟨cC, iS, h1⟩ := u_known hts (am_in h) (hts _ (am_inst ci h))
      exact ⟨(cC, iS), fun _ => h1⟩
    · exact ⟨(0, fun _ => 0), fun q => absurd q h⟩
  obtain ⟨dd, hdd⟩ := Classical.axiomOfChoice hcls
  obtain ⟨cI, kI, oI, iI1, iI2, iI3⟩ := Cond.arrayClass_spec (hts (.arrayClass .int) (by decide +kernel))
  obtain ⟨cL, kL, oL, iL1, iL2, iL3⟩ := Cond.arrayClass_spec (hts (.arrayClass .long) (by decide +kernel))
  obtain ⟨cZ, kZ, oZ, iZ1, iZ2, iZ3⟩ := Cond.arrayClass_spec (hts (.arrayClass .boolean) (by decide +kernel))
  have hoD : (Cond.arrayOver (.object RX1)).before #[Value.ref b] s = true := hts0 _ (by decide +kernel)
  have hoT : (Cond.arrayOver (.object RX8)).before #[Value.ref b] s = true := hts0 _ (by decide +kernel)
  obtain ⟨oD, cD, kD, iD1, iD2, iD3, iD4, iD5⟩ := Cond.arrayOver_spec hoD
  obtain ⟨oT, cT, kT, iT1, iT2, iT3, iT4, iT5⟩ := Cond.arrayOver_spec hoT
  obtain ⟨tO, vO, hO⟩ := va_Tof (args := #[Value.ref b]) (s := s) (tm := .static RX9 "OVER" "[I") (ty := .int) (N := 5) (f := fun j => .int (am_ov j)) (A := fun q => s.heap.size ≤ q) (by decide) (hs _ (by decide +kernel)) (va_eqt (hs _ (by decide +kernel))) (fun j hj => by
    rcases (show j = 0 ∨ j = 1 ∨ j = 2 ∨ j = 3 ∨ j = 4 by omega) with rfl | rfl | rfl | rfl | rfl <;> exact va_eqt (hs _ (by decide +kernel))) hA
  obtain ⟨tF, vF, hF⟩ := va_Tof (args := #[Value.ref b]) (s := s) (tm := .static RX9 "FACTORIALS" "[I") (ty := .int) (N := 8) (f := fun j => .int (am_fa j)) (A := fun q => s.heap.size ≤ q) (by decide) (hs _ (by decide +kernel)) (va_eqt (hs _ (by decide +kernel))) (fun j hj => by
    rcases (show j = 0 ∨ j = 1 ∨ j = 2 ∨ j = 3 ∨ j = 4 ∨ j = 5 ∨ j = 6 ∨ j = 7 by omega) with rfl | rfl | rfl | rfl | rfl | rfl | rfl | rfl <;> exact va_eqt (hs _ (by decide +kernel))) hA
  have zO := va_Zof (A := fun q => s.heap.size ≤ q) (hts0 (.laysStatic RX9 "OVER" "[I") (by decide +kernel)) (hts (.initialized RX9) (by decide +kernel)) vO hA
  have zF := va_Zof (A := fun q => s.heap.size ≤ q) (hts0 (.laysStatic RX9 "FACTORIALS" "[I") (by decide +kernel)) (hts (.initialized RX9) (by decide +kernel)) vF hA
  have zC := va_Zof (A := fun q => s.heap.size ≤ q) (hts0 (.laysStatic RJ0 "COMPACT_STRINGS" "Z") (by decide +kernel)) (hts (.initialized RJ0) (by decide +kernel)) (va_eqi (z := 1) (hs _ (by decide +kernel))) hA
  have zS : ∃ tS : Nat, va_Z RJ3 "SIOOBE_FORMATTER" "Ljava/util/function/BiFunction;" .null (fun q => s.heap.size ≤ q) s s.heap ∨ va_Z RJ3 "SIOOBE_FORMATTER" "Ljava/util/function/BiFunction;" (.ref tS) (fun q => s.heap.size ≤ q) s s.heap := by
    rcases va_Zqof (A := fun q => s.heap.size ≤ q) (hts0 (.laysStatic RJ3 "SIOOBE_FORMATTER" "Ljava/util/function/BiFunction;") (by decide +kernel)) (hts (.initialized RJ3) (by decide +kernel)) (hs _ (by decide +kernel)) hA with h | ⟨t, h⟩
    · exact ⟨0, Or.inl h⟩
    · exact ⟨t, Or.inr h⟩
  obtain ⟨tS, zS⟩ := zS
  have h9 : ∀ i, i < 9 → i = 0 ∨ i = 1 ∨ i = 2 ∨ i = 3 ∨ i = 4 ∨ i = 5 ∨ i = 6 ∨ i = 7 ∨ i = 8 := fun i h => by omega
  obtain ⟨adK, adV, hK, hKe⟩ := vk_Sof (args := #[Value.ref b]) (s := s) (N := 9) (tm := am_stT) (len := am_sn) (byt := am_sb) (A := fun q => s.heap.size ≤ q)
    (fun i hi => by rcases h9 i hi with rfl | rfl | rfl | rfl | rfl | rfl | rfl | rfl | rfl <;> decide)
    (fun i hi => hs _ ((by decide +kernel : ∀ i, i < 9 → Cond.exactly (am_stT i) "java/lang/String" ∈ flatC (given_1.and narrow_1)) i hi))
    (fun i hi => hs _ ((by decide +kernel : ∀ i, i < 9 → Cond.eq (.field (am_stT i) "java/lang/String" "coder" "B") (.int 0) ∈ flatC (given_1.and narrow_1)) i hi))
    (fun i hi => hs _ ((by decide +kernel : ∀ i, i < 9 → Cond.arrayOf (.field (am_stT i) "java/lang/String" "value" "[B") .byte ∈ flatC (given_1.and narrow_1)) i hi))
    (fun i hi => hs _ ((by decide +kernel : ∀ i, i < 9 → Cond.eq (.length (.field (am_stT i) "java/lang/String" "value" "[B")) (.int (Int32.ofNat (am_sn.getD i 0))) ∈ flatC (given_1.and narrow_1)) i hi))
    (fun i hi j hj => hs _ ((by decide +kernel : ∀ i, i < 9 → ∀ j, j < am_sn.getD i 0 → Cond.eq (.elem (.field (am_stT i) "java/lang/String" "value" "[B") (.int (Int32.ofNat j))) (.int ((am_sb.getD i []).getD j 0)) ∈ flatC (given_1.and narrow_1)) i hi j hj))
    (fun i j hi hj hne => ((by decide +kernel : ∀ i, i < 9 → ∀ j, j < 9 → i ≠ j → (Cond.not (Cond.eq (am_stT i) (am_stT j)) ∈ flatC (given_1.and narrow_1) ∨ Cond.not (Cond.eq (am_stT j) (am_stT i)) ∈ flatC (given_1.and narrow_1))) i hi j hj hne).imp (fun h => hs _ h) (fun h => hs _ h)) hA
  refine ⟨(s.heap.size, am_x b tO tF tS adK adV, am_kt cI cL cZ cD cT, (fun ci => (dd ci).1, fun ci => (dd ci).2)), rfl, rfl, ⟨fun ci q hq => ?_, fun k q hq => ?_⟩, ⟨zO, hO⟩, ⟨zF, hF⟩, ?_, ⟨zC, zS⟩, ⟨fun i hi => ?_, fun i j hi hj he => ?_⟩, fun i hi => ?_, ⟨hoD, hoT⟩, fun w hw => ?_⟩
  · have hci : ci < 9 := (List.getElem?_eq_some_iff.mp hq).1
    have e := (am_cl hci).symm.trans hq
    cases e
    exact hdd ci hci
  · have hk : k < 5 := (List.getElem?_eq_some_iff.mp hq).1
    rcases (show k = 0 ∨ k = 1 ∨ k = 2 ∨ k = 3 ∨ k = 4 by omega) with rfl | rfl | rfl | rfl | rfl
    · cases hq; exact ⟨fun n z => ⟨fun k h => (by cases h), kI, iI2, oI, iI3⟩, iI1⟩
    · cases hq; exact ⟨fun n z => ⟨fun k h => (by cases h), kL, iL2, oL, iL3⟩, iL1⟩
    · cases hq; exact ⟨fun n z => ⟨fun k h => (by cases h), kZ, iZ2, oZ, iZ3⟩, iZ1⟩
    · cases hq
      have e : am_kt cI cL cZ cD cT (.object RX1) = cD := by simp [am_kt]
      show ArrOfT s (am_kt cI cL cZ cD cT (.object RX1)) _ ∧ va_RA s (am_kt cI cL cZ cD cT (.object RX1)) _
      rw [e]
      exact ⟨fun n z => ⟨fun k h => (by cases h), kD, iD3, oD, iD4⟩, kD, oD, iD3, iD4, iD1, iD5⟩
    · cases hq
      have e : am_kt cI cL cZ cD cT (.object RX8) = cT := by simp [am_kt, show ¬ (RX8 = RX1) by decide]
      show ArrOfT s (am_kt cI cL cZ cD cT (.object RX8)) _ ∧ va_RA s (am_kt cI cL cZ cD cT (.object RX8)) _
      rw [e]
      exact ⟨fun n z => ⟨fun k h => (by cases h), kT, iT3, oT, iT4⟩, kT, oT, iT3, iT4, iT1, iT5⟩
  · obtain ⟨scr, h1, h2, h3, h4, h5⟩ := hX
    exact ⟨scr, h1, h2, h3, by rw [h4]; exact Nat.le_refl _, by rw [h4], h5, hA b hbl⟩
  · show va_O _ (am_x b tO tF tS adK adV (1010 + i)) _ _ _ ∧ va_OF _ _ _ _ (am_x b tO tF tS adK adV (1010 + i)) _ _ _ ∧ va_OF _ _ _ (.ref (am_x b tO tF tS adK adV (1020 + i))) (am_x b tO tF tS adK adV (1010 + i)) _ _ _ ∧ va_T _ (am_x b tO tF tS adK adV (1020 + i)) _ _ _ _ _
    rw [am_x10 hi, am_x20]
    exact hK.1 i hi
  · have he : am_x b tO tF tS adK adV (1010 + i) = am_x b tO tF tS adK adV (1010 + j) := he
    rw [am_x10 hi, am_x10 hj] at he
    exact hK.2 i j hi hj he
  · show vk_R RX6 (am_si i) (am_st i) (am_x b tO tF tS adK adV (1010 + i)) s
    rw [am_x10 hi]
    exact vk_R.of (A := #[Value.ref b]) (hts0 _ ((by decide +kernel : ∀ i, i < 9 → Cond.stringRef RX6 (am_si i) (am_st i) ∈ lw_tbl) i hi)) (hKe i hi)
  · exact va_Nw.of ((by decide +kernel : ∀ w ∈ am_nw, w.onTables = true) w hw) (hts0 w ((by decide +kernel : ∀ w ∈ am_nw, w ∈ lw_tbl) w hw))

def am_h0 : am_H := (fun _ _ => 0, fun _ _ => 0, fun _ _ => none)
def am_law : am_M := (⟨R_law, "law", "([I)Z"⟩, code, 4, ret, 12, 436)
/-- the claim's walk out of the law's run on the abstract machine -/
theorem am_whole (hlaw : ∀ (L : Nat) (xs : Nat → Int32), L ≤ 320 → am_R (L, xs) am_law 0 [some (.ref 1002), none, none, none] [] am_h0 0 64 (fun r _ => r = some (.int 1))) {p : Program} {e : Env} {s : State} {m : MethodId} {below : List Frame} {meth : Method} {c : Code} (l : Launch) {b L : Nat} {xs : Nat → Int32} (hL : L ≤ 320) (C0 : lw_At p s m meth c b L xs) : W p l e room_1 s m #[Value.ref b] below meth c s.heap [] 0 0 (lw_Z below #[Value.ref b] s) (entryFrame m ([Value.ref b] : List Value).toArray 4) := by
  obtain ⟨g, hg, hg2, hSt⟩ := am_start hL C0
  obtain ⟨hx, hb, hr, hml, hown, hts0, hX, hbl, hlk, hgv⟩ := C0
  have hl := am_L.entry g [Value.ref 1002] (nL := 4) (by decide)
  have ea : am_a g 1002 = b := by rw [← hg2]; rfl
  have em : [Value.ref 1002].map (am_v g) = [Value.ref b] := by show [Value.ref (am_a g 1002)] = _; rw [ea]
  rw [em] at hl
  rw [lg_entry_eq]
  have K := hlaw L xs hL p l e s m #[Value.ref b] below meth c g 0 (lw_Z below #[Value.ref b] s) s.heap [] _ room_1 ⟨hx, hb, hr, hml, hown, fun w hw => hts0 w (am_sub w hw), hlk, fun q => absurd q (by decide), ⟨Nat.le_refl _, Nat.le_refl _⟩, hSt⟩ ⟨Nat.le_refl _, by rw [am_cs64]; exact Nat.le_refl _⟩ ⟨by rw [hg]; rfl, by decide, fun k hk => absurd hk (Nat.not_lt_zero k)⟩ va_S.rf ⟨Nat.le_refl _, by decide⟩ hl ?_
  · exact K
  · intro pc' r h' H' locs' lsc' hQ hP' hS' hK
    subst hQ
    rw [am_cs64]
    have h1 : decode code pc' = .ok (.ireturn, 1) := hK.1
    exact va_forget (fun q hq => by have := hS'.2.2 q hq; unfold am_A at this; rw [hg] at this; exact this) (lw_ret hx hb hr hlk h1)
end
