section
-- ===== PART A: goes FIRST, ahead of the names: the tables' words, and 'selects' of the private methods out of them =====
/-- a private method of a class that the tables say can be made, by its rows of tables_1 -/
def lw_okq (q : MethodName × Nat) : Prop := (q.1.cls ≠ "java/lang/invoke/MethodHandle" ∧ q.1.cls ≠ "java/lang/invoke/VarHandle") ∧ Cond.instantiable q.1.cls q.2 ∈ tables_1 ∧ Cond.privateMethod q.1 ∈ tables_1 ∧ Cond.instanceMethod q.1 ∈ tables_1
theorem lw_p0 : lw_okq (⟨"MilkTrain$Climate", "sumUp", "()V"⟩, 5) := ⟨⟨by decide +kernel, by decide +kernel⟩, List.mem_of_getElem? (i := 129) (by decide +kernel), List.mem_of_getElem? (i := 135) (by decide +kernel), List.mem_of_getElem? (i := 136) (by decide +kernel)⟩
theorem lw_p1 : lw_okq (⟨"MilkTrain$Climate", "warmthOf", "(I)I"⟩, 5) := ⟨⟨by decide +kernel, by decide +kernel⟩, List.mem_of_getElem? (i := 129) (by decide +kernel), List.mem_of_getElem? (i := 139) (by decide +kernel), List.mem_of_getElem? (i := 140) (by decide +kernel)⟩
theorem lw_p2 : lw_okq (⟨"MilkTrain$Reader", "advance", "()V"⟩, 8) := ⟨⟨by decide +kernel, by decide +kernel⟩, List.mem_of_getElem? (i := 40) (by decide +kernel), List.mem_of_getElem? (i := 401) (by decide +kernel), List.mem_of_getElem? (i := 402) (by decide +kernel)⟩
theorem lw_p3 : lw_okq (⟨"MilkTrain$Reader", "scanWord", "()V"⟩, 8) := ⟨⟨by decide +kernel, by decide +kernel⟩, List.mem_of_getElem? (i := 40) (by decide +kernel), List.mem_of_getElem? (i := 415) (by decide +kernel), List.mem_of_getElem? (i := 416) (by decide +kernel)⟩
theorem lw_p4 : lw_okq (⟨"MilkTrain$Reader", "scanNumber", "()V"⟩, 8) := ⟨⟨by decide +kernel, by decide +kernel⟩, List.mem_of_getElem? (i := 40) (by decide +kernel), List.mem_of_getElem? (i := 422) (by decide +kernel), List.mem_of_getElem? (i := 423) (by decide +kernel)⟩
theorem lw_p5 : lw_okq (⟨"MilkTrain$Reader", "readHead", "(LMilkTrain$Timetable;LMilkTrain$Train;)Z"⟩, 8) := ⟨⟨by decide +kernel, by decide +kernel⟩, List.mem_of_getElem? (i := 40) (by decide +kernel), List.mem_of_getElem? (i := 426) (by decide +kernel), List.mem_of_getElem? (i := 427) (by decide +kernel)⟩
theorem lw_p6 : lw_okq (⟨"MilkTrain$Reader", "takeWord", "(J)Z"⟩, 8) := ⟨⟨by decide +kernel, by decide +kernel⟩, List.mem_of_getElem? (i := 40) (by decide +kernel), List.mem_of_getElem? (i := 431) (by decide +kernel), List.mem_of_getElem? (i := 432) (by decide +kernel)⟩
theorem lw_p7 : lw_okq (⟨"MilkTrain$Reader", "refuseToken", "()Z"⟩, 8) := ⟨⟨by decide +kernel, by decide +kernel⟩, List.mem_of_getElem? (i := 40) (by decide +kernel), List.mem_of_getElem? (i := 435) (by decide +kernel), List.mem_of_getElem? (i := 436) (by decide +kernel)⟩
theorem lw_p8 : lw_okq (⟨"MilkTrain$Reader", "refuse", "(I)Z"⟩, 8) := ⟨⟨by decide +kernel, by decide +kernel⟩, List.mem_of_getElem? (i := 40) (by decide +kernel), List.mem_of_getElem? (i := 439) (by decide +kernel), List.mem_of_getElem? (i := 440) (by decide +kernel)⟩
theorem lw_p9 : lw_okq (⟨"MilkTrain$Reader", "takeName", "(LMilkTrain$Timetable;LMilkTrain$Train;)Z"⟩, 8) := ⟨⟨by decide +kernel, by decide +kernel⟩, List.mem_of_getElem? (i := 40) (by decide +kernel), List.mem_of_getElem? (i := 443) (by decide +kernel), List.mem_of_getElem? (i := 444) (by decide +kernel)⟩
theorem lw_p10 : lw_okq (⟨"MilkTrain$Reader", "takeCarries", "(LMilkTrain$Train;)Z"⟩, 8) := ⟨⟨by decide +kernel, by decide +kernel⟩, List.mem_of_getElem? (i := 40) (by decide +kernel), List.mem_of_getElem? (i := 457) (by decide +kernel), List.mem_of_getElem? (i := 458) (by decide +kernel)⟩
theorem lw_p11 : lw_okq (⟨"MilkTrain$Reader", "takeSign", "(I)Z"⟩, 8) := ⟨⟨by decide +kernel, by decide +kernel⟩, List.mem_of_getElem? (i := 40) (by decide +kernel), List.mem_of_getElem? (i := 461) (by decide +kernel), List.mem_of_getElem? (i := 462) (by decide +kernel)⟩
theorem lw_p12 : lw_okq (⟨"MilkTrain$Reader", "readStops", "(LMilkTrain$Train;)Z"⟩, 8) := ⟨⟨by decide +kernel, by decide +kernel⟩, List.mem_of_getElem? (i := 40) (by decide +kernel), List.mem_of_getElem? (i := 465) (by decide +kernel), List.mem_of_getElem? (i := 466) (by decide +kernel)⟩
theorem lw_p13 : lw_okq (⟨"MilkTrain$Reader", "takeStation", "(LMilkTrain$Train;I)Z"⟩, 8) := ⟨⟨by decide +kernel, by decide +kernel⟩, List.mem_of_getElem? (i := 40) (by decide +kernel), List.mem_of_getElem? (i := 469) (by decide +kernel), List.mem_of_getElem? (i := 470) (by decide +kernel)⟩
theorem lw_p14 : lw_okq (⟨"MilkTrain$Reader", "takeMinute", "(LMilkTrain$Train;I)Z"⟩, 8) := ⟨⟨by decide +kernel, by decide +kernel⟩, List.mem_of_getElem? (i := 40) (by decide +kernel), List.mem_of_getElem? (i := 477) (by decide +kernel), List.mem_of_getElem? (i := 478) (by decide +kernel)⟩
theorem lw_p15 : lw_okq (⟨"MilkTrain$Climate", "isCooled", "(I)Z"⟩, 5) := ⟨⟨by decide +kernel, by decide +kernel⟩, List.mem_of_getElem? (i := 129) (by decide +kernel), List.mem_of_getElem? (i := 524) (by decide +kernel), List.mem_of_getElem? (i := 525) (by decide +kernel)⟩
def lw_privs_1 : List (MethodName × Nat) := [(⟨"MilkTrain$Climate", "sumUp", "()V"⟩, 5), (⟨"MilkTrain$Climate", "warmthOf", "(I)I"⟩, 5), (⟨"MilkTrain$Reader", "advance", "()V"⟩, 8), (⟨"MilkTrain$Reader", "scanWord", "()V"⟩, 8), (⟨"MilkTrain$Reader", "scanNumber", "()V"⟩, 8), (⟨"MilkTrain$Reader", "readHead", "(LMilkTrain$Timetable;LMilkTrain$Train;)Z"⟩, 8), (⟨"MilkTrain$Reader", "takeWord", "(J)Z"⟩, 8), (⟨"MilkTrain$Reader", "refuseToken", "()Z"⟩, 8), (⟨"MilkTrain$Reader", "refuse", "(I)Z"⟩, 8), (⟨"MilkTrain$Reader", "takeName", "(LMilkTrain$Timetable;LMilkTrain$Train;)Z"⟩, 8), (⟨"MilkTrain$Reader", "takeCarries", "(LMilkTrain$Train;)Z"⟩, 8), (⟨"MilkTrain$Reader", "takeSign", "(I)Z"⟩, 8), (⟨"MilkTrain$Reader", "readStops", "(LMilkTrain$Train;)Z"⟩, 8), (⟨"MilkTrain$Reader", "takeStation", "(LMilkTrain$Train;I)Z"⟩, 8), (⟨"MilkTrain$Reader", "takeMinute", "(LMilkTrain$Train;I)Z"⟩, 8), (⟨"MilkTrain$Climate", "isCooled", "(I)Z"⟩, 5)]
theorem lw_r1 : ∀ q ∈ lw_privs_1, lw_okq q := List.forall_mem_cons.mpr ⟨lw_p0, List.forall_mem_cons.mpr ⟨lw_p1, List.forall_mem_cons.mpr ⟨lw_p2, List.forall_mem_cons.mpr ⟨lw_p3, List.forall_mem_cons.mpr ⟨lw_p4, List.forall_mem_cons.mpr ⟨lw_p5, List.forall_mem_cons.mpr ⟨lw_p6, List.forall_mem_cons.mpr ⟨lw_p7, List.forall_mem_cons.mpr ⟨lw_p8, List.forall_mem_cons.mpr ⟨lw_p9, List.forall_mem_cons.mpr ⟨lw_p10, List.forall_mem_cons.mpr ⟨lw_p11, List.forall_mem_cons.mpr ⟨lw_p12, List.forall_mem_cons.mpr ⟨lw_p13, List.forall_mem_cons.mpr ⟨lw_p14, List.forall_mem_cons.mpr ⟨lw_p15, fun _ h => absurd h List.not_mem_nil⟩⟩⟩⟩⟩⟩⟩⟩⟩⟩⟩⟩⟩⟩⟩⟩
theorem lw_p16 : lw_okq (⟨"MilkTrain", "isChurn", "(I)Z"⟩, 17) := ⟨⟨by decide +kernel, by decide +kernel⟩, List.mem_of_getElem? (i := 16) (by decide +kernel), List.mem_of_getElem? (i := 548) (by decide +kernel), List.mem_of_getElem? (i := 549) (by decide +kernel)⟩
theorem lw_p17 : lw_okq (⟨"MilkTrain$WayFinder", "gatherStops", "(LMilkTrain$Timetable;)V"⟩, 9) := ⟨⟨by decide +kernel, by decide +kernel⟩, List.mem_of_getElem? (i := 167) (by decide +kernel), List.mem_of_getElem? (i := 560) (by decide +kernel), List.mem_of_getElem? (i := 561) (by decide +kernel)⟩
theorem lw_p18 : lw_okq (⟨"MilkTrain$WayFinder", "insertByMinute", "(I)V"⟩, 9) := ⟨⟨by decide +kernel, by decide +kernel⟩, List.mem_of_getElem? (i := 167) (by decide +kernel), List.mem_of_getElem? (i := 566) (by decide +kernel), List.mem_of_getElem? (i := 567) (by decide +kernel)⟩
theorem lw_p19 : lw_okq (⟨"MilkTrain$WayFinder", "costAt", "(IILMilkTrain$Churn;)I"⟩, 9) := ⟨⟨by decide +kernel, by decide +kernel⟩, List.mem_of_getElem? (i := 167) (by decide +kernel), List.mem_of_getElem? (i := 570) (by decide +kernel), List.mem_of_getElem? (i := 571) (by decide +kernel)⟩
theorem lw_p20 : lw_okq (⟨"MilkTrain$WayFinder", "boardingCost", "(IILMilkTrain$Churn;)I"⟩, 9) := ⟨⟨by decide +kernel, by decide +kernel⟩, List.mem_of_getElem? (i := 167) (by decide +kernel), List.mem_of_getElem? (i := 575) (by decide +kernel), List.mem_of_getElem? (i := 576) (by decide +kernel)⟩
theorem lw_p21 : lw_okq (⟨"MilkTrain$Climate", "until", "(IZ)I"⟩, 5) := ⟨⟨by decide +kernel, by decide +kernel⟩, List.mem_of_getElem? (i := 129) (by decide +kernel), List.mem_of_getElem? (i := 583) (by decide +kernel), List.mem_of_getElem? (i := 584) (by decide +kernel)⟩
theorem lw_p22 : lw_okq (⟨"MilkTrain$WayFinder", "keepBetter", "(II)V"⟩, 9) := ⟨⟨by decide +kernel, by decide +kernel⟩, List.mem_of_getElem? (i := 167) (by decide +kernel), List.mem_of_getElem? (i := 588) (by decide +kernel), List.mem_of_getElem? (i := 589) (by decide +kernel)⟩
theorem lw_p23 : lw_okq (⟨"MilkTrain", "renewBest", "()V"⟩, 17) := ⟨⟨by decide +kernel, by decide +kernel⟩, List.mem_of_getElem? (i := 16) (by decide +kernel), List.mem_of_getElem? (i := 609) (by decide +kernel), List.mem_of_getElem? (i := 610) (by decide +kernel)⟩
theorem lw_p24 : lw_okq (⟨"MilkTrain$Loading", "makeRoom", "(LMilkTrain$Timetable;)V"⟩, 9) := ⟨⟨by decide +kernel, by decide +kernel⟩, List.mem_of_getElem? (i := 204) (by decide +kernel), List.mem_of_getElem? (i := 617) (by decide +kernel), List.mem_of_getElem? (i := 618) (by decide +kernel)⟩
theorem lw_p25 : lw_okq (⟨"MilkTrain$Loading", "setCosts", "([JLMilkTrain$Churn;LMilkTrain$Timetable;I)V"⟩, 9) := ⟨⟨by decide +kernel, by decide +kernel⟩, List.mem_of_getElem? (i := 204) (by decide +kernel), List.mem_of_getElem? (i := 624) (by decide +kernel), List.mem_of_getElem? (i := 625) (by decide +kernel)⟩
theorem lw_p26 : lw_okq (⟨"MilkTrain$Loading", "addDigits", "([JJ)V"⟩, 9) := ⟨⟨by decide +kernel, by decide +kernel⟩, List.mem_of_getElem? (i := 204) (by decide +kernel), List.mem_of_getElem? (i := 632) (by decide +kernel), List.mem_of_getElem? (i := 633) (by decide +kernel)⟩
theorem lw_p27 : lw_okq (⟨"MilkTrain$Loading", "seekChains", "(I)V"⟩, 9) := ⟨⟨by decide +kernel, by decide +kernel⟩, List.mem_of_getElem? (i := 204) (by decide +kernel), List.mem_of_getElem? (i := 637) (by decide +kernel), List.mem_of_getElem? (i := 638) (by decide +kernel)⟩
theorem lw_p28 : lw_okq (⟨"MilkTrain$Loading", "lengthenChains", "(I)Z"⟩, 9) := ⟨⟨by decide +kernel, by decide +kernel⟩, List.mem_of_getElem? (i := 204) (by decide +kernel), List.mem_of_getElem? (i := 641) (by decide +kernel), List.mem_of_getElem? (i := 642) (by decide +kernel)⟩
theorem lw_p29 : lw_okq (⟨"MilkTrain$Loading", "place", "(I)V"⟩, 9) := ⟨⟨by decide +kernel, by decide +kernel⟩, List.mem_of_getElem? (i := 204) (by decide +kernel), List.mem_of_getElem? (i := 645) (by decide +kernel), List.mem_of_getElem? (i := 646) (by decide +kernel)⟩
theorem lw_p30 : lw_okq (⟨"MilkTrain$Loading", "sumUp", "([LMilkTrain$Churn;LMilkTrain$Timetable;)V"⟩, 9) := ⟨⟨by decide +kernel, by decide +kernel⟩, List.mem_of_getElem? (i := 204) (by decide +kernel), List.mem_of_getElem? (i := 649) (by decide +kernel), List.mem_of_getElem? (i := 650) (by decide +kernel)⟩
theorem lw_p31 : lw_okq (⟨"MilkTrain", "isBottling", "(I)Z"⟩, 17) := ⟨⟨by decide +kernel, by decide +kernel⟩, List.mem_of_getElem? (i := 16) (by decide +kernel), List.mem_of_getElem? (i := 708) (by decide +kernel), List.mem_of_getElem? (i := 709) (by decide +kernel)⟩
def lw_privs_2 : List (MethodName × Nat) := [(⟨"MilkTrain", "isChurn", "(I)Z"⟩, 17), (⟨"MilkTrain$WayFinder", "gatherStops", "(LMilkTrain$Timetable;)V"⟩, 9), (⟨"MilkTrain$WayFinder", "insertByMinute", "(I)V"⟩, 9), (⟨"MilkTrain$WayFinder", "costAt", "(IILMilkTrain$Churn;)I"⟩, 9), (⟨"MilkTrain$WayFinder", "boardingCost", "(IILMilkTrain$Churn;)I"⟩, 9), (⟨"MilkTrain$Climate", "until", "(IZ)I"⟩, 5), (⟨"MilkTrain$WayFinder", "keepBetter", "(II)V"⟩, 9), (⟨"MilkTrain", "renewBest", "()V"⟩, 17), (⟨"MilkTrain$Loading", "makeRoom", "(LMilkTrain$Timetable;)V"⟩, 9), (⟨"MilkTrain$Loading", "setCosts", "([JLMilkTrain$Churn;LMilkTrain$Timetable;I)V"⟩, 9), (⟨"MilkTrain$Loading", "addDigits", "([JJ)V"⟩, 9), (⟨"MilkTrain$Loading", "seekChains", "(I)V"⟩, 9), (⟨"MilkTrain$Loading", "lengthenChains", "(I)Z"⟩, 9), (⟨"MilkTrain$Loading", "place", "(I)V"⟩, 9), (⟨"MilkTrain$Loading", "sumUp", "([LMilkTrain$Churn;LMilkTrain$Timetable;)V"⟩, 9), (⟨"MilkTrain", "isBottling", "(I)Z"⟩, 17)]
theorem lw_r2 : ∀ q ∈ lw_privs_2, lw_okq q := List.forall_mem_cons.mpr ⟨lw_p16, List.forall_mem_cons.mpr ⟨lw_p17, List.forall_mem_cons.mpr ⟨lw_p18, List.forall_mem_cons.mpr ⟨lw_p19, List.forall_mem_cons.mpr ⟨lw_p20, List.forall_mem_cons.mpr ⟨lw_p21, List.forall_mem_cons.mpr ⟨lw_p22, List.forall_mem_cons.mpr ⟨lw_p23, List.forall_mem_cons.mpr ⟨lw_p24, List.forall_mem_cons.mpr ⟨lw_p25, List.forall_mem_cons.mpr ⟨lw_p26, List.forall_mem_cons.mpr ⟨lw_p27, List.forall_mem_cons.mpr ⟨lw_p28, List.forall_mem_cons.mpr ⟨lw_p29, List.forall_mem_cons.mpr ⟨lw_p30, List.forall_mem_cons.mpr ⟨lw_p31, fun _ h => absurd h List.not_mem_nil⟩⟩⟩⟩⟩⟩⟩⟩⟩⟩⟩⟩⟩⟩⟩⟩
theorem lw_p32 : lw_okq (⟨"MilkTrain", "isCalledBack", "(LMilkTrain$Bottling;I)Z"⟩, 17) := ⟨⟨by decide +kernel, by decide +kernel⟩, List.mem_of_getElem? (i := 16) (by decide +kernel), List.mem_of_getElem? (i := 724) (by decide +kernel), List.mem_of_getElem? (i := 725) (by decide +kernel)⟩
theorem lw_p33 : lw_okq (⟨"MilkTrainModel", "next", "()V"⟩, 58) := ⟨⟨by decide +kernel, by decide +kernel⟩, List.mem_of_getElem? (i := 750) (by decide +kernel), List.mem_of_getElem? (i := 748) (by decide +kernel), List.mem_of_getElem? (i := 749) (by decide +kernel)⟩
theorem lw_p34 : lw_okq (⟨"MilkTrainModel", "sign", "(I)I"⟩, 58) := ⟨⟨by decide +kernel, by decide +kernel⟩, List.mem_of_getElem? (i := 750) (by decide +kernel), List.mem_of_getElem? (i := 753) (by decide +kernel), List.mem_of_getElem? (i := 754) (by decide +kernel)⟩
theorem lw_p35 : lw_okq (⟨"MilkTrainModel", "isGood", "()Z"⟩, 58) := ⟨⟨by decide +kernel, by decide +kernel⟩, List.mem_of_getElem? (i := 750) (by decide +kernel), List.mem_of_getElem? (i := 766) (by decide +kernel), List.mem_of_getElem? (i := 767) (by decide +kernel)⟩
theorem lw_p36 : lw_okq (⟨"MilkTrainModel", "readTrain", "()V"⟩, 58) := ⟨⟨by decide +kernel, by decide +kernel⟩, List.mem_of_getElem? (i := 750) (by decide +kernel), List.mem_of_getElem? (i := 770) (by decide +kernel), List.mem_of_getElem? (i := 771) (by decide +kernel)⟩
theorem lw_p37 : lw_okq (⟨"MilkTrainModel", "wrong", "()V"⟩, 58) := ⟨⟨by decide +kernel, by decide +kernel⟩, List.mem_of_getElem? (i := 750) (by decide +kernel), List.mem_of_getElem? (i := 774) (by decide +kernel), List.mem_of_getElem? (i := 775) (by decide +kernel)⟩
theorem lw_p38 : lw_okq (⟨"MilkTrainModel", "fails", "(II)V"⟩, 58) := ⟨⟨by decide +kernel, by decide +kernel⟩, List.mem_of_getElem? (i := 750) (by decide +kernel), List.mem_of_getElem? (i := 778) (by decide +kernel), List.mem_of_getElem? (i := 779) (by decide +kernel)⟩
theorem lw_p39 : lw_okq (⟨"MilkTrainModel", "mustWord", "(J)V"⟩, 58) := ⟨⟨by decide +kernel, by decide +kernel⟩, List.mem_of_getElem? (i := 750) (by decide +kernel), List.mem_of_getElem? (i := 782) (by decide +kernel), List.mem_of_getElem? (i := 783) (by decide +kernel)⟩
theorem lw_p40 : lw_okq (⟨"MilkTrainModel", "must", "(Z)V"⟩, 58) := ⟨⟨by decide +kernel, by decide +kernel⟩, List.mem_of_getElem? (i := 750) (by decide +kernel), List.mem_of_getElem? (i := 786) (by decide +kernel), List.mem_of_getElem? (i := 787) (by decide +kernel)⟩
theorem lw_p41 : lw_okq (⟨"MilkTrainModel", "numeral", "(I)I"⟩, 58) := ⟨⟨by decide +kernel, by decide +kernel⟩, List.mem_of_getElem? (i := 750) (by decide +kernel), List.mem_of_getElem? (i := 790) (by decide +kernel), List.mem_of_getElem? (i := 791) (by decide +kernel)⟩
theorem lw_p42 : lw_okq (⟨"MilkTrainModel", "is", "(I)Z"⟩, 58) := ⟨⟨by decide +kernel, by decide +kernel⟩, List.mem_of_getElem? (i := 750) (by decide +kernel), List.mem_of_getElem? (i := 794) (by decide +kernel), List.mem_of_getElem? (i := 795) (by decide +kernel)⟩
theorem lw_p43 : lw_okq (⟨"MilkTrainModel", "readStop", "(I)V"⟩, 58) := ⟨⟨by decide +kernel, by decide +kernel⟩, List.mem_of_getElem? (i := 750) (by decide +kernel), List.mem_of_getElem? (i := 798) (by decide +kernel), List.mem_of_getElem? (i := 799) (by decide +kernel)⟩
theorem lw_p44 : lw_okq (⟨"MilkTrainModel", "isTrain", "(I)Z"⟩, 58) := ⟨⟨by decide +kernel, by decide +kernel⟩, List.mem_of_getElem? (i := 750) (by decide +kernel), List.mem_of_getElem? (i := 810) (by decide +kernel), List.mem_of_getElem? (i := 811) (by decide +kernel)⟩
theorem lw_p45 : lw_okq (⟨"MilkTrainModel", "stops", "(I)I"⟩, 58) := ⟨⟨by decide +kernel, by decide +kernel⟩, List.mem_of_getElem? (i := 750) (by decide +kernel), List.mem_of_getElem? (i := 814) (by decide +kernel), List.mem_of_getElem? (i := 815) (by decide +kernel)⟩
theorem lw_p46 : lw_okq (⟨"MilkTrainModel", "stations", "(II)I"⟩, 58) := ⟨⟨by decide +kernel, by decide +kernel⟩, List.mem_of_getElem? (i := 750) (by decide +kernel), List.mem_of_getElem? (i := 818) (by decide +kernel), List.mem_of_getElem? (i := 819) (by decide +kernel)⟩
theorem lw_p47 : lw_okq (⟨"MilkTrainModel", "minutes", "(II)I"⟩, 58) := ⟨⟨by decide +kernel, by decide +kernel⟩, List.mem_of_getElem? (i := 750) (by decide +kernel), List.mem_of_getElem? (i := 822) (by decide +kernel), List.mem_of_getElem? (i := 823) (by decide +kernel)⟩
def lw_privs_3 : List (MethodName × Nat) := [(⟨"MilkTrain", "isCalledBack", "(LMilkTrain$Bottling;I)Z"⟩, 17), (⟨"MilkTrainModel", "next", "()V"⟩, 58), (⟨"MilkTrainModel", "sign", "(I)I"⟩, 58), (⟨"MilkTrainModel", "isGood", "()Z"⟩, 58), (⟨"MilkTrainModel", "readTrain", "()V"⟩, 58), (⟨"MilkTrainModel", "wrong", "()V"⟩, 58), (⟨"MilkTrainModel", "fails", "(II)V"⟩, 58), (⟨"MilkTrainModel", "mustWord", "(J)V"⟩, 58), (⟨"MilkTrainModel", "must", "(Z)V"⟩, 58), (⟨"MilkTrainModel", "numeral", "(I)I"⟩, 58), (⟨"MilkTrainModel", "is", "(I)Z"⟩, 58), (⟨"MilkTrainModel", "readStop", "(I)V"⟩, 58), (⟨"MilkTrainModel", "isTrain", "(I)Z"⟩, 58), (⟨"MilkTrainModel", "stops", "(I)I"⟩, 58), (⟨"MilkTrainModel", "stations", "(II)I"⟩, 58), (⟨"MilkTrainModel", "minutes", "(II)I"⟩, 58)]
theorem lw_r3 : ∀ q ∈ lw_privs_3, lw_okq q := List.forall_mem_cons.mpr ⟨lw_p32, List.forall_mem_cons.mpr ⟨lw_p33, List.forall_mem_cons.mpr ⟨lw_p34, List.forall_mem_cons.mpr ⟨lw_p35, List.forall_mem_cons.mpr ⟨lw_p36, List.forall_mem_cons.mpr ⟨lw_p37, List.forall_mem_cons.mpr ⟨lw_p38, List.forall_mem_cons.mpr ⟨lw_p39, List.forall_mem_cons.mpr ⟨lw_p40, List.forall_mem_cons.mpr ⟨lw_p41, List.forall_mem_cons.mpr ⟨lw_p42, List.forall_mem_cons.mpr ⟨lw_p43, List.forall_mem_cons.mpr ⟨lw_p44, List.forall_mem_cons.mpr ⟨lw_p45, List.forall_mem_cons.mpr ⟨lw_p46, List.forall_mem_cons.mpr ⟨lw_p47, fun _ h => absurd h List.not_mem_nil⟩⟩⟩⟩⟩⟩⟩⟩⟩⟩⟩⟩⟩⟩⟩⟩
theorem lw_p48 : lw_okq (⟨"MilkTrainModel", "aMinute", "(I)I"⟩, 58) := ⟨⟨by decide +kernel, by decide +kernel⟩, List.mem_of_getElem? (i := 750) (by decide +kernel), List.mem_of_getElem? (i := 1019) (by decide +kernel), List.mem_of_getElem? (i := 1020) (by decide +kernel)⟩
theorem lw_p49 : lw_okq (⟨"MilkTrainModel", "warmthOf", "(I)I"⟩, 58) := ⟨⟨by decide +kernel, by decide +kernel⟩, List.mem_of_getElem? (i := 750) (by decide +kernel), List.mem_of_getElem? (i := 1023) (by decide +kernel), List.mem_of_getElem? (i := 1024) (by decide +kernel)⟩
theorem lw_p50 : lw_okq (⟨"MilkTrainModel", "isChurn", "(I)Z"⟩, 58) := ⟨⟨by decide +kernel, by decide +kernel⟩, List.mem_of_getElem? (i := 750) (by decide +kernel), List.mem_of_getElem? (i := 1044) (by decide +kernel), List.mem_of_getElem? (i := 1045) (by decide +kernel)⟩
theorem lw_p51 : lw_okq (⟨"MilkTrainModel", "seek", "(I)V"⟩, 58) := ⟨⟨by decide +kernel, by decide +kernel⟩, List.mem_of_getElem? (i := 750) (by decide +kernel), List.mem_of_getElem? (i := 1052) (by decide +kernel), List.mem_of_getElem? (i := 1053) (by decide +kernel)⟩
theorem lw_p52 : lw_okq (⟨"MilkTrainModel", "sumUp", "()V"⟩, 58) := ⟨⟨by decide +kernel, by decide +kernel⟩, List.mem_of_getElem? (i := 750) (by decide +kernel), List.mem_of_getElem? (i := 1056) (by decide +kernel), List.mem_of_getElem? (i := 1057) (by decide +kernel)⟩
theorem lw_p53 : lw_okq (⟨"MilkTrainModel", "goesOn", "(IIII)Z"⟩, 58) := ⟨⟨by decide +kernel, by decide +kernel⟩, List.mem_of_getElem? (i := 750) (by decide +kernel), List.mem_of_getElem? (i := 1061) (by decide +kernel), List.mem_of_getElem? (i := 1062) (by decide +kernel)⟩
theorem lw_p54 : lw_okq (⟨"MilkTrainModel", "waits", "(III)I"⟩, 58) := ⟨⟨by decide +kernel, by decide +kernel⟩, List.mem_of_getElem? (i := 750) (by decide +kernel), List.mem_of_getElem? (i := 1065) (by decide +kernel), List.mem_of_getElem? (i := 1066) (by decide +kernel)⟩
theorem lw_p55 : lw_okq (⟨"MilkTrainModel", "reaches", "(III)Z"⟩, 58) := ⟨⟨by decide +kernel, by decide +kernel⟩, List.mem_of_getElem? (i := 750) (by decide +kernel), List.mem_of_getElem? (i := 1069) (by decide +kernel), List.mem_of_getElem? (i := 1070) (by decide +kernel)⟩
theorem lw_p56 : lw_okq (⟨"MilkTrainModel", "ends", "(II)V"⟩, 58) := ⟨⟨by decide +kernel, by decide +kernel⟩, List.mem_of_getElem? (i := 750) (by decide +kernel), List.mem_of_getElem? (i := 1073) (by decide +kernel), List.mem_of_getElem? (i := 1074) (by decide +kernel)⟩
theorem lw_p57 : lw_okq (⟨"MilkTrainModel", "souredBy", "(II)I"⟩, 58) := ⟨⟨by decide +kernel, by decide +kernel⟩, List.mem_of_getElem? (i := 750) (by decide +kernel), List.mem_of_getElem? (i := 1086) (by decide +kernel), List.mem_of_getElem? (i := 1087) (by decide +kernel)⟩
theorem lw_p58 : lw_okq (⟨"MilkTrainModel", "stopAt", "(II)I"⟩, 58) := ⟨⟨by decide +kernel, by decide +kernel⟩, List.mem_of_getElem? (i := 750) (by decide +kernel), List.mem_of_getElem? (i := 1090) (by decide +kernel), List.mem_of_getElem? (i := 1091) (by decide +kernel)⟩
theorem lw_p59 : lw_okq (⟨"MilkTrainModel", "loadAll", "()V"⟩, 58) := ⟨⟨by decide +kernel, by decide +kernel⟩, List.mem_of_getElem? (i := 750) (by decide +kernel), List.mem_of_getElem? (i := 1098) (by decide +kernel), List.mem_of_getElem? (i := 1099) (by decide +kernel)⟩
theorem lw_p60 : lw_okq (⟨"MilkTrainModel", "price", "()V"⟩, 58) := ⟨⟨by decide +kernel, by decide +kernel⟩, List.mem_of_getElem? (i := 750) (by decide +kernel), List.mem_of_getElem? (i := 1102) (by decide +kernel), List.mem_of_getElem? (i := 1103) (by decide +kernel)⟩
theorem lw_p61 : lw_okq (⟨"MilkTrainModel", "least", "()J"⟩, 58) := ⟨⟨by decide +kernel, by decide +kernel⟩, List.mem_of_getElem? (i := 750) (by decide +kernel), List.mem_of_getElem? (i := 1108) (by decide +kernel), List.mem_of_getElem? (i := 1109) (by decide +kernel)⟩
theorem lw_p62 : lw_okq (⟨"MilkTrainModel", "comesIn", "(I)J"⟩, 58) := ⟨⟨by decide +kernel, by decide +kernel⟩, List.mem_of_getElem? (i := 750) (by decide +kernel), List.mem_of_getElem? (i := 1112) (by decide +kernel), List.mem_of_getElem? (i := 1113) (by decide +kernel)⟩
theorem lw_p63 : lw_okq (⟨"MilkTrainModel", "gives", "(I)Z"⟩, 58) := ⟨⟨by decide +kernel, by decide +kernel⟩, List.mem_of_getElem? (i := 750) (by decide +kernel), List.mem_of_getElem? (i := 1116) (by decide +kernel), List.mem_of_getElem? (i := 1117) (by decide +kernel)⟩
def lw_privs_4 : List (MethodName × Nat) := [(⟨"MilkTrainModel", "aMinute", "(I)I"⟩, 58), (⟨"MilkTrainModel", "warmthOf", "(I)I"⟩, 58), (⟨"MilkTrainModel", "isChurn", "(I)Z"⟩, 58), (⟨"MilkTrainModel", "seek", "(I)V"⟩, 58), (⟨"MilkTrainModel", "sumUp", "()V"⟩, 58), (⟨"MilkTrainModel", "goesOn", "(IIII)Z"⟩, 58), (⟨"MilkTrainModel", "waits", "(III)I"⟩, 58), (⟨"MilkTrainModel", "reaches", "(III)Z"⟩, 58), (⟨"MilkTrainModel", "ends", "(II)V"⟩, 58), (⟨"MilkTrainModel", "souredBy", "(II)I"⟩, 58), (⟨"MilkTrainModel", "stopAt", "(II)I"⟩, 58), (⟨"MilkTrainModel", "loadAll", "()V"⟩, 58), (⟨"MilkTrainModel", "price", "()V"⟩, 58), (⟨"MilkTrainModel", "least", "()J"⟩, 58), (⟨"MilkTrainModel", "comesIn", "(I)J"⟩, 58), (⟨"MilkTrainModel", "gives", "(I)Z"⟩, 58)]
theorem lw_r4 : ∀ q ∈ lw_privs_4, lw_okq q := List.forall_mem_cons.mpr ⟨lw_p48, List.forall_mem_cons.mpr ⟨lw_p49, List.forall_mem_cons.mpr ⟨lw_p50, List.forall_mem_cons.mpr ⟨lw_p51, List.forall_mem_cons.mpr ⟨lw_p52, List.forall_mem_cons.mpr ⟨lw_p53, List.forall_mem_cons.mpr ⟨lw_p54, List.forall_mem_cons.mpr ⟨lw_p55, List.forall_mem_cons.mpr ⟨lw_p56, List.forall_mem_cons.mpr ⟨lw_p57, List.forall_mem_cons.mpr ⟨lw_p58, List.forall_mem_cons.mpr ⟨lw_p59, List.forall_mem_cons.mpr ⟨lw_p60, List.forall_mem_cons.mpr ⟨lw_p61, List.forall_mem_cons.mpr ⟨lw_p62, List.forall_mem_cons.mpr ⟨lw_p63, fun _ h => absurd h List.not_mem_nil⟩⟩⟩⟩⟩⟩⟩⟩⟩⟩⟩⟩⟩⟩⟩⟩
theorem lw_p64 : lw_okq (⟨"MilkTrainModel", "roomOf", "(I)I"⟩, 58) := ⟨⟨by decide +kernel, by decide +kernel⟩, List.mem_of_getElem? (i := 750) (by decide +kernel), List.mem_of_getElem? (i := 1120) (by decide +kernel), List.mem_of_getElem? (i := 1121) (by decide +kernel)⟩
theorem lw_p65 : lw_okq (⟨"MilkTrainModel", "canBe", "(IIJ)Z"⟩, 58) := ⟨⟨by decide +kernel, by decide +kernel⟩, List.mem_of_getElem? (i := 750) (by decide +kernel), List.mem_of_getElem? (i := 1124) (by decide +kernel), List.mem_of_getElem? (i := 1125) (by decide +kernel)⟩
theorem lw_p66 : lw_okq (⟨"MilkTrainModel", "has", "(II)Z"⟩, 58) := ⟨⟨by decide +kernel, by decide +kernel⟩, List.mem_of_getElem? (i := 750) (by decide +kernel), List.mem_of_getElem? (i := 1151) (by decide +kernel), List.mem_of_getElem? (i := 1152) (by decide +kernel)⟩
theorem lw_p67 : lw_okq (⟨"MilkTrainModel", "draw", "(II)V"⟩, 58) := ⟨⟨by decide +kernel, by decide +kernel⟩, List.mem_of_getElem? (i := 750) (by decide +kernel), List.mem_of_getElem? (i := 1155) (by decide +kernel), List.mem_of_getElem? (i := 1156) (by decide +kernel)⟩
theorem lw_p68 : lw_okq (⟨"MilkTrainModel", "isBottling", "(I)Z"⟩, 58) := ⟨⟨by decide +kernel, by decide +kernel⟩, List.mem_of_getElem? (i := 750) (by decide +kernel), List.mem_of_getElem? (i := 1171) (by decide +kernel), List.mem_of_getElem? (i := 1172) (by decide +kernel)⟩
theorem lw_p69 : lw_okq (⟨"MilkTrainModel", "isRecalled", "(II)Z"⟩, 58) := ⟨⟨by decide +kernel, by decide +kernel⟩, List.mem_of_getElem? (i := 750) (by decide +kernel), List.mem_of_getElem? (i := 1187) (by decide +kernel), List.mem_of_getElem? (i := 1188) (by decide +kernel)⟩
def lw_privs_5 : List (MethodName × Nat) := [(⟨"MilkTrainModel", "roomOf", "(I)I"⟩, 58), (⟨"MilkTrainModel", "canBe", "(IIJ)Z"⟩, 58), (⟨"MilkTrainModel", "has", "(II)Z"⟩, 58), (⟨"MilkTrainModel", "draw", "(II)V"⟩, 58), (⟨"MilkTrainModel", "isBottling", "(I)Z"⟩, 58), (⟨"MilkTrainModel", "isRecalled", "(II)Z"⟩, 58)]
theorem lw_r5 : ∀ q ∈ lw_privs_5, lw_okq q := List.forall_mem_cons.mpr ⟨lw_p64, List.forall_mem_cons.mpr ⟨lw_p65, List.forall_mem_cons.mpr ⟨lw_p66, List.forall_mem_cons.mpr ⟨lw_p67, List.forall_mem_cons.mpr ⟨lw_p68, List.forall_mem_cons.mpr ⟨lw_p69, fun _ h => absurd h List.not_mem_nil⟩⟩⟩⟩⟩⟩
def lw_privs : List (MethodName × Nat) := lw_privs_1 ++ (lw_privs_2 ++ (lw_privs_3 ++ (lw_privs_4 ++ (lw_privs_5))))
def lw_tbl : List Cond := k2_sels lw_privs ++ tables_1
theorem lw_privs_ok : ∀ q ∈ lw_privs, lw_okq q := by
  show ∀ q ∈ lw_privs_1 ++ (lw_privs_2 ++ (lw_privs_3 ++ (lw_privs_4 ++ (lw_privs_5)))), lw_okq q
  exact List.forall_mem_append.mpr ⟨lw_r1, List.forall_mem_append.mpr ⟨lw_r2, List.forall_mem_append.mpr ⟨lw_r3, List.forall_mem_append.mpr ⟨lw_r4, lw_r5⟩⟩⟩⟩
-- ===== end of PART A; then your names; then what follows =====
end
section
def RX0 : String := "MilkTrain$Bottling"
def TX0 : u_T := fun k => match k with
  | 0 => ("MilkTrain$Bottling", "pints", "I", false)
  | 1 => ("MilkTrain$Bottling", "farms", "I", false)
  | _ => ("MilkTrain$Bottling", "minute", "I", false)
def tyX0 : Nat → FieldType := fun k => match k with
  | 0 => .int
  | 1 => .int
  | _ => .int
abbrev wsX00 : List Cond := u_ws RX0 TX0 3
theorem nmX0 : ∀ a, a < 3 → ∀ b, b < 3 → a ≠ b → (TX0 a).2.1 ≠ (TX0 b).2.1 := by decide +kernel
theorem tyX0_ok : ∀ k, k < 3 → parseFieldDescriptor (TX0 k).2.2.1 = some (tyX0 k) := by decide +kernel
abbrev cX0_init : ByteArray := prog_2_method_1_code
def yX0_init : MethodName := ⟨RX0, "<init>", "()V"⟩
def RX1 : String := "MilkTrain$Churn"
def TX1 : u_T := fun k => match k with
  | 0 => ("MilkTrain$Churn", "farm", "I", false)
  | 1 => ("MilkTrain$Churn", "station", "I", false)
  | 2 => ("MilkTrain$Churn", "ready", "I", false)
  | 3 => ("MilkTrain$Churn", "pints", "I", false)
  | _ => ("MilkTrain$Churn", "pouredInto", "I", false)
def tyX1 : Nat → FieldType := fun k => match k with
  | 0 => .int
  | 1 => .int
  | 2 => .int
  | 3 => .int
  | _ => .int
abbrev wsX10 : List Cond := u_ws RX1 TX1 5
theorem nmX1 : ∀ a, a < 5 → ∀ b, b < 5 → a ≠ b → (TX1 a).2.1 ≠ (TX1 b).2.1 := by decide +kernel
theorem tyX1_ok : ∀ k, k < 5 → parseFieldDescriptor (TX1 k).2.2.1 = some (tyX1 k) := by decide +kernel
abbrev cX1_init : ByteArray := prog_3_method_1_code
def yX1_init : MethodName := ⟨RX1, "<init>", "()V"⟩
def RX2 : String := "MilkTrain$Climate"
def TX2 : u_T := fun k => match k with
  | 0 => ("MilkTrain$Climate", "told", "[I", true)
  | 1 => ("MilkTrain$Climate", "coolers", "[Z", true)
  | 2 => ("MilkTrain$Climate", "rates", "[I", true)
  | 3 => ("MilkTrain$Climate", "openSums", "[I", true)
  | _ => ("MilkTrain$Climate", "cooledSums", "[I", true)
def tyX2 : Nat → FieldType := fun k => match k with
  | 0 => .array .int
  | 1 => .array .boolean
  | 2 => .array .int
  | 3 => .array .int
  | _ => .array .int
abbrev wsX20 : List Cond := u_ws RX2 TX2 5
theorem nmX2 : ∀ a, a < 5 → ∀ b, b < 5 → a ≠ b → (TX2 a).2.1 ≠ (TX2 b).2.1 := by decide +kernel
theorem tyX2_ok : ∀ k, k < 5 → parseFieldDescriptor (TX2 k).2.2.1 = some (tyX2 k) := by decide +kernel
abbrev cX2_init : ByteArray := prog_4_method_1_code
def yX2_init : MethodName := ⟨RX2, "<init>", "()V"⟩
abbrev cX2_tell : ByteArray := prog_4_method_2_code
def yX2_tell : MethodName := ⟨RX2, "tell", "(II)V"⟩
abbrev cX2_inMinute : ByteArray := prog_4_method_3_code
def yX2_inMinute : MethodName := ⟨RX2, "inMinute", "(II)I"⟩
abbrev cX2_between : ByteArray := prog_4_method_4_code
def yX2_between : MethodName := ⟨RX2, "between", "(III)I"⟩
abbrev cX2_isCooled : ByteArray := prog_4_method_5_code
def yX2_isCooled : MethodName := ⟨RX2, "isCooled", "(I)Z"⟩
abbrev cX2_until : ByteArray := prog_4_method_6_code
def yX2_until : MethodName := ⟨RX2, "until", "(IZ)I"⟩
abbrev cX2_sumUp : ByteArray := prog_4_method_7_code
def yX2_sumUp : MethodName := ⟨RX2, "sumUp", "()V"⟩
abbrev cX2_warmthOf : ByteArray := prog_4_method_8_code
def yX2_warmthOf : MethodName := ⟨RX2, "warmthOf", "(I)I"⟩
def RX3 : String := "MilkTrain$Find"
def TX3 : u_T := fun k => match k with
  | 0 => ("MilkTrain$Find", "farm", "I", false)
  | 1 => ("MilkTrain$Find", "badFrom", "I", false)
  | 2 => ("MilkTrain$Find", "toldAt", "I", false)
  | _ => ("MilkTrain$Find", "untoldAt", "I", false)
def tyX3 : Nat → FieldType := fun k => match k with
  | 0 => .int
  | 1 => .int
  | 2 => .int
  | _ => .int
abbrev wsX30 : List Cond := u_ws RX3 TX3 4
theorem nmX3 : ∀ a, a < 4 → ∀ b, b < 4 → a ≠ b → (TX3 a).2.1 ≠ (TX3 b).2.1 := by decide +kernel
theorem tyX3_ok : ∀ k, k < 4 → parseFieldDescriptor (TX3 k).2.2.1 = some (tyX3 k) := by decide +kernel
abbrev cX3_init : ByteArray := prog_5_method_1_code
def yX3_init : MethodName := ⟨RX3, "<init>", "()V"⟩
abbrev cX3_isKnownAt : ByteArray := prog_5_method_2_code
def yX3_isKnownAt : MethodName := ⟨RX3, "isKnownAt", "(I)Z"⟩
abbrev cX3_concerns : ByteArray := prog_5_method_3_code
def yX3_concerns : MethodName := ⟨RX3, "concerns", "(LMilkTrain$Bottling;)Z"⟩
def RX4 : String := "MilkTrain$Loading"
def TX4 : u_T := fun k => match k with
  | 0 => ("MilkTrain$Loading", "ways", "LMilkTrain$WayFinder;", true)
  | 1 => ("MilkTrain$Loading", "costs", "[[J", true)
  | 2 => ("MilkTrain$Loading", "choices", "[I", true)
  | 3 => ("MilkTrain$Loading", "room", "[I", true)
  | 4 => ("MilkTrain$Loading", "chainCosts", "[J", true)
  | 5 => ("MilkTrain$Loading", "lastMoved", "[I", true)
  | 6 => ("MilkTrain$Loading", "loaded", "I", false)
  | 7 => ("MilkTrain$Loading", "lostPints", "I", false)
  | _ => ("MilkTrain$Loading", "souredTogether", "I", false)
def tyX4 : Nat → FieldType := fun k => match k with
  | 0 => .object "MilkTrain$WayFinder"
  | 1 => .array (.array .long)
  | 2 => .array .int
  | 3 => .array .int
  | 4 => .array .long
  | 5 => .array .int
  | 6 => .int
  | 7 => .int
  | _ => .int
abbrev wsX40 : List Cond := u_ws RX4 TX4 9
theorem nmX4 : ∀ a, a < 9 → ∀ b, b < 9 → a ≠ b → (TX4 a).2.1 ≠ (TX4 b).2.1 := by decide +kernel
theorem tyX4_ok : ∀ k, k < 9 → parseFieldDescriptor (TX4 k).2.2.1 = some (tyX4 k) := by decide +kernel
abbrev cX4_init : ByteArray := prog_6_method_1_code
def yX4_init : MethodName := ⟨RX4, "<init>", "(LMilkTrain$WayFinder;)V"⟩
abbrev cX4_trainOf : ByteArray := prog_6_method_2_code
def yX4_trainOf : MethodName := ⟨RX4, "trainOf", "(I)I"⟩
abbrev cX4_settle : ByteArray := prog_6_method_3_code
def yX4_settle : MethodName := ⟨RX4, "settle", "([LMilkTrain$Churn;ILMilkTrain$Timetable;I)V"⟩
abbrev cX4_makeRoom : ByteArray := prog_6_method_4_code
def yX4_makeRoom : MethodName := ⟨RX4, "makeRoom", "(LMilkTrain$Timetable;)V"⟩
abbrev cX4_setCosts : ByteArray := prog_6_method_5_code
def yX4_setCosts : MethodName := ⟨RX4, "setCosts", "([JLMilkTrain$Churn;LMilkTrain$Timetable;I)V"⟩
abbrev cX4_addDigits : ByteArray := prog_6_method_6_code
def yX4_addDigits : MethodName := ⟨RX4, "addDigits", "([JJ)V"⟩
abbrev cX4_seekChains : ByteArray := prog_6_method_7_code
def yX4_seekChains : MethodName := ⟨RX4, "seekChains", "(I)V"⟩
abbrev cX4_lengthenChains : ByteArray := prog_6_method_8_code
def yX4_lengthenChains : MethodName := ⟨RX4, "lengthenChains", "(I)Z"⟩
abbrev cX4_place : ByteArray := prog_6_method_9_code
def yX4_place : MethodName := ⟨RX4, "place", "(I)V"⟩
abbrev cX4_sumUp : ByteArray := prog_6_method_10_code
def yX4_sumUp : MethodName := ⟨RX4, "sumUp", "([LMilkTrain$Churn;LMilkTrain$Timetable;)V"⟩
def RX5 : String := "MilkTrain$Reader"
def TX5 : u_T := fun k => match k with
  | 0 => ("MilkTrain$Reader", "tape", "LMilkTrain$Tape;", true)
  | 1 => ("MilkTrain$Reader", "behind", "I", false)
  | 2 => ("MilkTrain$Reader", "place", "I", false)
  | 3 => ("MilkTrain$Reader", "kind", "I", false)
  | 4 => ("MilkTrain$Reader", "word", "J", false)
  | 5 => ("MilkTrain$Reader", "number", "I", false)
  | 6 => ("MilkTrain$Reader", "faultKind", "I", false)
  | _ => ("MilkTrain$Reader", "faultPlace", "I", false)
def tyX5 : Nat → FieldType := fun k => match k with
  | 0 => .object "MilkTrain$Tape"
  | 1 => .int
  | 2 => .int
  | 3 => .int
  | 4 => .long
  | 5 => .int
  | 6 => .int
  | _ => .int
abbrev wsX50 : List Cond := u_ws RX5 TX5 8
theorem nmX5 : ∀ a, a < 8 → ∀ b, b < 8 → a ≠ b → (TX5 a).2.1 ≠ (TX5 b).2.1 := by decide +kernel
theorem tyX5_ok : ∀ k, k < 8 → parseFieldDescriptor (TX5 k).2.2.1 = some (tyX5 k) := by decide +kernel
abbrev cX5_init : ByteArray := prog_7_method_1_code
def yX5_init : MethodName := ⟨RX5, "<init>", "(LMilkTrain$Tape;)V"⟩
abbrev cX5_read : ByteArray := prog_7_method_2_code
def yX5_read : MethodName := ⟨RX5, "read", "(LMilkTrain$Timetable;)Z"⟩
abbrev cX5_readHead : ByteArray := prog_7_method_3_code
def yX5_readHead : MethodName := ⟨RX5, "readHead", "(LMilkTrain$Timetable;LMilkTrain$Train;)Z"⟩
abbrev cX5_readStops : ByteArray := prog_7_method_4_code
def yX5_readStops : MethodName := ⟨RX5, "readStops", "(LMilkTrain$Train;)Z"⟩
abbrev cX5_takeName : ByteArray := prog_7_method_5_code
def yX5_takeName : MethodName := ⟨RX5, "takeName", "(LMilkTrain$Timetable;LMilkTrain$Train;)Z"⟩
abbrev cX5_takeCarries : ByteArray := prog_7_method_6_code
def yX5_takeCarries : MethodName := ⟨RX5, "takeCarries", "(LMilkTrain$Train;)Z"⟩
abbrev cX5_takeStation : ByteArray := prog_7_method_7_code
def yX5_takeStation : MethodName := ⟨RX5, "takeStation", "(LMilkTrain$Train;I)Z"⟩
abbrev cX5_takeMinute : ByteArray := prog_7_method_8_code
def yX5_takeMinute : MethodName := ⟨RX5, "takeMinute", "(LMilkTrain$Train;I)Z"⟩
abbrev cX5_takeWord : ByteArray := prog_7_method_9_code
def yX5_takeWord : MethodName := ⟨RX5, "takeWord", "(J)Z"⟩
abbrev cX5_takeSign : ByteArray := prog_7_method_10_code
def yX5_takeSign : MethodName := ⟨RX5, "takeSign", "(I)Z"⟩
abbrev cX5_refuseToken : ByteArray := prog_7_method_11_code
def yX5_refuseToken : MethodName := ⟨RX5, "refuseToken", "()Z"⟩
abbrev cX5_refuse : ByteArray := prog_7_method_12_code
def yX5_refuse : MethodName := ⟨RX5, "refuse", "(I)Z"⟩
abbrev cX5_advance : ByteArray := prog_7_method_13_code
def yX5_advance : MethodName := ⟨RX5, "advance", "()V"⟩
abbrev cX5_scanWord : ByteArray := prog_7_method_14_code
def yX5_scanWord : MethodName := ⟨RX5, "scanWord", "()V"⟩
abbrev cX5_scanNumber : ByteArray := prog_7_method_15_code
def yX5_scanNumber : MethodName := ⟨RX5, "scanNumber", "()V"⟩
abbrev cX5_isBlank : ByteArray := prog_7_method_16_code
def yX5_isBlank : MethodName := ⟨RX5, "isBlank", "(I)Z"⟩
abbrev cX5_isLetter : ByteArray := prog_7_method_17_code
def yX5_isLetter : MethodName := ⟨RX5, "isLetter", "(I)Z"⟩
abbrev cX5_isDigit : ByteArray := prog_7_method_18_code
def yX5_isDigit : MethodName := ⟨RX5, "isDigit", "(I)Z"⟩
def RX6 : String := "MilkTrain$Tank"
def TX6 : u_T := fun k => match k with
  | 0 => ("MilkTrain$Tank", "pints", "I", false)
  | _ => ("MilkTrain$Tank", "farms", "I", false)
def tyX6 : Nat → FieldType := fun k => match k with
  | 0 => .int
  | _ => .int
abbrev wsX60 : List Cond := u_ws RX6 TX6 2
theorem nmX6 : ∀ a, a < 2 → ∀ b, b < 2 → a ≠ b → (TX6 a).2.1 ≠ (TX6 b).2.1 := by decide +kernel
theorem tyX6_ok : ∀ k, k < 2 → parseFieldDescriptor (TX6 k).2.2.1 = some (tyX6 k) := by decide +kernel
abbrev cX6_init : ByteArray := prog_8_method_1_code
def yX6_init : MethodName := ⟨RX6, "<init>", "()V"⟩
abbrev cX6_hasRoomFor : ByteArray := prog_8_method_2_code
def yX6_hasRoomFor : MethodName := ⟨RX6, "hasRoomFor", "(I)Z"⟩
abbrev cX6_canGive : ByteArray := prog_8_method_3_code
def yX6_canGive : MethodName := ⟨RX6, "canGive", "(I)Z"⟩
abbrev cX6_fill : ByteArray := prog_8_method_4_code
def yX6_fill : MethodName := ⟨RX6, "fill", "(II)V"⟩
abbrev cX6_draw : ByteArray := prog_8_method_5_code
def yX6_draw : MethodName := ⟨RX6, "draw", "(I)V"⟩
def RX7 : String := "MilkTrain$Tape"
def TX7 : u_T := fun k => match k with
  | 0 => ("MilkTrain$Tape", "bytes", "[I", true)
  | _ => ("MilkTrain$Tape", "length", "I", false)
def tyX7 : Nat → FieldType := fun k => match k with
  | 0 => .array .int
  | _ => .int
abbrev wsX70 : List Cond := u_ws RX7 TX7 2
theorem nmX7 : ∀ a, a < 2 → ∀ b, b < 2 → a ≠ b → (TX7 a).2.1 ≠ (TX7 b).2.1 := by decide +kernel
theorem tyX7_ok : ∀ k, k < 2 → parseFieldDescriptor (TX7 k).2.2.1 = some (tyX7 k) := by decide +kernel
abbrev cX7_init : ByteArray := prog_9_method_1_code
def yX7_init : MethodName := ⟨RX7, "<init>", "()V"⟩
abbrev cX7_append : ByteArray := prog_9_method_2_code
def yX7_append : MethodName := ⟨RX7, "append", "(I)V"⟩
abbrev cX7_byteAt : ByteArray := prog_9_method_3_code
def yX7_byteAt : MethodName := ⟨RX7, "byteAt", "(I)I"⟩
def RX8 : String := "MilkTrain$Timetable"
def TX8 : u_T := fun k => match k with
  | 0 => ("MilkTrain$Timetable", "trains", "[LMilkTrain$Train;", true)
  | _ => ("MilkTrain$Timetable", "count", "I", false)
def tyX8 : Nat → FieldType := fun k => match k with
  | 0 => .array (.object "MilkTrain$Train")
  | _ => .int
abbrev wsX80 : List Cond := u_ws RX8 TX8 2
theorem nmX8 : ∀ a, a < 2 → ∀ b, b < 2 → a ≠ b → (TX8 a).2.1 ≠ (TX8 b).2.1 := by decide +kernel
theorem tyX8_ok : ∀ k, k < 2 → parseFieldDescriptor (TX8 k).2.2.1 = some (tyX8 k) := by decide +kernel
abbrev cX8_init : ByteArray := prog_10_method_1_code
def yX8_init : MethodName := ⟨RX8, "<init>", "()V"⟩
abbrev cX8_has : ByteArray := prog_10_method_2_code
def yX8_has : MethodName := ⟨RX8, "has", "(I)Z"⟩
abbrev cX8_hasName : ByteArray := prog_10_method_3_code
def yX8_hasName : MethodName := ⟨RX8, "hasName", "(J)Z"⟩
def RX9 : String := "MilkTrain$Train"
def TX9 : u_T := fun k => match k with
  | 0 => ("MilkTrain$Train", "name", "J", false)
  | 1 => ("MilkTrain$Train", "carries", "I", false)
  | 2 => ("MilkTrain$Train", "late", "I", false)
  | 3 => ("MilkTrain$Train", "stops", "I", false)
  | 4 => ("MilkTrain$Train", "stations", "[I", true)
  | _ => ("MilkTrain$Train", "minutes", "[I", true)
def tyX9 : Nat → FieldType := fun k => match k with
  | 0 => .long
  | 1 => .int
  | 2 => .int
  | 3 => .int
  | 4 => .array .int
  | _ => .array .int
abbrev wsX90 : List Cond := u_ws RX9 TX9 6
theorem nmX9 : ∀ a, a < 6 → ∀ b, b < 6 → a ≠ b → (TX9 a).2.1 ≠ (TX9 b).2.1 := by decide +kernel
theorem tyX9_ok : ∀ k, k < 6 → parseFieldDescriptor (TX9 k).2.2.1 = some (tyX9 k) := by decide +kernel
abbrev cX9_init : ByteArray := prog_11_method_1_code
def yX9_init : MethodName := ⟨RX9, "<init>", "()V"⟩
abbrev cX9_begin : ByteArray := prog_11_method_2_code
def yX9_begin : MethodName := ⟨RX9, "begin", "(J)V"⟩
abbrev cX9_stationOf : ByteArray := prog_11_method_3_code
def yX9_stationOf : MethodName := ⟨RX9, "stationOf", "(I)I"⟩
abbrev cX9_minuteOf : ByteArray := prog_11_method_4_code
def yX9_minuteOf : MethodName := ⟨RX9, "minuteOf", "(I)I"⟩
abbrev cX9_stopAt : ByteArray := prog_11_method_5_code
def yX9_stopAt : MethodName := ⟨RX9, "stopAt", "(I)I"⟩
def RX10 : String := "MilkTrain$WayFinder"
def TX10 : u_T := fun k => match k with
  | 0 => ("MilkTrain$WayFinder", "climate", "LMilkTrain$Climate;", true)
  | 1 => ("MilkTrain$WayFinder", "stations", "[I", true)
  | 2 => ("MilkTrain$WayFinder", "minutes", "[I", true)
  | 3 => ("MilkTrain$WayFinder", "costs", "[I", true)
  | 4 => ("MilkTrain$WayFinder", "byMinute", "[I", true)
  | 5 => ("MilkTrain$WayFinder", "count", "I", false)
  | 6 => ("MilkTrain$WayFinder", "soured", "I", false)
  | 7 => ("MilkTrain$WayFinder", "ends", "I", false)
  | _ => ("MilkTrain$WayFinder", "rides", "I", false)
def tyX10 : Nat → FieldType := fun k => match k with
  | 0 => .object "MilkTrain$Climate"
  | 1 => .array .int
  | 2 => .array .int
  | 3 => .array .int
  | 4 => .array .int
  | 5 => .int
  | 6 => .int
  | 7 => .int
  | _ => .int
abbrev wsX100 : List Cond := u_ws RX10 TX10 9
theorem nmX10 : ∀ a, a < 9 → ∀ b, b < 9 → a ≠ b → (TX10 a).2.1 ≠ (TX10 b).2.1 := by decide +kernel
theorem tyX10_ok : ∀ k, k < 9 → parseFieldDescriptor (TX10 k).2.2.1 = some (tyX10 k) := by decide +kernel
abbrev cX10_init : ByteArray := prog_12_method_1_code
def yX10_init : MethodName := ⟨RX10, "<init>", "(LMilkTrain$Climate;)V"⟩
abbrev cX10_direct : ByteArray := prog_12_method_2_code
def yX10_direct : MethodName := ⟨RX10, "direct", "(LMilkTrain$Churn;LMilkTrain$Train;)I"⟩
abbrev cX10_seek : ByteArray := prog_12_method_3_code
def yX10_seek : MethodName := ⟨RX10, "seek", "(LMilkTrain$Churn;LMilkTrain$Timetable;)V"⟩
abbrev cX10_gatherStops : ByteArray := prog_12_method_4_code
def yX10_gatherStops : MethodName := ⟨RX10, "gatherStops", "(LMilkTrain$Timetable;)V"⟩
abbrev cX10_insertByMinute : ByteArray := prog_12_method_5_code
def yX10_insertByMinute : MethodName := ⟨RX10, "insertByMinute", "(I)V"⟩
abbrev cX10_costAt : ByteArray := prog_12_method_6_code
def yX10_costAt : MethodName := ⟨RX10, "costAt", "(IILMilkTrain$Churn;)I"⟩
abbrev cX10_boardingCost : ByteArray := prog_12_method_7_code
def yX10_boardingCost : MethodName := ⟨RX10, "boardingCost", "(IILMilkTrain$Churn;)I"⟩
abbrev cX10_keepBetter : ByteArray := prog_12_method_8_code
def yX10_keepBetter : MethodName := ⟨RX10, "keepBetter", "(II)V"⟩
def RX11 : String := "MilkTrain"
def TX11 : u_T := fun k => match k with
  | 0 => ("MilkTrain", "tape", "LMilkTrain$Tape;", true)
  | 1 => ("MilkTrain", "reader", "LMilkTrain$Reader;", true)
  | 2 => ("MilkTrain", "table", "LMilkTrain$Timetable;", false)
  | 3 => ("MilkTrain", "spare", "LMilkTrain$Timetable;", false)
  | 4 => ("MilkTrain", "climate", "LMilkTrain$Climate;", true)
  | 5 => ("MilkTrain", "ways", "LMilkTrain$WayFinder;", true)
  | 6 => ("MilkTrain", "best", "LMilkTrain$Loading;", true)
  | 7 => ("MilkTrain", "bestIsOld", "Z", false)
  | 8 => ("MilkTrain", "sourFrom", "I", false)
  | 9 => ("MilkTrain", "churns", "[LMilkTrain$Churn;", true)
  | 10 => ("MilkTrain", "churnCount", "I", false)
  | 11 => ("MilkTrain", "tanks", "[LMilkTrain$Tank;", true)
  | 12 => ("MilkTrain", "bottlings", "[LMilkTrain$Bottling;", true)
  | 13 => ("MilkTrain", "bottlingCount", "I", false)
  | 14 => ("MilkTrain", "finds", "[LMilkTrain$Find;", true)
  | 15 => ("MilkTrain", "findCount", "I", false)
  | _ => ("MilkTrain", "clock", "I", false)
def tyX11 : Nat → FieldType := fun k => match k with
  | 0 => .object "MilkTrain$Tape"
  | 1 => .object "MilkTrain$Reader"
  | 2 => .object "MilkTrain$Timetable"
  | 3 => .object "MilkTrain$Timetable"
  | 4 => .object "MilkTrain$Climate"
  | 5 => .object "MilkTrain$WayFinder"
  | 6 => .object "MilkTrain$Loading"
  | 7 => .boolean
  | 8 => .int
  | 9 => .array (.object "MilkTrain$Churn")
  | 10 => .int
  | 11 => .array (.object "MilkTrain$Tank")
  | 12 => .array (.object "MilkTrain$Bottling")
  | 13 => .int
  | 14 => .array (.object "MilkTrain$Find")
  | 15 => .int
  | _ => .int
abbrev wsX110 : List Cond := u_ws RX11 TX11 17
theorem nmX11 : ∀ a, a < 17 → ∀ b, b < 17 → a ≠ b → (TX11 a).2.1 ≠ (TX11 b).2.1 := by decide +kernel
theorem tyX11_ok : ∀ k, k < 17 → parseFieldDescriptor (TX11 k).2.2.1 = some (tyX11 k) := by decide +kernel
abbrev cX11_init : ByteArray := prog_1_method_1_code
def yX11_init : MethodName := ⟨RX11, "<init>", "()V"⟩
abbrev cX11_feed : ByteArray := prog_1_method_2_code
def yX11_feed : MethodName := ⟨RX11, "feed", "(IIIII)I"⟩
abbrev cX11_end : ByteArray := prog_1_method_3_code
def yX11_end : MethodName := ⟨RX11, "end", "(I)I"⟩
abbrev cX11_timetable : ByteArray := prog_1_method_4_code
def yX11_timetable : MethodName := ⟨RX11, "timetable", "()I"⟩
abbrev cX11_fault : ByteArray := prog_1_method_5_code
def yX11_fault : MethodName := ⟨RX11, "fault", "(I)I"⟩
abbrev cX11_train : ByteArray := prog_1_method_6_code
def yX11_train : MethodName := ⟨RX11, "train", "(II)I"⟩
abbrev cX11_stopOf : ByteArray := prog_1_method_7_code
def yX11_stopOf : MethodName := ⟨RX11, "stopOf", "(LMilkTrain$Train;I)I"⟩
abbrev cX11_delay : ByteArray := prog_1_method_8_code
def yX11_delay : MethodName := ⟨RX11, "delay", "(II)Z"⟩
abbrev cX11_warmth : ByteArray := prog_1_method_9_code
def yX11_warmth : MethodName := ⟨RX11, "warmth", "(II)Z"⟩
abbrev cX11_sours : ByteArray := prog_1_method_10_code
def yX11_sours : MethodName := ⟨RX11, "sours", "(II)I"⟩
abbrev cX11_cooler : ByteArray := prog_1_method_11_code
def yX11_cooler : MethodName := ⟨RX11, "cooler", "(IZ)Z"⟩
abbrev cX11_limit : ByteArray := prog_1_method_12_code
def yX11_limit : MethodName := ⟨RX11, "limit", "(I)Z"⟩
abbrev cX11_churn : ByteArray := prog_1_method_13_code
def yX11_churn : MethodName := ⟨RX11, "churn", "(IIII)I"⟩
abbrev cX11_of : ByteArray := prog_1_method_14_code
def yX11_of : MethodName := ⟨RX11, "of", "(II)I"⟩
abbrev cX11_alone : ByteArray := prog_1_method_15_code
def yX11_alone : MethodName := ⟨RX11, "alone", "(I)I"⟩
abbrev cX11_way : ByteArray := prog_1_method_16_code
def yX11_way : MethodName := ⟨RX11, "way", "(II)I"⟩
abbrev cX11_by : ByteArray := prog_1_method_17_code
def yX11_by : MethodName := ⟨RX11, "by", "(II)I"⟩
abbrev cX11_lost : ByteArray := prog_1_method_18_code
def yX11_lost : MethodName := ⟨RX11, "lost", "()I"⟩
abbrev cX11_souring : ByteArray := prog_1_method_19_code
def yX11_souring : MethodName := ⟨RX11, "souring", "()I"⟩
abbrev cX11_load : ByteArray := prog_1_method_20_code
def yX11_load : MethodName := ⟨RX11, "load", "(I)I"⟩
abbrev cX11_later : ByteArray := prog_1_method_21_code
def yX11_later : MethodName := ⟨RX11, "later", "(I)I"⟩
abbrev cX11_pour : ByteArray := prog_1_method_22_code
def yX11_pour : MethodName := ⟨RX11, "pour", "(II)I"⟩
abbrev cX11_lead : ByteArray := prog_1_method_23_code
def yX11_lead : MethodName := ⟨RX11, "lead", "(III)I"⟩
abbrev cX11_bottle : ByteArray := prog_1_method_24_code
def yX11_bottle : MethodName := ⟨RX11, "bottle", "(II)I"⟩
abbrev cX11_tank : ByteArray := prog_1_method_25_code
def yX11_tank : MethodName := ⟨RX11, "tank", "(II)I"⟩
abbrev cX11_bottling : ByteArray := prog_1_method_26_code
def yX11_bottling : MethodName := ⟨RX11, "bottling", "(II)I"⟩
abbrev cX11_find : ByteArray := prog_1_method_27_code
def yX11_find : MethodName := ⟨RX11, "find", "(II)I"⟩
abbrev cX11_untell : ByteArray := prog_1_method_28_code
def yX11_untell : MethodName := ⟨RX11, "untell", "(I)Z"⟩
abbrev cX11_recalled : ByteArray := prog_1_method_29_code
def yX11_recalled : MethodName := ⟨RX11, "recalled", "(II)I"⟩
abbrev cX11_recall : ByteArray := prog_1_method_30_code
def yX11_recall : MethodName := ⟨RX11, "recall", "(I)I"⟩
abbrev cX11_about : ByteArray := prog_1_method_31_code
def yX11_about : MethodName := ⟨RX11, "about", "(I)I"⟩
abbrev cX11_isFarm : ByteArray := prog_1_method_32_code
def yX11_isFarm : MethodName := ⟨RX11, "isFarm", "(I)Z"⟩
abbrev cX11_isChurn : ByteArray := prog_1_method_33_code
def yX11_isChurn : MethodName := ⟨RX11, "isChurn", "(I)Z"⟩
abbrev cX11_isTank : ByteArray := prog_1_method_34_code
def yX11_isTank : MethodName := ⟨RX11, "isTank", "(I)Z"⟩
abbrev cX11_isBottling : ByteArray := prog_1_method_35_code
def yX11_isBottling : MethodName := ⟨RX11, "isBottling", "(I)Z"⟩
abbrev cX11_isCalledBack : ByteArray := prog_1_method_36_code
def yX11_isCalledBack : MethodName := ⟨RX11, "isCalledBack", "(LMilkTrain$Bottling;I)Z"⟩
abbrev cX11_renewBest : ByteArray := prog_1_method_37_code
def yX11_renewBest : MethodName := ⟨RX11, "renewBest", "()V"⟩
def RX12 : String := "MilkTrainModel"
def TX12 : u_T := fun k => match k with
  | 0 => ("MilkTrainModel", "tape", "[B", true)
  | 1 => ("MilkTrainModel", "text", "[B", true)
  | 2 => ("MilkTrainModel", "taped", "I", false)
  | 3 => ("MilkTrainModel", "size", "I", false)
  | 4 => ("MilkTrainModel", "faultKind", "I", false)
  | 5 => ("MilkTrainModel", "faultPlace", "I", false)
  | 6 => ("MilkTrainModel", "at", "I", false)
  | 7 => ("MilkTrainModel", "end", "I", false)
  | 8 => ("MilkTrainModel", "token", "I", false)
  | 9 => ("MilkTrainModel", "number", "I", false)
  | 10 => ("MilkTrainModel", "name", "J", false)
  | 11 => ("MilkTrainModel", "tName", "[J", true)
  | 12 => ("MilkTrainModel", "tCarries", "[I", true)
  | 13 => ("MilkTrainModel", "tStops", "[I", true)
  | 14 => ("MilkTrainModel", "pStation", "[I", true)
  | 15 => ("MilkTrainModel", "pMinute", "[I", true)
  | 16 => ("MilkTrainModel", "many", "[I", true)
  | 17 => ("MilkTrainModel", "delays", "[I", true)
  | 18 => ("MilkTrainModel", "bank", "I", false)
  | 19 => ("MilkTrainModel", "rb", "I", false)
  | 20 => ("MilkTrainModel", "warmths", "[I", true)
  | 21 => ("MilkTrainModel", "ridden", "[I", true)
  | 22 => ("MilkTrainModel", "cooled", "[I", true)
  | 23 => ("MilkTrainModel", "hasCooler", "[Z", true)
  | 24 => ("MilkTrainModel", "limit", "I", false)
  | 25 => ("MilkTrainModel", "cFarm", "[I", true)
  | 26 => ("MilkTrainModel", "cStation", "[I", true)
  | 27 => ("MilkTrainModel", "cReady", "[I", true)
  | 28 => ("MilkTrainModel", "cPints", "[I", true)
  | 29 => ("MilkTrainModel", "cTank", "[I", true)
  | 30 => ("MilkTrainModel", "churns", "I", false)
  | 31 => ("MilkTrainModel", "sourTo", "[I", true)
  | 32 => ("MilkTrainModel", "trainsTo", "[I", true)
  | 33 => ("MilkTrainModel", "aloneSour", "I", false)
  | 34 => ("MilkTrainModel", "aloneEnd", "I", false)
  | 35 => ("MilkTrainModel", "aloneTrains", "I", false)
  | 36 => ("MilkTrainModel", "now", "[I", true)
  | 37 => ("MilkTrainModel", "best", "[I", true)
  | 38 => ("MilkTrainModel", "bestLost", "I", false)
  | 39 => ("MilkTrainModel", "bestSour", "I", false)
  | 40 => ("MilkTrainModel", "costs", "[J", true)
  | 41 => ("MilkTrainModel", "far", "[J", true)
  | 42 => ("MilkTrainModel", "comes", "[I", true)
  | 43 => ("MilkTrainModel", "leaves", "[I", true)
  | 44 => ("MilkTrainModel", "on", "[I", true)
  | 45 => ("MilkTrainModel", "kept", "[J", true)
  | 46 => ("MilkTrainModel", "tankPints", "[I", true)
  | 47 => ("MilkTrainModel", "tankFarms", "[I", true)
  | 48 => ("MilkTrainModel", "bPints", "[I", true)
  | 49 => ("MilkTrainModel", "bFarms", "[I", true)
  | 50 => ("MilkTrainModel", "bMade", "[I", true)
  | 51 => ("MilkTrainModel", "fFarm", "[I", true)
  | 52 => ("MilkTrainModel", "fFrom", "[I", true)
  | 53 => ("MilkTrainModel", "fTold", "[I", true)
  | 54 => ("MilkTrainModel", "fUntold", "[I", true)
  | 55 => ("MilkTrainModel", "clock", "I", false)
  | 56 => ("MilkTrainModel", "bottlings", "I", false)
  | _ => ("MilkTrainModel", "finds", "I", false)
def tyX12 : Nat → FieldType := fun k => match k with
  | 0 => .array .byte
  | 1 => .array .byte
  | 2 => .int
  | 3 => .int
  | 4 => .int
  | 5 => .int
  | 6 => .int
  | 7 => .int
  | 8 => .int
  | 9 => .int
  | 10 => .long
  | 11 => .array .long
  | 12 => .array .int
  | 13 => .array .int
  | 14 => .array .int
  | 15 => .array .int
  | 16 => .array .int
  | 17 => .array .int
  | 18 => .int
  | 19 => .int
  | 20 => .array .int
  | 21 => .array .int
  | 22 => .array .int
  | 23 => .array .boolean
  | 24 => .int
  | 25 => .array .int
  | 26 => .array .int
  | 27 => .array .int
  | 28 => .array .int
  | 29 => .array .int
  | 30 => .int
  | 31 => .array .int
  | 32 => .array .int
  | 33 => .int
  | 34 => .int
  | 35 => .int
  | 36 => .array .int
  | 37 => .array .int
  | 38 => .int
  | 39 => .int
  | 40 => .array .long
  | 41 => .array .long
  | 42 => .array .int
  | 43 => .array .int
  | 44 => .array .int
  | 45 => .array .long
  | 46 => .array .int
  | 47 => .array .int
  | 48 => .array .int
  | 49 => .array .int
  | 50 => .array .int
  | 51 => .array .int
  | 52 => .array .int
  | 53 => .array .int
  | 54 => .array .int
  | 55 => .int
  | 56 => .int
  | _ => .int
abbrev wsX120 : List Cond := u_ws RX12 TX12 58
theorem nmX12 : ∀ a, a < 58 → ∀ b, b < 58 → a ≠ b → (TX12 a).2.1 ≠ (TX12 b).2.1 := by decide +kernel
theorem tyX12_ok : ∀ k, k < 58 → parseFieldDescriptor (TX12 k).2.2.1 = some (tyX12 k) := by decide +kernel
abbrev cX12_sign : ByteArray := prog_14_method_1_code
def yX12_sign : MethodName := ⟨RX12, "sign", "(I)I"⟩
abbrev cX12_isLetter : ByteArray := prog_14_method_2_code
def yX12_isLetter : MethodName := ⟨RX12, "isLetter", "(I)Z"⟩
abbrev cX12_isDigit : ByteArray := prog_14_method_3_code
def yX12_isDigit : MethodName := ⟨RX12, "isDigit", "(I)Z"⟩
abbrev cX12_fails : ByteArray := prog_14_method_4_code
def yX12_fails : MethodName := ⟨RX12, "fails", "(II)V"⟩
abbrev cX12_isGood : ByteArray := prog_14_method_5_code
def yX12_isGood : MethodName := ⟨RX12, "isGood", "()Z"⟩
abbrev cX12_next : ByteArray := prog_14_method_6_code
def yX12_next : MethodName := ⟨RX12, "next", "()V"⟩
abbrev cX12_is : ByteArray := prog_14_method_7_code
def yX12_is : MethodName := ⟨RX12, "is", "(I)Z"⟩
abbrev cX12_wrong : ByteArray := prog_14_method_8_code
def yX12_wrong : MethodName := ⟨RX12, "wrong", "()V"⟩
abbrev cX12_must : ByteArray := prog_14_method_9_code
def yX12_must : MethodName := ⟨RX12, "must", "(Z)V"⟩
abbrev cX12_mustWord : ByteArray := prog_14_method_10_code
def yX12_mustWord : MethodName := ⟨RX12, "mustWord", "(J)V"⟩
abbrev cX12_timetable : ByteArray := prog_14_method_11_code
def yX12_timetable : MethodName := ⟨RX12, "timetable", "()I"⟩
abbrev cX12_readTrain : ByteArray := prog_14_method_12_code
def yX12_readTrain : MethodName := ⟨RX12, "readTrain", "()V"⟩
abbrev cX12_numeral : ByteArray := prog_14_method_13_code
def yX12_numeral : MethodName := ⟨RX12, "numeral", "(I)I"⟩
abbrev cX12_readStop : ByteArray := prog_14_method_14_code
def yX12_readStop : MethodName := ⟨RX12, "readStop", "(I)V"⟩
abbrev cX12_fault : ByteArray := prog_14_method_15_code
def yX12_fault : MethodName := ⟨RX12, "fault", "(I)I"⟩
abbrev cX12_isTrain : ByteArray := prog_14_method_16_code
def yX12_isTrain : MethodName := ⟨RX12, "isTrain", "(I)Z"⟩
abbrev cX12_stations : ByteArray := prog_14_method_17_code
def yX12_stations : MethodName := ⟨RX12, "stations", "(II)I"⟩
abbrev cX12_minutes : ByteArray := prog_14_method_18_code
def yX12_minutes : MethodName := ⟨RX12, "minutes", "(II)I"⟩
abbrev cX12_stops : ByteArray := prog_14_method_19_code
def yX12_stops : MethodName := ⟨RX12, "stops", "(I)I"⟩
abbrev cX12_train : ByteArray := prog_14_method_20_code
def yX12_train : MethodName := ⟨RX12, "train", "(II)I"⟩
abbrev cX12_delay : ByteArray := prog_14_method_21_code
def yX12_delay : MethodName := ⟨RX12, "delay", "(II)Z"⟩
abbrev cX12_init : ByteArray := prog_14_method_22_code
def yX12_init : MethodName := ⟨RX12, "<init>", "()V"⟩
abbrev cX12_warmth : ByteArray := prog_14_method_23_code
def yX12_warmth : MethodName := ⟨RX12, "warmth", "(II)Z"⟩
abbrev cX12_warmthOf : ByteArray := prog_14_method_24_code
def yX12_warmthOf : MethodName := ⟨RX12, "warmthOf", "(I)I"⟩
abbrev cX12_aMinute : ByteArray := prog_14_method_25_code
def yX12_aMinute : MethodName := ⟨RX12, "aMinute", "(I)I"⟩
abbrev cX12_sumUp : ByteArray := prog_14_method_26_code
def yX12_sumUp : MethodName := ⟨RX12, "sumUp", "()V"⟩
abbrev cX12_sours : ByteArray := prog_14_method_27_code
def yX12_sours : MethodName := ⟨RX12, "sours", "(II)I"⟩
abbrev cX12_waits : ByteArray := prog_14_method_28_code
def yX12_waits : MethodName := ⟨RX12, "waits", "(III)I"⟩
abbrev cX12_cooler : ByteArray := prog_14_method_29_code
def yX12_cooler : MethodName := ⟨RX12, "cooler", "(IZ)Z"⟩
abbrev cX12_limit : ByteArray := prog_14_method_30_code
def yX12_limit : MethodName := ⟨RX12, "limit", "(I)Z"⟩
abbrev cX12_isChurn : ByteArray := prog_14_method_31_code
def yX12_isChurn : MethodName := ⟨RX12, "isChurn", "(I)Z"⟩
abbrev cX12_churn : ByteArray := prog_14_method_32_code
def yX12_churn : MethodName := ⟨RX12, "churn", "(IIII)I"⟩
abbrev cX12_of : ByteArray := prog_14_method_33_code
def yX12_of : MethodName := ⟨RX12, "of", "(II)I"⟩
abbrev cX12_goesOn : ByteArray := prog_14_method_34_code
def yX12_goesOn : MethodName := ⟨RX12, "goesOn", "(IIII)Z"⟩
abbrev cX12_reaches : ByteArray := prog_14_method_35_code
def yX12_reaches : MethodName := ⟨RX12, "reaches", "(III)Z"⟩
abbrev cX12_seek : ByteArray := prog_14_method_36_code
def yX12_seek : MethodName := ⟨RX12, "seek", "(I)V"⟩
abbrev cX12_ends : ByteArray := prog_14_method_37_code
def yX12_ends : MethodName := ⟨RX12, "ends", "(II)V"⟩
abbrev cX12_alone : ByteArray := prog_14_method_38_code
def yX12_alone : MethodName := ⟨RX12, "alone", "(I)I"⟩
abbrev cX12_way : ByteArray := prog_14_method_39_code
def yX12_way : MethodName := ⟨RX12, "way", "(II)I"⟩
abbrev cX12_stopAt : ByteArray := prog_14_method_40_code
def yX12_stopAt : MethodName := ⟨RX12, "stopAt", "(II)I"⟩
abbrev cX12_souredBy : ByteArray := prog_14_method_41_code
def yX12_souredBy : MethodName := ⟨RX12, "souredBy", "(II)I"⟩
abbrev cX12_by : ByteArray := prog_14_method_42_code
def yX12_by : MethodName := ⟨RX12, "by", "(II)I"⟩
abbrev cX12_roomOf : ByteArray := prog_14_method_43_code
def yX12_roomOf : MethodName := ⟨RX12, "roomOf", "(I)I"⟩
abbrev cX12_price : ByteArray := prog_14_method_44_code
def yX12_price : MethodName := ⟨RX12, "price", "()V"⟩
abbrev cX12_least : ByteArray := prog_14_method_45_code
def yX12_least : MethodName := ⟨RX12, "least", "()J"⟩
abbrev cX12_comesIn : ByteArray := prog_14_method_46_code
def yX12_comesIn : MethodName := ⟨RX12, "comesIn", "(I)J"⟩
abbrev cX12_gives : ByteArray := prog_14_method_47_code
def yX12_gives : MethodName := ⟨RX12, "gives", "(I)Z"⟩
abbrev cX12_loadAll : ByteArray := prog_14_method_48_code
def yX12_loadAll : MethodName := ⟨RX12, "loadAll", "()V"⟩
abbrev cX12_canBe : ByteArray := prog_14_method_49_code
def yX12_canBe : MethodName := ⟨RX12, "canBe", "(IIJ)Z"⟩
abbrev cX12_lost : ByteArray := prog_14_method_50_code
def yX12_lost : MethodName := ⟨RX12, "lost", "()I"⟩
abbrev cX12_souring : ByteArray := prog_14_method_51_code
def yX12_souring : MethodName := ⟨RX12, "souring", "()I"⟩
abbrev cX12_load : ByteArray := prog_14_method_52_code
def yX12_load : MethodName := ⟨RX12, "load", "(I)I"⟩
abbrev cX12_later : ByteArray := prog_14_method_53_code
def yX12_later : MethodName := ⟨RX12, "later", "(I)I"⟩
abbrev cX12_isTank : ByteArray := prog_14_method_54_code
def yX12_isTank : MethodName := ⟨RX12, "isTank", "(I)Z"⟩
abbrev cX12_pour : ByteArray := prog_14_method_55_code
def yX12_pour : MethodName := ⟨RX12, "pour", "(II)I"⟩
abbrev cX12_has : ByteArray := prog_14_method_56_code
def yX12_has : MethodName := ⟨RX12, "has", "(II)Z"⟩
abbrev cX12_draw : ByteArray := prog_14_method_57_code
def yX12_draw : MethodName := ⟨RX12, "draw", "(II)V"⟩
abbrev cX12_lead : ByteArray := prog_14_method_58_code
def yX12_lead : MethodName := ⟨RX12, "lead", "(III)I"⟩
abbrev cX12_bottle : ByteArray := prog_14_method_59_code
def yX12_bottle : MethodName := ⟨RX12, "bottle", "(II)I"⟩
abbrev cX12_tank : ByteArray := prog_14_method_60_code
def yX12_tank : MethodName := ⟨RX12, "tank", "(II)I"⟩
abbrev cX12_isBottling : ByteArray := prog_14_method_61_code
def yX12_isBottling : MethodName := ⟨RX12, "isBottling", "(I)Z"⟩
abbrev cX12_bottling : ByteArray := prog_14_method_62_code
def yX12_bottling : MethodName := ⟨RX12, "bottling", "(II)I"⟩
abbrev cX12_find : ByteArray := prog_14_method_63_code
def yX12_find : MethodName := ⟨RX12, "find", "(II)I"⟩
abbrev cX12_untell : ByteArray := prog_14_method_64_code
def yX12_untell : MethodName := ⟨RX12, "untell", "(I)Z"⟩
abbrev cX12_isRecalled : ByteArray := prog_14_method_65_code
def yX12_isRecalled : MethodName := ⟨RX12, "isRecalled", "(II)Z"⟩
abbrev cX12_recalled : ByteArray := prog_14_method_66_code
def yX12_recalled : MethodName := ⟨RX12, "recalled", "(II)I"⟩
abbrev cX12_recall : ByteArray := prog_14_method_67_code
def yX12_recall : MethodName := ⟨RX12, "recall", "(I)I"⟩
abbrev cX12_about : ByteArray := prog_14_method_68_code
def yX12_about : MethodName := ⟨RX12, "about", "(I)I"⟩
abbrev cX12_feed : ByteArray := prog_14_method_69_code
def yX12_feed : MethodName := ⟨RX12, "feed", "(IIIII)I"⟩
abbrev cX12_end : ByteArray := prog_14_method_70_code
def yX12_end : MethodName := ⟨RX12, "end", "(I)I"⟩
def RJ9 : String := "java/lang/Math"
def TJ9 : u_T := fun k => match k with
  | _ => ("", "", "", false)
def tyJ9 : Nat → FieldType := fun k => match k with
  | _ => .int
abbrev cJ9_max_7cf53 : ByteArray := prog_15_method_65_code
def yJ9_max_7cf53 : MethodName := ⟨RJ9, "max", "(II)I"⟩
abbrev cJ9_min_7cf53 : ByteArray := prog_15_method_69_code
def yJ9_min_7cf53 : MethodName := ⟨RJ9, "min", "(II)I"⟩
def RL : String := "MilkTrainLaw"
abbrev cL_law : ByteArray := code
def yL_law : MethodName := ⟨RL, "law", "([I)Z"⟩
abbrev vwCl : List vw_C := [(RX0, TX0, 3), (RX1, TX1, 5), (RX2, TX2, 5), (RX3, TX3, 4), (RX4, TX4, 9), (RX5, TX5, 8), (RX6, TX6, 2), (RX7, TX7, 2), (RX8, TX8, 2), (RX9, TX9, 6), (RX10, TX10, 9), (RX11, TX11, 17), (RX12, TX12, 58)]
end
section
/-! ===== the world by numbers: the i-th cell that the law makes stands at address b + i ===== -/
/-- a value: an int, a long, or a reference by its cell's number -/
abbrev xV : Type := Int ⊕ (Int ⊕ Nat)
abbrev xi (z : Int) : xV := .inl z
abbrev xl (z : Int) : xV := .inr (.inl z)
abbrev xr (i : Nat) : xV := .inr (.inr i)
def cv (b : Nat) : xV → Value
  | .inl z => .int (Int32.ofInt z)
  | .inr (.inl z) => .long (Int64.ofInt z)
  | .inr (.inr i) => .ref (b + i)
abbrev cvs (b : Nat) (l : List (Nat × xV)) : List (Nat × Value) := l.map (fun q => (q.1, cv b q.2))
abbrev xMm : Type := Nat → Nat → Int
abbrev xRm : Type := Nat → Nat → Nat
def mu (M : xMm) (i k : Nat) (v : Int) : xMm := fun a c => if a = i ∧ c = k then v else M a c
def ru (R : xRm) (i k : Nat) (v : Nat) : xRm := fun a c => if a = i ∧ c = k then v else R a c
theorem mu_s (M : xMm) (i k : Nat) (v : Int) : mu M i k v i k = v := by simp [mu]
theorem mu_n {M : xMm} {i k a c : Nat} {v : Int} (h : ¬ (a = i ∧ c = k)) : mu M i k v a c = M a c := by simp [mu, h]
theorem ru_s (R : xRm) (i k : Nat) (v : Nat) : ru R i k v i k = v := by simp [ru]
theorem ru_n {R : xRm} {i k a c : Nat} {v : Nat} (h : ¬ (a = i ∧ c = k)) : ru R i k v a c = R a c := by simp [ru, h]
/-- what each cell is: an object of a class, or an array of a kind and length -/
def layL : List (Nat ⊕ (Nat × Nat)) := [.inl 11, .inl 7, .inr (0, 1000), .inl 5, .inl 8, .inr (4, 8), .inl 9, .inr (0, 8), .inr (0, 8), .inl 9, .inr (0, 8), .inr (0, 8), .inl 9, .inr (0, 8), .inr (0, 8), .inl 9, .inr (0, 8), .inr (0, 8), .inl 9, .inr (0, 8), .inr (0, 8), .inl 9, .inr (0, 8), .inr (0, 8), .inl 9, .inr (0, 8), .inr (0, 8), .inl 9, .inr (0, 8), .inr (0, 8), .inl 8, .inr (4, 8), .inl 9, .inr (0, 8), .inr (0, 8), .inl 9, .inr (0, 8), .inr (0, 8), .inl 9, .inr (0, 8), .inr (0, 8), .inl 9, .inr (0, 8), .inr (0, 8), .inl 9, .inr (0, 8), .inr (0, 8), .inl 9, .inr (0, 8), .inr (0, 8), .inl 9, .inr (0, 8), .inr (0, 8), .inl 9, .inr (0, 8), .inr (0, 8), .inl 2, .inr (0, 24), .inr (2, 10), .inr (0, 29), .inr (0, 29), .inr (0, 29), .inl 10, .inr (0, 64), .inr (0, 64), .inr (0, 64), .inr (0, 64), .inl 4, .inr (9, 10), .inr (3, 9), .inr (3, 9), .inr (3, 9), .inr (3, 9), .inr (3, 9), .inr (3, 9), .inr (3, 9), .inr (3, 9), .inr (3, 9), .inr (3, 9), .inr (0, 10), .inr (0, 9), .inr (3, 9), .inr (0, 9), .inr (5, 10), .inl 1, .inl 1, .inl 1, .inl 1, .inl 1, .inl 1, .inl 1, .inl 1, .inl 1, .inl 1, .inr (6, 4), .inl 6, .inl 6, .inl 6, .inl 6, .inr (7, 40), .inl 0, .inl 0, .inl 0, .inl 0, .inl 0, .inl 0, .inl 0, .inl 0, .inl 0, .inl 0, .inl 0, .inl 0, .inl 0, .inl 0, .inl 0, .inl 0, .inl 0, .inl 0, .inl 0, .inl 0, .inl 0, .inl 0, .inl 0, .inl 0, .inl 0, .inl 0, .inl 0, .inl 0, .inl 0, .inl 0, .inl 0, .inl 0, .inl 0, .inl 0, .inl 0, .inl 0, .inl 0, .inl 0, .inl 0, .inl 0, .inr (8, 30), .inl 3, .inl 3, .inl 3, .inl 3, .inl 3, .inl 3, .inl 3, .inl 3, .inl 3, .inl 3, .inl 3, .inl 3, .inl 3, .inl 3, .inl 3, .inl 3, .inl 3, .inl 3, .inl 3, .inl 3, .inl 3, .inl 3, .inl 3, .inl 3, .inl 3, .inl 3, .inl 3, .inl 3, .inl 3, .inl 3, .inl 12, .inr (1, 1020), .inr (1, 1000), .inr (3, 16), .inr (0, 16), .inr (0, 16), .inr (0, 128), .inr (0, 128), .inr (0, 2), .inr (0, 8), .inr (0, 24), .inr (0, 1741), .inr (0, 1741), .inr (2, 10), .inr (0, 10), .inr (0, 10), .inr (0, 10), .inr (0, 10), .inr (0, 10), .inr (0, 64), .inr (0, 64), .inr (0, 10), .inr (0, 10), .inr (3, 90), .inr (3, 9), .inr (0, 9), .inr (0, 9), .inr (0, 9), .inr (3, 9), .inr (0, 4), .inr (0, 4), .inr (0, 40), .inr (0, 40), .inr (0, 40), .inr (0, 30), .inr (0, 30), .inr (0, 30), .inr (0, 30)]
def lay (i : Nat) : Nat ⊕ (Nat × Nat) := layL.getD (i - 1) (.inl 99)
def xfk : Nat → List Nat
  | 0 => [0, 0, 0]
  | 1 => [0, 0, 0, 0, 0]
  | 2 => [2, 2, 2, 2, 2]
  | 3 => [0, 0, 0, 0]
  | 4 => [2, 2, 2, 2, 2, 2, 0, 0, 0]
  | 5 => [2, 0, 0, 0, 1, 0, 0, 0]
  | 6 => [0, 0]
  | 7 => [2, 0]
  | 8 => [2, 0]
  | 9 => [1, 0, 0, 0, 2, 2]
  | 10 => [2, 2, 2, 2, 2, 0, 0, 0, 0]
  | 11 => [2, 2, 2, 2, 2, 2, 2, 0, 0, 2, 0, 2, 2, 0, 2, 0, 0]
  | 12 => [2, 2, 0, 0, 0, 0, 0, 0, 0, 0, 1, 2, 2, 2, 2, 2, 2, 2, 0, 0, 2, 2, 2, 2, 0, 2, 2, 2, 2, 2, 0, 2, 2, 0, 0, 0, 2, 2, 0, 0, 2, 2, 2, 2, 2, 2, 2, 2, 2, 2, 2, 2, 2, 2, 2, 0, 0, 0]
  | _ => []

abbrev xrf (b r : Nat) : Option Nat := if r = 0 then none else some (b + r)
def xfv (b : Nat) (M : xMm) (R : xRm) (i k t : Nat) : Value := if t = 0 then .int (Int32.ofInt (M i k)) else if t = 1 then .long (Int64.ofInt (M i k)) else va_rf (xrf b (R i k))
def xfs (b : Nat) (M : xMm) (R : xRm) (i : Nat) (ts : List Nat) : List Value := (List.range ts.length).map (fun k => xfv b M R i k (ts.getD k 0))
def xarr (b : Nat) (M : xMm) (R : xRm) (i t : Nat) : ((Nat → Int32) ⊕ (Nat → Int64) ⊕ (Nat → UInt32) ⊕ (Nat → UInt64) ⊕ (Nat → Option Nat)) :=
  if t ≤ 2 then .inl (fun j => Int32.ofInt (M i j)) else if t = 3 then .inr (.inl (fun j => Int64.ofInt (M i j))) else .inr (.inr (.inr (.inr (fun j => xrf b (R i j)))))
def xcell (cy : Nat → ClassId) (b : Nat) (M : xMm) (R : xRm) (i : Nat) : va_E := match lay i with
  | .inl ci => .inr (ci, xfs b M R i (xfk ci))
  | .inr (t, n) => .inl (cy t, n, xarr b M R i t)
def xws (cy : Nat → ClassId) (b n : Nat) (M : xMm) (R : xRm) : va_W := (List.range n).map (fun i => (b + (i + 1), xcell cy b M R (i + 1)))
theorem xws_at {cy : Nat → ClassId} {b n : Nat} {M : xMm} {R : xRm} {i : Nat} (h1 : 1 ≤ i) (h2 : i ≤ n) : (xws cy b n M R)[i - 1]? = some (b + i, xcell cy b M R i) := by
  obtain ⟨j, rfl⟩ : ∃ j, i = j + 1 := ⟨i - 1, by omega⟩
  simp [xws, show j < n by omega]
theorem xws_get {cy : Nat → ClassId} {b n : Nat} {M : xMm} {R : xRm} {k : Nat} {q : Nat × va_E} (h : (xws cy b n M R)[k]? = some q) : k < n ∧ q = (b + (k + 1), xcell cy b M R (k + 1)) := by
  simp only [xws, List.getElem?_map] at h
  cases hk : (List.range n)[k]? with
  | none => rw [hk] at h; cases h
  | some j =>
    rw [hk] at h
    have hj := List.getElem?_eq_some_iff.mp hk
    obtain ⟨h1, h2⟩ := hj
    simp at h1 h2
    subst h2
    exact ⟨h1, (Option.some.inj h).symm⟩
theorem xws_D {cy : Nat → ClassId} {b n : Nat} {M : xMm} {R : xRm} : va_D (fun q => b < q) (xws cy b n M R) := by
  refine ⟨fun i j p q hp hq e => ?_, fun k q hk => ?_⟩
  · obtain ⟨-, rfl⟩ := xws_get hp
    obtain ⟨-, rfl⟩ := xws_get hq
    simp at e
    omega
  · obtain ⟨-, rfl⟩ := xws_get hk
    show b < b + (k + 1)
    omega
theorem xws_set {cy : Nat → ClassId} {b n : Nat} {M M' : xMm} {R R' : xRm} {i : Nat} {e : va_E} (h1 : 1 ≤ i) (h2 : i ≤ n) (he : xcell cy b M' R' i = e) (ho : ∀ j, j ≠ i → xcell cy b M' R' j = xcell cy b M R j) : (xws cy b n M R).set (i - 1) (b + i, e) = xws cy b n M' R' := by
  obtain ⟨i', rfl⟩ : ∃ j, i = j + 1 := ⟨i - 1, by omega⟩
  apply List.ext_getElem?
  intro j
  by_cases hj : j = i'
  · subst hj
    rw [show j + 1 - 1 = j by omega, List.getElem?_set_self (by simp [xws]; omega)]
    have := xws_at (cy := cy) (b := b) (M := M') (R := R') h1 h2
    rw [show j + 1 - 1 = j by omega] at this
    rw [this, he]
  · rw [show i' + 1 - 1 = i' by omega, List.getElem?_set_ne (fun q => hj q.symm)]
    by_cases hn : j < n
    · simp [xws, hn, ho (j + 1) (by omega)]
    · simp [xws, hn]
theorem xfs_len {b : Nat} {M : xMm} {R : xRm} {i : Nat} {ts : List Nat} : (xfs b M R i ts).length = ts.length := by simp [xfs]
theorem xfs_at {b : Nat} {M : xMm} {R : xRm} {i k t : Nat} {ts : List Nat} (h : ts[k]? = some t) : (xfs b M R i ts)[k]? = some (xfv b M R i k t) := by
  obtain ⟨hl, rfl⟩ := List.getElem?_eq_some_iff.mp h
  simp [xfs, hl]
theorem xfs_set {b : Nat} {M M' : xMm} {R R' : xRm} {i k t : Nat} {ts : List Nat} {v : Value} (h : ts[k]? = some t) (hv : xfv b M' R' i k t = v) (ho : ∀ c, c ≠ k → M' i c = M i c ∧ R' i c = R i c) : (xfs b M R i ts).set k v = xfs b M' R' i ts := by
  have hl := (List.getElem?_eq_some_iff.mp h).1
  apply List.ext_getElem?
  intro j
  by_cases hj : j = k
  · subst hj
    rw [List.getElem?_set_self (by rw [xfs_len]; exact hl), xfs_at h, hv]
  · rw [List.getElem?_set_ne (fun q => hj q.symm)]
    by_cases hn : j < ts.length
    · obtain ⟨t2, ht2⟩ : ∃ t2, ts[j]? = some t2 := ⟨_, List.getElem?_eq_getElem hn⟩
      rw [xfs_at ht2, xfs_at ht2]
      simp [xfv, (ho j hj).1, (ho j hj).2]
    · rw [List.getElem?_eq_none (by rw [xfs_len]; omega), List.getElem?_eq_none (by rw [xfs_len]; omega)]
theorem xcell_congr {cy : Nat → ClassId} {b : Nat} {M M' : xMm} {R R' : xRm} {i : Nat} (hM : ∀ c, M' i c = M i c) (hR : ∀ c, R' i c = R i c) : xcell cy b M' R' i = xcell cy b M R i := by
  have e1 : ∀ ts, xfs b M' R' i ts = xfs b M R i ts := fun ts => by simp [xfs, xfv, hM, hR]
  have e2 : ∀ t, xarr b M' R' i t = xarr b M R i t := fun t => by simp [xarr, hM, hR]
  simp only [xcell, e1, e2]
/-- the kinds of arrays -/
abbrev xtys (cy : Nat → ClassId) : List (ClassId × FieldType) := [(cy 0, .int), (cy 1, .byte), (cy 2, .boolean), (cy 3, .long), (cy 4, .object "MilkTrain$Train"), (cy 5, .object "MilkTrain$Churn"), (cy 6, .object "MilkTrain$Tank"), (cy 7, .object "MilkTrain$Bottling"), (cy 8, .object "MilkTrain$Find"), (cy 9, .array .long)]
def isNest : Cond → Bool
  | .fieldLinkNest .. => true
  | .methodLinkNest .. => true
  | _ => false
def xK (D : va_G) (cy : Nat → ClassId) (U : State) : Prop := va_K D vwCl (xtys cy) U ∧ ∀ w ∈ lw_tbl, isNest w = true → va_Nw w U
theorem xK_warm {D : va_G} {cy : Nat → ClassId} {s U : State} (h : xK D cy s) (hW : s.WarmedH U.vm) : xK D cy U := by
  refine ⟨va_K.moved hW.alike h.1, fun w hw hn => ?_⟩
  have h2 := h.2 w hw hn
  cases w <;> first | exact va_Nw.warmF hW h2 | exact va_Nw.warmM hW h2 | (simp [isNest] at hn)
theorem xK_same {D : va_G} {cy : Nat → ClassId} {s U : State} (h : xK D cy s) (e : s.vm = U.vm) : xK D cy U := by
  refine ⟨va_K.moved (by rw [e]; exact Vm.Alike.refl U.vm) h.1, fun w hw hn => ?_⟩
  have h2 := h.2 w hw hn
  cases w <;> first | (simp [isNest] at hn; done) | exact va_Nw.same rfl e h2
/-- the heap holds the first n cells of the world -/
def xWd (D : va_G) (cy : Nat → ClassId) (b n : Nat) (M : xMm) (R : xRm) (H : Heap) : Prop := H.size = b + 1 + n ∧ va_P D vwCl (xws cy b n M R) H
theorem xWd_obj {D : va_G} {cy : Nat → ClassId} {b n : Nat} {M : xMm} {R : xRm} {i ci : Nat} (h1 : 1 ≤ i) (h2 : i ≤ n) (hl : lay i = .inl ci) : (xws cy b n M R)[i - 1]? = some (b + i, .inr (ci, xfs b M R i (xfk ci))) := by
  rw [xws_at h1 h2]
  simp [xcell, hl]
theorem xWd_arr {D : va_G} {cy : Nat → ClassId} {b n : Nat} {M : xMm} {R : xRm} {i t len : Nat} (h1 : 1 ≤ i) (h2 : i ≤ n) (hl : lay i = .inr (t, len)) : (xws cy b n M R)[i - 1]? = some (b + i, .inl (cy t, len, xarr b M R i t)) := by
  rw [xws_at h1 h2]
  simp [xcell, hl]
theorem inX0 : ∀ w ∈ wsX00, w ∈ lw_tbl ∧ goodWord w = true := by decide +kernel
theorem inX1 : ∀ w ∈ wsX10, w ∈ lw_tbl ∧ goodWord w = true := by decide +kernel
theorem inX2 : ∀ w ∈ wsX20, w ∈ lw_tbl ∧ goodWord w = true := by decide +kernel
theorem inX3 : ∀ w ∈ wsX30, w ∈ lw_tbl ∧ goodWord w = true := by decide +kernel
theorem inX4 : ∀ w ∈ wsX40, w ∈ lw_tbl ∧ goodWord w = true := by decide +kernel
theorem inX5 : ∀ w ∈ wsX50, w ∈ lw_tbl ∧ goodWord w = true := by decide +kernel
theorem inX6 : ∀ w ∈ wsX60, w ∈ lw_tbl ∧ goodWord w = true := by decide +kernel
theorem inX7 : ∀ w ∈ wsX70, w ∈ lw_tbl ∧ goodWord w = true := by decide +kernel
theorem inX8 : ∀ w ∈ wsX80, w ∈ lw_tbl ∧ goodWord w = true := by decide +kernel
theorem inX9 : ∀ w ∈ wsX90, w ∈ lw_tbl ∧ goodWord w = true := by decide +kernel
theorem inX10 : ∀ w ∈ wsX100, w ∈ lw_tbl ∧ goodWord w = true := by decide +kernel
theorem inX11 : ∀ w ∈ wsX110, w ∈ lw_tbl ∧ goodWord w = true := by decide +kernel
theorem inX12 : ∀ w ∈ wsX120, w ∈ lw_tbl ∧ goodWord w = true := by decide +kernel
theorem xcl {ci : Nat} {q : vw_C} (h : vwCl[ci]? = some q) : (∀ w ∈ u_ws q.1 q.2.1 q.2.2, w ∈ lw_tbl ∧ goodWord w = true) ∧ ∃ ty0 : Nat → FieldType, (∀ k, k < q.2.2 → parseFieldDescriptor (q.2.1 k).2.2.1 = some (ty0 k)) ∧ (∀ a, a < q.2.2 → ∀ b, b < q.2.2 → a ≠ b → (q.2.1 a).2.1 ≠ (q.2.1 b).2.1) := by
  match ci, h with
  | 0, h => cases h; exact ⟨inX0, tyX0, tyX0_ok, nmX0⟩
  | 1, h => cases h; exact ⟨inX1, tyX1, tyX1_ok, nmX1⟩
  | 2, h => cases h; exact ⟨inX2, tyX2, tyX2_ok, nmX2⟩
  | 3, h => cases h; exact ⟨inX3, tyX3, tyX3_ok, nmX3⟩
  | 4, h => cases h; exact ⟨inX4, tyX4, tyX4_ok, nmX4⟩
  | 5, h => cases h; exact ⟨inX5, tyX5, tyX5_ok, nmX5⟩
  | 6, h => cases h; exact ⟨inX6, tyX6, tyX6_ok, nmX6⟩
  | 7, h => cases h; exact ⟨inX7, tyX7, tyX7_ok, nmX7⟩
  | 8, h => cases h; exact ⟨inX8, tyX8, tyX8_ok, nmX8⟩
  | 9, h => cases h; exact ⟨inX9, tyX9, tyX9_ok, nmX9⟩
  | 10, h => cases h; exact ⟨inX10, tyX10, tyX10_ok, nmX10⟩
  | 11, h => cases h; exact ⟨inX11, tyX11, tyX11_ok, nmX11⟩
  | 12, h => cases h; exact ⟨inX12, tyX12, tyX12_ok, nmX12⟩
  | n + 13, h => simp [vwCl] at h
/-- numbers -/
abbrev inR (z : Int) : Prop := -2147483648 ≤ z ∧ z ≤ 2147483647
abbrev inL (z : Int) : Prop := -9223372036854775808 ≤ z ∧ z ≤ 9223372036854775807
theorem oi_t {a : Int} (h : inR a) : (Int32.ofInt a).toInt = a := by
  rw [Int32.toInt_ofInt]
  have : Int32.size = 4294967296 := rfl
  rw [this]
  simp only [Int.bmod]
  omega
theorem ol_t {a : Int} (h : inL a) : (Int64.ofInt a).toInt = a := by
  rw [Int64.toInt_ofInt]
  have : Int64.size = 18446744073709551616 := rfl
  rw [this]
  simp only [Int.bmod]
  omega
theorem oi_lt {a c : Int} (ha : inR a) (hc : inR c) : Int32.ofInt a < Int32.ofInt c ↔ a < c := by rw [Int32.lt_iff_toInt_lt, oi_t ha, oi_t hc]
theorem oi_le {a c : Int} (ha : inR a) (hc : inR c) : Int32.ofInt a ≤ Int32.ofInt c ↔ a ≤ c := by rw [Int32.le_iff_toInt_le, oi_t ha, oi_t hc]
theorem oi_eq {a c : Int} (ha : inR a) (hc : inR c) : Int32.ofInt a = Int32.ofInt c ↔ a = c := by rw [← Int32.toInt_inj, oi_t ha, oi_t hc]
theorem ol_lt {a c : Int} (ha : inL a) (hc : inL c) : Int64.ofInt a < Int64.ofInt c ↔ a < c := by rw [Int64.lt_iff_toInt_lt, ol_t ha, ol_t hc]
theorem ol_eq {a c : Int} (ha : inL a) (hc : inL c) : Int64.ofInt a = Int64.ofInt c ↔ a = c := by rw [← Int64.toInt_inj, ol_t ha, ol_t hc]
theorem oi_0 : (0 : Int32) = Int32.ofInt 0 := rfl
theorem oi_nat {a : Int} (h0 : 0 ≤ a) (h : a ≤ 2147483647) : Int32.ofInt a = nI a.toNat := by
  rw [← Int32.toInt_inj, oi_t ⟨by omega, h⟩, nI_toInt (by omega)]
  omega
theorem oi_cl {a : Int} (h0 : 0 ≤ a) (h : a ≤ 2147483647) : (Int32.ofInt a).toNatClampNeg = a.toNat := by
  rw [oi_nat h0 h, nI_clamp (by omega)]
theorem oi_in {a : Int} {n : Nat} (h0 : 0 ≤ a) (h : a < n) (hn : n ≤ 2147483647) : vp_in (Int32.ofInt a) n := by
  rw [oi_nat h0 (by omega)]
  exact vp_in_nI (by omega) (by omega)
/-- a field as a class's constant names it -/
def xFl (own : String) (idx ci f : Nat) : Prop := ∃ q : vw_C, vwCl[ci]? = some q ∧ f < q.2.2 ∧ (q.2.1 f).1 = q.1 ∧ (Cond.fieldLink own idx q.1 (q.2.1 f).2.1 (q.2.1 f).2.2.1 ∈ lw_tbl ∨ ∃ host, Cond.fieldLinkNest own idx q.1 (q.2.1 f).2.1 (q.2.1 f).2.2.1 host ∈ lw_tbl)
/-- a field that may be written, and its type -/
def xFt (ci f : Nat) (ty : FieldType) : Prop := ∃ q : vw_C, vwCl[ci]? = some q ∧ (q.2.1 f).2.2.2 = false ∧ parseFieldDescriptor (q.2.1 f).2.2.1 = some ty
/-- what a call of a method of an object stands on: the tables' words -/
def xMV (own : String) (idx ci : Nat) (y : MethodName) (code : ByteArray) (maxL : Nat) (ret : Option FieldType) (na : Nat) : Prop :=
  (∃ q : vw_C, vwCl[ci]? = some q ∧ y.cls = q.1) ∧ Cond.methodLink own idx y ∈ lw_tbl ∧ Cond.instanceMethod y ∈ lw_tbl ∧ Cond.selects y.cls y y ∈ lw_tbl ∧ Cond.initialized y.cls ∈ lw_tbl ∧ Cond.code y code maxL ret ∈ lw_tbl ∧ goodWord (Cond.code y code maxL ret) = true ∧ (y.cls ≠ "java/lang/invoke/MethodHandle" ∧ y.cls ≠ "java/lang/invoke/VarHandle" ∧ (parseMethodDescriptor y.desc).map (fun d => d.parameters.length) = some na)
def xMS (own : String) (idx : Nat) (y : MethodName) (code : ByteArray) (maxL : Nat) (ret : Option FieldType) (na : Nat) : Prop :=
  Cond.methodLink own idx y ∈ lw_tbl ∧ Cond.static y ∈ lw_tbl ∧ Cond.initialized y.cls ∈ lw_tbl ∧ Cond.code y code maxL ret ∈ lw_tbl ∧ goodWord (Cond.code y code maxL ret) = true ∧ (y.cls ≠ "java/lang/invoke/MethodHandle" ∧ y.cls ≠ "java/lang/invoke/VarHandle" ∧ (parseMethodDescriptor y.desc).map (fun d => d.parameters.length) = some na)
end
section
theorem fl_X11_12 : xFl RX11 12 11 0 := ⟨_, rfl, by decide, rfl, Or.inl (List.mem_of_getElem? (i := 398) (by decide +kernel))⟩
theorem fl_X11_21 : xFl RX11 21 11 1 := ⟨_, rfl, by decide, rfl, Or.inl (List.mem_of_getElem? (i := 399) (by decide +kernel))⟩
theorem fl_X11_28 : xFl RX11 28 11 2 := ⟨_, rfl, by decide, rfl, Or.inl (List.mem_of_getElem? (i := 400) (by decide +kernel))⟩
theorem fl_X11_32 : xFl RX11 32 11 3 := ⟨_, rfl, by decide, rfl, Or.inl (List.mem_of_getElem? (i := 401) (by decide +kernel))⟩
theorem fl_X11_38 : xFl RX11 38 11 4 := ⟨_, rfl, by decide, rfl, Or.inl (List.mem_of_getElem? (i := 402) (by decide +kernel))⟩
theorem fl_X11_47 : xFl RX11 47 11 5 := ⟨_, rfl, by decide, rfl, Or.inl (List.mem_of_getElem? (i := 403) (by decide +kernel))⟩
theorem fl_X11_56 : xFl RX11 56 11 6 := ⟨_, rfl, by decide, rfl, Or.inl (List.mem_of_getElem? (i := 404) (by decide +kernel))⟩
theorem fl_X11_60 : xFl RX11 60 11 7 := ⟨_, rfl, by decide, rfl, Or.inl (List.mem_of_getElem? (i := 405) (by decide +kernel))⟩
theorem fl_X11_64 : xFl RX11 64 11 8 := ⟨_, rfl, by decide, rfl, Or.inl (List.mem_of_getElem? (i := 406) (by decide +kernel))⟩
theorem fl_X11_70 : xFl RX11 70 11 9 := ⟨_, rfl, by decide, rfl, Or.inl (List.mem_of_getElem? (i := 407) (by decide +kernel))⟩
theorem fl_X11_77 : xFl RX11 77 11 11 := ⟨_, rfl, by decide, rfl, Or.inl (List.mem_of_getElem? (i := 409) (by decide +kernel))⟩
theorem fl_X11_84 : xFl RX11 84 11 12 := ⟨_, rfl, by decide, rfl, Or.inl (List.mem_of_getElem? (i := 410) (by decide +kernel))⟩
theorem fl_X11_91 : xFl RX11 91 11 14 := ⟨_, rfl, by decide, rfl, Or.inl (List.mem_of_getElem? (i := 412) (by decide +kernel))⟩
theorem fl_X11_96 : xFl RX11 96 7 1 := ⟨_, rfl, by decide, rfl, Or.inr ⟨"MilkTrain", List.mem_of_getElem? (i := 100) (by decide +kernel)⟩⟩
theorem mv_X11_99 : xMV RX11 99 7 yX7_append cX7_append 3 none 1 := ⟨⟨_, rfl, rfl⟩, List.mem_of_getElem? (i := 454) (by decide +kernel), List.mem_of_getElem? (i := 455) (by decide +kernel), List.mem_of_getElem? (i := 456) (by decide +kernel), List.mem_of_getElem? (i := 72) (by decide +kernel), List.mem_of_getElem? (i := 457) (by decide +kernel), by decide +kernel, by decide +kernel⟩
theorem mv_X11_103 : xMV RX11 103 5 yX5_read cX5_read 3 (some .boolean) 1 := ⟨⟨_, rfl, rfl⟩, List.mem_of_getElem? (i := 466) (by decide +kernel), List.mem_of_getElem? (i := 467) (by decide +kernel), List.mem_of_getElem? (i := 468) (by decide +kernel), List.mem_of_getElem? (i := 73) (by decide +kernel), List.mem_of_getElem? (i := 469) (by decide +kernel), by decide +kernel, by decide +kernel⟩
theorem fl_X11_107 : xFl RX11 107 8 1 := ⟨_, rfl, by decide, rfl, Or.inr ⟨"MilkTrain", List.mem_of_getElem? (i := 192) (by decide +kernel)⟩⟩
theorem fl_X11_110 : xFl RX11 110 5 6 := ⟨_, rfl, by decide, rfl, Or.inr ⟨"MilkTrain", List.mem_of_getElem? (i := 122) (by decide +kernel)⟩⟩
theorem fl_X11_113 : xFl RX11 113 5 7 := ⟨_, rfl, by decide, rfl, Or.inr ⟨"MilkTrain", List.mem_of_getElem? (i := 124) (by decide +kernel)⟩⟩
theorem mv_X11_116 : xMV RX11 116 8 yX8_has cX8_has 2 (some .boolean) 1 := ⟨⟨_, rfl, rfl⟩, List.mem_of_getElem? (i := 558) (by decide +kernel), List.mem_of_getElem? (i := 559) (by decide +kernel), List.mem_of_getElem? (i := 560) (by decide +kernel), List.mem_of_getElem? (i := 74) (by decide +kernel), List.mem_of_getElem? (i := 561) (by decide +kernel), by decide +kernel, by decide +kernel⟩
theorem fl_X11_120 : xFl RX11 120 8 0 := ⟨_, rfl, by decide, rfl, Or.inr ⟨"MilkTrain", List.mem_of_getElem? (i := 188) (by decide +kernel)⟩⟩
theorem fl_X11_124 : xFl RX11 124 9 1 := ⟨_, rfl, by decide, rfl, Or.inr ⟨"MilkTrain", List.mem_of_getElem? (i := 160) (by decide +kernel)⟩⟩
theorem fl_X11_129 : xFl RX11 129 9 3 := ⟨_, rfl, by decide, rfl, Or.inr ⟨"MilkTrain", List.mem_of_getElem? (i := 165) (by decide +kernel)⟩⟩
theorem fl_X11_132 : xFl RX11 132 9 2 := ⟨_, rfl, by decide, rfl, Or.inr ⟨"MilkTrain", List.mem_of_getElem? (i := 162) (by decide +kernel)⟩⟩
theorem ms_X11_135 : xMS RX11 135 yX11_stopOf cX11_stopOf 2 (some .int) 2 := ⟨List.mem_of_getElem? (i := 562) (by decide +kernel), List.mem_of_getElem? (i := 563) (by decide +kernel), List.mem_of_getElem? (i := 71) (by decide +kernel), List.mem_of_getElem? (i := 564) (by decide +kernel), by decide +kernel, by decide +kernel⟩
theorem mv_X11_139 : xMV RX11 139 9 yX9_stationOf cX9_stationOf 2 (some .int) 1 := ⟨⟨_, rfl, rfl⟩, List.mem_of_getElem? (i := 565) (by decide +kernel), List.mem_of_getElem? (i := 566) (by decide +kernel), List.mem_of_getElem? (i := 567) (by decide +kernel), List.mem_of_getElem? (i := 75) (by decide +kernel), List.mem_of_getElem? (i := 568) (by decide +kernel), by decide +kernel, by decide +kernel⟩
theorem mv_X11_143 : xMV RX11 143 9 yX9_minuteOf cX9_minuteOf 2 (some .int) 1 := ⟨⟨_, rfl, rfl⟩, List.mem_of_getElem? (i := 569) (by decide +kernel), List.mem_of_getElem? (i := 570) (by decide +kernel), List.mem_of_getElem? (i := 571) (by decide +kernel), List.mem_of_getElem? (i := 75) (by decide +kernel), List.mem_of_getElem? (i := 572) (by decide +kernel), by decide +kernel, by decide +kernel⟩
theorem mv_X11_146 : xMV RX11 146 2 yX2_tell cX2_tell 3 none 2 := ⟨⟨_, rfl, rfl⟩, List.mem_of_getElem? (i := 581) (by decide +kernel), List.mem_of_getElem? (i := 582) (by decide +kernel), List.mem_of_getElem? (i := 583) (by decide +kernel), List.mem_of_getElem? (i := 76) (by decide +kernel), List.mem_of_getElem? (i := 584) (by decide +kernel), by decide +kernel, by decide +kernel⟩
theorem mv_X11_150 : xMV RX11 150 2 yX2_inMinute cX2_inMinute 4 (some .int) 2 := ⟨⟨_, rfl, rfl⟩, List.mem_of_getElem? (i := 589) (by decide +kernel), List.mem_of_getElem? (i := 590) (by decide +kernel), List.mem_of_getElem? (i := 591) (by decide +kernel), List.mem_of_getElem? (i := 76) (by decide +kernel), List.mem_of_getElem? (i := 592) (by decide +kernel), by decide +kernel, by decide +kernel⟩
theorem fl_X11_154 : xFl RX11 154 2 1 := ⟨_, rfl, by decide, rfl, Or.inr ⟨"MilkTrain", List.mem_of_getElem? (i := 220) (by decide +kernel)⟩⟩
theorem ms_X11_159 : xMS RX11 159 yX11_isFarm cX11_isFarm 1 (some .boolean) 1 := ⟨List.mem_of_getElem? (i := 610) (by decide +kernel), List.mem_of_getElem? (i := 611) (by decide +kernel), List.mem_of_getElem? (i := 71) (by decide +kernel), List.mem_of_getElem? (i := 612) (by decide +kernel), by decide +kernel, by decide +kernel⟩
theorem fl_X11_162 : xFl RX11 162 11 10 := ⟨_, rfl, by decide, rfl, Or.inl (List.mem_of_getElem? (i := 408) (by decide +kernel))⟩
theorem fl_X11_165 : xFl RX11 165 1 0 := ⟨_, rfl, by decide, rfl, Or.inr ⟨"MilkTrain", List.mem_of_getElem? (i := 319) (by decide +kernel)⟩⟩
theorem fl_X11_168 : xFl RX11 168 1 1 := ⟨_, rfl, by decide, rfl, Or.inr ⟨"MilkTrain", List.mem_of_getElem? (i := 321) (by decide +kernel)⟩⟩
theorem fl_X11_171 : xFl RX11 171 1 2 := ⟨_, rfl, by decide, rfl, Or.inr ⟨"MilkTrain", List.mem_of_getElem? (i := 323) (by decide +kernel)⟩⟩
theorem fl_X11_174 : xFl RX11 174 1 3 := ⟨_, rfl, by decide, rfl, Or.inr ⟨"MilkTrain", List.mem_of_getElem? (i := 325) (by decide +kernel)⟩⟩
theorem mv_X11_177 : xMV RX11 177 11 yX11_isChurn cX11_isChurn 2 (some .boolean) 1 := ⟨⟨_, rfl, rfl⟩, List.mem_of_getElem? (i := 617) (by decide +kernel), List.mem_of_getElem? (i := 619) (by decide +kernel), List.mem_of_getElem? (i := 16) (by decide +kernel), List.mem_of_getElem? (i := 71) (by decide +kernel), List.mem_of_getElem? (i := 620) (by decide +kernel), by decide +kernel, by decide +kernel⟩
theorem fl_X11_180 : xFl RX11 180 1 4 := ⟨_, rfl, by decide, rfl, Or.inr ⟨"MilkTrain", List.mem_of_getElem? (i := 327) (by decide +kernel)⟩⟩
theorem mv_X11_183 : xMV RX11 183 10 yX10_seek cX10_seek 5 none 2 := ⟨⟨_, rfl, rfl⟩, List.mem_of_getElem? (i := 625) (by decide +kernel), List.mem_of_getElem? (i := 626) (by decide +kernel), List.mem_of_getElem? (i := 627) (by decide +kernel), List.mem_of_getElem? (i := 78) (by decide +kernel), List.mem_of_getElem? (i := 628) (by decide +kernel), by decide +kernel, by decide +kernel⟩
theorem fl_X11_187 : xFl RX11 187 10 6 := ⟨_, rfl, by decide, rfl, Or.inr ⟨"MilkTrain", List.mem_of_getElem? (i := 249) (by decide +kernel)⟩⟩
theorem fl_X11_190 : xFl RX11 190 10 7 := ⟨_, rfl, by decide, rfl, Or.inr ⟨"MilkTrain", List.mem_of_getElem? (i := 251) (by decide +kernel)⟩⟩
theorem fl_X11_193 : xFl RX11 193 10 8 := ⟨_, rfl, by decide, rfl, Or.inr ⟨"MilkTrain", List.mem_of_getElem? (i := 253) (by decide +kernel)⟩⟩
theorem mv_X11_196 : xMV RX11 196 10 yX10_direct cX10_direct 6 (some .int) 2 := ⟨⟨_, rfl, rfl⟩, List.mem_of_getElem? (i := 669) (by decide +kernel), List.mem_of_getElem? (i := 670) (by decide +kernel), List.mem_of_getElem? (i := 671) (by decide +kernel), List.mem_of_getElem? (i := 78) (by decide +kernel), List.mem_of_getElem? (i := 672) (by decide +kernel), by decide +kernel, by decide +kernel⟩
theorem mv_X11_200 : xMV RX11 200 11 yX11_renewBest cX11_renewBest 1 none 0 := ⟨⟨_, rfl, rfl⟩, List.mem_of_getElem? (i := 678) (by decide +kernel), List.mem_of_getElem? (i := 680) (by decide +kernel), List.mem_of_getElem? (i := 23) (by decide +kernel), List.mem_of_getElem? (i := 71) (by decide +kernel), List.mem_of_getElem? (i := 681) (by decide +kernel), by decide +kernel, by decide +kernel⟩
theorem fl_X11_203 : xFl RX11 203 4 7 := ⟨_, rfl, by decide, rfl, Or.inr ⟨"MilkTrain", List.mem_of_getElem? (i := 289) (by decide +kernel)⟩⟩
theorem fl_X11_206 : xFl RX11 206 4 8 := ⟨_, rfl, by decide, rfl, Or.inr ⟨"MilkTrain", List.mem_of_getElem? (i := 291) (by decide +kernel)⟩⟩
theorem mv_X11_209 : xMV RX11 209 4 yX4_trainOf cX4_trainOf 2 (some .int) 1 := ⟨⟨_, rfl, rfl⟩, List.mem_of_getElem? (i := 730) (by decide +kernel), List.mem_of_getElem? (i := 731) (by decide +kernel), List.mem_of_getElem? (i := 732) (by decide +kernel), List.mem_of_getElem? (i := 79) (by decide +kernel), List.mem_of_getElem? (i := 733) (by decide +kernel), by decide +kernel, by decide +kernel⟩
theorem fl_X11_212 : xFl RX11 212 11 16 := ⟨_, rfl, by decide, rfl, Or.inl (List.mem_of_getElem? (i := 414) (by decide +kernel))⟩
theorem ms_X11_215 : xMS RX11 215 yX11_isTank cX11_isTank 1 (some .boolean) 1 := ⟨List.mem_of_getElem? (i := 742) (by decide +kernel), List.mem_of_getElem? (i := 743) (by decide +kernel), List.mem_of_getElem? (i := 71) (by decide +kernel), List.mem_of_getElem? (i := 744) (by decide +kernel), by decide +kernel, by decide +kernel⟩
theorem mv_X11_218 : xMV RX11 218 6 yX6_hasRoomFor cX6_hasRoomFor 2 (some .boolean) 1 := ⟨⟨_, rfl, rfl⟩, List.mem_of_getElem? (i := 745) (by decide +kernel), List.mem_of_getElem? (i := 746) (by decide +kernel), List.mem_of_getElem? (i := 747) (by decide +kernel), List.mem_of_getElem? (i := 81) (by decide +kernel), List.mem_of_getElem? (i := 748) (by decide +kernel), by decide +kernel, by decide +kernel⟩
theorem mv_X11_221 : xMV RX11 221 6 yX6_fill cX6_fill 3 none 2 := ⟨⟨_, rfl, rfl⟩, List.mem_of_getElem? (i := 749) (by decide +kernel), List.mem_of_getElem? (i := 750) (by decide +kernel), List.mem_of_getElem? (i := 751) (by decide +kernel), List.mem_of_getElem? (i := 81) (by decide +kernel), List.mem_of_getElem? (i := 752) (by decide +kernel), by decide +kernel, by decide +kernel⟩
theorem fl_X11_224 : xFl RX11 224 6 0 := ⟨_, rfl, by decide, rfl, Or.inr ⟨"MilkTrain", List.mem_of_getElem? (i := 347) (by decide +kernel)⟩⟩
theorem mv_X11_225 : xMV RX11 225 6 yX6_canGive cX6_canGive 2 (some .boolean) 1 := ⟨⟨_, rfl, rfl⟩, List.mem_of_getElem? (i := 757) (by decide +kernel), List.mem_of_getElem? (i := 758) (by decide +kernel), List.mem_of_getElem? (i := 759) (by decide +kernel), List.mem_of_getElem? (i := 81) (by decide +kernel), List.mem_of_getElem? (i := 760) (by decide +kernel), by decide +kernel, by decide +kernel⟩
theorem fl_X11_228 : xFl RX11 228 6 1 := ⟨_, rfl, by decide, rfl, Or.inr ⟨"MilkTrain", List.mem_of_getElem? (i := 349) (by decide +kernel)⟩⟩
theorem mv_X11_231 : xMV RX11 231 6 yX6_draw cX6_draw 2 none 1 := ⟨⟨_, rfl, rfl⟩, List.mem_of_getElem? (i := 761) (by decide +kernel), List.mem_of_getElem? (i := 762) (by decide +kernel), List.mem_of_getElem? (i := 763) (by decide +kernel), List.mem_of_getElem? (i := 81) (by decide +kernel), List.mem_of_getElem? (i := 764) (by decide +kernel), by decide +kernel, by decide +kernel⟩
theorem fl_X11_234 : xFl RX11 234 11 13 := ⟨_, rfl, by decide, rfl, Or.inl (List.mem_of_getElem? (i := 411) (by decide +kernel))⟩
theorem fl_X11_237 : xFl RX11 237 0 0 := ⟨_, rfl, by decide, rfl, Or.inr ⟨"MilkTrain", List.mem_of_getElem? (i := 362) (by decide +kernel)⟩⟩
theorem fl_X11_238 : xFl RX11 238 0 1 := ⟨_, rfl, by decide, rfl, Or.inr ⟨"MilkTrain", List.mem_of_getElem? (i := 364) (by decide +kernel)⟩⟩
theorem fl_X11_239 : xFl RX11 239 0 2 := ⟨_, rfl, by decide, rfl, Or.inr ⟨"MilkTrain", List.mem_of_getElem? (i := 366) (by decide +kernel)⟩⟩
theorem mv_X11_242 : xMV RX11 242 11 yX11_isBottling cX11_isBottling 2 (some .boolean) 1 := ⟨⟨_, rfl, rfl⟩, List.mem_of_getElem? (i := 777) (by decide +kernel), List.mem_of_getElem? (i := 779) (by decide +kernel), List.mem_of_getElem? (i := 31) (by decide +kernel), List.mem_of_getElem? (i := 71) (by decide +kernel), List.mem_of_getElem? (i := 780) (by decide +kernel), by decide +kernel, by decide +kernel⟩
theorem fl_X11_245 : xFl RX11 245 11 15 := ⟨_, rfl, by decide, rfl, Or.inl (List.mem_of_getElem? (i := 413) (by decide +kernel))⟩
theorem fl_X11_248 : xFl RX11 248 3 0 := ⟨_, rfl, by decide, rfl, Or.inr ⟨"MilkTrain", List.mem_of_getElem? (i := 382) (by decide +kernel)⟩⟩
theorem fl_X11_249 : xFl RX11 249 3 1 := ⟨_, rfl, by decide, rfl, Or.inr ⟨"MilkTrain", List.mem_of_getElem? (i := 384) (by decide +kernel)⟩⟩
theorem fl_X11_252 : xFl RX11 252 3 2 := ⟨_, rfl, by decide, rfl, Or.inr ⟨"MilkTrain", List.mem_of_getElem? (i := 386) (by decide +kernel)⟩⟩
theorem fl_X11_255 : xFl RX11 255 3 3 := ⟨_, rfl, by decide, rfl, Or.inr ⟨"MilkTrain", List.mem_of_getElem? (i := 388) (by decide +kernel)⟩⟩
theorem mv_X11_258 : xMV RX11 258 11 yX11_isCalledBack cX11_isCalledBack 4 (some .boolean) 2 := ⟨⟨_, rfl, rfl⟩, List.mem_of_getElem? (i := 793) (by decide +kernel), List.mem_of_getElem? (i := 795) (by decide +kernel), List.mem_of_getElem? (i := 32) (by decide +kernel), List.mem_of_getElem? (i := 71) (by decide +kernel), List.mem_of_getElem? (i := 796) (by decide +kernel), by decide +kernel, by decide +kernel⟩
theorem mv_X11_262 : xMV RX11 262 3 yX3_isKnownAt cX3_isKnownAt 2 (some .boolean) 1 := ⟨⟨_, rfl, rfl⟩, List.mem_of_getElem? (i := 797) (by decide +kernel), List.mem_of_getElem? (i := 798) (by decide +kernel), List.mem_of_getElem? (i := 799) (by decide +kernel), List.mem_of_getElem? (i := 83) (by decide +kernel), List.mem_of_getElem? (i := 800) (by decide +kernel), by decide +kernel, by decide +kernel⟩
theorem mv_X11_265 : xMV RX11 265 3 yX3_concerns cX3_concerns 2 (some .boolean) 1 := ⟨⟨_, rfl, rfl⟩, List.mem_of_getElem? (i := 801) (by decide +kernel), List.mem_of_getElem? (i := 802) (by decide +kernel), List.mem_of_getElem? (i := 803) (by decide +kernel), List.mem_of_getElem? (i := 83) (by decide +kernel), List.mem_of_getElem? (i := 804) (by decide +kernel), by decide +kernel, by decide +kernel⟩
theorem mv_X11_269 : xMV RX11 269 4 yX4_settle cX4_settle 8 none 4 := ⟨⟨_, rfl, rfl⟩, List.mem_of_getElem? (i := 682) (by decide +kernel), List.mem_of_getElem? (i := 683) (by decide +kernel), List.mem_of_getElem? (i := 684) (by decide +kernel), List.mem_of_getElem? (i := 79) (by decide +kernel), List.mem_of_getElem? (i := 685) (by decide +kernel), by decide +kernel, by decide +kernel⟩
theorem fl_X12_1 : xFl RX12 1 12 3 := ⟨_, rfl, by decide, rfl, Or.inl (List.mem_of_getElem? (i := 907) (by decide +kernel))⟩
theorem fl_X12_7 : xFl RX12 7 12 1 := ⟨_, rfl, by decide, rfl, Or.inl (List.mem_of_getElem? (i := 905) (by decide +kernel))⟩
theorem fl_X12_11 : xFl RX12 11 12 4 := ⟨_, rfl, by decide, rfl, Or.inl (List.mem_of_getElem? (i := 908) (by decide +kernel))⟩
theorem fl_X12_14 : xFl RX12 14 12 5 := ⟨_, rfl, by decide, rfl, Or.inl (List.mem_of_getElem? (i := 909) (by decide +kernel))⟩
theorem fl_X12_17 : xFl RX12 17 12 7 := ⟨_, rfl, by decide, rfl, Or.inl (List.mem_of_getElem? (i := 911) (by decide +kernel))⟩
theorem fl_X12_20 : xFl RX12 20 12 6 := ⟨_, rfl, by decide, rfl, Or.inl (List.mem_of_getElem? (i := 910) (by decide +kernel))⟩
theorem mv_X12_23 : xMV RX12 23 12 yX12_sign cX12_sign 2 (some .int) 1 := ⟨⟨_, rfl, rfl⟩, List.mem_of_getElem? (i := 822) (by decide +kernel), List.mem_of_getElem? (i := 824) (by decide +kernel), List.mem_of_getElem? (i := 34) (by decide +kernel), List.mem_of_getElem? (i := 84) (by decide +kernel), List.mem_of_getElem? (i := 825) (by decide +kernel), by decide +kernel, by decide +kernel⟩
theorem fl_X12_27 : xFl RX12 27 12 8 := ⟨_, rfl, by decide, rfl, Or.inl (List.mem_of_getElem? (i := 912) (by decide +kernel))⟩
theorem ms_X12_30 : xMS RX12 30 yX12_isLetter cX12_isLetter 1 (some .boolean) 1 := ⟨List.mem_of_getElem? (i := 826) (by decide +kernel), List.mem_of_getElem? (i := 827) (by decide +kernel), List.mem_of_getElem? (i := 84) (by decide +kernel), List.mem_of_getElem? (i := 828) (by decide +kernel), by decide +kernel, by decide +kernel⟩
theorem fl_X12_34 : xFl RX12 34 12 10 := ⟨_, rfl, by decide, rfl, Or.inl (List.mem_of_getElem? (i := 914) (by decide +kernel))⟩
theorem ms_X12_44 : xMS RX12 44 yX12_isDigit cX12_isDigit 1 (some .boolean) 1 := ⟨List.mem_of_getElem? (i := 832) (by decide +kernel), List.mem_of_getElem? (i := 833) (by decide +kernel), List.mem_of_getElem? (i := 84) (by decide +kernel), List.mem_of_getElem? (i := 834) (by decide +kernel), by decide +kernel, by decide +kernel⟩
theorem fl_X12_47 : xFl RX12 47 12 9 := ⟨_, rfl, by decide, rfl, Or.inl (List.mem_of_getElem? (i := 913) (by decide +kernel))⟩
theorem mv_X12_50 : xMV RX12 50 12 yX12_fails cX12_fails 3 none 2 := ⟨⟨_, rfl, rfl⟩, List.mem_of_getElem? (i := 847) (by decide +kernel), List.mem_of_getElem? (i := 849) (by decide +kernel), List.mem_of_getElem? (i := 38) (by decide +kernel), List.mem_of_getElem? (i := 84) (by decide +kernel), List.mem_of_getElem? (i := 850) (by decide +kernel), by decide +kernel, by decide +kernel⟩
theorem mv_X12_54 : xMV RX12 54 12 yX12_isGood cX12_isGood 1 (some .boolean) 0 := ⟨⟨_, rfl, rfl⟩, List.mem_of_getElem? (i := 835) (by decide +kernel), List.mem_of_getElem? (i := 837) (by decide +kernel), List.mem_of_getElem? (i := 35) (by decide +kernel), List.mem_of_getElem? (i := 84) (by decide +kernel), List.mem_of_getElem? (i := 838) (by decide +kernel), by decide +kernel, by decide +kernel⟩
theorem mv_X12_58 : xMV RX12 58 12 yX12_next cX12_next 3 none 0 := ⟨⟨_, rfl, rfl⟩, List.mem_of_getElem? (i := 817) (by decide +kernel), List.mem_of_getElem? (i := 819) (by decide +kernel), List.mem_of_getElem? (i := 33) (by decide +kernel), List.mem_of_getElem? (i := 84) (by decide +kernel), List.mem_of_getElem? (i := 821) (by decide +kernel), by decide +kernel, by decide +kernel⟩
theorem mv_X12_62 : xMV RX12 62 12 yX12_wrong cX12_wrong 1 none 0 := ⟨⟨_, rfl, rfl⟩, List.mem_of_getElem? (i := 843) (by decide +kernel), List.mem_of_getElem? (i := 845) (by decide +kernel), List.mem_of_getElem? (i := 37) (by decide +kernel), List.mem_of_getElem? (i := 84) (by decide +kernel), List.mem_of_getElem? (i := 846) (by decide +kernel), by decide +kernel, by decide +kernel⟩
theorem mv_X12_65 : xMV RX12 65 12 yX12_must cX12_must 2 none 1 := ⟨⟨_, rfl, rfl⟩, List.mem_of_getElem? (i := 855) (by decide +kernel), List.mem_of_getElem? (i := 857) (by decide +kernel), List.mem_of_getElem? (i := 40) (by decide +kernel), List.mem_of_getElem? (i := 84) (by decide +kernel), List.mem_of_getElem? (i := 858) (by decide +kernel), by decide +kernel, by decide +kernel⟩
theorem fl_X12_69 : xFl RX12 69 12 2 := ⟨_, rfl, by decide, rfl, Or.inl (List.mem_of_getElem? (i := 906) (by decide +kernel))⟩
theorem fl_X12_72 : xFl RX12 72 12 0 := ⟨_, rfl, by decide, rfl, Or.inl (List.mem_of_getElem? (i := 904) (by decide +kernel))⟩
theorem fl_X12_75 : xFl RX12 75 12 18 := ⟨_, rfl, by decide, rfl, Or.inl (List.mem_of_getElem? (i := 922) (by decide +kernel))⟩
theorem fl_X12_78 : xFl RX12 78 12 19 := ⟨_, rfl, by decide, rfl, Or.inl (List.mem_of_getElem? (i := 923) (by decide +kernel))⟩
theorem fl_X12_81 : xFl RX12 81 12 16 := ⟨_, rfl, by decide, rfl, Or.inl (List.mem_of_getElem? (i := 920) (by decide +kernel))⟩
theorem mv_X12_85 : xMV RX12 85 12 yX12_readTrain cX12_readTrain 3 none 0 := ⟨⟨_, rfl, rfl⟩, List.mem_of_getElem? (i := 839) (by decide +kernel), List.mem_of_getElem? (i := 841) (by decide +kernel), List.mem_of_getElem? (i := 36) (by decide +kernel), List.mem_of_getElem? (i := 84) (by decide +kernel), List.mem_of_getElem? (i := 842) (by decide +kernel), by decide +kernel, by decide +kernel⟩
theorem fl_X12_88 : xFl RX12 88 12 17 := ⟨_, rfl, by decide, rfl, Or.inl (List.mem_of_getElem? (i := 921) (by decide +kernel))⟩
theorem mv_X12_91 : xMV RX12 91 12 yX12_mustWord cX12_mustWord 3 none 1 := ⟨⟨_, rfl, rfl⟩, List.mem_of_getElem? (i := 851) (by decide +kernel), List.mem_of_getElem? (i := 853) (by decide +kernel), List.mem_of_getElem? (i := 39) (by decide +kernel), List.mem_of_getElem? (i := 84) (by decide +kernel), List.mem_of_getElem? (i := 854) (by decide +kernel), by decide +kernel, by decide +kernel⟩
theorem fl_X12_95 : xFl RX12 95 12 11 := ⟨_, rfl, by decide, rfl, Or.inl (List.mem_of_getElem? (i := 915) (by decide +kernel))⟩
theorem fl_X12_99 : xFl RX12 99 12 12 := ⟨_, rfl, by decide, rfl, Or.inl (List.mem_of_getElem? (i := 916) (by decide +kernel))⟩
theorem mv_X12_102 : xMV RX12 102 12 yX12_numeral cX12_numeral 3 (some .int) 1 := ⟨⟨_, rfl, rfl⟩, List.mem_of_getElem? (i := 859) (by decide +kernel), List.mem_of_getElem? (i := 861) (by decide +kernel), List.mem_of_getElem? (i := 41) (by decide +kernel), List.mem_of_getElem? (i := 84) (by decide +kernel), List.mem_of_getElem? (i := 862) (by decide +kernel), by decide +kernel, by decide +kernel⟩
theorem mv_X12_105 : xMV RX12 105 12 yX12_is cX12_is 2 (some .boolean) 1 := ⟨⟨_, rfl, rfl⟩, List.mem_of_getElem? (i := 863) (by decide +kernel), List.mem_of_getElem? (i := 865) (by decide +kernel), List.mem_of_getElem? (i := 42) (by decide +kernel), List.mem_of_getElem? (i := 84) (by decide +kernel), List.mem_of_getElem? (i := 866) (by decide +kernel), by decide +kernel, by decide +kernel⟩
theorem fl_X12_108 : xFl RX12 108 12 13 := ⟨_, rfl, by decide, rfl, Or.inl (List.mem_of_getElem? (i := 917) (by decide +kernel))⟩
theorem mv_X12_111 : xMV RX12 111 12 yX12_readStop cX12_readStop 7 none 1 := ⟨⟨_, rfl, rfl⟩, List.mem_of_getElem? (i := 867) (by decide +kernel), List.mem_of_getElem? (i := 869) (by decide +kernel), List.mem_of_getElem? (i := 43) (by decide +kernel), List.mem_of_getElem? (i := 84) (by decide +kernel), List.mem_of_getElem? (i := 870) (by decide +kernel), by decide +kernel, by decide +kernel⟩
theorem fl_X12_115 : xFl RX12 115 12 14 := ⟨_, rfl, by decide, rfl, Or.inl (List.mem_of_getElem? (i := 918) (by decide +kernel))⟩
theorem fl_X12_118 : xFl RX12 118 12 15 := ⟨_, rfl, by decide, rfl, Or.inl (List.mem_of_getElem? (i := 919) (by decide +kernel))⟩
theorem mv_X12_121 : xMV RX12 121 12 yX12_isTrain cX12_isTrain 2 (some .boolean) 1 := ⟨⟨_, rfl, rfl⟩, List.mem_of_getElem? (i := 879) (by decide +kernel), List.mem_of_getElem? (i := 881) (by decide +kernel), List.mem_of_getElem? (i := 44) (by decide +kernel), List.mem_of_getElem? (i := 84) (by decide +kernel), List.mem_of_getElem? (i := 882) (by decide +kernel), by decide +kernel, by decide +kernel⟩
theorem mv_X12_124 : xMV RX12 124 12 yX12_stops cX12_stops 2 (some .int) 1 := ⟨⟨_, rfl, rfl⟩, List.mem_of_getElem? (i := 883) (by decide +kernel), List.mem_of_getElem? (i := 885) (by decide +kernel), List.mem_of_getElem? (i := 45) (by decide +kernel), List.mem_of_getElem? (i := 84) (by decide +kernel), List.mem_of_getElem? (i := 886) (by decide +kernel), by decide +kernel, by decide +kernel⟩
theorem mv_X12_127 : xMV RX12 127 12 yX12_stations cX12_stations 3 (some .int) 2 := ⟨⟨_, rfl, rfl⟩, List.mem_of_getElem? (i := 887) (by decide +kernel), List.mem_of_getElem? (i := 889) (by decide +kernel), List.mem_of_getElem? (i := 46) (by decide +kernel), List.mem_of_getElem? (i := 84) (by decide +kernel), List.mem_of_getElem? (i := 890) (by decide +kernel), by decide +kernel, by decide +kernel⟩
theorem mv_X12_131 : xMV RX12 131 12 yX12_minutes cX12_minutes 3 (some .int) 2 := ⟨⟨_, rfl, rfl⟩, List.mem_of_getElem? (i := 891) (by decide +kernel), List.mem_of_getElem? (i := 893) (by decide +kernel), List.mem_of_getElem? (i := 47) (by decide +kernel), List.mem_of_getElem? (i := 84) (by decide +kernel), List.mem_of_getElem? (i := 894) (by decide +kernel), by decide +kernel, by decide +kernel⟩
theorem fl_X12_139 : xFl RX12 139 12 20 := ⟨_, rfl, by decide, rfl, Or.inl (List.mem_of_getElem? (i := 924) (by decide +kernel))⟩
theorem fl_X12_142 : xFl RX12 142 12 21 := ⟨_, rfl, by decide, rfl, Or.inl (List.mem_of_getElem? (i := 925) (by decide +kernel))⟩
theorem fl_X12_145 : xFl RX12 145 12 22 := ⟨_, rfl, by decide, rfl, Or.inl (List.mem_of_getElem? (i := 926) (by decide +kernel))⟩
theorem fl_X12_148 : xFl RX12 148 12 23 := ⟨_, rfl, by decide, rfl, Or.inl (List.mem_of_getElem? (i := 927) (by decide +kernel))⟩
theorem fl_X12_152 : xFl RX12 152 12 24 := ⟨_, rfl, by decide, rfl, Or.inl (List.mem_of_getElem? (i := 928) (by decide +kernel))⟩
theorem fl_X12_155 : xFl RX12 155 12 25 := ⟨_, rfl, by decide, rfl, Or.inl (List.mem_of_getElem? (i := 929) (by decide +kernel))⟩
theorem fl_X12_158 : xFl RX12 158 12 26 := ⟨_, rfl, by decide, rfl, Or.inl (List.mem_of_getElem? (i := 930) (by decide +kernel))⟩
theorem fl_X12_161 : xFl RX12 161 12 27 := ⟨_, rfl, by decide, rfl, Or.inl (List.mem_of_getElem? (i := 931) (by decide +kernel))⟩
theorem fl_X12_164 : xFl RX12 164 12 28 := ⟨_, rfl, by decide, rfl, Or.inl (List.mem_of_getElem? (i := 932) (by decide +kernel))⟩
theorem fl_X12_167 : xFl RX12 167 12 29 := ⟨_, rfl, by decide, rfl, Or.inl (List.mem_of_getElem? (i := 933) (by decide +kernel))⟩
theorem fl_X12_170 : xFl RX12 170 12 31 := ⟨_, rfl, by decide, rfl, Or.inl (List.mem_of_getElem? (i := 935) (by decide +kernel))⟩
theorem fl_X12_173 : xFl RX12 173 12 32 := ⟨_, rfl, by decide, rfl, Or.inl (List.mem_of_getElem? (i := 936) (by decide +kernel))⟩
theorem fl_X12_176 : xFl RX12 176 12 36 := ⟨_, rfl, by decide, rfl, Or.inl (List.mem_of_getElem? (i := 940) (by decide +kernel))⟩
theorem fl_X12_179 : xFl RX12 179 12 37 := ⟨_, rfl, by decide, rfl, Or.inl (List.mem_of_getElem? (i := 941) (by decide +kernel))⟩
theorem fl_X12_182 : xFl RX12 182 12 40 := ⟨_, rfl, by decide, rfl, Or.inl (List.mem_of_getElem? (i := 944) (by decide +kernel))⟩
theorem fl_X12_185 : xFl RX12 185 12 41 := ⟨_, rfl, by decide, rfl, Or.inl (List.mem_of_getElem? (i := 945) (by decide +kernel))⟩
theorem fl_X12_188 : xFl RX12 188 12 42 := ⟨_, rfl, by decide, rfl, Or.inl (List.mem_of_getElem? (i := 946) (by decide +kernel))⟩
theorem fl_X12_191 : xFl RX12 191 12 43 := ⟨_, rfl, by decide, rfl, Or.inl (List.mem_of_getElem? (i := 947) (by decide +kernel))⟩
theorem fl_X12_194 : xFl RX12 194 12 44 := ⟨_, rfl, by decide, rfl, Or.inl (List.mem_of_getElem? (i := 948) (by decide +kernel))⟩
theorem fl_X12_197 : xFl RX12 197 12 45 := ⟨_, rfl, by decide, rfl, Or.inl (List.mem_of_getElem? (i := 949) (by decide +kernel))⟩
theorem fl_X12_200 : xFl RX12 200 12 46 := ⟨_, rfl, by decide, rfl, Or.inl (List.mem_of_getElem? (i := 950) (by decide +kernel))⟩
theorem fl_X12_203 : xFl RX12 203 12 47 := ⟨_, rfl, by decide, rfl, Or.inl (List.mem_of_getElem? (i := 951) (by decide +kernel))⟩
theorem fl_X12_206 : xFl RX12 206 12 48 := ⟨_, rfl, by decide, rfl, Or.inl (List.mem_of_getElem? (i := 952) (by decide +kernel))⟩
theorem fl_X12_209 : xFl RX12 209 12 49 := ⟨_, rfl, by decide, rfl, Or.inl (List.mem_of_getElem? (i := 953) (by decide +kernel))⟩
theorem fl_X12_212 : xFl RX12 212 12 50 := ⟨_, rfl, by decide, rfl, Or.inl (List.mem_of_getElem? (i := 954) (by decide +kernel))⟩
theorem fl_X12_215 : xFl RX12 215 12 51 := ⟨_, rfl, by decide, rfl, Or.inl (List.mem_of_getElem? (i := 955) (by decide +kernel))⟩
theorem fl_X12_218 : xFl RX12 218 12 52 := ⟨_, rfl, by decide, rfl, Or.inl (List.mem_of_getElem? (i := 956) (by decide +kernel))⟩
theorem fl_X12_221 : xFl RX12 221 12 53 := ⟨_, rfl, by decide, rfl, Or.inl (List.mem_of_getElem? (i := 957) (by decide +kernel))⟩
theorem fl_X12_224 : xFl RX12 224 12 54 := ⟨_, rfl, by decide, rfl, Or.inl (List.mem_of_getElem? (i := 958) (by decide +kernel))⟩
theorem mv_X12_227 : xMV RX12 227 12 yX12_warmthOf cX12_warmthOf 4 (some .int) 1 := ⟨⟨_, rfl, rfl⟩, List.mem_of_getElem? (i := 1092) (by decide +kernel), List.mem_of_getElem? (i := 1094) (by decide +kernel), List.mem_of_getElem? (i := 49) (by decide +kernel), List.mem_of_getElem? (i := 84) (by decide +kernel), List.mem_of_getElem? (i := 1095) (by decide +kernel), by decide +kernel, by decide +kernel⟩
theorem mv_X12_230 : xMV RX12 230 12 yX12_aMinute cX12_aMinute 3 (some .int) 1 := ⟨⟨_, rfl, rfl⟩, List.mem_of_getElem? (i := 1088) (by decide +kernel), List.mem_of_getElem? (i := 1090) (by decide +kernel), List.mem_of_getElem? (i := 48) (by decide +kernel), List.mem_of_getElem? (i := 84) (by decide +kernel), List.mem_of_getElem? (i := 1091) (by decide +kernel), by decide +kernel, by decide +kernel⟩
theorem fl_X12_234 : xFl RX12 234 12 30 := ⟨_, rfl, by decide, rfl, Or.inl (List.mem_of_getElem? (i := 934) (by decide +kernel))⟩
theorem mv_X12_237 : xMV RX12 237 12 yX12_isChurn cX12_isChurn 2 (some .boolean) 1 := ⟨⟨_, rfl, rfl⟩, List.mem_of_getElem? (i := 1113) (by decide +kernel), List.mem_of_getElem? (i := 1115) (by decide +kernel), List.mem_of_getElem? (i := 50) (by decide +kernel), List.mem_of_getElem? (i := 84) (by decide +kernel), List.mem_of_getElem? (i := 1116) (by decide +kernel), by decide +kernel, by decide +kernel⟩
theorem mv_X12_240 : xMV RX12 240 12 yX12_waits cX12_waits 4 (some .int) 3 := ⟨⟨_, rfl, rfl⟩, List.mem_of_getElem? (i := 1134) (by decide +kernel), List.mem_of_getElem? (i := 1136) (by decide +kernel), List.mem_of_getElem? (i := 54) (by decide +kernel), List.mem_of_getElem? (i := 84) (by decide +kernel), List.mem_of_getElem? (i := 1137) (by decide +kernel), by decide +kernel, by decide +kernel⟩
theorem mv_X12_244 : xMV RX12 244 12 yX12_reaches cX12_reaches 4 (some .boolean) 3 := ⟨⟨_, rfl, rfl⟩, List.mem_of_getElem? (i := 1138) (by decide +kernel), List.mem_of_getElem? (i := 1140) (by decide +kernel), List.mem_of_getElem? (i := 55) (by decide +kernel), List.mem_of_getElem? (i := 84) (by decide +kernel), List.mem_of_getElem? (i := 1141) (by decide +kernel), by decide +kernel, by decide +kernel⟩
theorem mv_X12_248 : xMV RX12 248 12 yX12_sumUp cX12_sumUp 3 none 0 := ⟨⟨_, rfl, rfl⟩, List.mem_of_getElem? (i := 1125) (by decide +kernel), List.mem_of_getElem? (i := 1127) (by decide +kernel), List.mem_of_getElem? (i := 52) (by decide +kernel), List.mem_of_getElem? (i := 84) (by decide +kernel), List.mem_of_getElem? (i := 1128) (by decide +kernel), by decide +kernel, by decide +kernel⟩
theorem fl_X12_252 : xFl RX12 252 12 33 := ⟨_, rfl, by decide, rfl, Or.inl (List.mem_of_getElem? (i := 937) (by decide +kernel))⟩
theorem mv_X12_255 : xMV RX12 255 12 yX12_goesOn cX12_goesOn 10 (some .boolean) 4 := ⟨⟨_, rfl, rfl⟩, List.mem_of_getElem? (i := 1130) (by decide +kernel), List.mem_of_getElem? (i := 1132) (by decide +kernel), List.mem_of_getElem? (i := 53) (by decide +kernel), List.mem_of_getElem? (i := 84) (by decide +kernel), List.mem_of_getElem? (i := 1133) (by decide +kernel), by decide +kernel, by decide +kernel⟩
theorem mv_X12_259 : xMV RX12 259 12 yX12_ends cX12_ends 4 none 2 := ⟨⟨_, rfl, rfl⟩, List.mem_of_getElem? (i := 1142) (by decide +kernel), List.mem_of_getElem? (i := 1144) (by decide +kernel), List.mem_of_getElem? (i := 56) (by decide +kernel), List.mem_of_getElem? (i := 84) (by decide +kernel), List.mem_of_getElem? (i := 1145) (by decide +kernel), by decide +kernel, by decide +kernel⟩
theorem fl_X12_262 : xFl RX12 262 12 34 := ⟨_, rfl, by decide, rfl, Or.inl (List.mem_of_getElem? (i := 938) (by decide +kernel))⟩
theorem fl_X12_265 : xFl RX12 265 12 35 := ⟨_, rfl, by decide, rfl, Or.inl (List.mem_of_getElem? (i := 939) (by decide +kernel))⟩
theorem mv_X12_268 : xMV RX12 268 12 yX12_seek cX12_seek 6 none 1 := ⟨⟨_, rfl, rfl⟩, List.mem_of_getElem? (i := 1121) (by decide +kernel), List.mem_of_getElem? (i := 1123) (by decide +kernel), List.mem_of_getElem? (i := 51) (by decide +kernel), List.mem_of_getElem? (i := 84) (by decide +kernel), List.mem_of_getElem? (i := 1124) (by decide +kernel), by decide +kernel, by decide +kernel⟩
theorem mv_X12_271 : xMV RX12 271 12 yX12_alone cX12_alone 2 (some .int) 1 := ⟨⟨_, rfl, rfl⟩, List.mem_of_getElem? (i := 1150) (by decide +kernel), List.mem_of_getElem? (i := 1118) (by decide +kernel), List.mem_of_getElem? (i := 1119) (by decide +kernel), List.mem_of_getElem? (i := 84) (by decide +kernel), List.mem_of_getElem? (i := 1120) (by decide +kernel), by decide +kernel, by decide +kernel⟩
theorem mv_X12_274 : xMV RX12 274 12 yX12_stopAt cX12_stopAt 4 (some .int) 2 := ⟨⟨_, rfl, rfl⟩, List.mem_of_getElem? (i := 1159) (by decide +kernel), List.mem_of_getElem? (i := 1161) (by decide +kernel), List.mem_of_getElem? (i := 58) (by decide +kernel), List.mem_of_getElem? (i := 84) (by decide +kernel), List.mem_of_getElem? (i := 1162) (by decide +kernel), by decide +kernel, by decide +kernel⟩
theorem mv_X12_277 : xMV RX12 277 12 yX12_souredBy cX12_souredBy 5 (some .int) 2 := ⟨⟨_, rfl, rfl⟩, List.mem_of_getElem? (i := 1155) (by decide +kernel), List.mem_of_getElem? (i := 1157) (by decide +kernel), List.mem_of_getElem? (i := 57) (by decide +kernel), List.mem_of_getElem? (i := 84) (by decide +kernel), List.mem_of_getElem? (i := 1158) (by decide +kernel), by decide +kernel, by decide +kernel⟩
theorem mv_X12_284 : xMV RX12 284 12 yX12_comesIn cX12_comesIn 9 (some .long) 1 := ⟨⟨_, rfl, rfl⟩, List.mem_of_getElem? (i := 1181) (by decide +kernel), List.mem_of_getElem? (i := 1183) (by decide +kernel), List.mem_of_getElem? (i := 62) (by decide +kernel), List.mem_of_getElem? (i := 84) (by decide +kernel), List.mem_of_getElem? (i := 1184) (by decide +kernel), by decide +kernel, by decide +kernel⟩
theorem mv_X12_288 : xMV RX12 288 12 yX12_gives cX12_gives 7 (some .boolean) 1 := ⟨⟨_, rfl, rfl⟩, List.mem_of_getElem? (i := 1185) (by decide +kernel), List.mem_of_getElem? (i := 1187) (by decide +kernel), List.mem_of_getElem? (i := 63) (by decide +kernel), List.mem_of_getElem? (i := 84) (by decide +kernel), List.mem_of_getElem? (i := 1188) (by decide +kernel), by decide +kernel, by decide +kernel⟩
theorem mv_X12_291 : xMV RX12 291 12 yX12_roomOf cX12_roomOf 2 (some .int) 1 := ⟨⟨_, rfl, rfl⟩, List.mem_of_getElem? (i := 1189) (by decide +kernel), List.mem_of_getElem? (i := 1191) (by decide +kernel), List.mem_of_getElem? (i := 64) (by decide +kernel), List.mem_of_getElem? (i := 84) (by decide +kernel), List.mem_of_getElem? (i := 1192) (by decide +kernel), by decide +kernel, by decide +kernel⟩
theorem mv_X12_294 : xMV RX12 294 12 yX12_price cX12_price 5 none 0 := ⟨⟨_, rfl, rfl⟩, List.mem_of_getElem? (i := 1171) (by decide +kernel), List.mem_of_getElem? (i := 1173) (by decide +kernel), List.mem_of_getElem? (i := 60) (by decide +kernel), List.mem_of_getElem? (i := 84) (by decide +kernel), List.mem_of_getElem? (i := 1174) (by decide +kernel), by decide +kernel, by decide +kernel⟩
theorem mv_X12_297 : xMV RX12 297 12 yX12_least cX12_least 6 (some .long) 0 := ⟨⟨_, rfl, rfl⟩, List.mem_of_getElem? (i := 1177) (by decide +kernel), List.mem_of_getElem? (i := 1179) (by decide +kernel), List.mem_of_getElem? (i := 61) (by decide +kernel), List.mem_of_getElem? (i := 84) (by decide +kernel), List.mem_of_getElem? (i := 1180) (by decide +kernel), by decide +kernel, by decide +kernel⟩
theorem fl_X12_301 : xFl RX12 301 12 38 := ⟨_, rfl, by decide, rfl, Or.inl (List.mem_of_getElem? (i := 942) (by decide +kernel))⟩
theorem fl_X12_304 : xFl RX12 304 12 39 := ⟨_, rfl, by decide, rfl, Or.inl (List.mem_of_getElem? (i := 943) (by decide +kernel))⟩
theorem mv_X12_307 : xMV RX12 307 12 yX12_canBe cX12_canBe 7 (some .boolean) 3 := ⟨⟨_, rfl, rfl⟩, List.mem_of_getElem? (i := 1193) (by decide +kernel), List.mem_of_getElem? (i := 1195) (by decide +kernel), List.mem_of_getElem? (i := 65) (by decide +kernel), List.mem_of_getElem? (i := 84) (by decide +kernel), List.mem_of_getElem? (i := 1196) (by decide +kernel), by decide +kernel, by decide +kernel⟩
theorem mv_X12_311 : xMV RX12 311 12 yX12_loadAll cX12_loadAll 7 none 0 := ⟨⟨_, rfl, rfl⟩, List.mem_of_getElem? (i := 1167) (by decide +kernel), List.mem_of_getElem? (i := 1169) (by decide +kernel), List.mem_of_getElem? (i := 59) (by decide +kernel), List.mem_of_getElem? (i := 84) (by decide +kernel), List.mem_of_getElem? (i := 1170) (by decide +kernel), by decide +kernel, by decide +kernel⟩
theorem fl_X12_314 : xFl RX12 314 12 55 := ⟨_, rfl, by decide, rfl, Or.inl (List.mem_of_getElem? (i := 959) (by decide +kernel))⟩
theorem ms_X12_317 : xMS RX12 317 yX12_isTank cX12_isTank 1 (some .boolean) 1 := ⟨List.mem_of_getElem? (i := 1213) (by decide +kernel), List.mem_of_getElem? (i := 1214) (by decide +kernel), List.mem_of_getElem? (i := 84) (by decide +kernel), List.mem_of_getElem? (i := 1215) (by decide +kernel), by decide +kernel, by decide +kernel⟩
theorem mv_X12_320 : xMV RX12 320 12 yX12_has cX12_has 3 (some .boolean) 2 := ⟨⟨_, rfl, rfl⟩, List.mem_of_getElem? (i := 1220) (by decide +kernel), List.mem_of_getElem? (i := 1222) (by decide +kernel), List.mem_of_getElem? (i := 66) (by decide +kernel), List.mem_of_getElem? (i := 84) (by decide +kernel), List.mem_of_getElem? (i := 1223) (by decide +kernel), by decide +kernel, by decide +kernel⟩
theorem mv_X12_324 : xMV RX12 324 12 yX12_draw cX12_draw 3 none 2 := ⟨⟨_, rfl, rfl⟩, List.mem_of_getElem? (i := 1224) (by decide +kernel), List.mem_of_getElem? (i := 1226) (by decide +kernel), List.mem_of_getElem? (i := 67) (by decide +kernel), List.mem_of_getElem? (i := 84) (by decide +kernel), List.mem_of_getElem? (i := 1227) (by decide +kernel), by decide +kernel, by decide +kernel⟩
theorem fl_X12_327 : xFl RX12 327 12 56 := ⟨_, rfl, by decide, rfl, Or.inl (List.mem_of_getElem? (i := 960) (by decide +kernel))⟩
theorem mv_X12_330 : xMV RX12 330 12 yX12_isBottling cX12_isBottling 2 (some .boolean) 1 := ⟨⟨_, rfl, rfl⟩, List.mem_of_getElem? (i := 1240) (by decide +kernel), List.mem_of_getElem? (i := 1242) (by decide +kernel), List.mem_of_getElem? (i := 68) (by decide +kernel), List.mem_of_getElem? (i := 84) (by decide +kernel), List.mem_of_getElem? (i := 1243) (by decide +kernel), by decide +kernel, by decide +kernel⟩
theorem fl_X12_333 : xFl RX12 333 12 57 := ⟨_, rfl, by decide, rfl, Or.inl (List.mem_of_getElem? (i := 961) (by decide +kernel))⟩
theorem mv_X12_336 : xMV RX12 336 12 yX12_isRecalled cX12_isRecalled 4 (some .boolean) 2 := ⟨⟨_, rfl, rfl⟩, List.mem_of_getElem? (i := 1256) (by decide +kernel), List.mem_of_getElem? (i := 1258) (by decide +kernel), List.mem_of_getElem? (i := 69) (by decide +kernel), List.mem_of_getElem? (i := 84) (by decide +kernel), List.mem_of_getElem? (i := 1259) (by decide +kernel), by decide +kernel, by decide +kernel⟩
theorem fl_X1_9 : xFl RX1 9 1 4 := ⟨_, rfl, by decide, rfl, Or.inl (List.mem_of_getElem? (i := 326) (by decide +kernel))⟩
theorem fl_X2_9 : xFl RX2 9 2 0 := ⟨_, rfl, by decide, rfl, Or.inl (List.mem_of_getElem? (i := 218) (by decide +kernel))⟩
theorem fl_X2_15 : xFl RX2 15 2 1 := ⟨_, rfl, by decide, rfl, Or.inl (List.mem_of_getElem? (i := 219) (by decide +kernel))⟩
theorem fl_X2_19 : xFl RX2 19 2 2 := ⟨_, rfl, by decide, rfl, Or.inl (List.mem_of_getElem? (i := 221) (by decide +kernel))⟩
theorem fl_X2_22 : xFl RX2 22 2 3 := ⟨_, rfl, by decide, rfl, Or.inl (List.mem_of_getElem? (i := 222) (by decide +kernel))⟩
theorem fl_X2_25 : xFl RX2 25 2 4 := ⟨_, rfl, by decide, rfl, Or.inl (List.mem_of_getElem? (i := 223) (by decide +kernel))⟩
theorem mv_X2_28 : xMV RX2 28 2 yX2_sumUp cX2_sumUp 4 none 0 := ⟨⟨_, rfl, rfl⟩, List.mem_of_getElem? (i := 204) (by decide +kernel), List.mem_of_getElem? (i := 206) (by decide +kernel), List.mem_of_getElem? (i := 0) (by decide +kernel), List.mem_of_getElem? (i := 76) (by decide +kernel), List.mem_of_getElem? (i := 207) (by decide +kernel), by decide +kernel, by decide +kernel⟩
theorem mv_X2_31 : xMV RX2 31 2 yX2_isCooled cX2_isCooled 2 (some .boolean) 1 := ⟨⟨_, rfl, rfl⟩, List.mem_of_getElem? (i := 593) (by decide +kernel), List.mem_of_getElem? (i := 595) (by decide +kernel), List.mem_of_getElem? (i := 15) (by decide +kernel), List.mem_of_getElem? (i := 76) (by decide +kernel), List.mem_of_getElem? (i := 596) (by decide +kernel), by decide +kernel, by decide +kernel⟩
theorem mv_X2_35 : xMV RX2 35 2 yX2_until cX2_until 5 (some .int) 2 := ⟨⟨_, rfl, rfl⟩, List.mem_of_getElem? (i := 652) (by decide +kernel), List.mem_of_getElem? (i := 654) (by decide +kernel), List.mem_of_getElem? (i := 21) (by decide +kernel), List.mem_of_getElem? (i := 76) (by decide +kernel), List.mem_of_getElem? (i := 655) (by decide +kernel), by decide +kernel, by decide +kernel⟩
theorem mv_X2_39 : xMV RX2 39 2 yX2_warmthOf cX2_warmthOf 6 (some .int) 1 := ⟨⟨_, rfl, rfl⟩, List.mem_of_getElem? (i := 208) (by decide +kernel), List.mem_of_getElem? (i := 210) (by decide +kernel), List.mem_of_getElem? (i := 1) (by decide +kernel), List.mem_of_getElem? (i := 76) (by decide +kernel), List.mem_of_getElem? (i := 211) (by decide +kernel), by decide +kernel, by decide +kernel⟩
theorem fl_X3_9 : xFl RX3 9 3 3 := ⟨_, rfl, by decide, rfl, Or.inl (List.mem_of_getElem? (i := 387) (by decide +kernel))⟩
theorem fl_X3_15 : xFl RX3 15 3 2 := ⟨_, rfl, by decide, rfl, Or.inl (List.mem_of_getElem? (i := 385) (by decide +kernel))⟩
theorem fl_X3_18 : xFl RX3 18 0 2 := ⟨_, rfl, by decide, rfl, Or.inr ⟨"MilkTrain", List.mem_of_getElem? (i := 365) (by decide +kernel)⟩⟩
theorem fl_X3_23 : xFl RX3 23 3 1 := ⟨_, rfl, by decide, rfl, Or.inl (List.mem_of_getElem? (i := 383) (by decide +kernel))⟩
theorem fl_X3_26 : xFl RX3 26 0 1 := ⟨_, rfl, by decide, rfl, Or.inr ⟨"MilkTrain", List.mem_of_getElem? (i := 363) (by decide +kernel)⟩⟩
theorem fl_X3_29 : xFl RX3 29 3 0 := ⟨_, rfl, by decide, rfl, Or.inl (List.mem_of_getElem? (i := 381) (by decide +kernel))⟩
theorem fl_X4_13 : xFl RX4 13 4 1 := ⟨_, rfl, by decide, rfl, Or.inl (List.mem_of_getElem? (i := 282) (by decide +kernel))⟩
theorem fl_X4_16 : xFl RX4 16 4 2 := ⟨_, rfl, by decide, rfl, Or.inl (List.mem_of_getElem? (i := 283) (by decide +kernel))⟩
theorem fl_X4_20 : xFl RX4 20 4 3 := ⟨_, rfl, by decide, rfl, Or.inl (List.mem_of_getElem? (i := 284) (by decide +kernel))⟩
theorem fl_X4_23 : xFl RX4 23 4 4 := ⟨_, rfl, by decide, rfl, Or.inl (List.mem_of_getElem? (i := 285) (by decide +kernel))⟩
theorem fl_X4_27 : xFl RX4 27 4 5 := ⟨_, rfl, by decide, rfl, Or.inl (List.mem_of_getElem? (i := 286) (by decide +kernel))⟩
theorem fl_X4_30 : xFl RX4 30 4 0 := ⟨_, rfl, by decide, rfl, Or.inl (List.mem_of_getElem? (i := 281) (by decide +kernel))⟩
theorem fl_X4_34 : xFl RX4 34 4 6 := ⟨_, rfl, by decide, rfl, Or.inl (List.mem_of_getElem? (i := 287) (by decide +kernel))⟩
theorem mv_X4_38 : xMV RX4 38 4 yX4_makeRoom cX4_makeRoom 3 none 1 := ⟨⟨_, rfl, rfl⟩, List.mem_of_getElem? (i := 686) (by decide +kernel), List.mem_of_getElem? (i := 688) (by decide +kernel), List.mem_of_getElem? (i := 24) (by decide +kernel), List.mem_of_getElem? (i := 79) (by decide +kernel), List.mem_of_getElem? (i := 689) (by decide +kernel), by decide +kernel, by decide +kernel⟩
theorem mv_X4_50 : xMV RX4 50 4 yX4_setCosts cX4_setCosts 8 none 4 := ⟨⟨_, rfl, rfl⟩, List.mem_of_getElem? (i := 693) (by decide +kernel), List.mem_of_getElem? (i := 695) (by decide +kernel), List.mem_of_getElem? (i := 25) (by decide +kernel), List.mem_of_getElem? (i := 79) (by decide +kernel), List.mem_of_getElem? (i := 696) (by decide +kernel), by decide +kernel, by decide +kernel⟩
theorem mv_X4_54 : xMV RX4 54 4 yX4_addDigits cX4_addDigits 5 none 2 := ⟨⟨_, rfl, rfl⟩, List.mem_of_getElem? (i := 701) (by decide +kernel), List.mem_of_getElem? (i := 703) (by decide +kernel), List.mem_of_getElem? (i := 26) (by decide +kernel), List.mem_of_getElem? (i := 79) (by decide +kernel), List.mem_of_getElem? (i := 704) (by decide +kernel), by decide +kernel, by decide +kernel⟩
theorem mv_X4_60 : xMV RX4 60 4 yX4_seekChains cX4_seekChains 5 none 1 := ⟨⟨_, rfl, rfl⟩, List.mem_of_getElem? (i := 706) (by decide +kernel), List.mem_of_getElem? (i := 708) (by decide +kernel), List.mem_of_getElem? (i := 27) (by decide +kernel), List.mem_of_getElem? (i := 79) (by decide +kernel), List.mem_of_getElem? (i := 709) (by decide +kernel), by decide +kernel, by decide +kernel⟩
theorem mv_X4_64 : xMV RX4 64 4 yX4_place cX4_place 6 none 1 := ⟨⟨_, rfl, rfl⟩, List.mem_of_getElem? (i := 714) (by decide +kernel), List.mem_of_getElem? (i := 716) (by decide +kernel), List.mem_of_getElem? (i := 29) (by decide +kernel), List.mem_of_getElem? (i := 79) (by decide +kernel), List.mem_of_getElem? (i := 717) (by decide +kernel), by decide +kernel, by decide +kernel⟩
theorem mv_X4_67 : xMV RX4 67 4 yX4_sumUp cX4_sumUp 4 none 2 := ⟨⟨_, rfl, rfl⟩, List.mem_of_getElem? (i := 718) (by decide +kernel), List.mem_of_getElem? (i := 720) (by decide +kernel), List.mem_of_getElem? (i := 30) (by decide +kernel), List.mem_of_getElem? (i := 79) (by decide +kernel), List.mem_of_getElem? (i := 721) (by decide +kernel), by decide +kernel, by decide +kernel⟩
theorem mv_X4_71 : xMV RX4 71 8 yX8_has cX8_has 2 (some .boolean) 1 := ⟨⟨_, rfl, rfl⟩, List.mem_of_getElem? (i := 690) (by decide +kernel), List.mem_of_getElem? (i := 559) (by decide +kernel), List.mem_of_getElem? (i := 560) (by decide +kernel), List.mem_of_getElem? (i := 74) (by decide +kernel), List.mem_of_getElem? (i := 561) (by decide +kernel), by decide +kernel, by decide +kernel⟩
theorem fl_X4_77 : xFl RX4 77 8 0 := ⟨_, rfl, by decide, rfl, Or.inr ⟨"MilkTrain", List.mem_of_getElem? (i := 187) (by decide +kernel)⟩⟩
theorem fl_X4_81 : xFl RX4 81 9 1 := ⟨_, rfl, by decide, rfl, Or.inr ⟨"MilkTrain", List.mem_of_getElem? (i := 158) (by decide +kernel)⟩⟩
theorem mv_X4_86 : xMV RX4 86 10 yX10_direct cX10_direct 6 (some .int) 2 := ⟨⟨_, rfl, rfl⟩, List.mem_of_getElem? (i := 697) (by decide +kernel), List.mem_of_getElem? (i := 670) (by decide +kernel), List.mem_of_getElem? (i := 671) (by decide +kernel), List.mem_of_getElem? (i := 78) (by decide +kernel), List.mem_of_getElem? (i := 672) (by decide +kernel), by decide +kernel, by decide +kernel⟩
theorem fl_X4_96 : xFl RX4 96 1 3 := ⟨_, rfl, by decide, rfl, Or.inr ⟨"MilkTrain", List.mem_of_getElem? (i := 324) (by decide +kernel)⟩⟩
theorem mv_X4_103 : xMV RX4 103 4 yX4_lengthenChains cX4_lengthenChains 8 (some .boolean) 1 := ⟨⟨_, rfl, rfl⟩, List.mem_of_getElem? (i := 710) (by decide +kernel), List.mem_of_getElem? (i := 712) (by decide +kernel), List.mem_of_getElem? (i := 28) (by decide +kernel), List.mem_of_getElem? (i := 79) (by decide +kernel), List.mem_of_getElem? (i := 713) (by decide +kernel), by decide +kernel, by decide +kernel⟩
theorem fl_X4_106 : xFl RX4 106 4 7 := ⟨_, rfl, by decide, rfl, Or.inl (List.mem_of_getElem? (i := 288) (by decide +kernel))⟩
theorem fl_X4_109 : xFl RX4 109 4 8 := ⟨_, rfl, by decide, rfl, Or.inl (List.mem_of_getElem? (i := 290) (by decide +kernel))⟩
theorem fl_X5_9 : xFl RX5 9 5 0 := ⟨_, rfl, by decide, rfl, Or.inl (List.mem_of_getElem? (i := 115) (by decide +kernel))⟩
theorem fl_X5_15 : xFl RX5 15 5 7 := ⟨_, rfl, by decide, rfl, Or.inl (List.mem_of_getElem? (i := 123) (by decide +kernel))⟩
theorem fl_X5_19 : xFl RX5 19 8 1 := ⟨_, rfl, by decide, rfl, Or.inr ⟨"MilkTrain", List.mem_of_getElem? (i := 189) (by decide +kernel)⟩⟩
theorem fl_X5_24 : xFl RX5 24 5 6 := ⟨_, rfl, by decide, rfl, Or.inl (List.mem_of_getElem? (i := 121) (by decide +kernel))⟩
theorem fl_X5_27 : xFl RX5 27 5 1 := ⟨_, rfl, by decide, rfl, Or.inl (List.mem_of_getElem? (i := 116) (by decide +kernel))⟩
theorem mv_X5_30 : xMV RX5 30 5 yX5_advance cX5_advance 2 none 0 := ⟨⟨_, rfl, rfl⟩, List.mem_of_getElem? (i := 470) (by decide +kernel), List.mem_of_getElem? (i := 472) (by decide +kernel), List.mem_of_getElem? (i := 2) (by decide +kernel), List.mem_of_getElem? (i := 73) (by decide +kernel), List.mem_of_getElem? (i := 473) (by decide +kernel), by decide +kernel, by decide +kernel⟩
theorem fl_X5_33 : xFl RX5 33 5 3 := ⟨_, rfl, by decide, rfl, Or.inl (List.mem_of_getElem? (i := 118) (by decide +kernel))⟩
theorem fl_X5_36 : xFl RX5 36 8 0 := ⟨_, rfl, by decide, rfl, Or.inr ⟨"MilkTrain", List.mem_of_getElem? (i := 185) (by decide +kernel)⟩⟩
theorem mv_X5_40 : xMV RX5 40 5 yX5_readHead cX5_readHead 3 (some .boolean) 2 := ⟨⟨_, rfl, rfl⟩, List.mem_of_getElem? (i := 495) (by decide +kernel), List.mem_of_getElem? (i := 497) (by decide +kernel), List.mem_of_getElem? (i := 5) (by decide +kernel), List.mem_of_getElem? (i := 73) (by decide +kernel), List.mem_of_getElem? (i := 498) (by decide +kernel), by decide +kernel, by decide +kernel⟩
theorem mv_X5_44 : xMV RX5 44 5 yX5_readStops cX5_readStops 3 (some .boolean) 1 := ⟨⟨_, rfl, rfl⟩, List.mem_of_getElem? (i := 534) (by decide +kernel), List.mem_of_getElem? (i := 536) (by decide +kernel), List.mem_of_getElem? (i := 12) (by decide +kernel), List.mem_of_getElem? (i := 73) (by decide +kernel), List.mem_of_getElem? (i := 537) (by decide +kernel), by decide +kernel, by decide +kernel⟩
theorem mv_X5_48 : xMV RX5 48 5 yX5_refuseToken cX5_refuseToken 1 (some .boolean) 0 := ⟨⟨_, rfl, rfl⟩, List.mem_of_getElem? (i := 504) (by decide +kernel), List.mem_of_getElem? (i := 506) (by decide +kernel), List.mem_of_getElem? (i := 7) (by decide +kernel), List.mem_of_getElem? (i := 73) (by decide +kernel), List.mem_of_getElem? (i := 507) (by decide +kernel), by decide +kernel, by decide +kernel⟩
theorem mv_X5_54 : xMV RX5 54 5 yX5_takeWord cX5_takeWord 3 (some .boolean) 1 := ⟨⟨_, rfl, rfl⟩, List.mem_of_getElem? (i := 500) (by decide +kernel), List.mem_of_getElem? (i := 502) (by decide +kernel), List.mem_of_getElem? (i := 6) (by decide +kernel), List.mem_of_getElem? (i := 73) (by decide +kernel), List.mem_of_getElem? (i := 503) (by decide +kernel), by decide +kernel, by decide +kernel⟩
theorem mv_X5_58 : xMV RX5 58 5 yX5_takeName cX5_takeName 3 (some .boolean) 2 := ⟨⟨_, rfl, rfl⟩, List.mem_of_getElem? (i := 512) (by decide +kernel), List.mem_of_getElem? (i := 514) (by decide +kernel), List.mem_of_getElem? (i := 9) (by decide +kernel), List.mem_of_getElem? (i := 73) (by decide +kernel), List.mem_of_getElem? (i := 515) (by decide +kernel), by decide +kernel, by decide +kernel⟩
theorem mv_X5_63 : xMV RX5 63 5 yX5_takeCarries cX5_takeCarries 2 (some .boolean) 1 := ⟨⟨_, rfl, rfl⟩, List.mem_of_getElem? (i := 526) (by decide +kernel), List.mem_of_getElem? (i := 528) (by decide +kernel), List.mem_of_getElem? (i := 10) (by decide +kernel), List.mem_of_getElem? (i := 73) (by decide +kernel), List.mem_of_getElem? (i := 529) (by decide +kernel), by decide +kernel, by decide +kernel⟩
theorem mv_X5_66 : xMV RX5 66 5 yX5_takeSign cX5_takeSign 2 (some .boolean) 1 := ⟨⟨_, rfl, rfl⟩, List.mem_of_getElem? (i := 530) (by decide +kernel), List.mem_of_getElem? (i := 532) (by decide +kernel), List.mem_of_getElem? (i := 11) (by decide +kernel), List.mem_of_getElem? (i := 73) (by decide +kernel), List.mem_of_getElem? (i := 533) (by decide +kernel), by decide +kernel, by decide +kernel⟩
theorem mv_X5_70 : xMV RX5 70 5 yX5_takeStation cX5_takeStation 3 (some .boolean) 2 := ⟨⟨_, rfl, rfl⟩, List.mem_of_getElem? (i := 538) (by decide +kernel), List.mem_of_getElem? (i := 540) (by decide +kernel), List.mem_of_getElem? (i := 13) (by decide +kernel), List.mem_of_getElem? (i := 73) (by decide +kernel), List.mem_of_getElem? (i := 541) (by decide +kernel), by decide +kernel, by decide +kernel⟩
theorem mv_X5_76 : xMV RX5 76 5 yX5_takeMinute cX5_takeMinute 4 (some .boolean) 2 := ⟨⟨_, rfl, rfl⟩, List.mem_of_getElem? (i := 546) (by decide +kernel), List.mem_of_getElem? (i := 548) (by decide +kernel), List.mem_of_getElem? (i := 14) (by decide +kernel), List.mem_of_getElem? (i := 73) (by decide +kernel), List.mem_of_getElem? (i := 549) (by decide +kernel), by decide +kernel, by decide +kernel⟩
theorem fl_X5_79 : xFl RX5 79 5 4 := ⟨_, rfl, by decide, rfl, Or.inl (List.mem_of_getElem? (i := 119) (by decide +kernel))⟩
theorem mv_X5_83 : xMV RX5 83 8 yX8_hasName cX8_hasName 4 (some .boolean) 1 := ⟨⟨_, rfl, rfl⟩, List.mem_of_getElem? (i := 518) (by decide +kernel), List.mem_of_getElem? (i := 519) (by decide +kernel), List.mem_of_getElem? (i := 520) (by decide +kernel), List.mem_of_getElem? (i := 74) (by decide +kernel), List.mem_of_getElem? (i := 521) (by decide +kernel), by decide +kernel, by decide +kernel⟩
theorem mv_X5_86 : xMV RX5 86 5 yX5_refuse cX5_refuse 2 (some .boolean) 1 := ⟨⟨_, rfl, rfl⟩, List.mem_of_getElem? (i := 508) (by decide +kernel), List.mem_of_getElem? (i := 510) (by decide +kernel), List.mem_of_getElem? (i := 8) (by decide +kernel), List.mem_of_getElem? (i := 73) (by decide +kernel), List.mem_of_getElem? (i := 511) (by decide +kernel), by decide +kernel, by decide +kernel⟩
theorem mv_X5_89 : xMV RX5 89 9 yX9_begin cX9_begin 3 none 1 := ⟨⟨_, rfl, rfl⟩, List.mem_of_getElem? (i := 522) (by decide +kernel), List.mem_of_getElem? (i := 523) (by decide +kernel), List.mem_of_getElem? (i := 524) (by decide +kernel), List.mem_of_getElem? (i := 75) (by decide +kernel), List.mem_of_getElem? (i := 525) (by decide +kernel), by decide +kernel, by decide +kernel⟩
theorem fl_X5_95 : xFl RX5 95 5 5 := ⟨_, rfl, by decide, rfl, Or.inl (List.mem_of_getElem? (i := 120) (by decide +kernel))⟩
theorem fl_X5_98 : xFl RX5 98 9 1 := ⟨_, rfl, by decide, rfl, Or.inr ⟨"MilkTrain", List.mem_of_getElem? (i := 159) (by decide +kernel)⟩⟩
theorem mv_X5_101 : xMV RX5 101 9 yX9_stopAt cX9_stopAt 3 (some .int) 1 := ⟨⟨_, rfl, rfl⟩, List.mem_of_getElem? (i := 542) (by decide +kernel), List.mem_of_getElem? (i := 543) (by decide +kernel), List.mem_of_getElem? (i := 544) (by decide +kernel), List.mem_of_getElem? (i := 75) (by decide +kernel), List.mem_of_getElem? (i := 545) (by decide +kernel), by decide +kernel, by decide +kernel⟩
theorem fl_X5_105 : xFl RX5 105 9 4 := ⟨_, rfl, by decide, rfl, Or.inr ⟨"MilkTrain", List.mem_of_getElem? (i := 168) (by decide +kernel)⟩⟩
theorem fl_X5_109 : xFl RX5 109 9 5 := ⟨_, rfl, by decide, rfl, Or.inr ⟨"MilkTrain", List.mem_of_getElem? (i := 170) (by decide +kernel)⟩⟩
theorem fl_X5_112 : xFl RX5 112 9 3 := ⟨_, rfl, by decide, rfl, Or.inr ⟨"MilkTrain", List.mem_of_getElem? (i := 166) (by decide +kernel)⟩⟩
theorem fl_X5_115 : xFl RX5 115 5 2 := ⟨_, rfl, by decide, rfl, Or.inl (List.mem_of_getElem? (i := 117) (by decide +kernel))⟩
theorem fl_X5_118 : xFl RX5 118 7 1 := ⟨_, rfl, by decide, rfl, Or.inr ⟨"MilkTrain", List.mem_of_getElem? (i := 102) (by decide +kernel)⟩⟩
theorem mv_X5_123 : xMV RX5 123 7 yX7_byteAt cX7_byteAt 2 (some .int) 1 := ⟨⟨_, rfl, rfl⟩, List.mem_of_getElem? (i := 474) (by decide +kernel), List.mem_of_getElem? (i := 475) (by decide +kernel), List.mem_of_getElem? (i := 476) (by decide +kernel), List.mem_of_getElem? (i := 72) (by decide +kernel), List.mem_of_getElem? (i := 477) (by decide +kernel), by decide +kernel, by decide +kernel⟩
theorem ms_X5_126 : xMS RX5 126 yX5_isBlank cX5_isBlank 1 (some .boolean) 1 := ⟨List.mem_of_getElem? (i := 478) (by decide +kernel), List.mem_of_getElem? (i := 479) (by decide +kernel), List.mem_of_getElem? (i := 73) (by decide +kernel), List.mem_of_getElem? (i := 480) (by decide +kernel), by decide +kernel, by decide +kernel⟩
theorem ms_X5_129 : xMS RX5 129 yX5_isLetter cX5_isLetter 1 (some .boolean) 1 := ⟨List.mem_of_getElem? (i := 481) (by decide +kernel), List.mem_of_getElem? (i := 482) (by decide +kernel), List.mem_of_getElem? (i := 73) (by decide +kernel), List.mem_of_getElem? (i := 483) (by decide +kernel), by decide +kernel, by decide +kernel⟩
theorem mv_X5_132 : xMV RX5 132 5 yX5_scanWord cX5_scanWord 1 none 0 := ⟨⟨_, rfl, rfl⟩, List.mem_of_getElem? (i := 484) (by decide +kernel), List.mem_of_getElem? (i := 486) (by decide +kernel), List.mem_of_getElem? (i := 3) (by decide +kernel), List.mem_of_getElem? (i := 73) (by decide +kernel), List.mem_of_getElem? (i := 487) (by decide +kernel), by decide +kernel, by decide +kernel⟩
theorem ms_X5_135 : xMS RX5 135 yX5_isDigit cX5_isDigit 1 (some .boolean) 1 := ⟨List.mem_of_getElem? (i := 488) (by decide +kernel), List.mem_of_getElem? (i := 489) (by decide +kernel), List.mem_of_getElem? (i := 73) (by decide +kernel), List.mem_of_getElem? (i := 490) (by decide +kernel), by decide +kernel, by decide +kernel⟩
theorem mv_X5_138 : xMV RX5 138 5 yX5_scanNumber cX5_scanNumber 2 none 0 := ⟨⟨_, rfl, rfl⟩, List.mem_of_getElem? (i := 491) (by decide +kernel), List.mem_of_getElem? (i := 493) (by decide +kernel), List.mem_of_getElem? (i := 4) (by decide +kernel), List.mem_of_getElem? (i := 73) (by decide +kernel), List.mem_of_getElem? (i := 494) (by decide +kernel), by decide +kernel, by decide +kernel⟩
theorem fl_X6_9 : xFl RX6 9 6 0 := ⟨_, rfl, by decide, rfl, Or.inl (List.mem_of_getElem? (i := 346) (by decide +kernel))⟩
theorem fl_X6_15 : xFl RX6 15 6 1 := ⟨_, rfl, by decide, rfl, Or.inl (List.mem_of_getElem? (i := 348) (by decide +kernel))⟩
theorem fl_X7_9 : xFl RX7 9 7 0 := ⟨_, rfl, by decide, rfl, Or.inl (List.mem_of_getElem? (i := 99) (by decide +kernel))⟩
theorem fl_X7_15 : xFl RX7 15 7 1 := ⟨_, rfl, by decide, rfl, Or.inl (List.mem_of_getElem? (i := 101) (by decide +kernel))⟩
theorem fl_X8_11 : xFl RX8 11 8 0 := ⟨_, rfl, by decide, rfl, Or.inl (List.mem_of_getElem? (i := 184) (by decide +kernel))⟩
theorem fl_X8_18 : xFl RX8 18 8 1 := ⟨_, rfl, by decide, rfl, Or.inl (List.mem_of_getElem? (i := 190) (by decide +kernel))⟩
theorem fl_X8_22 : xFl RX8 22 9 0 := ⟨_, rfl, by decide, rfl, Or.inr ⟨"MilkTrain", List.mem_of_getElem? (i := 156) (by decide +kernel)⟩⟩
theorem fl_X9_9 : xFl RX9 9 9 4 := ⟨_, rfl, by decide, rfl, Or.inl (List.mem_of_getElem? (i := 167) (by decide +kernel))⟩
theorem fl_X9_15 : xFl RX9 15 9 5 := ⟨_, rfl, by decide, rfl, Or.inl (List.mem_of_getElem? (i := 169) (by decide +kernel))⟩
theorem fl_X9_18 : xFl RX9 18 9 0 := ⟨_, rfl, by decide, rfl, Or.inl (List.mem_of_getElem? (i := 155) (by decide +kernel))⟩
theorem fl_X9_22 : xFl RX9 22 9 1 := ⟨_, rfl, by decide, rfl, Or.inl (List.mem_of_getElem? (i := 157) (by decide +kernel))⟩
theorem fl_X9_26 : xFl RX9 26 9 2 := ⟨_, rfl, by decide, rfl, Or.inl (List.mem_of_getElem? (i := 161) (by decide +kernel))⟩
theorem fl_X9_29 : xFl RX9 29 9 3 := ⟨_, rfl, by decide, rfl, Or.inl (List.mem_of_getElem? (i := 163) (by decide +kernel))⟩
theorem fl_X10_11 : xFl RX10 11 10 1 := ⟨_, rfl, by decide, rfl, Or.inl (List.mem_of_getElem? (i := 243) (by decide +kernel))⟩
theorem fl_X10_15 : xFl RX10 15 10 2 := ⟨_, rfl, by decide, rfl, Or.inl (List.mem_of_getElem? (i := 244) (by decide +kernel))⟩
theorem fl_X10_18 : xFl RX10 18 10 3 := ⟨_, rfl, by decide, rfl, Or.inl (List.mem_of_getElem? (i := 245) (by decide +kernel))⟩
theorem fl_X10_21 : xFl RX10 21 10 4 := ⟨_, rfl, by decide, rfl, Or.inl (List.mem_of_getElem? (i := 246) (by decide +kernel))⟩
theorem fl_X10_24 : xFl RX10 24 10 0 := ⟨_, rfl, by decide, rfl, Or.inl (List.mem_of_getElem? (i := 242) (by decide +kernel))⟩
theorem fl_X10_28 : xFl RX10 28 1 1 := ⟨_, rfl, by decide, rfl, Or.inr ⟨"MilkTrain", List.mem_of_getElem? (i := 320) (by decide +kernel)⟩⟩
theorem mv_X10_34 : xMV RX10 34 9 yX9_stopAt cX9_stopAt 3 (some .int) 1 := ⟨⟨_, rfl, rfl⟩, List.mem_of_getElem? (i := 673) (by decide +kernel), List.mem_of_getElem? (i := 543) (by decide +kernel), List.mem_of_getElem? (i := 544) (by decide +kernel), List.mem_of_getElem? (i := 75) (by decide +kernel), List.mem_of_getElem? (i := 545) (by decide +kernel), by decide +kernel, by decide +kernel⟩
theorem mv_X10_40 : xMV RX10 40 9 yX9_minuteOf cX9_minuteOf 2 (some .int) 1 := ⟨⟨_, rfl, rfl⟩, List.mem_of_getElem? (i := 634) (by decide +kernel), List.mem_of_getElem? (i := 570) (by decide +kernel), List.mem_of_getElem? (i := 571) (by decide +kernel), List.mem_of_getElem? (i := 75) (by decide +kernel), List.mem_of_getElem? (i := 572) (by decide +kernel), by decide +kernel, by decide +kernel⟩
theorem fl_X10_43 : xFl RX10 43 1 2 := ⟨_, rfl, by decide, rfl, Or.inr ⟨"MilkTrain", List.mem_of_getElem? (i := 322) (by decide +kernel)⟩⟩
theorem mv_X10_46 : xMV RX10 46 2 yX2_between cX2_between 5 (some .int) 3 := ⟨⟨_, rfl, rfl⟩, List.mem_of_getElem? (i := 648) (by decide +kernel), List.mem_of_getElem? (i := 649) (by decide +kernel), List.mem_of_getElem? (i := 650) (by decide +kernel), List.mem_of_getElem? (i := 76) (by decide +kernel), List.mem_of_getElem? (i := 651) (by decide +kernel), by decide +kernel, by decide +kernel⟩
theorem mv_X10_52 : xMV RX10 52 10 yX10_gatherStops cX10_gatherStops 6 none 1 := ⟨⟨_, rfl, rfl⟩, List.mem_of_getElem? (i := 629) (by decide +kernel), List.mem_of_getElem? (i := 631) (by decide +kernel), List.mem_of_getElem? (i := 17) (by decide +kernel), List.mem_of_getElem? (i := 78) (by decide +kernel), List.mem_of_getElem? (i := 632) (by decide +kernel), by decide +kernel, by decide +kernel⟩
theorem fl_X10_56 : xFl RX10 56 10 6 := ⟨_, rfl, by decide, rfl, Or.inl (List.mem_of_getElem? (i := 248) (by decide +kernel))⟩
theorem fl_X10_59 : xFl RX10 59 10 7 := ⟨_, rfl, by decide, rfl, Or.inl (List.mem_of_getElem? (i := 250) (by decide +kernel))⟩
theorem fl_X10_62 : xFl RX10 62 10 8 := ⟨_, rfl, by decide, rfl, Or.inl (List.mem_of_getElem? (i := 252) (by decide +kernel))⟩
theorem fl_X10_65 : xFl RX10 65 10 5 := ⟨_, rfl, by decide, rfl, Or.inl (List.mem_of_getElem? (i := 247) (by decide +kernel))⟩
theorem mv_X10_68 : xMV RX10 68 10 yX10_costAt cX10_costAt 6 (some .int) 3 := ⟨⟨_, rfl, rfl⟩, List.mem_of_getElem? (i := 639) (by decide +kernel), List.mem_of_getElem? (i := 641) (by decide +kernel), List.mem_of_getElem? (i := 19) (by decide +kernel), List.mem_of_getElem? (i := 78) (by decide +kernel), List.mem_of_getElem? (i := 642) (by decide +kernel), by decide +kernel, by decide +kernel⟩
theorem mv_X10_73 : xMV RX10 73 10 yX10_keepBetter cX10_keepBetter 6 none 2 := ⟨⟨_, rfl, rfl⟩, List.mem_of_getElem? (i := 657) (by decide +kernel), List.mem_of_getElem? (i := 659) (by decide +kernel), List.mem_of_getElem? (i := 22) (by decide +kernel), List.mem_of_getElem? (i := 78) (by decide +kernel), List.mem_of_getElem? (i := 660) (by decide +kernel), by decide +kernel, by decide +kernel⟩
theorem fl_X10_77 : xFl RX10 77 8 1 := ⟨_, rfl, by decide, rfl, Or.inr ⟨"MilkTrain", List.mem_of_getElem? (i := 191) (by decide +kernel)⟩⟩
theorem fl_X10_80 : xFl RX10 80 8 0 := ⟨_, rfl, by decide, rfl, Or.inr ⟨"MilkTrain", List.mem_of_getElem? (i := 186) (by decide +kernel)⟩⟩
theorem fl_X10_84 : xFl RX10 84 9 3 := ⟨_, rfl, by decide, rfl, Or.inr ⟨"MilkTrain", List.mem_of_getElem? (i := 164) (by decide +kernel)⟩⟩
theorem mv_X10_87 : xMV RX10 87 9 yX9_stationOf cX9_stationOf 2 (some .int) 1 := ⟨⟨_, rfl, rfl⟩, List.mem_of_getElem? (i := 633) (by decide +kernel), List.mem_of_getElem? (i := 566) (by decide +kernel), List.mem_of_getElem? (i := 567) (by decide +kernel), List.mem_of_getElem? (i := 75) (by decide +kernel), List.mem_of_getElem? (i := 568) (by decide +kernel), by decide +kernel, by decide +kernel⟩
theorem mv_X10_90 : xMV RX10 90 10 yX10_insertByMinute cX10_insertByMinute 3 none 1 := ⟨⟨_, rfl, rfl⟩, List.mem_of_getElem? (i := 635) (by decide +kernel), List.mem_of_getElem? (i := 637) (by decide +kernel), List.mem_of_getElem? (i := 18) (by decide +kernel), List.mem_of_getElem? (i := 78) (by decide +kernel), List.mem_of_getElem? (i := 638) (by decide +kernel), by decide +kernel, by decide +kernel⟩
theorem mv_X10_94 : xMV RX10 94 10 yX10_boardingCost cX10_boardingCost 11 (some .int) 3 := ⟨⟨_, rfl, rfl⟩, List.mem_of_getElem? (i := 644) (by decide +kernel), List.mem_of_getElem? (i := 646) (by decide +kernel), List.mem_of_getElem? (i := 20) (by decide +kernel), List.mem_of_getElem? (i := 78) (by decide +kernel), List.mem_of_getElem? (i := 647) (by decide +kernel), by decide +kernel, by decide +kernel⟩
theorem mv_L_13 : xMV RL 13 11 yX11_feed cX11_feed 6 (some .int) 5 := ⟨⟨_, rfl, rfl⟩, List.mem_of_getElem? (i := 450) (by decide +kernel), List.mem_of_getElem? (i := 451) (by decide +kernel), List.mem_of_getElem? (i := 452) (by decide +kernel), List.mem_of_getElem? (i := 71) (by decide +kernel), List.mem_of_getElem? (i := 453) (by decide +kernel), by decide +kernel, by decide +kernel⟩
theorem mv_L_17 : xMV RL 17 12 yX12_feed cX12_feed 8 (some .int) 5 := ⟨⟨_, rfl, rfl⟩, List.mem_of_getElem? (i := 1268) (by decide +kernel), List.mem_of_getElem? (i := 1269) (by decide +kernel), List.mem_of_getElem? (i := 1270) (by decide +kernel), List.mem_of_getElem? (i := 84) (by decide +kernel), List.mem_of_getElem? (i := 1271) (by decide +kernel), by decide +kernel, by decide +kernel⟩
theorem mv_L_18 : xMV RL 18 11 yX11_end cX11_end 2 (some .int) 1 := ⟨⟨_, rfl, rfl⟩, List.mem_of_getElem? (i := 458) (by decide +kernel), List.mem_of_getElem? (i := 459) (by decide +kernel), List.mem_of_getElem? (i := 460) (by decide +kernel), List.mem_of_getElem? (i := 71) (by decide +kernel), List.mem_of_getElem? (i := 461) (by decide +kernel), by decide +kernel, by decide +kernel⟩
theorem mv_L_22 : xMV RL 22 12 yX12_end cX12_end 2 (some .int) 1 := ⟨⟨_, rfl, rfl⟩, List.mem_of_getElem? (i := 1272) (by decide +kernel), List.mem_of_getElem? (i := 1273) (by decide +kernel), List.mem_of_getElem? (i := 1274) (by decide +kernel), List.mem_of_getElem? (i := 84) (by decide +kernel), List.mem_of_getElem? (i := 1275) (by decide +kernel), by decide +kernel, by decide +kernel⟩
theorem mv_L_23 : xMV RL 23 11 yX11_timetable cX11_timetable 2 (some .int) 0 := ⟨⟨_, rfl, rfl⟩, List.mem_of_getElem? (i := 462) (by decide +kernel), List.mem_of_getElem? (i := 463) (by decide +kernel), List.mem_of_getElem? (i := 464) (by decide +kernel), List.mem_of_getElem? (i := 71) (by decide +kernel), List.mem_of_getElem? (i := 465) (by decide +kernel), by decide +kernel, by decide +kernel⟩
theorem mv_L_27 : xMV RL 27 12 yX12_timetable cX12_timetable 2 (some .int) 0 := ⟨⟨_, rfl, rfl⟩, List.mem_of_getElem? (i := 813) (by decide +kernel), List.mem_of_getElem? (i := 814) (by decide +kernel), List.mem_of_getElem? (i := 815) (by decide +kernel), List.mem_of_getElem? (i := 84) (by decide +kernel), List.mem_of_getElem? (i := 816) (by decide +kernel), by decide +kernel, by decide +kernel⟩
theorem mv_L_28 : xMV RL 28 11 yX11_fault cX11_fault 2 (some .int) 1 := ⟨⟨_, rfl, rfl⟩, List.mem_of_getElem? (i := 550) (by decide +kernel), List.mem_of_getElem? (i := 551) (by decide +kernel), List.mem_of_getElem? (i := 552) (by decide +kernel), List.mem_of_getElem? (i := 71) (by decide +kernel), List.mem_of_getElem? (i := 553) (by decide +kernel), by decide +kernel, by decide +kernel⟩
theorem mv_L_31 : xMV RL 31 12 yX12_fault cX12_fault 2 (some .int) 1 := ⟨⟨_, rfl, rfl⟩, List.mem_of_getElem? (i := 871) (by decide +kernel), List.mem_of_getElem? (i := 872) (by decide +kernel), List.mem_of_getElem? (i := 873) (by decide +kernel), List.mem_of_getElem? (i := 84) (by decide +kernel), List.mem_of_getElem? (i := 874) (by decide +kernel), by decide +kernel, by decide +kernel⟩
theorem mv_L_32 : xMV RL 32 11 yX11_train cX11_train 4 (some .int) 2 := ⟨⟨_, rfl, rfl⟩, List.mem_of_getElem? (i := 554) (by decide +kernel), List.mem_of_getElem? (i := 555) (by decide +kernel), List.mem_of_getElem? (i := 556) (by decide +kernel), List.mem_of_getElem? (i := 71) (by decide +kernel), List.mem_of_getElem? (i := 557) (by decide +kernel), by decide +kernel, by decide +kernel⟩
theorem mv_L_36 : xMV RL 36 12 yX12_train cX12_train 3 (some .int) 2 := ⟨⟨_, rfl, rfl⟩, List.mem_of_getElem? (i := 875) (by decide +kernel), List.mem_of_getElem? (i := 876) (by decide +kernel), List.mem_of_getElem? (i := 877) (by decide +kernel), List.mem_of_getElem? (i := 84) (by decide +kernel), List.mem_of_getElem? (i := 878) (by decide +kernel), by decide +kernel, by decide +kernel⟩
theorem mv_L_37 : xMV RL 37 11 yX11_delay cX11_delay 3 (some .boolean) 2 := ⟨⟨_, rfl, rfl⟩, List.mem_of_getElem? (i := 573) (by decide +kernel), List.mem_of_getElem? (i := 574) (by decide +kernel), List.mem_of_getElem? (i := 575) (by decide +kernel), List.mem_of_getElem? (i := 71) (by decide +kernel), List.mem_of_getElem? (i := 576) (by decide +kernel), by decide +kernel, by decide +kernel⟩
theorem mv_L_41 : xMV RL 41 12 yX12_delay cX12_delay 3 (some .boolean) 2 := ⟨⟨_, rfl, rfl⟩, List.mem_of_getElem? (i := 895) (by decide +kernel), List.mem_of_getElem? (i := 896) (by decide +kernel), List.mem_of_getElem? (i := 897) (by decide +kernel), List.mem_of_getElem? (i := 84) (by decide +kernel), List.mem_of_getElem? (i := 898) (by decide +kernel), by decide +kernel, by decide +kernel⟩
theorem mv_L_42 : xMV RL 42 11 yX11_warmth cX11_warmth 3 (some .boolean) 2 := ⟨⟨_, rfl, rfl⟩, List.mem_of_getElem? (i := 577) (by decide +kernel), List.mem_of_getElem? (i := 578) (by decide +kernel), List.mem_of_getElem? (i := 579) (by decide +kernel), List.mem_of_getElem? (i := 71) (by decide +kernel), List.mem_of_getElem? (i := 580) (by decide +kernel), by decide +kernel, by decide +kernel⟩
theorem mv_L_45 : xMV RL 45 12 yX12_warmth cX12_warmth 3 (some .boolean) 2 := ⟨⟨_, rfl, rfl⟩, List.mem_of_getElem? (i := 1080) (by decide +kernel), List.mem_of_getElem? (i := 1081) (by decide +kernel), List.mem_of_getElem? (i := 1082) (by decide +kernel), List.mem_of_getElem? (i := 84) (by decide +kernel), List.mem_of_getElem? (i := 1083) (by decide +kernel), by decide +kernel, by decide +kernel⟩
theorem mv_L_46 : xMV RL 46 11 yX11_sours cX11_sours 3 (some .int) 2 := ⟨⟨_, rfl, rfl⟩, List.mem_of_getElem? (i := 585) (by decide +kernel), List.mem_of_getElem? (i := 586) (by decide +kernel), List.mem_of_getElem? (i := 587) (by decide +kernel), List.mem_of_getElem? (i := 71) (by decide +kernel), List.mem_of_getElem? (i := 588) (by decide +kernel), by decide +kernel, by decide +kernel⟩
theorem mv_L_49 : xMV RL 49 12 yX12_sours cX12_sours 3 (some .int) 2 := ⟨⟨_, rfl, rfl⟩, List.mem_of_getElem? (i := 1084) (by decide +kernel), List.mem_of_getElem? (i := 1085) (by decide +kernel), List.mem_of_getElem? (i := 1086) (by decide +kernel), List.mem_of_getElem? (i := 84) (by decide +kernel), List.mem_of_getElem? (i := 1087) (by decide +kernel), by decide +kernel, by decide +kernel⟩
theorem mv_L_50 : xMV RL 50 11 yX11_cooler cX11_cooler 3 (some .boolean) 2 := ⟨⟨_, rfl, rfl⟩, List.mem_of_getElem? (i := 597) (by decide +kernel), List.mem_of_getElem? (i := 598) (by decide +kernel), List.mem_of_getElem? (i := 599) (by decide +kernel), List.mem_of_getElem? (i := 71) (by decide +kernel), List.mem_of_getElem? (i := 600) (by decide +kernel), by decide +kernel, by decide +kernel⟩
theorem mv_L_54 : xMV RL 54 12 yX12_cooler cX12_cooler 3 (some .boolean) 2 := ⟨⟨_, rfl, rfl⟩, List.mem_of_getElem? (i := 1096) (by decide +kernel), List.mem_of_getElem? (i := 1097) (by decide +kernel), List.mem_of_getElem? (i := 1098) (by decide +kernel), List.mem_of_getElem? (i := 84) (by decide +kernel), List.mem_of_getElem? (i := 1099) (by decide +kernel), by decide +kernel, by decide +kernel⟩
theorem mv_L_55 : xMV RL 55 11 yX11_limit cX11_limit 2 (some .boolean) 1 := ⟨⟨_, rfl, rfl⟩, List.mem_of_getElem? (i := 601) (by decide +kernel), List.mem_of_getElem? (i := 602) (by decide +kernel), List.mem_of_getElem? (i := 603) (by decide +kernel), List.mem_of_getElem? (i := 71) (by decide +kernel), List.mem_of_getElem? (i := 604) (by decide +kernel), by decide +kernel, by decide +kernel⟩
theorem mv_L_59 : xMV RL 59 12 yX12_limit cX12_limit 2 (some .boolean) 1 := ⟨⟨_, rfl, rfl⟩, List.mem_of_getElem? (i := 1100) (by decide +kernel), List.mem_of_getElem? (i := 1101) (by decide +kernel), List.mem_of_getElem? (i := 1102) (by decide +kernel), List.mem_of_getElem? (i := 84) (by decide +kernel), List.mem_of_getElem? (i := 1103) (by decide +kernel), by decide +kernel, by decide +kernel⟩
theorem mv_L_60 : xMV RL 60 11 yX11_churn cX11_churn 9 (some .int) 4 := ⟨⟨_, rfl, rfl⟩, List.mem_of_getElem? (i := 606) (by decide +kernel), List.mem_of_getElem? (i := 607) (by decide +kernel), List.mem_of_getElem? (i := 608) (by decide +kernel), List.mem_of_getElem? (i := 71) (by decide +kernel), List.mem_of_getElem? (i := 609) (by decide +kernel), by decide +kernel, by decide +kernel⟩
theorem mv_L_64 : xMV RL 64 12 yX12_churn cX12_churn 5 (some .int) 4 := ⟨⟨_, rfl, rfl⟩, List.mem_of_getElem? (i := 1105) (by decide +kernel), List.mem_of_getElem? (i := 1106) (by decide +kernel), List.mem_of_getElem? (i := 1107) (by decide +kernel), List.mem_of_getElem? (i := 84) (by decide +kernel), List.mem_of_getElem? (i := 1108) (by decide +kernel), by decide +kernel, by decide +kernel⟩
theorem mv_L_65 : xMV RL 65 11 yX11_of cX11_of 4 (some .int) 2 := ⟨⟨_, rfl, rfl⟩, List.mem_of_getElem? (i := 613) (by decide +kernel), List.mem_of_getElem? (i := 614) (by decide +kernel), List.mem_of_getElem? (i := 615) (by decide +kernel), List.mem_of_getElem? (i := 71) (by decide +kernel), List.mem_of_getElem? (i := 616) (by decide +kernel), by decide +kernel, by decide +kernel⟩
theorem mv_L_68 : xMV RL 68 12 yX12_of cX12_of 3 (some .int) 2 := ⟨⟨_, rfl, rfl⟩, List.mem_of_getElem? (i := 1109) (by decide +kernel), List.mem_of_getElem? (i := 1110) (by decide +kernel), List.mem_of_getElem? (i := 1111) (by decide +kernel), List.mem_of_getElem? (i := 84) (by decide +kernel), List.mem_of_getElem? (i := 1112) (by decide +kernel), by decide +kernel, by decide +kernel⟩
theorem mv_L_69 : xMV RL 69 11 yX11_alone cX11_alone 2 (some .int) 1 := ⟨⟨_, rfl, rfl⟩, List.mem_of_getElem? (i := 621) (by decide +kernel), List.mem_of_getElem? (i := 622) (by decide +kernel), List.mem_of_getElem? (i := 623) (by decide +kernel), List.mem_of_getElem? (i := 71) (by decide +kernel), List.mem_of_getElem? (i := 624) (by decide +kernel), by decide +kernel, by decide +kernel⟩
theorem mv_L_72 : xMV RL 72 12 yX12_alone cX12_alone 2 (some .int) 1 := ⟨⟨_, rfl, rfl⟩, List.mem_of_getElem? (i := 1117) (by decide +kernel), List.mem_of_getElem? (i := 1118) (by decide +kernel), List.mem_of_getElem? (i := 1119) (by decide +kernel), List.mem_of_getElem? (i := 84) (by decide +kernel), List.mem_of_getElem? (i := 1120) (by decide +kernel), by decide +kernel, by decide +kernel⟩
theorem mv_L_73 : xMV RL 73 11 yX11_way cX11_way 3 (some .int) 2 := ⟨⟨_, rfl, rfl⟩, List.mem_of_getElem? (i := 661) (by decide +kernel), List.mem_of_getElem? (i := 662) (by decide +kernel), List.mem_of_getElem? (i := 663) (by decide +kernel), List.mem_of_getElem? (i := 71) (by decide +kernel), List.mem_of_getElem? (i := 664) (by decide +kernel), by decide +kernel, by decide +kernel⟩
theorem mv_L_76 : xMV RL 76 12 yX12_way cX12_way 3 (some .int) 2 := ⟨⟨_, rfl, rfl⟩, List.mem_of_getElem? (i := 1146) (by decide +kernel), List.mem_of_getElem? (i := 1147) (by decide +kernel), List.mem_of_getElem? (i := 1148) (by decide +kernel), List.mem_of_getElem? (i := 84) (by decide +kernel), List.mem_of_getElem? (i := 1149) (by decide +kernel), by decide +kernel, by decide +kernel⟩
theorem mv_L_77 : xMV RL 77 11 yX11_by cX11_by 3 (some .int) 2 := ⟨⟨_, rfl, rfl⟩, List.mem_of_getElem? (i := 665) (by decide +kernel), List.mem_of_getElem? (i := 666) (by decide +kernel), List.mem_of_getElem? (i := 667) (by decide +kernel), List.mem_of_getElem? (i := 71) (by decide +kernel), List.mem_of_getElem? (i := 668) (by decide +kernel), by decide +kernel, by decide +kernel⟩
theorem mv_L_80 : xMV RL 80 12 yX12_by cX12_by 3 (some .int) 2 := ⟨⟨_, rfl, rfl⟩, List.mem_of_getElem? (i := 1151) (by decide +kernel), List.mem_of_getElem? (i := 1152) (by decide +kernel), List.mem_of_getElem? (i := 1153) (by decide +kernel), List.mem_of_getElem? (i := 84) (by decide +kernel), List.mem_of_getElem? (i := 1154) (by decide +kernel), by decide +kernel, by decide +kernel⟩
theorem mv_L_81 : xMV RL 81 11 yX11_lost cX11_lost 1 (some .int) 0 := ⟨⟨_, rfl, rfl⟩, List.mem_of_getElem? (i := 674) (by decide +kernel), List.mem_of_getElem? (i := 675) (by decide +kernel), List.mem_of_getElem? (i := 676) (by decide +kernel), List.mem_of_getElem? (i := 71) (by decide +kernel), List.mem_of_getElem? (i := 677) (by decide +kernel), by decide +kernel, by decide +kernel⟩
theorem mv_L_84 : xMV RL 84 12 yX12_lost cX12_lost 1 (some .int) 0 := ⟨⟨_, rfl, rfl⟩, List.mem_of_getElem? (i := 1163) (by decide +kernel), List.mem_of_getElem? (i := 1164) (by decide +kernel), List.mem_of_getElem? (i := 1165) (by decide +kernel), List.mem_of_getElem? (i := 84) (by decide +kernel), List.mem_of_getElem? (i := 1166) (by decide +kernel), by decide +kernel, by decide +kernel⟩
theorem mv_L_85 : xMV RL 85 11 yX11_souring cX11_souring 1 (some .int) 0 := ⟨⟨_, rfl, rfl⟩, List.mem_of_getElem? (i := 722) (by decide +kernel), List.mem_of_getElem? (i := 723) (by decide +kernel), List.mem_of_getElem? (i := 724) (by decide +kernel), List.mem_of_getElem? (i := 71) (by decide +kernel), List.mem_of_getElem? (i := 725) (by decide +kernel), by decide +kernel, by decide +kernel⟩
theorem mv_L_88 : xMV RL 88 12 yX12_souring cX12_souring 1 (some .int) 0 := ⟨⟨_, rfl, rfl⟩, List.mem_of_getElem? (i := 1197) (by decide +kernel), List.mem_of_getElem? (i := 1198) (by decide +kernel), List.mem_of_getElem? (i := 1199) (by decide +kernel), List.mem_of_getElem? (i := 84) (by decide +kernel), List.mem_of_getElem? (i := 1200) (by decide +kernel), by decide +kernel, by decide +kernel⟩
theorem mv_L_89 : xMV RL 89 11 yX11_load cX11_load 2 (some .int) 1 := ⟨⟨_, rfl, rfl⟩, List.mem_of_getElem? (i := 726) (by decide +kernel), List.mem_of_getElem? (i := 727) (by decide +kernel), List.mem_of_getElem? (i := 728) (by decide +kernel), List.mem_of_getElem? (i := 71) (by decide +kernel), List.mem_of_getElem? (i := 729) (by decide +kernel), by decide +kernel, by decide +kernel⟩
theorem mv_L_92 : xMV RL 92 12 yX12_load cX12_load 2 (some .int) 1 := ⟨⟨_, rfl, rfl⟩, List.mem_of_getElem? (i := 1201) (by decide +kernel), List.mem_of_getElem? (i := 1202) (by decide +kernel), List.mem_of_getElem? (i := 1203) (by decide +kernel), List.mem_of_getElem? (i := 84) (by decide +kernel), List.mem_of_getElem? (i := 1204) (by decide +kernel), by decide +kernel, by decide +kernel⟩
theorem mv_L_93 : xMV RL 93 11 yX11_later cX11_later 2 (some .int) 1 := ⟨⟨_, rfl, rfl⟩, List.mem_of_getElem? (i := 734) (by decide +kernel), List.mem_of_getElem? (i := 735) (by decide +kernel), List.mem_of_getElem? (i := 736) (by decide +kernel), List.mem_of_getElem? (i := 71) (by decide +kernel), List.mem_of_getElem? (i := 737) (by decide +kernel), by decide +kernel, by decide +kernel⟩
theorem mv_L_96 : xMV RL 96 12 yX12_later cX12_later 2 (some .int) 1 := ⟨⟨_, rfl, rfl⟩, List.mem_of_getElem? (i := 1205) (by decide +kernel), List.mem_of_getElem? (i := 1206) (by decide +kernel), List.mem_of_getElem? (i := 1207) (by decide +kernel), List.mem_of_getElem? (i := 84) (by decide +kernel), List.mem_of_getElem? (i := 1208) (by decide +kernel), by decide +kernel, by decide +kernel⟩
theorem mv_L_97 : xMV RL 97 11 yX11_pour cX11_pour 4 (some .int) 2 := ⟨⟨_, rfl, rfl⟩, List.mem_of_getElem? (i := 738) (by decide +kernel), List.mem_of_getElem? (i := 739) (by decide +kernel), List.mem_of_getElem? (i := 740) (by decide +kernel), List.mem_of_getElem? (i := 71) (by decide +kernel), List.mem_of_getElem? (i := 741) (by decide +kernel), by decide +kernel, by decide +kernel⟩
theorem mv_L_100 : xMV RL 100 12 yX12_pour cX12_pour 3 (some .int) 2 := ⟨⟨_, rfl, rfl⟩, List.mem_of_getElem? (i := 1209) (by decide +kernel), List.mem_of_getElem? (i := 1210) (by decide +kernel), List.mem_of_getElem? (i := 1211) (by decide +kernel), List.mem_of_getElem? (i := 84) (by decide +kernel), List.mem_of_getElem? (i := 1212) (by decide +kernel), by decide +kernel, by decide +kernel⟩
theorem mv_L_101 : xMV RL 101 11 yX11_lead cX11_lead 4 (some .int) 3 := ⟨⟨_, rfl, rfl⟩, List.mem_of_getElem? (i := 753) (by decide +kernel), List.mem_of_getElem? (i := 754) (by decide +kernel), List.mem_of_getElem? (i := 755) (by decide +kernel), List.mem_of_getElem? (i := 71) (by decide +kernel), List.mem_of_getElem? (i := 756) (by decide +kernel), by decide +kernel, by decide +kernel⟩
theorem mv_L_105 : xMV RL 105 12 yX12_lead cX12_lead 4 (some .int) 3 := ⟨⟨_, rfl, rfl⟩, List.mem_of_getElem? (i := 1216) (by decide +kernel), List.mem_of_getElem? (i := 1217) (by decide +kernel), List.mem_of_getElem? (i := 1218) (by decide +kernel), List.mem_of_getElem? (i := 84) (by decide +kernel), List.mem_of_getElem? (i := 1219) (by decide +kernel), by decide +kernel, by decide +kernel⟩
theorem mv_L_106 : xMV RL 106 11 yX11_bottle cX11_bottle 4 (some .int) 2 := ⟨⟨_, rfl, rfl⟩, List.mem_of_getElem? (i := 765) (by decide +kernel), List.mem_of_getElem? (i := 766) (by decide +kernel), List.mem_of_getElem? (i := 767) (by decide +kernel), List.mem_of_getElem? (i := 71) (by decide +kernel), List.mem_of_getElem? (i := 768) (by decide +kernel), by decide +kernel, by decide +kernel⟩
theorem mv_L_109 : xMV RL 109 12 yX12_bottle cX12_bottle 3 (some .int) 2 := ⟨⟨_, rfl, rfl⟩, List.mem_of_getElem? (i := 1228) (by decide +kernel), List.mem_of_getElem? (i := 1229) (by decide +kernel), List.mem_of_getElem? (i := 1230) (by decide +kernel), List.mem_of_getElem? (i := 84) (by decide +kernel), List.mem_of_getElem? (i := 1231) (by decide +kernel), by decide +kernel, by decide +kernel⟩
theorem mv_L_110 : xMV RL 110 11 yX11_tank cX11_tank 3 (some .int) 2 := ⟨⟨_, rfl, rfl⟩, List.mem_of_getElem? (i := 769) (by decide +kernel), List.mem_of_getElem? (i := 770) (by decide +kernel), List.mem_of_getElem? (i := 771) (by decide +kernel), List.mem_of_getElem? (i := 71) (by decide +kernel), List.mem_of_getElem? (i := 772) (by decide +kernel), by decide +kernel, by decide +kernel⟩
theorem mv_L_113 : xMV RL 113 12 yX12_tank cX12_tank 3 (some .int) 2 := ⟨⟨_, rfl, rfl⟩, List.mem_of_getElem? (i := 1232) (by decide +kernel), List.mem_of_getElem? (i := 1233) (by decide +kernel), List.mem_of_getElem? (i := 1234) (by decide +kernel), List.mem_of_getElem? (i := 84) (by decide +kernel), List.mem_of_getElem? (i := 1235) (by decide +kernel), by decide +kernel, by decide +kernel⟩
theorem mv_L_114 : xMV RL 114 11 yX11_bottling cX11_bottling 4 (some .int) 2 := ⟨⟨_, rfl, rfl⟩, List.mem_of_getElem? (i := 773) (by decide +kernel), List.mem_of_getElem? (i := 774) (by decide +kernel), List.mem_of_getElem? (i := 775) (by decide +kernel), List.mem_of_getElem? (i := 71) (by decide +kernel), List.mem_of_getElem? (i := 776) (by decide +kernel), by decide +kernel, by decide +kernel⟩
theorem mv_L_117 : xMV RL 117 12 yX12_bottling cX12_bottling 3 (some .int) 2 := ⟨⟨_, rfl, rfl⟩, List.mem_of_getElem? (i := 1236) (by decide +kernel), List.mem_of_getElem? (i := 1237) (by decide +kernel), List.mem_of_getElem? (i := 1238) (by decide +kernel), List.mem_of_getElem? (i := 84) (by decide +kernel), List.mem_of_getElem? (i := 1239) (by decide +kernel), by decide +kernel, by decide +kernel⟩
theorem mv_L_118 : xMV RL 118 11 yX11_find cX11_find 4 (some .int) 2 := ⟨⟨_, rfl, rfl⟩, List.mem_of_getElem? (i := 781) (by decide +kernel), List.mem_of_getElem? (i := 782) (by decide +kernel), List.mem_of_getElem? (i := 783) (by decide +kernel), List.mem_of_getElem? (i := 71) (by decide +kernel), List.mem_of_getElem? (i := 784) (by decide +kernel), by decide +kernel, by decide +kernel⟩
theorem mv_L_121 : xMV RL 121 12 yX12_find cX12_find 3 (some .int) 2 := ⟨⟨_, rfl, rfl⟩, List.mem_of_getElem? (i := 1244) (by decide +kernel), List.mem_of_getElem? (i := 1245) (by decide +kernel), List.mem_of_getElem? (i := 1246) (by decide +kernel), List.mem_of_getElem? (i := 84) (by decide +kernel), List.mem_of_getElem? (i := 1247) (by decide +kernel), by decide +kernel, by decide +kernel⟩
theorem mv_L_122 : xMV RL 122 11 yX11_untell cX11_untell 2 (some .boolean) 1 := ⟨⟨_, rfl, rfl⟩, List.mem_of_getElem? (i := 785) (by decide +kernel), List.mem_of_getElem? (i := 786) (by decide +kernel), List.mem_of_getElem? (i := 787) (by decide +kernel), List.mem_of_getElem? (i := 71) (by decide +kernel), List.mem_of_getElem? (i := 788) (by decide +kernel), by decide +kernel, by decide +kernel⟩
theorem mv_L_125 : xMV RL 125 12 yX12_untell cX12_untell 2 (some .boolean) 1 := ⟨⟨_, rfl, rfl⟩, List.mem_of_getElem? (i := 1248) (by decide +kernel), List.mem_of_getElem? (i := 1249) (by decide +kernel), List.mem_of_getElem? (i := 1250) (by decide +kernel), List.mem_of_getElem? (i := 84) (by decide +kernel), List.mem_of_getElem? (i := 1251) (by decide +kernel), by decide +kernel, by decide +kernel⟩
theorem mv_L_126 : xMV RL 126 11 yX11_recalled cX11_recalled 3 (some .int) 2 := ⟨⟨_, rfl, rfl⟩, List.mem_of_getElem? (i := 789) (by decide +kernel), List.mem_of_getElem? (i := 790) (by decide +kernel), List.mem_of_getElem? (i := 791) (by decide +kernel), List.mem_of_getElem? (i := 71) (by decide +kernel), List.mem_of_getElem? (i := 792) (by decide +kernel), by decide +kernel, by decide +kernel⟩
theorem mv_L_129 : xMV RL 129 12 yX12_recalled cX12_recalled 3 (some .int) 2 := ⟨⟨_, rfl, rfl⟩, List.mem_of_getElem? (i := 1252) (by decide +kernel), List.mem_of_getElem? (i := 1253) (by decide +kernel), List.mem_of_getElem? (i := 1254) (by decide +kernel), List.mem_of_getElem? (i := 84) (by decide +kernel), List.mem_of_getElem? (i := 1255) (by decide +kernel), by decide +kernel, by decide +kernel⟩
theorem mv_L_130 : xMV RL 130 11 yX11_recall cX11_recall 4 (some .int) 1 := ⟨⟨_, rfl, rfl⟩, List.mem_of_getElem? (i := 805) (by decide +kernel), List.mem_of_getElem? (i := 806) (by decide +kernel), List.mem_of_getElem? (i := 807) (by decide +kernel), List.mem_of_getElem? (i := 71) (by decide +kernel), List.mem_of_getElem? (i := 808) (by decide +kernel), by decide +kernel, by decide +kernel⟩
theorem mv_L_133 : xMV RL 133 12 yX12_recall cX12_recall 4 (some .int) 1 := ⟨⟨_, rfl, rfl⟩, List.mem_of_getElem? (i := 1260) (by decide +kernel), List.mem_of_getElem? (i := 1261) (by decide +kernel), List.mem_of_getElem? (i := 1262) (by decide +kernel), List.mem_of_getElem? (i := 84) (by decide +kernel), List.mem_of_getElem? (i := 1263) (by decide +kernel), by decide +kernel, by decide +kernel⟩
theorem mv_L_134 : xMV RL 134 11 yX11_about cX11_about 2 (some .int) 1 := ⟨⟨_, rfl, rfl⟩, List.mem_of_getElem? (i := 809) (by decide +kernel), List.mem_of_getElem? (i := 810) (by decide +kernel), List.mem_of_getElem? (i := 811) (by decide +kernel), List.mem_of_getElem? (i := 71) (by decide +kernel), List.mem_of_getElem? (i := 812) (by decide +kernel), by decide +kernel, by decide +kernel⟩
theorem mv_L_137 : xMV RL 137 12 yX12_about cX12_about 2 (some .int) 1 := ⟨⟨_, rfl, rfl⟩, List.mem_of_getElem? (i := 1264) (by decide +kernel), List.mem_of_getElem? (i := 1265) (by decide +kernel), List.mem_of_getElem? (i := 1266) (by decide +kernel), List.mem_of_getElem? (i := 84) (by decide +kernel), List.mem_of_getElem? (i := 1267) (by decide +kernel), by decide +kernel, by decide +kernel⟩
theorem ft_0_1 : xFt 0 1 .int := ⟨_, rfl, rfl, by decide +kernel⟩
theorem ft_0_2 : xFt 0 2 .int := ⟨_, rfl, rfl, by decide +kernel⟩
theorem ft_0_0 : xFt 0 0 .int := ⟨_, rfl, rfl, by decide +kernel⟩
theorem ft_1_0 : xFt 1 0 .int := ⟨_, rfl, rfl, by decide +kernel⟩
theorem ft_1_3 : xFt 1 3 .int := ⟨_, rfl, rfl, by decide +kernel⟩
theorem ft_1_4 : xFt 1 4 .int := ⟨_, rfl, rfl, by decide +kernel⟩
theorem ft_1_2 : xFt 1 2 .int := ⟨_, rfl, rfl, by decide +kernel⟩
theorem ft_1_1 : xFt 1 1 .int := ⟨_, rfl, rfl, by decide +kernel⟩
theorem ft_3_1 : xFt 3 1 .int := ⟨_, rfl, rfl, by decide +kernel⟩
theorem ft_3_0 : xFt 3 0 .int := ⟨_, rfl, rfl, by decide +kernel⟩
theorem ft_3_2 : xFt 3 2 .int := ⟨_, rfl, rfl, by decide +kernel⟩
theorem ft_3_3 : xFt 3 3 .int := ⟨_, rfl, rfl, by decide +kernel⟩
theorem ft_4_6 : xFt 4 6 .int := ⟨_, rfl, rfl, by decide +kernel⟩
theorem ft_4_7 : xFt 4 7 .int := ⟨_, rfl, rfl, by decide +kernel⟩
theorem ft_4_8 : xFt 4 8 .int := ⟨_, rfl, rfl, by decide +kernel⟩
theorem ft_5_1 : xFt 5 1 .int := ⟨_, rfl, rfl, by decide +kernel⟩
theorem ft_5_6 : xFt 5 6 .int := ⟨_, rfl, rfl, by decide +kernel⟩
theorem ft_5_7 : xFt 5 7 .int := ⟨_, rfl, rfl, by decide +kernel⟩
theorem ft_5_3 : xFt 5 3 .int := ⟨_, rfl, rfl, by decide +kernel⟩
theorem ft_5_5 : xFt 5 5 .int := ⟨_, rfl, rfl, by decide +kernel⟩
theorem ft_5_2 : xFt 5 2 .int := ⟨_, rfl, rfl, by decide +kernel⟩
theorem ft_5_4 : xFt 5 4 .long := ⟨_, rfl, rfl, by decide +kernel⟩
theorem ft_6_1 : xFt 6 1 .int := ⟨_, rfl, rfl, by decide +kernel⟩
theorem ft_6_0 : xFt 6 0 .int := ⟨_, rfl, rfl, by decide +kernel⟩
theorem ft_7_1 : xFt 7 1 .int := ⟨_, rfl, rfl, by decide +kernel⟩
theorem ft_8_1 : xFt 8 1 .int := ⟨_, rfl, rfl, by decide +kernel⟩
theorem ft_9_1 : xFt 9 1 .int := ⟨_, rfl, rfl, by decide +kernel⟩
theorem ft_9_2 : xFt 9 2 .int := ⟨_, rfl, rfl, by decide +kernel⟩
theorem ft_9_0 : xFt 9 0 .long := ⟨_, rfl, rfl, by decide +kernel⟩
theorem ft_9_3 : xFt 9 3 .int := ⟨_, rfl, rfl, by decide +kernel⟩
theorem ft_10_5 : xFt 10 5 .int := ⟨_, rfl, rfl, by decide +kernel⟩
theorem ft_10_7 : xFt 10 7 .int := ⟨_, rfl, rfl, by decide +kernel⟩
theorem ft_10_8 : xFt 10 8 .int := ⟨_, rfl, rfl, by decide +kernel⟩
theorem ft_10_6 : xFt 10 6 .int := ⟨_, rfl, rfl, by decide +kernel⟩
theorem ft_11_7 : xFt 11 7 .boolean := ⟨_, rfl, rfl, by decide +kernel⟩
theorem ft_11_13 : xFt 11 13 .int := ⟨_, rfl, rfl, by decide +kernel⟩
theorem ft_11_10 : xFt 11 10 .int := ⟨_, rfl, rfl, by decide +kernel⟩
theorem ft_11_16 : xFt 11 16 .int := ⟨_, rfl, rfl, by decide +kernel⟩
theorem ft_11_15 : xFt 11 15 .int := ⟨_, rfl, rfl, by decide +kernel⟩
theorem ft_11_8 : xFt 11 8 .int := ⟨_, rfl, rfl, by decide +kernel⟩
theorem ft_11_3 : xFt 11 3 (.object "MilkTrain$Timetable") := ⟨_, rfl, rfl, by decide +kernel⟩
theorem ft_11_2 : xFt 11 2 (.object "MilkTrain$Timetable") := ⟨_, rfl, rfl, by decide +kernel⟩
theorem ft_12_34 : xFt 12 34 .int := ⟨_, rfl, rfl, by decide +kernel⟩
theorem ft_12_33 : xFt 12 33 .int := ⟨_, rfl, rfl, by decide +kernel⟩
theorem ft_12_35 : xFt 12 35 .int := ⟨_, rfl, rfl, by decide +kernel⟩
theorem ft_12_6 : xFt 12 6 .int := ⟨_, rfl, rfl, by decide +kernel⟩
theorem ft_12_18 : xFt 12 18 .int := ⟨_, rfl, rfl, by decide +kernel⟩
theorem ft_12_38 : xFt 12 38 .int := ⟨_, rfl, rfl, by decide +kernel⟩
theorem ft_12_39 : xFt 12 39 .int := ⟨_, rfl, rfl, by decide +kernel⟩
theorem ft_12_56 : xFt 12 56 .int := ⟨_, rfl, rfl, by decide +kernel⟩
theorem ft_12_30 : xFt 12 30 .int := ⟨_, rfl, rfl, by decide +kernel⟩
theorem ft_12_55 : xFt 12 55 .int := ⟨_, rfl, rfl, by decide +kernel⟩
theorem ft_12_7 : xFt 12 7 .int := ⟨_, rfl, rfl, by decide +kernel⟩
theorem ft_12_4 : xFt 12 4 .int := ⟨_, rfl, rfl, by decide +kernel⟩
theorem ft_12_5 : xFt 12 5 .int := ⟨_, rfl, rfl, by decide +kernel⟩
theorem ft_12_57 : xFt 12 57 .int := ⟨_, rfl, rfl, by decide +kernel⟩
theorem ft_12_24 : xFt 12 24 .int := ⟨_, rfl, rfl, by decide +kernel⟩
theorem ft_12_10 : xFt 12 10 .long := ⟨_, rfl, rfl, by decide +kernel⟩
theorem ft_12_9 : xFt 12 9 .int := ⟨_, rfl, rfl, by decide +kernel⟩
theorem ft_12_19 : xFt 12 19 .int := ⟨_, rfl, rfl, by decide +kernel⟩
theorem ft_12_3 : xFt 12 3 .int := ⟨_, rfl, rfl, by decide +kernel⟩
theorem ft_12_2 : xFt 12 2 .int := ⟨_, rfl, rfl, by decide +kernel⟩
theorem ft_12_8 : xFt 12 8 .int := ⟨_, rfl, rfl, by decide +kernel⟩
end
section
/-! ===== the machine's instructions over the world by numbers ===== -/
abbrev xGT : Type := Program × Launch × Env × Room × State × MethodId × Array Value × List Frame × Method × Code × Nat × va_G × (Nat → ClassId) × (State → Prop)
def xW : xGT → Nat → xMm → xRm → Nat → Nat → Nat → List (Nat × xV) → List xV → Prop
  | (p, l, e, Rm, s, m, args, below, meth, c, b, D, cy, Q), n, M, R, k, w, pc, ls, st => ∀ (H : Heap) (locs : List Loc) (lsA : Array Slot), xWd D cy b n M R H → va_S (fun q => b < q) s.heap H locs → lv_has lsA c.maxLocals (cvs b ls) → W p l e Rm s m args below meth c H locs k w Q (F0 m pc lsA (st.map (cv b)))
/-- what is known in a method's body: its code, its class, its room, its locals -/
def xG : xGT → ByteArray → String → Room → Nat → Prop
  | (p, _, _, Rm, s, m, args, _, meth, c, b, D, cy, _), cc, own, rm, nL => p.tables.exec = Jvm.exec ∧ c.code = cc ∧ s.vm.findClass own = some m.cls ∧ (∀ w ∈ lw_tbl, goodWord w = true → w.before args s = true) ∧ xK D cy s ∧ meth.locks = false ∧ b < s.heap.size ∧ Rm = rm ∧ c.maxLocals = nL
def xcat : xV → Nat
  | .inl _ => 1
  | .inr (.inl _) => 2
  | .inr (.inr _) => 1
theorem xcat_ok (b : Nat) (v : xV) : (cv b v).category = xcat v := by
  rcases v with z | z | i <;> rfl
theorem cvs_at {b : Nat} {ls : List (Nat × xV)} {j i : Nat} {v : xV} (h : ls[j]? = some (i, v)) : (cvs b ls)[j]? = some (i, cv b v) := by simp [cvs, h]
def xset1 (ls : List (Nat × xV)) (i : Nat) (v : xV) : List (Nat × xV) := (i, v) :: ls.filter (fun q => !(q.1 == i) && !(q.1 + 1 == i && xcat q.2 == 2))
def xset2 (ls : List (Nat × xV)) (i : Nat) (v : xV) : List (Nat × xV) := (i, v) :: ls.filter (fun q => !(q.1 == i) && (!(q.1 == i + 1) && !(q.1 + 1 == i && xcat q.2 == 2)))
theorem xset1_ok (b : Nat) (ls : List (Nat × xV)) (i : Nat) (v : xV) : (i, cv b v) :: (cvs b ls).filter (fun q => !(q.1 == i) && !(q.1 + 1 == i && q.2.category == 2)) = cvs b (xset1 ls i v) := by
  simp only [xset1, cvs, List.map_cons, List.filter_map, Function.comp_def, xcat_ok]
theorem xset2_ok (b : Nat) (ls : List (Nat × xV)) (i : Nat) (v : xV) : (i, cv b v) :: (cvs b ls).filter (fun q => !(q.1 == i) && (!(q.1 == i + 1) && !(q.1 + 1 == i && q.2.category == 2))) = cvs b (xset2 ls i v) := by
  simp only [xset2, cvs, List.map_cons, List.filter_map, Function.comp_def, xcat_ok]
def xget : List (Nat × xV) → Nat → Option xV
  | [], _ => none
  | e :: r, q => if e.1 = q then some e.2 else xget r q
theorem xget_mem : ∀ {ls : List (Nat × xV)} {q : Nat} {v : xV}, xget ls q = some v → (q, v) ∈ ls
  | [], q, v, h => by cases h
  | (i, u) :: r, q, v, h => by
    by_cases hi : i = q
    · simp only [xget, hi, if_true] at h
      cases h
      rw [hi]
      exact List.mem_cons_self
    · simp only [xget, hi, if_false] at h
      exact List.mem_cons_of_mem _ (xget_mem h)
theorem xget_ix {ls : List (Nat × xV)} {q : Nat} {v : xV} (h : xget ls q = some v) : ∃ j : Nat, ls[j]? = some (q, v) := List.getElem?_of_mem (xget_mem h)
theorem xget_at {lsA : Array Slot} {nL b : Nat} {ls : List (Nat × xV)} {q : Nat} {v : xV} (hv : lv_has lsA nL (cvs b ls)) (h : xget ls q = some v) : lsA[q]? = some (.val (cv b v)) := by
  obtain ⟨j, hj⟩ := xget_ix h
  exact lv_at hv j (cvs_at hj)
theorem xcanon {lsA : Array Slot} {nL b : Nat} {ls ls' : List (Nat × xV)} (hv : lv_has lsA nL (cvs b ls)) (hl : ls'.map (fun e => xget ls e.1) = ls'.map (fun e => some e.2)) : lv_has lsA nL (cvs b ls') := by
  refine ⟨hv.1, hv.2.1, fun q hq => ?_⟩
  obtain ⟨e, he, rfl⟩ := List.mem_map.mp hq
  obtain ⟨j, hj⟩ := List.getElem?_of_mem he
  have h2 : (ls'.map (fun e => xget ls e.1))[j]? = some (some e.2) := by rw [hl, List.getElem?_map, hj]; rfl
  rw [List.getElem?_map, hj] at h2
  exact xget_at hv (Option.some.inj h2)
section XR
variable {g : xGT} {cc : ByteArray} {own : String} {rm : Room} {nL : Nat} {n : Nat} {M : xMm} {R : xRm} {k w pc : Nat} {ls ls' : List (Nat × xV)} {st : List xV}

theorem x_iload_n (hg : xG g cc own rm nL) {q : Fin 4} {z : Int} (d : decode cc pc = .ok (.iload_n q, 1)) (hl : xget ls (q : Nat) = some (xi z)) (t : xW g n M R k w (pc + 1) ls (xi z :: st)) : xW g n M R k w pc ls st := by
  obtain ⟨p, l, e, Rm, s, m, args, below, meth, c, b, D, cy, Q⟩ := g
  obtain ⟨hx, hb, hown, hts, hK, hlk, hbs, hrm, hml⟩ := hg
  intro H locs lsA hW hS hv
  exact lv_iload_n hx hb d rfl (xget_at hv hl) (t H locs lsA hW hS hv)
theorem x_iload (hg : xG g cc own rm nL) {q : Nat} {z : Int} (d : decode cc pc = .ok (.iload q, 2)) (hl : xget ls q = some (xi z)) (t : xW g n M R k w (pc + 2) ls (xi z :: st)) : xW g n M R k w pc ls st := by
  obtain ⟨p, l, e, Rm, s, m, args, below, meth, c, b, D, cy, Q⟩ := g
  obtain ⟨hx, hb, hown, hts, hK, hlk, hbs, hrm, hml⟩ := hg
  intro H locs lsA hW hS hv
  exact lv_iload hx hb d (xget_at hv hl) (t H locs lsA hW hS hv)
theorem x_lload_n (hg : xG g cc own rm nL) {q : Fin 4} {z : Int} (d : decode cc pc = .ok (.lload_n q, 1)) (hl : xget ls (q : Nat) = some (xl z)) (t : xW g n M R k w (pc + 1) ls (xl z :: st)) : xW g n M R k w pc ls st := by
  obtain ⟨p, l, e, Rm, s, m, args, below, meth, c, b, D, cy, Q⟩ := g
  obtain ⟨hx, hb, hown, hts, hK, hlk, hbs, hrm, hml⟩ := hg
  intro H locs lsA hW hS hv
  exact lv_lload_n hx hb d rfl (xget_at hv hl) (t H locs lsA hW hS hv)
theorem x_lload (hg : xG g cc own rm nL) {q : Nat} {z : Int} (d : decode cc pc = .ok (.lload q, 2)) (hl : xget ls q = some (xl z)) (t : xW g n M R k w (pc + 2) ls (xl z :: st)) : xW g n M R k w pc ls st := by
  obtain ⟨p, l, e, Rm, s, m, args, below, meth, c, b, D, cy, Q⟩ := g
  obtain ⟨hx, hb, hown, hts, hK, hlk, hbs, hrm, hml⟩ := hg
  intro H locs lsA hW hS hv
  exact lv_lload hx hb d (xget_at hv hl) (t H locs lsA hW hS hv)
theorem x_aload_n (hg : xG g cc own rm nL) {q : Fin 4} {i : Nat} (d : decode cc pc = .ok (.aload_n q, 1)) (hl : xget ls (q : Nat) = some (xr i)) (t : xW g n M R k w (pc + 1) ls (xr i :: st)) : xW g n M R k w pc ls st := by
  obtain ⟨p, l, e, Rm, s, m, args, below, meth, c, b, D, cy, Q⟩ := g
  obtain ⟨hx, hb, hown, hts, hK, hlk, hbs, hrm, hml⟩ := hg
  intro H locs lsA hW hS hv
  exact lv_aload_n hx hb d rfl (xget_at hv hl) (t H locs lsA hW hS hv)
theorem x_aload (hg : xG g cc own rm nL) {q : Nat} {i : Nat} (d : decode cc pc = .ok (.aload q, 2)) (hl : xget ls q = some (xr i)) (t : xW g n M R k w (pc + 2) ls (xr i :: st)) : xW g n M R k w pc ls st := by
  obtain ⟨p, l, e, Rm, s, m, args, below, meth, c, b, D, cy, Q⟩ := g
  obtain ⟨hx, hb, hown, hts, hK, hlk, hbs, hrm, hml⟩ := hg
  intro H locs lsA hW hS hv
  exact lv_aload hx hb d (xget_at hv hl) (t H locs lsA hW hS hv)
theorem x_istore_n (hg : xG g cc own rm nL) {f : Fin 4} {q : Nat} {z : Int} (d : decode cc pc = .ok (.istore_n f, 1)) (hq : (f : Nat) = q) (hn : q < nL) (hl : ls'.map (fun e => xget (xset1 ls q (xi z)) e.1) = ls'.map (fun e => some e.2)) (t : xW g n M R k w (pc + 1) ls' st) : xW g n M R k w pc ls (xi z :: st) := by
  obtain ⟨p, l, e, Rm, s, m, args, below, meth, c, b, D, cy, Q⟩ := g
  obtain ⟨hx, hb, hown, hts, hK, hlk, hbs, hrm, hml⟩ := hg
  intro H locs lsA hW hS hv
  subst hml
  exact lv_istore_n (lv' := cvs b (xset1 ls q (xi z))) hx hb d hq hv hn (xset1_ok b ls q (xi z)) (fun lsA hv => t H locs lsA hW hS (xcanon hv hl))
theorem x_istore (hg : xG g cc own rm nL) {q : Nat} {z : Int} (d : decode cc pc = .ok (.istore q, 2)) (hn : q < nL) (hl : ls'.map (fun e => xget (xset1 ls q (xi z)) e.1) = ls'.map (fun e => some e.2)) (t : xW g n M R k w (pc + 2) ls' st) : xW g n M R k w pc ls (xi z :: st) := by
  obtain ⟨p, l, e, Rm, s, m, args, below, meth, c, b, D, cy, Q⟩ := g
  obtain ⟨hx, hb, hown, hts, hK, hlk, hbs, hrm, hml⟩ := hg
  intro H locs lsA hW hS hv
  subst hml
  exact lv_istore (lv' := cvs b (xset1 ls q (xi z))) hx hb d hv hn (xset1_ok b ls q (xi z)) (fun lsA hv => t H locs lsA hW hS (xcanon hv hl))
theorem x_lstore_n (hg : xG g cc own rm nL) {f : Fin 4} {q : Nat} {z : Int} (d : decode cc pc = .ok (.lstore_n f, 1)) (hq : (f : Nat) = q) (hn : q + 1 < nL) (hl : ls'.map (fun e => xget (xset2 ls q (xl z)) e.1) = ls'.map (fun e => some e.2)) (t : xW g n M R k w (pc + 1) ls' st) : xW g n M R k w pc ls (xl z :: st) := by
  obtain ⟨p, l, e, Rm, s, m, args, below, meth, c, b, D, cy, Q⟩ := g
  obtain ⟨hx, hb, hown, hts, hK, hlk, hbs, hrm, hml⟩ := hg
  intro H locs lsA hW hS hv
  subst hml
  exact lv_lstore_n (lv' := cvs b (xset2 ls q (xl z))) hx hb d hq hv hn (xset2_ok b ls q (xl z)) (fun lsA hv => t H locs lsA hW hS (xcanon hv hl))
theorem x_lstore (hg : xG g cc own rm nL) {q : Nat} {z : Int} (d : decode cc pc = .ok (.lstore q, 2)) (hn : q + 1 < nL) (hl : ls'.map (fun e => xget (xset2 ls q (xl z)) e.1) = ls'.map (fun e => some e.2)) (t : xW g n M R k w (pc + 2) ls' st) : xW g n M R k w pc ls (xl z :: st) := by
  obtain ⟨p, l, e, Rm, s, m, args, below, meth, c, b, D, cy, Q⟩ := g
  obtain ⟨hx, hb, hown, hts, hK, hlk, hbs, hrm, hml⟩ := hg
  intro H locs lsA hW hS hv
  subst hml
  exact lv_lstore (lv' := cvs b (xset2 ls q (xl z))) hx hb d hv hn (xset2_ok b ls q (xl z)) (fun lsA hv => t H locs lsA hW hS (xcanon hv hl))
theorem x_astore_n (hg : xG g cc own rm nL) {f : Fin 4} {q : Nat} {i : Nat} (d : decode cc pc = .ok (.astore_n f, 1)) (hq : (f : Nat) = q) (hn : q < nL) (hl : ls'.map (fun e => xget (xset1 ls q (xr i)) e.1) = ls'.map (fun e => some e.2)) (t : xW g n M R k w (pc + 1) ls' st) : xW g n M R k w pc ls (xr i :: st) := by
  obtain ⟨p, l, e, Rm, s, m, args, below, meth, c, b, D, cy, Q⟩ := g
  obtain ⟨hx, hb, hown, hts, hK, hlk, hbs, hrm, hml⟩ := hg
  intro H locs lsA hW hS hv
  subst hml
  exact lv_astore_n (lv' := cvs b (xset1 ls q (xr i))) hx hb d hq hv hn (xset1_ok b ls q (xr i)) (fun lsA hv => t H locs lsA hW hS (xcanon hv hl))
theorem x_astore (hg : xG g cc own rm nL) {q : Nat} {i : Nat} (d : decode cc pc = .ok (.astore q, 2)) (hn : q < nL) (hl : ls'.map (fun e => xget (xset1 ls q (xr i)) e.1) = ls'.map (fun e => some e.2)) (t : xW g n M R k w (pc + 2) ls' st) : xW g n M R k w pc ls (xr i :: st) := by
  obtain ⟨p, l, e, Rm, s, m, args, below, meth, c, b, D, cy, Q⟩ := g
  obtain ⟨hx, hb, hown, hts, hK, hlk, hbs, hrm, hml⟩ := hg
  intro H locs lsA hW hS hv
  subst hml
  exact lv_astore (lv' := cvs b (xset1 ls q (xr i))) hx hb d hv hn (xset1_ok b ls q (xr i)) (fun lsA hv => t H locs lsA hW hS (xcanon hv hl))
theorem x_iinc (hg : xG g cc own rm nL) {q : Nat} {z inc : Int} (d : decode cc pc = .ok (.iinc q inc, 3)) (hj : xget ls q = some (xi z)) (hn : q < nL) (hl : ls'.map (fun e => xget (xset1 ls q (xi (z + inc))) e.1) = ls'.map (fun e => some e.2)) (t : xW g n M R k w (pc + 3) ls' st) : xW g n M R k w pc ls st := by
  obtain ⟨p, l, e, Rm, s, m, args, below, meth, c, b, D, cy, Q⟩ := g
  obtain ⟨hx, hb, hown, hts, hK, hlk, hbs, hrm, hml⟩ := hg
  intro H locs lsA hW hS hv
  subst hml
  obtain ⟨j, hj⟩ := xget_ix hj
  exact lv_iinc (lv' := cvs b (xset1 ls q (xi (z + inc)))) hx hb d hv (cvs_at hj) (by rw [← Int32.ofInt_add]) hn (xset1_ok b ls q (xi (z + inc))) (fun lsA hv => t H locs lsA hW hS (xcanon hv hl))
theorem x_canon (hl : ls'.map (fun e => xget ls e.1) = ls'.map (fun e => some e.2)) (t : xW g n M R k w pc ls' st) : xW g n M R k w pc ls st := by
  obtain ⟨p, l, e, Rm, s, m, args, below, meth, c, b, D, cy, Q⟩ := g
  intro H locs lsA hW hS hv
  exact t H locs lsA hW hS (xcanon hv hl)
theorem x_sub (js : List Nat) (hl : js.filterMap (fun j => ls[j]?) = ls') (t : xW g n M R k w pc ls' st) : xW g n M R k w pc ls st := by
  obtain ⟨p, l, e, Rm, s, m, args, below, meth, c, b, D, cy, Q⟩ := g
  intro H locs lsA hW hS hv
  refine t H locs lsA hW hS ⟨hv.1, hv.2.1, fun q hq => ?_⟩
  subst hl
  obtain ⟨q', h1, rfl⟩ := List.mem_map.mp hq
  obtain ⟨j, -, hj⟩ := List.mem_filterMap.mp h1
  exact hv.2.2 _ (List.mem_of_getElem? (cvs_at hj))
theorem x_iconst (hg : xG g cc own rm nL) {z : Int} (d : decode cc pc = .ok (.iconst z, 1)) (t : xW g n M R k w (pc + 1) ls (xi z :: st)) : xW g n M R k w pc ls st := by
  obtain ⟨p, l, e, Rm, s, m, args, below, meth, c, b, D, cy, Q⟩ := g
  obtain ⟨hx, hb, hown, hts, hK, hlk, hbs, hrm, hml⟩ := hg
  intro H locs lsA hW hS hv
  exact lv_iconst hx hb d rfl (t H locs lsA hW hS hv)
theorem x_bipush (hg : xG g cc own rm nL) {z : Int} (d : decode cc pc = .ok (.bipush z, 2)) (hz : (Int8.ofInt z).toInt32 = Int32.ofInt z) (t : xW g n M R k w (pc + 2) ls (xi z :: st)) : xW g n M R k w pc ls st := by
  obtain ⟨p, l, e, Rm, s, m, args, below, meth, c, b, D, cy, Q⟩ := g
  obtain ⟨hx, hb, hown, hts, hK, hlk, hbs, hrm, hml⟩ := hg
  intro H locs lsA hW hS hv
  exact lv_bipush hx hb d hz (t H locs lsA hW hS hv)
theorem x_sipush (hg : xG g cc own rm nL) {z : Int} (d : decode cc pc = .ok (.sipush z, 3)) (hz : (Int16.ofInt z).toInt32 = Int32.ofInt z) (t : xW g n M R k w (pc + 3) ls (xi z :: st)) : xW g n M R k w pc ls st := by
  obtain ⟨p, l, e, Rm, s, m, args, below, meth, c, b, D, cy, Q⟩ := g
  obtain ⟨hx, hb, hown, hts, hK, hlk, hbs, hrm, hml⟩ := hg
  intro H locs lsA hW hS hv
  exact lv_sipush hx hb d hz (t H locs lsA hW hS hv)
theorem x_lconst (hg : xG g cc own rm nL) {q : Fin 2} {z : Int} (d : decode cc pc = .ok (.lconst q, 1)) (hz : ((q : Nat) : Int) = z) (t : xW g n M R k w (pc + 1) ls (xl z :: st)) : xW g n M R k w pc ls st := by
  obtain ⟨p, l, e, Rm, s, m, args, below, meth, c, b, D, cy, Q⟩ := g
  obtain ⟨hx, hb, hown, hts, hK, hlk, hbs, hrm, hml⟩ := hg
  intro H locs lsA hW hS hv
  subst hz
  exact lv_lconst hx hb d rfl (t H locs lsA hW hS hv)
theorem x_ldc (hg : xG g cc own rm nL) {idx : Nat} (z : Int) (d : decode cc pc = .ok (.ldc idx, 2)) (hw : Cond.constant own idx (Int32.ofInt z) ∈ lw_tbl) (t : xW g n M R k w (pc + 2) ls (xi z :: st)) : xW g n M R k w pc ls st := by
  obtain ⟨p, l, e, Rm, s, m, args, below, meth, c, b, D, cy, Q⟩ := g
  obtain ⟨hx, hb, hown, hts, hK, hlk, hbs, hrm, hml⟩ := hg
  intro H locs lsA hW hS hv
  exact lv_ldc hx hb hown (hts _ hw rfl) d (t H locs lsA hW hS hv)
theorem x_ldc2 (hg : xG g cc own rm nL) {idx : Nat} (z : Int) (d : decode cc pc = .ok (.ldc2_w idx, 3)) (hw : Cond.constantLong own idx (Int64.ofInt z) ∈ lw_tbl) (t : xW g n M R k w (pc + 3) ls (xl z :: st)) : xW g n M R k w pc ls st := by
  obtain ⟨p, l, e, Rm, s, m, args, below, meth, c, b, D, cy, Q⟩ := g
  obtain ⟨hx, hb, hown, hts, hK, hlk, hbs, hrm, hml⟩ := hg
  intro H locs lsA hW hS hv
  exact lv_ldc2 hx hb hown (hts _ hw rfl) d (t H locs lsA hW hS hv)
theorem x_iadd (hg : xG g cc own rm nL) {x y : Int} (d : decode cc pc = .ok (.iadd, 1)) (t : xW g n M R k w (pc + 1) ls (xi (x + y) :: st)) : xW g n M R k w pc ls (xi y :: xi x :: st) := by
  obtain ⟨p, l, e, Rm, s, m, args, below, meth, c, b, D, cy, Q⟩ := g
  obtain ⟨hx, hb, hown, hts, hK, hlk, hbs, hrm, hml⟩ := hg
  intro H locs lsA hW hS hv
  refine lv_iadd hx hb d ?_
  rw [← Int32.ofInt_add]
  exact t H locs lsA hW hS hv
theorem x_isub (hg : xG g cc own rm nL) {x y : Int} (d : decode cc pc = .ok (.isub, 1)) (t : xW g n M R k w (pc + 1) ls (xi (x - y) :: st)) : xW g n M R k w pc ls (xi y :: xi x :: st) := by
  obtain ⟨p, l, e, Rm, s, m, args, below, meth, c, b, D, cy, Q⟩ := g
  obtain ⟨hx, hb, hown, hts, hK, hlk, hbs, hrm, hml⟩ := hg
  intro H locs lsA hW hS hv
  refine lv_isub hx hb d ?_
  rw [← Int32.ofInt_sub]
  exact t H locs lsA hW hS hv
theorem x_imul (hg : xG g cc own rm nL) {x y : Int} (d : decode cc pc = .ok (.imul, 1)) (t : xW g n M R k w (pc + 1) ls (xi (x * y) :: st)) : xW g n M R k w pc ls (xi y :: xi x :: st) := by
  obtain ⟨p, l, e, Rm, s, m, args, below, meth, c, b, D, cy, Q⟩ := g
  obtain ⟨hx, hb, hown, hts, hK, hlk, hbs, hrm, hml⟩ := hg
  intro H locs lsA hW hS hv
  refine lv_imul hx hb d ?_
  rw [← Int32.ofInt_mul]
  exact t H locs lsA hW hS hv
theorem x_ladd (hg : xG g cc own rm nL) {x y : Int} (d : decode cc pc = .ok (.ladd, 1)) (t : xW g n M R k w (pc + 1) ls (xl (x + y) :: st)) : xW g n M R k w pc ls (xl y :: xl x :: st) := by
  obtain ⟨p, l, e, Rm, s, m, args, below, meth, c, b, D, cy, Q⟩ := g
  obtain ⟨hx, hb, hown, hts, hK, hlk, hbs, hrm, hml⟩ := hg
  intro H locs lsA hW hS hv
  refine lv_ladd hx hb d ?_
  rw [← Int64.ofInt_add]
  exact t H locs lsA hW hS hv
theorem x_lsub (hg : xG g cc own rm nL) {x y : Int} (d : decode cc pc = .ok (.lsub, 1)) (t : xW g n M R k w (pc + 1) ls (xl (x - y) :: st)) : xW g n M R k w pc ls (xl y :: xl x :: st) := by
  obtain ⟨p, l, e, Rm, s, m, args, below, meth, c, b, D, cy, Q⟩ := g
  obtain ⟨hx, hb, hown, hts, hK, hlk, hbs, hrm, hml⟩ := hg
  intro H locs lsA hW hS hv
  refine lv_lsub hx hb d ?_
  rw [← Int64.ofInt_sub]
  exact t H locs lsA hW hS hv
theorem x_lmul (hg : xG g cc own rm nL) {x y : Int} (d : decode cc pc = .ok (.lmul, 1)) (t : xW g n M R k w (pc + 1) ls (xl (x * y) :: st)) : xW g n M R k w pc ls (xl y :: xl x :: st) := by
  obtain ⟨p, l, e, Rm, s, m, args, below, meth, c, b, D, cy, Q⟩ := g
  obtain ⟨hx, hb, hown, hts, hK, hlk, hbs, hrm, hml⟩ := hg
  intro H locs lsA hW hS hv
  refine lv_lmul hx hb d ?_
  rw [← Int64.ofInt_mul]
  exact t H locs lsA hW hS hv
theorem x_idiv (hg : xG g cc own rm nL) {x y : Int} (d : decode cc pc = .ok (.idiv, 1)) (h0 : 0 ≤ x ∧ x ≤ 2147483647) (hy : 0 < y ∧ y ≤ 2147483647) (t : xW g n M R k w (pc + 1) ls (xi (x / y) :: st)) : xW g n M R k w pc ls (xi y :: xi x :: st) := by
  obtain ⟨p, l, e, Rm, s, m, args, below, meth, c, b, D, cy, Q⟩ := g
  obtain ⟨hx, hb, hown, hts, hK, hlk, hbs, hrm, hml⟩ := hg
  intro H locs lsA hW hS hv
  refine lv_idiv hx hb d (fun q => ?_) ?_
  · rw [oi_0, oi_eq ⟨by omega, by omega⟩ ⟨by omega, by omega⟩] at q
    omega
  · rw [show Int32.ofInt x / Int32.ofInt y = Int32.ofInt (x / y) from ?_]
    · exact t H locs lsA hW hS hv
    · obtain ⟨a, rfl⟩ : ∃ a : Nat, x = a := ⟨x.toNat, by omega⟩
      obtain ⟨c', rfl⟩ : ∃ c' : Nat, y = c' := ⟨y.toNat, by omega⟩
      exact pk_div (by omega) (by omega) (by omega)
theorem x_irem (hg : xG g cc own rm nL) {x y : Int} (d : decode cc pc = .ok (.irem, 1)) (h0 : 0 ≤ x ∧ x ≤ 2147483647) (hy : 0 < y ∧ y ≤ 2147483647) (t : xW g n M R k w (pc + 1) ls (xi (x % y) :: st)) : xW g n M R k w pc ls (xi y :: xi x :: st) := by
  obtain ⟨p, l, e, Rm, s, m, args, below, meth, c, b, D, cy, Q⟩ := g
  obtain ⟨hx, hb, hown, hts, hK, hlk, hbs, hrm, hml⟩ := hg
  intro H locs lsA hW hS hv
  refine lv_irem hx hb d (fun q => ?_) ?_
  · rw [oi_0, oi_eq ⟨by omega, by omega⟩ ⟨by omega, by omega⟩] at q
    omega
  · rw [show Int32.ofInt x - Int32.ofInt x / Int32.ofInt y * Int32.ofInt y = Int32.ofInt (x % y) from ?_]
    · exact t H locs lsA hW hS hv
    · obtain ⟨a, rfl⟩ : ∃ a : Nat, x = a := ⟨x.toNat, by omega⟩
      obtain ⟨c', rfl⟩ : ∃ c' : Nat, y = c' := ⟨y.toNat, by omega⟩
      exact pk_rem (by omega) (by omega) (by omega)
theorem x_ldiv (hg : xG g cc own rm nL) {x y : Int} (d : decode cc pc = .ok (.ldiv, 1)) (h0 : 0 ≤ x ∧ x ≤ 9223372036854775807) (hy : 0 < y ∧ y ≤ 9223372036854775807) (t : xW g n M R k w (pc + 1) ls (xl (x / y) :: st)) : xW g n M R k w pc ls (xl y :: xl x :: st) := by
  obtain ⟨p, l, e, Rm, s, m, args, below, meth, c, b, D, cy, Q⟩ := g
  obtain ⟨hx, hb, hown, hts, hK, hlk, hbs, hrm, hml⟩ := hg
  intro H locs lsA hW hS hv
  refine lv_ldiv hx hb d (fun q => ?_) ?_
  · rw [show (0 : Int64) = Int64.ofInt 0 from rfl, ol_eq ⟨by omega, by omega⟩ ⟨by omega, by omega⟩] at q
    omega
  · rw [show Int64.ofInt x / Int64.ofInt y = Int64.ofInt (x / y) from ?_]
    · exact t H locs lsA hW hS hv
    · obtain ⟨a, rfl⟩ : ∃ a : Nat, x = a := ⟨x.toNat, by omega⟩
      obtain ⟨c', rfl⟩ : ∃ c' : Nat, y = c' := ⟨y.toNat, by omega⟩
      exact pk_lDiv (by omega) (by omega) (by omega)
theorem x_lrem (hg : xG g cc own rm nL) {x y : Int} (d : decode cc pc = .ok (.lrem, 1)) (h0 : 0 ≤ x ∧ x ≤ 9223372036854775807) (hy : 0 < y ∧ y ≤ 9223372036854775807) (t : xW g n M R k w (pc + 1) ls (xl (x % y) :: st)) : xW g n M R k w pc ls (xl y :: xl x :: st) := by
  obtain ⟨p, l, e, Rm, s, m, args, below, meth, c, b, D, cy, Q⟩ := g
  obtain ⟨hx, hb, hown, hts, hK, hlk, hbs, hrm, hml⟩ := hg
  intro H locs lsA hW hS hv
  refine lv_lrem hx hb d (fun q => ?_) ?_
  · rw [show (0 : Int64) = Int64.ofInt 0 from rfl, ol_eq ⟨by omega, by omega⟩ ⟨by omega, by omega⟩] at q
    omega
  · rw [show Int64.ofInt x - Int64.ofInt x / Int64.ofInt y * Int64.ofInt y = Int64.ofInt (x % y) from ?_]
    · exact t H locs lsA hW hS hv
    · obtain ⟨a, rfl⟩ : ∃ a : Nat, x = a := ⟨x.toNat, by omega⟩
      obtain ⟨c', rfl⟩ : ∃ c' : Nat, y = c' := ⟨y.toNat, by omega⟩
      exact pk_lRem (by omega) (by omega) (by omega)
abbrev bAnd (x y : Int) : Int := (Int32.ofInt x &&& Int32.ofInt y).toInt
abbrev bOr (x y : Int) : Int := (Int32.ofInt x ||| Int32.ofInt y).toInt
abbrev bShl (x y : Int) : Int := (Int32.ofInt x <<< (Int32.ofInt y &&& 31)).toInt
abbrev bShr (x y : Int) : Int := (Int32.ofInt x >>> (Int32.ofInt y &&& 31)).toInt
abbrev bUshr (x y : Int) : Int := ((Int32.ofInt x).toUInt32 >>> ((Int32.ofInt y).toUInt32 &&& Int32.toUInt32 31)).toInt32.toInt
abbrev bByte (x : Int) : Int := (Int32.ofInt x).toInt8.toInt32.toInt
abbrev lOr (x y : Int) : Int := (Int64.ofInt x ||| Int64.ofInt y).toInt
abbrev lShl (x y : Int) : Int := (Int64.ofInt x <<< ((Int32.ofInt y).toInt64 &&& 63)).toInt
theorem x_iand (hg : xG g cc own rm nL) {x y : Int} (d : decode cc pc = .ok (.iand, 1)) (t : xW g n M R k w (pc + 1) ls (xi (bAnd x y) :: st)) : xW g n M R k w pc ls (xi y :: xi x :: st) := by
  obtain ⟨p, l, e, Rm, s, m, args, below, meth, c, b, D, cy, Q⟩ := g
  obtain ⟨hx, hb, hown, hts, hK, hlk, hbs, hrm, hml⟩ := hg
  intro H locs lsA hW hS hv
  refine lv_iand hx hb d ?_
  have t2 := t H locs lsA hW hS hv
  simp only [List.map_cons, cv, Int32.ofInt_toInt] at t2
  exact t2
theorem x_ior (hg : xG g cc own rm nL) {x y : Int} (d : decode cc pc = .ok (.ior, 1)) (t : xW g n M R k w (pc + 1) ls (xi (bOr x y) :: st)) : xW g n M R k w pc ls (xi y :: xi x :: st) := by
  obtain ⟨p, l, e, Rm, s, m, args, below, meth, c, b, D, cy, Q⟩ := g
  obtain ⟨hx, hb, hown, hts, hK, hlk, hbs, hrm, hml⟩ := hg
  intro H locs lsA hW hS hv
  refine lv_ior hx hb d ?_
  have t2 := t H locs lsA hW hS hv
  simp only [List.map_cons, cv, Int32.ofInt_toInt] at t2
  exact t2
theorem x_ishl (hg : xG g cc own rm nL) {x y : Int} (d : decode cc pc = .ok (.ishl, 1)) (t : xW g n M R k w (pc + 1) ls (xi (bShl x y) :: st)) : xW g n M R k w pc ls (xi y :: xi x :: st) := by
  obtain ⟨p, l, e, Rm, s, m, args, below, meth, c, b, D, cy, Q⟩ := g
  obtain ⟨hx, hb, hown, hts, hK, hlk, hbs, hrm, hml⟩ := hg
  intro H locs lsA hW hS hv
  refine lv_ishl hx hb d ?_
  have t2 := t H locs lsA hW hS hv
  simp only [List.map_cons, cv, Int32.ofInt_toInt] at t2
  exact t2
theorem x_ishr (hg : xG g cc own rm nL) {x y : Int} (d : decode cc pc = .ok (.ishr, 1)) (t : xW g n M R k w (pc + 1) ls (xi (bShr x y) :: st)) : xW g n M R k w pc ls (xi y :: xi x :: st) := by
  obtain ⟨p, l, e, Rm, s, m, args, below, meth, c, b, D, cy, Q⟩ := g
  obtain ⟨hx, hb, hown, hts, hK, hlk, hbs, hrm, hml⟩ := hg
  intro H locs lsA hW hS hv
  refine lv_ishr hx hb d ?_
  have t2 := t H locs lsA hW hS hv
  simp only [List.map_cons, cv, Int32.ofInt_toInt] at t2
  exact t2
theorem x_iushr (hg : xG g cc own rm nL) {x y : Int} (d : decode cc pc = .ok (.iushr, 1)) (t : xW g n M R k w (pc + 1) ls (xi (bUshr x y) :: st)) : xW g n M R k w pc ls (xi y :: xi x :: st) := by
  obtain ⟨p, l, e, Rm, s, m, args, below, meth, c, b, D, cy, Q⟩ := g
  obtain ⟨hx, hb, hown, hts, hK, hlk, hbs, hrm, hml⟩ := hg
  intro H locs lsA hW hS hv
  have t2 := t H locs lsA hW hS hv
  simp only [List.map_cons, cv, Int32.ofInt_toInt] at t2
  exact lv_iushr hx hb d rfl t2
theorem x_i2b (hg : xG g cc own rm nL) {x : Int} (d : decode cc pc = .ok (.i2b, 1)) (t : xW g n M R k w (pc + 1) ls (xi (bByte x) :: st)) : xW g n M R k w pc ls (xi x :: st) := by
  obtain ⟨p, l, e, Rm, s, m, args, below, meth, c, b, D, cy, Q⟩ := g
  obtain ⟨hx, hb, hown, hts, hK, hlk, hbs, hrm, hml⟩ := hg
  intro H locs lsA hW hS hv
  have t2 := t H locs lsA hW hS hv
  simp only [List.map_cons, cv, Int32.ofInt_toInt] at t2
  exact lv_i2b hx hb d rfl t2
theorem x_lor (hg : xG g cc own rm nL) {x y : Int} (d : decode cc pc = .ok (.lor, 1)) (t : xW g n M R k w (pc + 1) ls (xl (lOr x y) :: st)) : xW g n M R k w pc ls (xl y :: xl x :: st) := by
  obtain ⟨p, l, e, Rm, s, m, args, below, meth, c, b, D, cy, Q⟩ := g
  obtain ⟨hx, hb, hown, hts, hK, hlk, hbs, hrm, hml⟩ := hg
  intro H locs lsA hW hS hv
  have t2 := t H locs lsA hW hS hv
  simp only [List.map_cons, cv, Int64.ofInt_toInt] at t2
  exact lv_lor hx hb d t2
theorem x_lshl (hg : xG g cc own rm nL) {x y : Int} (d : decode cc pc = .ok (.lshl, 1)) (t : xW g n M R k w (pc + 1) ls (xl (lShl x y) :: st)) : xW g n M R k w pc ls (xi y :: xl x :: st) := by
  obtain ⟨p, l, e, Rm, s, m, args, below, meth, c, b, D, cy, Q⟩ := g
  obtain ⟨hx, hb, hown, hts, hK, hlk, hbs, hrm, hml⟩ := hg
  intro H locs lsA hW hS hv
  have t2 := t H locs lsA hW hS hv
  simp only [List.map_cons, cv, Int64.ofInt_toInt] at t2
  exact lv_lshl hx hb d rfl t2
theorem x_i2l (hg : xG g cc own rm nL) {x : Int} (d : decode cc pc = .ok (.i2l, 1)) (h : inR x) (t : xW g n M R k w (pc + 1) ls (xl x :: st)) : xW g n M R k w pc ls (xi x :: st) := by
  obtain ⟨p, l, e, Rm, s, m, args, below, meth, c, b, D, cy, Q⟩ := g
  obtain ⟨hx, hb, hown, hts, hK, hlk, hbs, hrm, hml⟩ := hg
  intro H locs lsA hW hS hv
  refine lv_i2l hx hb d ?_ (t H locs lsA hW hS hv)
  rw [← Int64.toInt_inj, Int32.toInt_toInt64, oi_t h, ol_t ⟨by omega, by omega⟩]
theorem x_l2i (hg : xG g cc own rm nL) {x : Int} (d : decode cc pc = .ok (.l2i, 1)) (h : inR x) (t : xW g n M R k w (pc + 1) ls (xi x :: st)) : xW g n M R k w pc ls (xl x :: st) := by
  obtain ⟨p, l, e, Rm, s, m, args, below, meth, c, b, D, cy, Q⟩ := g
  obtain ⟨hx, hb, hown, hts, hK, hlk, hbs, hrm, hml⟩ := hg
  intro H locs lsA hW hS hv
  refine lv_l2i hx hb d ?_ (t H locs lsA hW hS hv)
  rw [← Int32.toInt_inj, Int64.toInt_toInt32, ol_t ⟨by omega, by omega⟩, oi_t h]
  simp only [Int.bmod]
  omega
theorem x_lcmp (hg : xG g cc own rm nL) {x y : Int} (d : decode cc pc = .ok (.lcmp, 1)) (h1 : inL x) (h2 : inL y) (t : xW g n M R k w (pc + 1) ls (xi (if y < x then 1 else if x = y then 0 else -1) :: st)) : xW g n M R k w pc ls (xl y :: xl x :: st) := by
  obtain ⟨p, l, e, Rm, s, m, args, below, meth, c, b, D, cy, Q⟩ := g
  obtain ⟨hx, hb, hown, hts, hK, hlk, hbs, hrm, hml⟩ := hg
  intro H locs lsA hW hS hv
  refine W.lcmp hx hb d ?_
  have t2 := t H locs lsA hW hS hv
  rw [show lg_cmp (Int64.ofInt x) (Int64.ofInt y) = Int32.ofInt (if y < x then 1 else if x = y then 0 else -1) from ?_]
  · exact t2
  · unfold lg_cmp
    simp only [gt_iff_lt, ol_lt h1 h2, ol_lt h2 h1, ol_eq h1 h2]
    split <;> (try split) <;> (try split) <;> first | rfl | omega
theorem x_dup (hg : xG g cc own rm nL) {v : xV} (d : decode cc pc = .ok (.dup, 1)) (hc : xcat v = 1) (t : xW g n M R k w (pc + 1) ls (v :: v :: st)) : xW g n M R k w pc ls (v :: st) := by
  obtain ⟨p, l, e, Rm, s, m, args, below, meth, c, b, D, cy, Q⟩ := g
  obtain ⟨hx, hb, hown, hts, hK, hlk, hbs, hrm, hml⟩ := hg
  intro H locs lsA hW hS hv
  exact lv_dup hx hb d (by rw [xcat_ok]; exact hc) (t H locs lsA hW hS hv)
theorem x_pop (hg : xG g cc own rm nL) {v : xV} (d : decode cc pc = .ok (.pop, 1)) (hc : xcat v = 1) (t : xW g n M R k w (pc + 1) ls st) : xW g n M R k w pc ls (v :: st) := by
  obtain ⟨p, l, e, Rm, s, m, args, below, meth, c, b, D, cy, Q⟩ := g
  obtain ⟨hx, hb, hown, hts, hK, hlk, hbs, hrm, hml⟩ := hg
  intro H locs lsA hW hS hv
  exact lv_pop hx hb d (by rw [xcat_ok]; exact hc) (t H locs lsA hW hS hv)
theorem x_dup2 (hg : xG g cc own rm nL) {v u : xV} (d : decode cc pc = .ok (.dup2, 1)) (hc : xcat v = 1) (hu : xcat u = 1) (t : xW g n M R k w (pc + 1) ls (v :: u :: v :: u :: st)) : xW g n M R k w pc ls (v :: u :: st) := by
  obtain ⟨p, l, e, Rm, s, m, args, below, meth, c, b, D, cy, Q⟩ := g
  obtain ⟨hx, hb, hown, hts, hK, hlk, hbs, hrm, hml⟩ := hg
  intro H locs lsA hW hS hv
  exact lv_dup2_11 hx hb d (by rw [xcat_ok]; exact hc) (by rw [xcat_ok]; exact hu) (t H locs lsA hW hS hv)
theorem x_if_eq (hg : xG g cc own rm nL) {x off : Int} {tgt : Nat} (d : decode cc pc = .ok (.ifCond .eq off, 3)) (ht : (pc : Int) + off = (tgt : Int)) (h : inR x) (kt : x = 0 → xW g n M R k w tgt ls st) (kf : ¬ x = 0 → xW g n M R k w (pc + 3) ls st) : xW g n M R k w pc ls (xi x :: st) := by
  obtain ⟨p, l, e, Rm, s, m, args, below, meth, c, b, D, cy, Q⟩ := g
  obtain ⟨hx, hb, hown, hts, hK, hlk, hbs, hrm, hml⟩ := hg
  intro H locs lsA hW hS hv
  have e1 : (Int32.ofInt x = 0 ↔ x = 0) := oi_eq (c := 0) h (by decide)
  have e2 : (Int32.ofInt x < 0 ↔ x < 0) := oi_lt (c := 0) h (by decide)
  have e3 : (0 < Int32.ofInt x ↔ 0 < x) := oi_lt (a := 0) (by decide) h
  have e4 : (Int32.ofInt x ≤ 0 ↔ x ≤ 0) := oi_le (c := 0) h (by decide)
  have e5 : (0 ≤ Int32.ofInt x ↔ 0 ≤ x) := oi_le (a := 0) (by decide) h
  refine lv_if_eq hx hb d ht (fun q => kt ?_ H locs lsA hW hS hv) (fun q => kf ?_ H locs lsA hW hS hv) <;> (try simp only [ne_eq, ge_iff_le, gt_iff_lt] at q) <;> first | exact e1.mp q | exact (not_congr e1).mp q | exact fun z => q (fun z2 => z (e1.mp z2))
theorem x_icmp_eq (hg : xG g cc own rm nL) {x y off : Int} {tgt : Nat} (d : decode cc pc = .ok (.if_icmp .eq off, 3)) (ht : (pc : Int) + off = (tgt : Int)) (h1 : inR x) (h2 : inR y) (kt : x = y → xW g n M R k w tgt ls st) (kf : ¬ x = y → xW g n M R k w (pc + 3) ls st) : xW g n M R k w pc ls (xi y :: xi x :: st) := by
  obtain ⟨p, l, e, Rm, s, m, args, below, meth, c, b, D, cy, Q⟩ := g
  obtain ⟨hx, hb, hown, hts, hK, hlk, hbs, hrm, hml⟩ := hg
  intro H locs lsA hW hS hv
  have e1 := oi_eq h1 h2
  refine lv_icmp_eq hx hb d ht (fun q => kt ?_ H locs lsA hW hS hv) (fun q => kf ?_ H locs lsA hW hS hv) <;> (try simp only [ne_eq, ge_iff_le, gt_iff_lt] at q) <;> first | exact e1.mp q | exact (not_congr e1).mp q | exact fun z => q (fun z2 => z (e1.mp z2))
theorem x_if_ne (hg : xG g cc own rm nL) {x off : Int} {tgt : Nat} (d : decode cc pc = .ok (.ifCond .ne off, 3)) (ht : (pc : Int) + off = (tgt : Int)) (h : inR x) (kt : ¬ x = 0 → xW g n M R k w tgt ls st) (kf : x = 0 → xW g n M R k w (pc + 3) ls st) : xW g n M R k w pc ls (xi x :: st) := by
  obtain ⟨p, l, e, Rm, s, m, args, below, meth, c, b, D, cy, Q⟩ := g
  obtain ⟨hx, hb, hown, hts, hK, hlk, hbs, hrm, hml⟩ := hg
  intro H locs lsA hW hS hv
  have e1 : (Int32.ofInt x = 0 ↔ x = 0) := oi_eq (c := 0) h (by decide)
  have e2 : (Int32.ofInt x < 0 ↔ x < 0) := oi_lt (c := 0) h (by decide)
  have e3 : (0 < Int32.ofInt x ↔ 0 < x) := oi_lt (a := 0) (by decide) h
  have e4 : (Int32.ofInt x ≤ 0 ↔ x ≤ 0) := oi_le (c := 0) h (by decide)
  have e5 : (0 ≤ Int32.ofInt x ↔ 0 ≤ x) := oi_le (a := 0) (by decide) h
  refine lv_if_ne hx hb d ht (fun q => kt ?_ H locs lsA hW hS hv) (fun q => kf ?_ H locs lsA hW hS hv) <;> (try simp only [ne_eq, ge_iff_le, gt_iff_lt] at q) <;> first | exact e1.mp q | exact (not_congr e1).mp q | exact fun z => q (fun z2 => z (e1.mp z2))
theorem x_icmp_ne (hg : xG g cc own rm nL) {x y off : Int} {tgt : Nat} (d : decode cc pc = .ok (.if_icmp .ne off, 3)) (ht : (pc : Int) + off = (tgt : Int)) (h1 : inR x) (h2 : inR y) (kt : ¬ x = y → xW g n M R k w tgt ls st) (kf : x = y → xW g n M R k w (pc + 3) ls st) : xW g n M R k w pc ls (xi y :: xi x :: st) := by
  obtain ⟨p, l, e, Rm, s, m, args, below, meth, c, b, D, cy, Q⟩ := g
  obtain ⟨hx, hb, hown, hts, hK, hlk, hbs, hrm, hml⟩ := hg
  intro H locs lsA hW hS hv
  have e1 := oi_eq h1 h2
  refine lv_icmp_ne hx hb d ht (fun q => kt ?_ H locs lsA hW hS hv) (fun q => kf ?_ H locs lsA hW hS hv) <;> (try simp only [ne_eq, ge_iff_le, gt_iff_lt] at q) <;> first | exact e1.mp q | exact (not_congr e1).mp q | exact fun z => q (fun z2 => z (e1.mp z2))
theorem x_if_lt (hg : xG g cc own rm nL) {x off : Int} {tgt : Nat} (d : decode cc pc = .ok (.ifCond .lt off, 3)) (ht : (pc : Int) + off = (tgt : Int)) (h : inR x) (kt : x < 0 → xW g n M R k w tgt ls st) (kf : ¬ x < 0 → xW g n M R k w (pc + 3) ls st) : xW g n M R k w pc ls (xi x :: st) := by
  obtain ⟨p, l, e, Rm, s, m, args, below, meth, c, b, D, cy, Q⟩ := g
  obtain ⟨hx, hb, hown, hts, hK, hlk, hbs, hrm, hml⟩ := hg
  intro H locs lsA hW hS hv
  have e1 : (Int32.ofInt x = 0 ↔ x = 0) := oi_eq (c := 0) h (by decide)
  have e2 : (Int32.ofInt x < 0 ↔ x < 0) := oi_lt (c := 0) h (by decide)
  have e3 : (0 < Int32.ofInt x ↔ 0 < x) := oi_lt (a := 0) (by decide) h
  have e4 : (Int32.ofInt x ≤ 0 ↔ x ≤ 0) := oi_le (c := 0) h (by decide)
  have e5 : (0 ≤ Int32.ofInt x ↔ 0 ≤ x) := oi_le (a := 0) (by decide) h
  refine lv_if_lt hx hb d ht (fun q => kt ?_ H locs lsA hW hS hv) (fun q => kf ?_ H locs lsA hW hS hv) <;> (try simp only [ne_eq, ge_iff_le, gt_iff_lt] at q) <;> first | exact e2.mp q | exact (not_congr e2).mp q | exact fun z => q (fun z2 => z (e1.mp z2))
theorem x_icmp_lt (hg : xG g cc own rm nL) {x y off : Int} {tgt : Nat} (d : decode cc pc = .ok (.if_icmp .lt off, 3)) (ht : (pc : Int) + off = (tgt : Int)) (h1 : inR x) (h2 : inR y) (kt : x < y → xW g n M R k w tgt ls st) (kf : ¬ x < y → xW g n M R k w (pc + 3) ls st) : xW g n M R k w pc ls (xi y :: xi x :: st) := by
  obtain ⟨p, l, e, Rm, s, m, args, below, meth, c, b, D, cy, Q⟩ := g
  obtain ⟨hx, hb, hown, hts, hK, hlk, hbs, hrm, hml⟩ := hg
  intro H locs lsA hW hS hv
  have e1 := oi_lt h1 h2
  refine lv_icmp_lt hx hb d ht (fun q => kt ?_ H locs lsA hW hS hv) (fun q => kf ?_ H locs lsA hW hS hv) <;> (try simp only [ne_eq, ge_iff_le, gt_iff_lt] at q) <;> first | exact e1.mp q | exact (not_congr e1).mp q | exact fun z => q (fun z2 => z (e1.mp z2))
theorem x_if_ge (hg : xG g cc own rm nL) {x off : Int} {tgt : Nat} (d : decode cc pc = .ok (.ifCond .ge off, 3)) (ht : (pc : Int) + off = (tgt : Int)) (h : inR x) (kt : 0 ≤ x → xW g n M R k w tgt ls st) (kf : ¬ 0 ≤ x → xW g n M R k w (pc + 3) ls st) : xW g n M R k w pc ls (xi x :: st) := by
  obtain ⟨p, l, e, Rm, s, m, args, below, meth, c, b, D, cy, Q⟩ := g
  obtain ⟨hx, hb, hown, hts, hK, hlk, hbs, hrm, hml⟩ := hg
  intro H locs lsA hW hS hv
  have e1 : (Int32.ofInt x = 0 ↔ x = 0) := oi_eq (c := 0) h (by decide)
  have e2 : (Int32.ofInt x < 0 ↔ x < 0) := oi_lt (c := 0) h (by decide)
  have e3 : (0 < Int32.ofInt x ↔ 0 < x) := oi_lt (a := 0) (by decide) h
  have e4 : (Int32.ofInt x ≤ 0 ↔ x ≤ 0) := oi_le (c := 0) h (by decide)
  have e5 : (0 ≤ Int32.ofInt x ↔ 0 ≤ x) := oi_le (a := 0) (by decide) h
  refine lv_if_ge hx hb d ht (fun q => kt ?_ H locs lsA hW hS hv) (fun q => kf ?_ H locs lsA hW hS hv) <;> (try simp only [ne_eq, ge_iff_le, gt_iff_lt] at q) <;> first | exact e5.mp q | exact (not_congr e5).mp q | exact fun z => q (fun z2 => z (e1.mp z2))
theorem x_icmp_ge (hg : xG g cc own rm nL) {x y off : Int} {tgt : Nat} (d : decode cc pc = .ok (.if_icmp .ge off, 3)) (ht : (pc : Int) + off = (tgt : Int)) (h1 : inR x) (h2 : inR y) (kt : y ≤ x → xW g n M R k w tgt ls st) (kf : ¬ y ≤ x → xW g n M R k w (pc + 3) ls st) : xW g n M R k w pc ls (xi y :: xi x :: st) := by
  obtain ⟨p, l, e, Rm, s, m, args, below, meth, c, b, D, cy, Q⟩ := g
  obtain ⟨hx, hb, hown, hts, hK, hlk, hbs, hrm, hml⟩ := hg
  intro H locs lsA hW hS hv
  have e1 := oi_le h2 h1
  refine lv_icmp_ge hx hb d ht (fun q => kt ?_ H locs lsA hW hS hv) (fun q => kf ?_ H locs lsA hW hS hv) <;> (try simp only [ne_eq, ge_iff_le, gt_iff_lt] at q) <;> first | exact e1.mp q | exact (not_congr e1).mp q | exact fun z => q (fun z2 => z (e1.mp z2))
theorem x_if_gt (hg : xG g cc own rm nL) {x off : Int} {tgt : Nat} (d : decode cc pc = .ok (.ifCond .gt off, 3)) (ht : (pc : Int) + off = (tgt : Int)) (h : inR x) (kt : 0 < x → xW g n M R k w tgt ls st) (kf : ¬ 0 < x → xW g n M R k w (pc + 3) ls st) : xW g n M R k w pc ls (xi x :: st) := by
  obtain ⟨p, l, e, Rm, s, m, args, below, meth, c, b, D, cy, Q⟩ := g
  obtain ⟨hx, hb, hown, hts, hK, hlk, hbs, hrm, hml⟩ := hg
  intro H locs lsA hW hS hv
  have e1 : (Int32.ofInt x = 0 ↔ x = 0) := oi_eq (c := 0) h (by decide)
  have e2 : (Int32.ofInt x < 0 ↔ x < 0) := oi_lt (c := 0) h (by decide)
  have e3 : (0 < Int32.ofInt x ↔ 0 < x) := oi_lt (a := 0) (by decide) h
  have e4 : (Int32.ofInt x ≤ 0 ↔ x ≤ 0) := oi_le (c := 0) h (by decide)
  have e5 : (0 ≤ Int32.ofInt x ↔ 0 ≤ x) := oi_le (a := 0) (by decide) h
  refine lv_if_gt hx hb d ht (fun q => kt ?_ H locs lsA hW hS hv) (fun q => kf ?_ H locs lsA hW hS hv) <;> (try simp only [ne_eq, ge_iff_le, gt_iff_lt] at q) <;> first | exact e3.mp q | exact (not_congr e3).mp q | exact fun z => q (fun z2 => z (e1.mp z2))
theorem x_icmp_gt (hg : xG g cc own rm nL) {x y off : Int} {tgt : Nat} (d : decode cc pc = .ok (.if_icmp .gt off, 3)) (ht : (pc : Int) + off = (tgt : Int)) (h1 : inR x) (h2 : inR y) (kt : y < x → xW g n M R k w tgt ls st) (kf : ¬ y < x → xW g n M R k w (pc + 3) ls st) : xW g n M R k w pc ls (xi y :: xi x :: st) := by
  obtain ⟨p, l, e, Rm, s, m, args, below, meth, c, b, D, cy, Q⟩ := g
  obtain ⟨hx, hb, hown, hts, hK, hlk, hbs, hrm, hml⟩ := hg
  intro H locs lsA hW hS hv
  have e1 := oi_lt h2 h1
  refine lv_icmp_gt hx hb d ht (fun q => kt ?_ H locs lsA hW hS hv) (fun q => kf ?_ H locs lsA hW hS hv) <;> (try simp only [ne_eq, ge_iff_le, gt_iff_lt] at q) <;> first | exact e1.mp q | exact (not_congr e1).mp q | exact fun z => q (fun z2 => z (e1.mp z2))
theorem x_if_le (hg : xG g cc own rm nL) {x off : Int} {tgt : Nat} (d : decode cc pc = .ok (.ifCond .le off, 3)) (ht : (pc : Int) + off = (tgt : Int)) (h : inR x) (kt : x ≤ 0 → xW g n M R k w tgt ls st) (kf : ¬ x ≤ 0 → xW g n M R k w (pc + 3) ls st) : xW g n M R k w pc ls (xi x :: st) := by
  obtain ⟨p, l, e, Rm, s, m, args, below, meth, c, b, D, cy, Q⟩ := g
  obtain ⟨hx, hb, hown, hts, hK, hlk, hbs, hrm, hml⟩ := hg
  intro H locs lsA hW hS hv
  have e1 : (Int32.ofInt x = 0 ↔ x = 0) := oi_eq (c := 0) h (by decide)
  have e2 : (Int32.ofInt x < 0 ↔ x < 0) := oi_lt (c := 0) h (by decide)
  have e3 : (0 < Int32.ofInt x ↔ 0 < x) := oi_lt (a := 0) (by decide) h
  have e4 : (Int32.ofInt x ≤ 0 ↔ x ≤ 0) := oi_le (c := 0) h (by decide)
  have e5 : (0 ≤ Int32.ofInt x ↔ 0 ≤ x) := oi_le (a := 0) (by decide) h
  refine lv_if_le hx hb d ht (fun q => kt ?_ H locs lsA hW hS hv) (fun q => kf ?_ H locs lsA hW hS hv) <;> (try simp only [ne_eq, ge_iff_le, gt_iff_lt] at q) <;> first | exact e4.mp q | exact (not_congr e4).mp q | exact fun z => q (fun z2 => z (e1.mp z2))
theorem x_icmp_le (hg : xG g cc own rm nL) {x y off : Int} {tgt : Nat} (d : decode cc pc = .ok (.if_icmp .le off, 3)) (ht : (pc : Int) + off = (tgt : Int)) (h1 : inR x) (h2 : inR y) (kt : x ≤ y → xW g n M R k w tgt ls st) (kf : ¬ x ≤ y → xW g n M R k w (pc + 3) ls st) : xW g n M R k w pc ls (xi y :: xi x :: st) := by
  obtain ⟨p, l, e, Rm, s, m, args, below, meth, c, b, D, cy, Q⟩ := g
  obtain ⟨hx, hb, hown, hts, hK, hlk, hbs, hrm, hml⟩ := hg
  intro H locs lsA hW hS hv
  have e1 := oi_le h1 h2
  refine lv_icmp_le hx hb d ht (fun q => kt ?_ H locs lsA hW hS hv) (fun q => kf ?_ H locs lsA hW hS hv) <;> (try simp only [ne_eq, ge_iff_le, gt_iff_lt] at q) <;> first | exact e1.mp q | exact (not_congr e1).mp q | exact fun z => q (fun z2 => z (e1.mp z2))
theorem x_goto (hg : xG g cc own rm nL) {off : Int} {tgt : Nat} (d : decode cc pc = .ok (.goto off, 3)) (ht : (pc : Int) + off = (tgt : Int)) (t : xW g n M R k w tgt ls st) : xW g n M R k w pc ls st := by
  obtain ⟨p, l, e, Rm, s, m, args, below, meth, c, b, D, cy, Q⟩ := g
  obtain ⟨hx, hb, hown, hts, hK, hlk, hbs, hrm, hml⟩ := hg
  intro H locs lsA hW hS hv
  exact lv_goto hx hb d ht (t H locs lsA hW hS hv)
theorem x_tableOut (hg : xG g cc own rm nL) {x dflt lo hi : Int} {offs : Array Int} {len tgt : Nat} (d : decode cc pc = .ok (.tableswitch dflt lo hi offs, len)) (h : inR x) (ho : x < lo ∨ hi < x) (ht : (pc : Int) + dflt = (tgt : Int)) (t : xW g n M R k w tgt ls st) : xW g n M R k w pc ls (xi x :: st) := by
  obtain ⟨p, l, e, Rm, s, m, args, below, meth, c, b, D, cy, Q⟩ := g
  obtain ⟨hx, hb, hown, hts, hK, hlk, hbs, hrm, hml⟩ := hg
  intro H locs lsA hW hS hv
  exact lv_tableOut hx hb d (by rw [oi_t h]; exact ho) ht (t H locs lsA hW hS hv)
theorem x_tableIn (hg : xG g cc own rm nL) {x dflt lo hi off : Int} {offs : Array Int} {len tgt : Nat} (d : decode cc pc = .ok (.tableswitch dflt lo hi offs, len)) (h : inR x) (h1 : ¬ x < lo) (h2 : ¬ hi < x) (ho : offs[(x - lo).toNat]? = some off) (ht : (pc : Int) + off = (tgt : Int)) (t : xW g n M R k w tgt ls st) : xW g n M R k w pc ls (xi x :: st) := by
  obtain ⟨p, l, e, Rm, s, m, args, below, meth, c, b, D, cy, Q⟩ := g
  obtain ⟨hx, hb, hown, hts, hK, hlk, hbs, hrm, hml⟩ := hg
  intro H locs lsA hW hS hv
  exact lv_tableIn hx hb d (by rw [oi_t h]; exact h1) (by rw [oi_t h]; exact h2) (by rw [oi_t h]; exact ho) ht (t H locs lsA hW hS hv)
theorem x_lookup (hg : xG g cc own rm nL) {x dflt off : Int} {ps : Array (Int × Int)} {len tgt : Nat} (d : decode cc pc = .ok (.lookupswitch dflt ps, len)) (h : inR x) (hp : (ps.toList.zip (ps.toList.drop 1)).all (fun (a, next) => a.1 < next.1) = true) (ho : Op.lookupswitch.offset ps.toList dflt x = off) (ht : (pc : Int) + off = (tgt : Int)) (t : xW g n M R k w tgt ls st) : xW g n M R k w pc ls (xi x :: st) := by
  obtain ⟨p, l, e, Rm, s, m, args, below, meth, c, b, D, cy, Q⟩ := g
  obtain ⟨hx, hb, hown, hts, hK, hlk, hbs, hrm, hml⟩ := hg
  intro H locs lsA hW hS hv
  exact lv_lookup hx hb d hp (by rw [oi_t h]; exact ho) ht (t H locs lsA hW hS hv)
end XR
end
section
/-! ===== fields, arrays, calls, ends ===== -/
/-- the i-th cell is there, and an object of the class ci; an array of a kind and length -/
abbrev xO (n i ci : Nat) : Prop := 1 ≤ i ∧ i ≤ n ∧ lay i = .inl ci
abbrev xA (n i t len : Nat) : Prop := 1 ≤ i ∧ i ≤ n ∧ lay i = .inr (t, len) ∧ len ≤ 2147483647
theorem xWd_set {D : va_G} {cy : Nat → ClassId} {b n : Nat} {M M' : xMm} {R R' : xRm} {i : Nat} {e : va_E} {H H1 : Heap} (hW : xWd D cy b n M R H) (h1 : 1 ≤ i) (h2 : i ≤ n) (he : xcell cy b M' R' i = e) (hat : va_at D vwCl (b + i, e) H1) (hz : H1.size = H.size) (oq : ∀ q, q ≠ b + i → H1[q]? = H[q]?) (ho : ∀ j, j ≠ i → xcell cy b M' R' j = xcell cy b M R j) : xWd D cy b n M' R' H1 :=
  ⟨hz.trans hW.1, by rw [← xws_set h1 h2 he ho]; exact hW.2.set xws_D (xws_at h1 h2) hat oq⟩
theorem xnar_b {z : Int} (h : -128 ≤ z ∧ z ≤ 127) : narrow .byte (Value.int (Int32.ofInt z)) = Value.int (Int32.ofInt z) := by
  have e : (Int32.ofInt z).toInt8.toInt32 = Int32.ofInt z := by
    rw [← Int32.toInt_inj, Int8.toInt_toInt32, Int32.toInt_toInt8, oi_t ⟨by omega, by omega⟩]
    simp only [Int.bmod]
    omega
  show Value.int (Int32.ofInt z).toInt8.toInt32 = _
  rw [e]
section XM
variable {g : xGT} {cc : ByteArray} {own : String} {rm : Room} {nL : Nat} {n : Nat} {M : xMm} {R : xRm} {k w pc : Nat} {ls ls' : List (Nat × xV)} {st : List xV}

set_option maxHeartbeats 1000000 in
theorem x_getI (hg : xG g cc own rm nL) {idx ci f i : Nat} (d : decode cc pc = .ok (.getfield idx, 3)) (hf : xFl own idx ci f) (ho : xO n i ci) (ht : (xfk ci)[f]? = some 0) (t : xW g n M R k w (pc + 3) ls (xi (M i f) :: st)) : xW g n M R k w pc ls (xr i :: st) := by
  obtain ⟨p, l, e, Rm, s, m, args, below, meth, c, b, D, cy, Q⟩ := g
  obtain ⟨hx, hb, hown, hts, hK, hlk, hbs, hrm, hml⟩ := hg
  intro H locs lsA hW hS hv
  obtain ⟨h1, h2, hl⟩ := ho
  have hts2 : ∀ v ∈ lw_tbl.filter goodWord, v.before args s = true := fun v hv => hts v (List.mem_filter.mp hv).1 (List.mem_filter.mp hv).2
  obtain ⟨⟨C, T, N⟩, hc, hf1, hf2, hf3⟩ := hf
  obtain ⟨hin, ty0, hty, hnm⟩ := xcl hc
  have hin2 : ∀ v ∈ u_ws C T N, v ∈ lw_tbl.filter goodWord := fun v hv => List.mem_filter.mpr (hin v hv)
  have he := xWd_obj (D := D) (cy := cy) (b := b) (M := M) (R := R) h1 h2 hl
  have hfs : (xfs b M R i (xfk ci))[f]? = some (.int (Int32.ofInt (M i f))) := by
    rw [xfs_at ht]
    simp [xfv, xrf, va_rf]
  rcases hf3 with hf3 | ⟨host, hf3⟩
  · exact va_get (D := D) hx hb hts2 hin2 hown hK.1 hW.2 (i - 1) he hc f hf1 (hts _ hf3 rfl) (fun x hx2 => by rw [hf2] at hx2; exact hx2) hfs d (t H locs lsA hW hS hv)
  · exact va_getN (D := D) hx hb hts2 hin2 hown hK.1 hW.2 (i - 1) he hc f hf1 (va_Nw.use rfl (hK.2 _ hf3 rfl)) (fun x hx2 => by rw [hf2] at hx2; exact hx2) hfs d (t H locs lsA hW hS hv)
set_option maxHeartbeats 1000000 in
theorem x_getL (hg : xG g cc own rm nL) {idx ci f i : Nat} (d : decode cc pc = .ok (.getfield idx, 3)) (hf : xFl own idx ci f) (ho : xO n i ci) (ht : (xfk ci)[f]? = some 1) (t : xW g n M R k w (pc + 3) ls (xl (M i f) :: st)) : xW g n M R k w pc ls (xr i :: st) := by
  obtain ⟨p, l, e, Rm, s, m, args, below, meth, c, b, D, cy, Q⟩ := g
  obtain ⟨hx, hb, hown, hts, hK, hlk, hbs, hrm, hml⟩ := hg
  intro H locs lsA hW hS hv
  obtain ⟨h1, h2, hl⟩ := ho
  have hts2 : ∀ v ∈ lw_tbl.filter goodWord, v.before args s = true := fun v hv => hts v (List.mem_filter.mp hv).1 (List.mem_filter.mp hv).2
  obtain ⟨⟨C, T, N⟩, hc, hf1, hf2, hf3⟩ := hf
  obtain ⟨hin, ty0, hty, hnm⟩ := xcl hc
  have hin2 : ∀ v ∈ u_ws C T N, v ∈ lw_tbl.filter goodWord := fun v hv => List.mem_filter.mpr (hin v hv)
  have he := xWd_obj (D := D) (cy := cy) (b := b) (M := M) (R := R) h1 h2 hl
  have hfs : (xfs b M R i (xfk ci))[f]? = some (.long (Int64.ofInt (M i f))) := by
    rw [xfs_at ht]
    simp [xfv, xrf, va_rf]
  rcases hf3 with hf3 | ⟨host, hf3⟩
  · exact va_get (D := D) hx hb hts2 hin2 hown hK.1 hW.2 (i - 1) he hc f hf1 (hts _ hf3 rfl) (fun x hx2 => by rw [hf2] at hx2; exact hx2) hfs d (t H locs lsA hW hS hv)
  · exact va_getN (D := D) hx hb hts2 hin2 hown hK.1 hW.2 (i - 1) he hc f hf1 (va_Nw.use rfl (hK.2 _ hf3 rfl)) (fun x hx2 => by rw [hf2] at hx2; exact hx2) hfs d (t H locs lsA hW hS hv)
set_option maxHeartbeats 1000000 in
theorem x_getR (hg : xG g cc own rm nL) {idx ci f i j9 : Nat} (d : decode cc pc = .ok (.getfield idx, 3)) (hf : xFl own idx ci f) (ho : xO n i ci) (ht : (xfk ci)[f]? = some 2) (hR : R i f = j9) (h0 : j9 ≠ 0) (t : xW g n M R k w (pc + 3) ls (xr j9 :: st)) : xW g n M R k w pc ls (xr i :: st) := by
  obtain ⟨p, l, e, Rm, s, m, args, below, meth, c, b, D, cy, Q⟩ := g
  obtain ⟨hx, hb, hown, hts, hK, hlk, hbs, hrm, hml⟩ := hg
  intro H locs lsA hW hS hv
  obtain ⟨h1, h2, hl⟩ := ho
  have hts2 : ∀ v ∈ lw_tbl.filter goodWord, v.before args s = true := fun v hv => hts v (List.mem_filter.mp hv).1 (List.mem_filter.mp hv).2
  obtain ⟨⟨C, T, N⟩, hc, hf1, hf2, hf3⟩ := hf
  obtain ⟨hin, ty0, hty, hnm⟩ := xcl hc
  have hin2 : ∀ v ∈ u_ws C T N, v ∈ lw_tbl.filter goodWord := fun v hv => List.mem_filter.mpr (hin v hv)
  have he := xWd_obj (D := D) (cy := cy) (b := b) (M := M) (R := R) h1 h2 hl
  have hfs : (xfs b M R i (xfk ci))[f]? = some (.ref (b + j9)) := by
    rw [xfs_at ht]
    simp [xfv, xrf, va_rf, hR, h0]
  rcases hf3 with hf3 | ⟨host, hf3⟩
  · exact va_get (D := D) hx hb hts2 hin2 hown hK.1 hW.2 (i - 1) he hc f hf1 (hts _ hf3 rfl) (fun x hx2 => by rw [hf2] at hx2; exact hx2) hfs d (t H locs lsA hW hS hv)
  · exact va_getN (D := D) hx hb hts2 hin2 hown hK.1 hW.2 (i - 1) he hc f hf1 (va_Nw.use rfl (hK.2 _ hf3 rfl)) (fun x hx2 => by rw [hf2] at hx2; exact hx2) hfs d (t H locs lsA hW hS hv)
set_option maxHeartbeats 1000000 in
theorem x_putI (hg : xG g cc own rm nL) {idx ci f i : Nat} {z : Int} (d : decode cc pc = .ok (.putfield idx, 3)) (hf : xFl own idx ci f) (hft : xFt ci f .int) (ho : xO n i ci) (ht : (xfk ci)[f]? = some 0) (t : xW g n (mu M i f z) R k w (pc + 3) ls st) : xW g n M R k w pc ls (xi z :: xr i :: st) := by
  obtain ⟨p, l, e, Rm, s, m, args, below, meth, c, b, D, cy, Q⟩ := g
  obtain ⟨hx, hb, hown, hts, hK, hlk, hbs, hrm, hml⟩ := hg
  intro H locs lsA hW hS hv
  obtain ⟨h1, h2, hl⟩ := ho
  have hts2 : ∀ v ∈ lw_tbl.filter goodWord, v.before args s = true := fun v hv => hts v (List.mem_filter.mp hv).1 (List.mem_filter.mp hv).2
  obtain ⟨⟨C, T, N⟩, hc, hf1, hf2, hf3⟩ := hf
  obtain ⟨hin, ty0, hty, hnm⟩ := xcl hc
  have hin2 : ∀ v ∈ u_ws C T N, v ∈ lw_tbl.filter goodWord := fun v hv => List.mem_filter.mpr (hin v hv)
  have he := xWd_obj (D := D) (cy := cy) (b := b) (M := M) (R := R) h1 h2 hl
  obtain ⟨q9, hq9, hfin, hd⟩ := hft
  cases hc.symm.trans hq9
  have hlen : f < (xfs b M R i (xfk ci)).length := by rw [xfs_len]; exact (List.getElem?_eq_some_iff.mp ht).1
  have hset : (xfs b M R i (xfk ci)).set f (cv b (xi z)) = xfs b (mu M i f z) R i (xfk ci) := xfs_set ht (by simp [xfv, cv, mu_s, xrf, va_rf]) (fun c hc => ⟨mu_n (fun z => hc z.2), rfl⟩)
  have hnar : narrow .int (cv b (xi z)) = cv b (xi z) := rfl
  have hfit : fits .int (cv b (xi z)) = true := rfl
  have hap := va_apart (own := own) hts2 hin2 ty0 hty hnm hK.1 hc
  obtain ⟨r, hr1, cell, q1, q2, q3, q4⟩ := hW.2 (i - 1) _ he
  have hr : r = (C, T, N) := Option.some.inj (hr1.symm.trans hc)
  subst hr
  obtain ⟨hSl, hfc, kC, hkC, hkind⟩ := hK.1.1 ci _ hc
  obtain ⟨cf, kf, fi, fd, hi, hsl⟩ := hSl f hf1
  have hlay := hts2 _ (hin2 _ (u_in_lay hf1))
  unfold u_lay at hlay
  rw [if_neg (by rw [hfin]; decide)] at hlay
  have hst := (u_facts hfc hkC (u_lays hts2 hin2 hf1) hi).1
  have h6 := u_store hfc hkC hkind hlay hi hd hnar hfit
  have fin : ∀ (H1 : Heap) (locs1 : List Loc), H1[b + i]? = some (cell.setSlot (D.2 ci f) (cv b (xi z))) → H1.size = H.size → (∀ q, q ≠ b + i → H1[q]? = H[q]?) → va_S (fun q => b < q) s.heap H1 locs1 → W p l e Rm s m args below meth c H1 locs1 k w Q (F0 m (pc + 3) lsA (st.map (cv b))) := by
    intro H1 locs1 e1 e2 e3 hS1
    refine t H1 locs1 lsA (xWd_set (e := .inr (ci, (xfs b M R i (xfk ci)).set f (cv b (xi z)))) hW h1 h2 (by simp only [xcell, hl]; rw [← hset]) ⟨_, hc, t_OB.to (V := updV (vp_V (xfs b M R i (xfk ci))) f (cv b (xi z))) ⟨_, e1, q2, q3, t_set q4 hap hf1 _⟩ (fun j _ => vp_updV_set hlen _ j)⟩ e2 e3 (fun j hj => xcell_congr (fun c => mu_n (fun z => hj z.1)) (fun c => rfl))) hS1 hv
  rcases hf3 with hf3 | ⟨host, hf3⟩
  · refine W.putK hx hb (f := fd) ⟨hown, hts _ hf3 rfl, ⟨_, _, _, by rw [hf2] at hi; exact hi⟩, hst⟩ (by rw [q2]; exact h6) q1 q3 (by rw [hsl]; exact k2_hasslot (q4 f hf1)) rfl rfl d fun H' e1 e2 e3 => ?_
    rw [hsl] at e1
    exact fin H' _ e1 e2 e3 (hS.put e2 e3 (show b < b + i by omega))
  · refine va_WputK hx hb (f := fd) hown (va_Nw.use rfl (hK.2 _ hf3 rfl)) (by rw [hf2] at hi; exact hi) hst (by rw [q2]; exact h6) q1 q3 (by rw [hsl]; exact k2_hasslot (q4 f hf1)) rfl rfl d fun H' e1 e2 e3 => ?_
    rw [hsl] at e1
    exact fin H' _ e1 e2 e3 (hS.put e2 e3 (show b < b + i by omega))
set_option maxHeartbeats 1000000 in
theorem x_putZ (hg : xG g cc own rm nL) {idx ci f i : Nat} {z : Int} (d : decode cc pc = .ok (.putfield idx, 3)) (hf : xFl own idx ci f) (hft : xFt ci f .boolean) (ho : xO n i ci) (ht : (xfk ci)[f]? = some 0) (hz : z = 0 ∨ z = 1) (t : xW g n (mu M i f z) R k w (pc + 3) ls st) : xW g n M R k w pc ls (xi z :: xr i :: st) := by
  obtain ⟨p, l, e, Rm, s, m, args, below, meth, c, b, D, cy, Q⟩ := g
  obtain ⟨hx, hb, hown, hts, hK, hlk, hbs, hrm, hml⟩ := hg
  intro H locs lsA hW hS hv
  obtain ⟨h1, h2, hl⟩ := ho
  have hts2 : ∀ v ∈ lw_tbl.filter goodWord, v.before args s = true := fun v hv => hts v (List.mem_filter.mp hv).1 (List.mem_filter.mp hv).2
  obtain ⟨⟨C, T, N⟩, hc, hf1, hf2, hf3⟩ := hf
  obtain ⟨hin, ty0, hty, hnm⟩ := xcl hc
  have hin2 : ∀ v ∈ u_ws C T N, v ∈ lw_tbl.filter goodWord := fun v hv => List.mem_filter.mpr (hin v hv)
  have he := xWd_obj (D := D) (cy := cy) (b := b) (M := M) (R := R) h1 h2 hl
  obtain ⟨q9, hq9, hfin, hd⟩ := hft
  cases hc.symm.trans hq9
  have hlen : f < (xfs b M R i (xfk ci)).length := by rw [xfs_len]; exact (List.getElem?_eq_some_iff.mp ht).1
  have hset : (xfs b M R i (xfk ci)).set f (cv b (xi z)) = xfs b (mu M i f z) R i (xfk ci) := xfs_set ht (by simp [xfv, cv, mu_s, xrf, va_rf]) (fun c hc => ⟨mu_n (fun z => hc z.2), rfl⟩)
  have hnar : narrow .boolean (cv b (xi z)) = cv b (xi z) := by rcases hz with rfl | rfl <;> rfl
  have hfit : fits .boolean (cv b (xi z)) = true := by rcases hz with rfl | rfl <;> rfl
  have hap := va_apart (own := own) hts2 hin2 ty0 hty hnm hK.1 hc
  obtain ⟨r, hr1, cell, q1, q2, q3, q4⟩ := hW.2 (i - 1) _ he
  have hr : r = (C, T, N) := Option.some.inj (hr1.symm.trans hc)
  subst hr
  obtain ⟨hSl, hfc, kC, hkC, hkind⟩ := hK.1.1 ci _ hc
  obtain ⟨cf, kf, fi, fd, hi, hsl⟩ := hSl f hf1
  have hlay := hts2 _ (hin2 _ (u_in_lay hf1))
  unfold u_lay at hlay
  rw [if_neg (by rw [hfin]; decide)] at hlay
  have hst := (u_facts hfc hkC (u_lays hts2 hin2 hf1) hi).1
  have h6 := u_store hfc hkC hkind hlay hi hd hnar hfit
  have fin : ∀ (H1 : Heap) (locs1 : List Loc), H1[b + i]? = some (cell.setSlot (D.2 ci f) (cv b (xi z))) → H1.size = H.size → (∀ q, q ≠ b + i → H1[q]? = H[q]?) → va_S (fun q => b < q) s.heap H1 locs1 → W p l e Rm s m args below meth c H1 locs1 k w Q (F0 m (pc + 3) lsA (st.map (cv b))) := by
    intro H1 locs1 e1 e2 e3 hS1
    refine t H1 locs1 lsA (xWd_set (e := .inr (ci, (xfs b M R i (xfk ci)).set f (cv b (xi z)))) hW h1 h2 (by simp only [xcell, hl]; rw [← hset]) ⟨_, hc, t_OB.to (V := updV (vp_V (xfs b M R i (xfk ci))) f (cv b (xi z))) ⟨_, e1, q2, q3, t_set q4 hap hf1 _⟩ (fun j _ => vp_updV_set hlen _ j)⟩ e2 e3 (fun j hj => xcell_congr (fun c => mu_n (fun z => hj z.1)) (fun c => rfl))) hS1 hv
  rcases hf3 with hf3 | ⟨host, hf3⟩
  · refine W.putK hx hb (f := fd) ⟨hown, hts _ hf3 rfl, ⟨_, _, _, by rw [hf2] at hi; exact hi⟩, hst⟩ (by rw [q2]; exact h6) q1 q3 (by rw [hsl]; exact k2_hasslot (q4 f hf1)) rfl rfl d fun H' e1 e2 e3 => ?_
    rw [hsl] at e1
    exact fin H' _ e1 e2 e3 (hS.put e2 e3 (show b < b + i by omega))
  · refine va_WputK hx hb (f := fd) hown (va_Nw.use rfl (hK.2 _ hf3 rfl)) (by rw [hf2] at hi; exact hi) hst (by rw [q2]; exact h6) q1 q3 (by rw [hsl]; exact k2_hasslot (q4 f hf1)) rfl rfl d fun H' e1 e2 e3 => ?_
    rw [hsl] at e1
    exact fin H' _ e1 e2 e3 (hS.put e2 e3 (show b < b + i by omega))
set_option maxHeartbeats 1000000 in
theorem x_putL (hg : xG g cc own rm nL) {idx ci f i : Nat} {z : Int} (d : decode cc pc = .ok (.putfield idx, 3)) (hf : xFl own idx ci f) (hft : xFt ci f .long) (ho : xO n i ci) (ht : (xfk ci)[f]? = some 1) (t : xW g n (mu M i f z) R k w (pc + 3) ls st) : xW g n M R k w pc ls (xl z :: xr i :: st) := by
  obtain ⟨p, l, e, Rm, s, m, args, below, meth, c, b, D, cy, Q⟩ := g
  obtain ⟨hx, hb, hown, hts, hK, hlk, hbs, hrm, hml⟩ := hg
  intro H locs lsA hW hS hv
  obtain ⟨h1, h2, hl⟩ := ho
  have hts2 : ∀ v ∈ lw_tbl.filter goodWord, v.before args s = true := fun v hv => hts v (List.mem_filter.mp hv).1 (List.mem_filter.mp hv).2
  obtain ⟨⟨C, T, N⟩, hc, hf1, hf2, hf3⟩ := hf
  obtain ⟨hin, ty0, hty, hnm⟩ := xcl hc
  have hin2 : ∀ v ∈ u_ws C T N, v ∈ lw_tbl.filter goodWord := fun v hv => List.mem_filter.mpr (hin v hv)
  have he := xWd_obj (D := D) (cy := cy) (b := b) (M := M) (R := R) h1 h2 hl
  obtain ⟨q9, hq9, hfin, hd⟩ := hft
  cases hc.symm.trans hq9
  have hlen : f < (xfs b M R i (xfk ci)).length := by rw [xfs_len]; exact (List.getElem?_eq_some_iff.mp ht).1
  have hset : (xfs b M R i (xfk ci)).set f (cv b (xl z)) = xfs b (mu M i f z) R i (xfk ci) := xfs_set ht (by simp [xfv, cv, mu_s, xrf, va_rf]) (fun c hc => ⟨mu_n (fun z => hc z.2), rfl⟩)
  have hnar : narrow .long (cv b (xl z)) = cv b (xl z) := rfl
  have hfit : fits .long (cv b (xl z)) = true := rfl
  have hap := va_apart (own := own) hts2 hin2 ty0 hty hnm hK.1 hc
  obtain ⟨r, hr1, cell, q1, q2, q3, q4⟩ := hW.2 (i - 1) _ he
  have hr : r = (C, T, N) := Option.some.inj (hr1.symm.trans hc)
  subst hr
  obtain ⟨hSl, hfc, kC, hkC, hkind⟩ := hK.1.1 ci _ hc
  obtain ⟨cf, kf, fi, fd, hi, hsl⟩ := hSl f hf1
  have hlay := hts2 _ (hin2 _ (u_in_lay hf1))
  unfold u_lay at hlay
  rw [if_neg (by rw [hfin]; decide)] at hlay
  have hst := (u_facts hfc hkC (u_lays hts2 hin2 hf1) hi).1
  have h6 := u_store hfc hkC hkind hlay hi hd hnar hfit
  have fin : ∀ (H1 : Heap) (locs1 : List Loc), H1[b + i]? = some (cell.setSlot (D.2 ci f) (cv b (xl z))) → H1.size = H.size → (∀ q, q ≠ b + i → H1[q]? = H[q]?) → va_S (fun q => b < q) s.heap H1 locs1 → W p l e Rm s m args below meth c H1 locs1 k w Q (F0 m (pc + 3) lsA (st.map (cv b))) := by
    intro H1 locs1 e1 e2 e3 hS1
    refine t H1 locs1 lsA (xWd_set (e := .inr (ci, (xfs b M R i (xfk ci)).set f (cv b (xl z)))) hW h1 h2 (by simp only [xcell, hl]; rw [← hset]) ⟨_, hc, t_OB.to (V := updV (vp_V (xfs b M R i (xfk ci))) f (cv b (xl z))) ⟨_, e1, q2, q3, t_set q4 hap hf1 _⟩ (fun j _ => vp_updV_set hlen _ j)⟩ e2 e3 (fun j hj => xcell_congr (fun c => mu_n (fun z => hj z.1)) (fun c => rfl))) hS1 hv
  rcases hf3 with hf3 | ⟨host, hf3⟩
  · refine W.putK hx hb (f := fd) ⟨hown, hts _ hf3 rfl, ⟨_, _, _, by rw [hf2] at hi; exact hi⟩, hst⟩ (by rw [q2]; exact h6) q1 q3 (by rw [hsl]; exact k2_hasslot (q4 f hf1)) rfl rfl d fun H' e1 e2 e3 => ?_
    rw [hsl] at e1
    exact fin H' _ e1 e2 e3 (hS.put e2 e3 (show b < b + i by omega))
  · refine va_WputK hx hb (f := fd) hown (va_Nw.use rfl (hK.2 _ hf3 rfl)) (by rw [hf2] at hi; exact hi) hst (by rw [q2]; exact h6) q1 q3 (by rw [hsl]; exact k2_hasslot (q4 f hf1)) rfl rfl d fun H' e1 e2 e3 => ?_
    rw [hsl] at e1
    exact fin H' _ e1 e2 e3 (hS.put e2 e3 (show b < b + i by omega))
set_option maxHeartbeats 1000000 in
theorem x_putR (hg : xG g cc own rm nL) {idx ci f i : Nat} {j : Nat} {C9 : String} (d : decode cc pc = .ok (.putfield idx, 3)) (hf : xFl own idx ci f) (hft : xFt ci f (.object C9)) (ho : xO n i ci) (ht : (xfk ci)[f]? = some 2) (h0 : j ≠ 0) (t : xW g n M (ru R i f j) k w (pc + 3) ls st) : xW g n M R k w pc ls (xr j :: xr i :: st) := by
  obtain ⟨p, l, e, Rm, s, m, args, below, meth, c, b, D, cy, Q⟩ := g
  obtain ⟨hx, hb, hown, hts, hK, hlk, hbs, hrm, hml⟩ := hg
  intro H locs lsA hW hS hv
  obtain ⟨h1, h2, hl⟩ := ho
  have hts2 : ∀ v ∈ lw_tbl.filter goodWord, v.before args s = true := fun v hv => hts v (List.mem_filter.mp hv).1 (List.mem_filter.mp hv).2
  obtain ⟨⟨C, T, N⟩, hc, hf1, hf2, hf3⟩ := hf
  obtain ⟨hin, ty0, hty, hnm⟩ := xcl hc
  have hin2 : ∀ v ∈ u_ws C T N, v ∈ lw_tbl.filter goodWord := fun v hv => List.mem_filter.mpr (hin v hv)
  have he := xWd_obj (D := D) (cy := cy) (b := b) (M := M) (R := R) h1 h2 hl
  obtain ⟨q9, hq9, hfin, hd⟩ := hft
  cases hc.symm.trans hq9
  have hlen : f < (xfs b M R i (xfk ci)).length := by rw [xfs_len]; exact (List.getElem?_eq_some_iff.mp ht).1
  have hset : (xfs b M R i (xfk ci)).set f (cv b (xr j)) = xfs b M (ru R i f j) i (xfk ci) := xfs_set ht (by simp [xfv, cv, ru_s, xrf, va_rf, h0]) (fun c hc => ⟨rfl, ru_n (fun z => hc z.2)⟩)
  have hnar : narrow (.object C9) (cv b (xr j)) = cv b (xr j) := rfl
  have hfit : fits (.object C9) (cv b (xr j)) = true := rfl
  have hap := va_apart (own := own) hts2 hin2 ty0 hty hnm hK.1 hc
  obtain ⟨r, hr1, cell, q1, q2, q3, q4⟩ := hW.2 (i - 1) _ he
  have hr : r = (C, T, N) := Option.some.inj (hr1.symm.trans hc)
  subst hr
  obtain ⟨hSl, hfc, kC, hkC, hkind⟩ := hK.1.1 ci _ hc
  obtain ⟨cf, kf, fi, fd, hi, hsl⟩ := hSl f hf1
  have hlay := hts2 _ (hin2 _ (u_in_lay hf1))
  unfold u_lay at hlay
  rw [if_neg (by rw [hfin]; decide)] at hlay
  have hst := (u_facts hfc hkC (u_lays hts2 hin2 hf1) hi).1
  have h6 := u_store hfc hkC hkind hlay hi hd hnar hfit
  have fin : ∀ (H1 : Heap) (locs1 : List Loc), H1[b + i]? = some (cell.setSlot (D.2 ci f) (cv b (xr j))) → H1.size = H.size → (∀ q, q ≠ b + i → H1[q]? = H[q]?) → va_S (fun q => b < q) s.heap H1 locs1 → W p l e Rm s m args below meth c H1 locs1 k w Q (F0 m (pc + 3) lsA (st.map (cv b))) := by
    intro H1 locs1 e1 e2 e3 hS1
    refine t H1 locs1 lsA (xWd_set (e := .inr (ci, (xfs b M R i (xfk ci)).set f (cv b (xr j)))) hW h1 h2 (by simp only [xcell, hl]; rw [← hset]) ⟨_, hc, t_OB.to (V := updV (vp_V (xfs b M R i (xfk ci))) f (cv b (xr j))) ⟨_, e1, q2, q3, t_set q4 hap hf1 _⟩ (fun j _ => vp_updV_set hlen _ j)⟩ e2 e3 (fun j hj => xcell_congr (fun c => rfl) (fun c => ru_n (fun z => hj z.1)))) hS1 hv
  rcases hf3 with hf3 | ⟨host, hf3⟩
  · refine W.putK hx hb (f := fd) ⟨hown, hts _ hf3 rfl, ⟨_, _, _, by rw [hf2] at hi; exact hi⟩, hst⟩ (by rw [q2]; exact h6) q1 q3 (by rw [hsl]; exact k2_hasslot (q4 f hf1)) rfl rfl d fun H' e1 e2 e3 => ?_
    rw [hsl] at e1
    exact fin H' _ e1 e2 e3 (hS.put e2 e3 (show b < b + i by omega))
  · refine va_WputK hx hb (f := fd) hown (va_Nw.use rfl (hK.2 _ hf3 rfl)) (by rw [hf2] at hi; exact hi) hst (by rw [q2]; exact h6) q1 q3 (by rw [hsl]; exact k2_hasslot (q4 f hf1)) rfl rfl d fun H' e1 e2 e3 => ?_
    rw [hsl] at e1
    exact fin H' _ e1 e2 e3 (hS.put e2 e3 (show b < b + i by omega))
set_option maxHeartbeats 1000000 in
theorem x_iaload (hg : xG g cc own rm nL) {i len : Nat} {j : Int} (d : decode cc pc = .ok (.iaload, 1)) (ho : xA n i 0 len) (hj : 0 ≤ j ∧ j < len) (t : xW g n M R k w (pc + 1) ls (xi (M i j.toNat) :: st)) : xW g n M R k w pc ls (xi j :: xr i :: st) := by
  obtain ⟨p, l, e, Rm, s, m, args, below, meth, c, b, D, cy, Q⟩ := g
  obtain ⟨hx, hb, hown, hts, hK, hlk, hbs, hrm, hml⟩ := hg
  intro H locs lsA hW hS hv
  obtain ⟨h1, h2, hl, hlen⟩ := ho
  have hjr : j ≤ 2147483647 := by omega
  have hcl : (Int32.ofInt j).toNatClampNeg = j.toNat := oi_cl hj.1 hjr
  have hix : vp_in (Int32.ofInt j) len := oi_in hj.1 hj.2 hlen
  have he : (xws cy b n M R)[i - 1]? = some (b + i, .inl (cy 0, len, .inl (fun c => Int32.ofInt (M i c)))) := xWd_arr (D := D) h1 h2 hl
  refine va_iald (D := D) hx hb hK.1 hW.2 (i - 1) 0 he rfl hix d ?_
  rw [hcl]
  exact t H locs lsA hW hS hv
set_option maxHeartbeats 1000000 in
theorem x_baload (hg : xG g cc own rm nL) {i len : Nat} {j : Int} (d : decode cc pc = .ok (.baload, 1)) (ho : xA n i 1 len) (hj : 0 ≤ j ∧ j < len) (t : xW g n M R k w (pc + 1) ls (xi (M i j.toNat) :: st)) : xW g n M R k w pc ls (xi j :: xr i :: st) := by
  obtain ⟨p, l, e, Rm, s, m, args, below, meth, c, b, D, cy, Q⟩ := g
  obtain ⟨hx, hb, hown, hts, hK, hlk, hbs, hrm, hml⟩ := hg
  intro H locs lsA hW hS hv
  obtain ⟨h1, h2, hl, hlen⟩ := ho
  have hjr : j ≤ 2147483647 := by omega
  have hcl : (Int32.ofInt j).toNatClampNeg = j.toNat := oi_cl hj.1 hjr
  have hix : vp_in (Int32.ofInt j) len := oi_in hj.1 hj.2 hlen
  have he : (xws cy b n M R)[i - 1]? = some (b + i, .inl (cy 1, len, .inl (fun c => Int32.ofInt (M i c)))) := xWd_arr (D := D) h1 h2 hl
  refine va_bald (D := D) hx hb hK.1 hW.2 (i - 1) 1 he rfl hix d ?_
  rw [hcl]
  exact t H locs lsA hW hS hv
set_option maxHeartbeats 1000000 in
theorem x_zaload (hg : xG g cc own rm nL) {i len : Nat} {j : Int} (d : decode cc pc = .ok (.baload, 1)) (ho : xA n i 2 len) (hj : 0 ≤ j ∧ j < len) (t : xW g n M R k w (pc + 1) ls (xi (M i j.toNat) :: st)) : xW g n M R k w pc ls (xi j :: xr i :: st) := by
  obtain ⟨p, l, e, Rm, s, m, args, below, meth, c, b, D, cy, Q⟩ := g
  obtain ⟨hx, hb, hown, hts, hK, hlk, hbs, hrm, hml⟩ := hg
  intro H locs lsA hW hS hv
  obtain ⟨h1, h2, hl, hlen⟩ := ho
  have hjr : j ≤ 2147483647 := by omega
  have hcl : (Int32.ofInt j).toNatClampNeg = j.toNat := oi_cl hj.1 hjr
  have hix : vp_in (Int32.ofInt j) len := oi_in hj.1 hj.2 hlen
  have he : (xws cy b n M R)[i - 1]? = some (b + i, .inl (cy 2, len, .inl (fun c => Int32.ofInt (M i c)))) := xWd_arr (D := D) h1 h2 hl
  refine va_zald (D := D) hx hb hK.1 hW.2 (i - 1) 2 he rfl hix d ?_
  rw [hcl]
  exact t H locs lsA hW hS hv
set_option maxHeartbeats 1000000 in
theorem x_laload (hg : xG g cc own rm nL) {i len : Nat} {j : Int} (d : decode cc pc = .ok (.laload, 1)) (ho : xA n i 3 len) (hj : 0 ≤ j ∧ j < len) (t : xW g n M R k w (pc + 1) ls (xl (M i j.toNat) :: st)) : xW g n M R k w pc ls (xi j :: xr i :: st) := by
  obtain ⟨p, l, e, Rm, s, m, args, below, meth, c, b, D, cy, Q⟩ := g
  obtain ⟨hx, hb, hown, hts, hK, hlk, hbs, hrm, hml⟩ := hg
  intro H locs lsA hW hS hv
  obtain ⟨h1, h2, hl, hlen⟩ := ho
  have hjr : j ≤ 2147483647 := by omega
  have hcl : (Int32.ofInt j).toNatClampNeg = j.toNat := oi_cl hj.1 hjr
  have hix : vp_in (Int32.ofInt j) len := oi_in hj.1 hj.2 hlen
  have he : (xws cy b n M R)[i - 1]? = some (b + i, .inl (cy 3, len, .inr (.inl (fun c => Int64.ofInt (M i c))))) := xWd_arr (D := D) h1 h2 hl
  refine va_lald (D := D) hx hb hK.1 hW.2 (i - 1) 3 he rfl hix d ?_
  rw [hcl]
  exact t H locs lsA hW hS hv
set_option maxHeartbeats 1000000 in
theorem x_iastore (hg : xG g cc own rm nL) {i len : Nat} {j z : Int} (d : decode cc pc = .ok (.iastore, 1)) (ho : xA n i 0 len) (hj : 0 ≤ j ∧ j < len) (t : xW g n (mu M i j.toNat z) R k w (pc + 1) ls st) : xW g n M R k w pc ls (xi z :: xi j :: xr i :: st) := by
  obtain ⟨p, l, e, Rm, s, m, args, below, meth, c, b, D, cy, Q⟩ := g
  obtain ⟨hx, hb, hown, hts, hK, hlk, hbs, hrm, hml⟩ := hg
  intro H locs lsA hW hS hv
  obtain ⟨h1, h2, hl, hlen⟩ := ho
  have hjr : j ≤ 2147483647 := by omega
  have hcl : (Int32.ofInt j).toNatClampNeg = j.toNat := oi_cl hj.1 hjr
  have hix : vp_in (Int32.ofInt j) len := oi_in hj.1 hj.2 hlen
  have he : (xws cy b n M R)[i - 1]? = some (b + i, .inl (cy 0, len, .inl (fun c => Int32.ofInt (M i c)))) := xWd_arr (D := D) h1 h2 hl
  refine W.iast hx hb (hW.2 (i - 1) _ he) ((hK.1.2 0 _ rfl).1 len (fun c => .int (Int32.ofInt (M i c)))) (fun q => by cases q) (by show ¬ (_ ∨ (arrV _ _ _).slots.size ≤ _); rw [arrV_size]; exact hix) rfl rfl d fun H1 e1 e2 e3 => ?_
  refine t H1 _ lsA (xWd_set (e := .inl (cy 0, len, .inl (fun c => Int32.ofInt (mu M i j.toNat z i c)))) hW h1 h2 (by simp only [xcell, hl]; rfl) ?_ e2 e3 (fun a ha => xcell_congr (fun c => mu_n (fun q => ha q.1)) (fun c => rfl))) (hS.put e2 e3 (show b < b + i by omega)) hv
  have e1' : H1[b + i]? = some ((arrV (cy 0) len (fun c => .int (Int32.ofInt (M i c)))).setSlot (Int32.ofInt j).toNatClampNeg (.int (Int32.ofInt z))) := e1
  show H1[b + i]? = some (arrV (cy 0) len (fun c => .int (Int32.ofInt (mu M i j.toNat z i c))))
  rw [e1', hcl, arrV_store]
  have e9 : updV (fun c => .int (Int32.ofInt (M i c))) j.toNat (.int (Int32.ofInt z)) = (fun c => .int (Int32.ofInt (mu M i j.toNat z i c))) := by
    funext q
    by_cases hq : q = j.toNat
    · subst hq
      simp [updV, mu_s]
    · simp [updV, hq, mu_n (show ¬ (i = i ∧ q = j.toNat) from fun z => hq z.2)]
  rw [e9]
set_option maxHeartbeats 1000000 in
theorem x_lastore (hg : xG g cc own rm nL) {i len : Nat} {j z : Int} (d : decode cc pc = .ok (.lastore, 1)) (ho : xA n i 3 len) (hj : 0 ≤ j ∧ j < len) (t : xW g n (mu M i j.toNat z) R k w (pc + 1) ls st) : xW g n M R k w pc ls (xl z :: xi j :: xr i :: st) := by
  obtain ⟨p, l, e, Rm, s, m, args, below, meth, c, b, D, cy, Q⟩ := g
  obtain ⟨hx, hb, hown, hts, hK, hlk, hbs, hrm, hml⟩ := hg
  intro H locs lsA hW hS hv
  obtain ⟨h1, h2, hl, hlen⟩ := ho
  have hjr : j ≤ 2147483647 := by omega
  have hcl : (Int32.ofInt j).toNatClampNeg = j.toNat := oi_cl hj.1 hjr
  have hix : vp_in (Int32.ofInt j) len := oi_in hj.1 hj.2 hlen
  have he : (xws cy b n M R)[i - 1]? = some (b + i, .inl (cy 3, len, .inr (.inl (fun c => Int64.ofInt (M i c))))) := xWd_arr (D := D) h1 h2 hl
  refine W.last hx hb (hW.2 (i - 1) _ he) ((hK.1.2 3 _ rfl).1 len (fun c => .long (Int64.ofInt (M i c)))) (fun q => by cases q) (by show ¬ (_ ∨ (arrV _ _ _).slots.size ≤ _); rw [arrV_size]; exact hix) rfl rfl d fun H1 e1 e2 e3 => ?_
  refine t H1 _ lsA (xWd_set (e := .inl (cy 3, len, .inr (.inl (fun c => Int64.ofInt (mu M i j.toNat z i c))))) hW h1 h2 (by simp only [xcell, hl]; rfl) ?_ e2 e3 (fun a ha => xcell_congr (fun c => mu_n (fun q => ha q.1)) (fun c => rfl))) (hS.put e2 e3 (show b < b + i by omega)) hv
  have e1' : H1[b + i]? = some ((arrV (cy 3) len (fun c => .long (Int64.ofInt (M i c)))).setSlot (Int32.ofInt j).toNatClampNeg (.long (Int64.ofInt z))) := e1
  show H1[b + i]? = some (arrV (cy 3) len (fun c => .long (Int64.ofInt (mu M i j.toNat z i c))))
  rw [e1', hcl, arrV_store]
  have e9 : updV (fun c => .long (Int64.ofInt (M i c))) j.toNat (.long (Int64.ofInt z)) = (fun c => .long (Int64.ofInt (mu M i j.toNat z i c))) := by
    funext q
    by_cases hq : q = j.toNat
    · subst hq
      simp [updV, mu_s]
    · simp [updV, hq, mu_n (show ¬ (i = i ∧ q = j.toNat) from fun z => hq z.2)]
  rw [e9]
set_option maxHeartbeats 1000000 in
theorem x_bastore (hg : xG g cc own rm nL) {i len : Nat} {j z : Int} (d : decode cc pc = .ok (.bastore, 1)) (ho : xA n i 1 len) (hj : 0 ≤ j ∧ j < len) (hz : -128 ≤ z ∧ z ≤ 127) (t : xW g n (mu M i j.toNat z) R k w (pc + 1) ls st) : xW g n M R k w pc ls (xi z :: xi j :: xr i :: st) := by
  obtain ⟨p, l, e, Rm, s, m, args, below, meth, c, b, D, cy, Q⟩ := g
  obtain ⟨hx, hb, hown, hts, hK, hlk, hbs, hrm, hml⟩ := hg
  intro H locs lsA hW hS hv
  obtain ⟨h1, h2, hl, hlen⟩ := ho
  have hjr : j ≤ 2147483647 := by omega
  have hcl : (Int32.ofInt j).toNatClampNeg = j.toNat := oi_cl hj.1 hjr
  have hix : vp_in (Int32.ofInt j) len := oi_in hj.1 hj.2 hlen
  have he : (xws cy b n M R)[i - 1]? = some (b + i, .inl (cy 1, len, .inl (fun c => Int32.ofInt (M i c)))) := xWd_arr (D := D) h1 h2 hl
  refine W.bast hx hb (hW.2 (i - 1) _ he) ((hK.1.2 1 _ rfl).1 len (fun c => .int (Int32.ofInt (M i c)))) (fun q => by cases q) (by show ¬ (_ ∨ (arrV _ _ _).slots.size ≤ _); rw [arrV_size]; exact hix) rfl rfl d fun H1 e1 e2 e3 => ?_
  refine t H1 _ lsA (xWd_set (e := .inl (cy 1, len, .inl (fun c => Int32.ofInt (mu M i j.toNat z i c)))) hW h1 h2 (by simp only [xcell, hl]; rfl) ?_ e2 e3 (fun a ha => xcell_congr (fun c => mu_n (fun q => ha q.1)) (fun c => rfl))) (hS.put e2 e3 (show b < b + i by omega)) hv
  have e1' : H1[b + i]? = some ((arrV (cy 1) len (fun c => .int (Int32.ofInt (M i c)))).setSlot (Int32.ofInt j).toNatClampNeg (narrow .byte (Value.int (Int32.ofInt z)))) := e1
  show H1[b + i]? = some (arrV (cy 1) len (fun c => .int (Int32.ofInt (mu M i j.toNat z i c))))
  rw [e1', hcl, show narrow .byte (Value.int (Int32.ofInt z)) = Value.int (Int32.ofInt z) from xnar_b hz, arrV_store]
  have e9 : updV (fun c => .int (Int32.ofInt (M i c))) j.toNat (.int (Int32.ofInt z)) = (fun c => .int (Int32.ofInt (mu M i j.toNat z i c))) := by
    funext q
    by_cases hq : q = j.toNat
    · subst hq
      simp [updV, mu_s]
    · simp [updV, hq, mu_n (show ¬ (i = i ∧ q = j.toNat) from fun z => hq z.2)]
  rw [e9]
set_option maxHeartbeats 1000000 in
theorem x_zastore (hg : xG g cc own rm nL) {i len : Nat} {j z : Int} (d : decode cc pc = .ok (.bastore, 1)) (ho : xA n i 2 len) (hj : 0 ≤ j ∧ j < len) (hz : z = 0 ∨ z = 1) (t : xW g n (mu M i j.toNat z) R k w (pc + 1) ls st) : xW g n M R k w pc ls (xi z :: xi j :: xr i :: st) := by
  obtain ⟨p, l, e, Rm, s, m, args, below, meth, c, b, D, cy, Q⟩ := g
  obtain ⟨hx, hb, hown, hts, hK, hlk, hbs, hrm, hml⟩ := hg
  intro H locs lsA hW hS hv
  obtain ⟨h1, h2, hl, hlen⟩ := ho
  have hjr : j ≤ 2147483647 := by omega
  have hcl : (Int32.ofInt j).toNatClampNeg = j.toNat := oi_cl hj.1 hjr
  have hix : vp_in (Int32.ofInt j) len := oi_in hj.1 hj.2 hlen
  have he : (xws cy b n M R)[i - 1]? = some (b + i, .inl (cy 2, len, .inl (fun c => Int32.ofInt (M i c)))) := xWd_arr (D := D) h1 h2 hl
  refine W.zast hx hb (hW.2 (i - 1) _ he) ((hK.1.2 2 _ rfl).1 len (fun c => .int (Int32.ofInt (M i c)))) (fun q => by cases q) (by show ¬ (_ ∨ (arrV _ _ _).slots.size ≤ _); rw [arrV_size]; exact hix) rfl rfl d fun H1 e1 e2 e3 => ?_
  refine t H1 _ lsA (xWd_set (e := .inl (cy 2, len, .inl (fun c => Int32.ofInt (mu M i j.toNat z i c)))) hW h1 h2 (by simp only [xcell, hl]; rfl) ?_ e2 e3 (fun a ha => xcell_congr (fun c => mu_n (fun q => ha q.1)) (fun c => rfl))) (hS.put e2 e3 (show b < b + i by omega)) hv
  have e1' : H1[b + i]? = some ((arrV (cy 2) len (fun c => .int (Int32.ofInt (M i c)))).setSlot (Int32.ofInt j).toNatClampNeg (narrow .boolean (Value.int (Int32.ofInt z)))) := e1
  show H1[b + i]? = some (arrV (cy 2) len (fun c => .int (Int32.ofInt (mu M i j.toNat z i c))))
  rw [e1', hcl, show narrow .boolean (Value.int (Int32.ofInt z)) = Value.int (Int32.ofInt z) from by rcases hz with rfl | rfl <;> rfl, arrV_store]
  have e9 : updV (fun c => .int (Int32.ofInt (M i c))) j.toNat (.int (Int32.ofInt z)) = (fun c => .int (Int32.ofInt (mu M i j.toNat z i c))) := by
    funext q
    by_cases hq : q = j.toNat
    · subst hq
      simp [updV, mu_s]
    · simp [updV, hq, mu_n (show ¬ (i = i ∧ q = j.toNat) from fun z => hq z.2)]
  rw [e9]
set_option maxHeartbeats 1000000 in
theorem x_aaload (hg : xG g cc own rm nL) {i len et : Nat} {j : Int} (d : decode cc pc = .ok (.aaload, 1)) (ho : xA n i et len) (htt : 4 ≤ et ∧ et ≤ 9) (hj : 0 ≤ j ∧ j < len) {j9 : Nat} (hR : R i j.toNat = j9) (h0 : j9 ≠ 0) (t : xW g n M R k w (pc + 1) ls (xr j9 :: st)) : xW g n M R k w pc ls (xi j :: xr i :: st) := by
  obtain ⟨p, l, e, Rm, s, m, args, below, meth, c, b, D, cy, Q⟩ := g
  obtain ⟨hx, hb, hown, hts, hK, hlk, hbs, hrm, hml⟩ := hg
  intro H locs lsA hW hS hv
  obtain ⟨h1, h2, hl, hlen⟩ := ho
  have hjr : j ≤ 2147483647 := by omega
  have hcl : (Int32.ofInt j).toNatClampNeg = j.toNat := oi_cl hj.1 hjr
  have hix : vp_in (Int32.ofInt j) len := oi_in hj.1 hj.2 hlen
  have he : (xws cy b n M R)[i - 1]? = some (b + i, .inl (cy et, len, .inr (.inr (.inr (.inr (fun c => xrf b (R i c))))))) := by
    rw [xWd_arr (D := D) h1 h2 hl]
    simp [xarr, show ¬ et ≤ 2 by omega, show ¬ et = 3 by omega]
  obtain ⟨ty, htyr, hty⟩ : ∃ ty : FieldType, ty.isReference = true ∧ (xtys cy)[et]? = some (cy et, ty) := by
    obtain ⟨a, b'⟩ := htt
    rcases (show et = 4 ∨ et = 5 ∨ et = 6 ∨ et = 7 ∨ et = 8 ∨ et = 9 by omega) with rfl | rfl | rfl | rfl | rfl | rfl <;> exact ⟨_, rfl, rfl⟩
  have hlt : j.toNat < len := by omega
  refine W.aald (v := .ref (b + j9)) (ty := ty) hx hb (hW.2 (i - 1) _ he) ((hK.1.2 et _ hty).1 len (fun c => va_rf (xrf b (R i c)))) htyr (fun q => by cases q) (by show ¬ (_ ∨ (arrV _ _ _).slots.size ≤ _); rw [arrV_size]; exact hix) ?_ rfl rfl d (t H locs lsA hW hS hv)
  show (arrV _ _ _).slots[_]? = _
  rw [hcl, arrV_read _ _ hlt]
  simp [xrf, hR, h0, va_rf]
end XM
end
section
/-! ===== contracts, calls, ends ===== -/
abbrev xPost : Type := Option xV → Nat → xMm → xRm → Prop
def xQc (b : Nat) (D : va_G) (cy : Nat → ClassId) (Post : xPost) : Array Value → State → Outcome → State → Prop := fun _ st oc t => (∃ v n' M' R', oc = .returned (v.map (cv b)) ∧ Post v n' M' R' ∧ xWd D cy b n' M' R' t.heap) ∧ va_F (fun q => b < q) st t
abbrev xwords (y : MethodName) (code : ByteArray) (maxL : Nat) (ret : Option FieldType) : List Cond := Cond.code y code maxL ret :: lw_tbl.filter goodWord
/-- a method's contract over the world by numbers -/
def xC (l : Launch) (b : Nat) (D : va_G) (cy : Nat → ClassId) (y : MethodName) (code : ByteArray) (maxL : Nat) (ret : Option FieldType) (rm : Room) (as : List xV) (n : Nat) (M : xMm) (R : xRm) (Post : xPost) : Prop :=
  Met l y (xwords y code maxL ret) rm (va_Pc (as.map (cv b)) (fun U => xWd D cy b n M R U.heap ∧ xK D cy U)) (xQc b D cy Post) rm.cells rm.slots (fun q => b < q)
/-- what is known of a method's end -/
def xRet : xGT → Option FieldType → xPost → Nat → Nat → String → Prop
  | (_, _, _, _, s, _, args, below, meth, _, b, D, cy, Q), ret, Post, mc, ms, nm => meth.sig.returnType = ret ∧ Q = MQ below (xQc b D cy Post) args s mc ms (fun q => b < q) ∧ meth.name = nm
def xargs : Nat → List xV → List (Nat × xV)
  | _, [] => []
  | j, v :: vs => (j, v) :: xargs (j + xcat v) vs
theorem xargs_ok (b : Nat) : ∀ (j : Nat) (vs : List xV), cvs b (xargs j vs) = lv_args j (vs.map (cv b))
  | _, [] => rfl
  | j, v :: vs => by
    have ih := xargs_ok b (j + xcat v) vs
    simp only [cvs] at ih
    simp only [xargs, cvs, List.map_cons, lv_args, xcat_ok]
    rw [ih]
    rcases v with z | z | i <;> rfl
/-- a contract out of a walk of the body -/
theorem x_met {l : Launch} {b : Nat} {D : va_G} {cy : Nat → ClassId} {y : MethodName} {code : ByteArray} {maxL : Nat} {ret : Option FieldType} {rm : Room} {as : List xV} {n : Nat} {M : xMm} {R : xRm} {Post : xPost} (hy : plainName y.cls = true) (hsl : (lg_sl (as.map (cv b))).length ≤ maxL)
    (body : ∀ g : xGT, xG g code y.cls rm maxL → xRet g ret Post rm.cells rm.slots y.name → g.2.1 = l ∧ g.2.2.2.2.2.2.2.2.2.2.1 = b ∧ g.2.2.2.2.2.2.2.2.2.2.2.1 = D ∧ g.2.2.2.2.2.2.2.2.2.2.2.2.1 = cy → xW g n M R 0 0 0 (xargs 0 as) []) : xC l b D cy y code maxL ret rm as n M R Post := by
  refine Met.ofW (cc := code) (maxL := maxL) (ret := ret) hy rfl ?_
  intro p e s m args below meth c s₁ B hml hv
  obtain ⟨rfl, hW, hK⟩ := hv
  have hts := atoms_spec (ws := xwords y code maxL ret) B.pre
  have hown : s.vm.findClass y.cls = some m.cls := findClass_of_methodNamed B.named
  have h := body (p, l, e, rm, s, m, (as.map (cv b)).toArray, below, meth, c, b, D, cy, MQ below (xQc b D cy Post) (as.map (cv b)).toArray s rm.cells rm.slots (fun q => b < q))
    ⟨B.exec, B.bytes, hown, fun w hw hg => hts w (List.mem_cons_of_mem _ (List.mem_filter.mpr ⟨hw, hg⟩)), hK, B.notSynchronized, by have := hW.1; omega, rfl, hml⟩ ⟨B.returns, rfl, (name_of_methodNamed B.named B.method).1⟩ ⟨rfl, rfl, rfl, rfl⟩
  have hl := lv_entry (as.map (cv b)) (n := maxL) hsl
  rw [← xargs_ok b 0 as] at hl
  rw [lg_entry_eq]
  rw [← hml] at hl
  exact h s.heap [] _ hW va_S.rf (by rw [← hml]; exact hl)
theorem xblind {b n : Nat} {D : va_G} {cy : Nat → ClassId} {as : List xV} {M : xMm} {R : xRm} : FrameBlind (va_Pc (as.map (cv b)) (fun U => xWd D cy b n M R U.heap ∧ xK D cy U)) := fun a U g mk q => by
  obtain ⟨q0, q1, q2⟩ := q
  exact ⟨q0, q1, xK_same q2 rfl⟩
theorem xgood {y : MethodName} {code : ByteArray} {maxL : Nat} {ret : Option FieldType} (hc : Cond.code y code maxL ret ∈ lw_tbl) (hk : goodWord (Cond.code y code maxL ret) = true) : GoodIn (lw_tbl.filter goodWord) (xwords y code maxL ret) := by
  intro w hw
  rcases List.mem_cons.mp hw with rfl | h
  · exact ⟨List.mem_filter.mpr ⟨hc, hk⟩, good_of_word hk⟩
  · exact ⟨h, good_of_word (List.mem_filter.mp h).2⟩
section XC
variable {g : xGT} {cc : ByteArray} {own : String} {rm : Room} {nL : Nat} {n : Nat} {M : xMm} {R : xRm} {k w pc : Nat} {ls ls' : List (Nat × xV)} {st : List xV}
/-- behind a call -/
theorem xcallk {p : Program} {l : Launch} {e : Env} {Rm : Room} {s : State} {m : MethodId} {args : Array Value} {below : List Frame} {meth : Method} {c : Code} {b : Nat} {D : va_G} {cy : Nat → ClassId} {Q : State → Prop} {H : Heap} {locs : List Loc} {mc ms : Nat} {lsA : Array Slot} {st0 : List Value} {rest : List xV} {Post : xPost} {a : Array Value}
    (hr : va_Run p l e Rm s m args below meth c H locs k w mc ms (F0 m pc lsA st0) (rest.map (cv b)) (xQc b D cy Post a) (fun q => b < q)) (hS : va_S (fun q => b < q) s.heap H locs)
    (kk : ∀ v n' M' R' (H1 : Heap) (locs1 : List Loc), Post v n' M' R' → xWd D cy b n' M' R' H1 → va_S (fun q => b < q) s.heap H1 locs1 → W p l e Rm s m args below meth c H1 locs1 (k + mc) (w + ms) Q (F0 m (pc + 3) lsA ((v.toList ++ rest).map (cv b)))) : W p l e Rm s m args below meth c H locs k w Q (F0 m pc lsA st0) := by
  intro T hT X
  obtain ⟨v, st₀, t, T', L, h0, X', hL, e1, e2, ⟨⟨v2, n', M', R', hv, hp, hb⟩, hz, hk⟩, stp⟩ := hr T hT X
  rw [h0] at hz hk
  have hv' : v = v2.map (cv b) := by
    have := congrArg (fun o => match o with | Outcome.returned x => x | _ => none) hv
    exact this
  subst hv'
  obtain ⟨t2, a1, b1⟩ := kk v2 n' M' R' T'.heap (locs ++ L) hp (by rw [e1]; exact hb)
    ⟨Nat.le_trans hS.1 (by rw [e1]; exact hz), fun q h1 h2 => by rw [e1, hk q (Nat.lt_of_lt_of_le h1 hS.1) h2]; exact hS.2.1 q h1 h2, fun q hq => by
      rcases List.mem_append.mp hq with h | h
      · exact hS.2.2 q h
      · exact hL q h⟩ T' rfl X'
  refine ⟨t2, stp t2 ?_, b1⟩
  have e3 : (v2.toList ++ rest).map (cv b) = (v2.map (cv b)).toList ++ rest.map (cv b) := by cases v2 <;> simp
  rw [e3] at a1
  exact a1
theorem xcats (b : Nat) (rest : List xV) (h : (rest.map xcat).sum ≤ 8) : ((rest.map (cv b)).map fun v => v.category).sum ≤ 8 := by
  have : (rest.map (cv b)).map (fun v => v.category) = rest.map xcat := by simp [Function.comp_def, xcat_ok]
  rw [this]
  exact h
set_option maxHeartbeats 1000000 in
theorem x_callV (hg : xG g cc own rm nL) {l : Launch} {b : Nat} {D : va_G} {cy : Nat → ClassId} {idx ci i na : Nat} {y : MethodName} {code : ByteArray} {maxL : Nat} {ret : Option FieldType} {rmc : Room} {As rest : List xV} {Post : xPost}
    (he : g.2.1 = l ∧ g.2.2.2.2.2.2.2.2.2.2.1 = b ∧ g.2.2.2.2.2.2.2.2.2.2.2.1 = D ∧ g.2.2.2.2.2.2.2.2.2.2.2.2.1 = cy) (d : decode cc pc = .ok (.invokevirtual idx, 3)) (hM : xMV own idx ci y code maxL ret na) (hC : xC l b D cy y code maxL ret rmc (xr i :: As) n M R Post)
    (ho : xO n i ci) (hn : As.length = na) (hst : st = As.reverse ++ xr i :: rest) (hrest : (rest.map xcat).sum ≤ 8) (hroom : rmc.frames + 1 ≤ rm.frames ∧ 8 + (maxL + 11) + rmc.locals ≤ rm.locals) (hcells : k + rmc.cells ≤ rm.cells ∧ w + rmc.slots ≤ rm.slots)
    (t : ∀ v n' M' R', Post v n' M' R' → xW g n' M' R' (k + rmc.cells) (w + rmc.slots) (pc + 3) ls (v.toList ++ rest)) : xW g n M R k w pc ls st := by
  obtain ⟨p, l', e, Rm, s, m, args, below, meth, c, b', D', cy', Q⟩ := g
  obtain ⟨rfl, rfl, rfl, rfl⟩ := he
  dsimp only at *
  obtain ⟨hx, hb, hown, hts, hK, hlk, hbs, hrm, hml⟩ := hg
  intro H locs lsA hW hS hv
  subst hrm
  obtain ⟨⟨q, hq, hyq⟩, m1, m2, m3, m4, m5, m6, m7⟩ := hM
  have hts2 : ∀ v ∈ lw_tbl.filter goodWord, v.before args s = true := fun v hv => hts v (List.mem_filter.mp hv).1 (List.mem_filter.mp hv).2
  obtain ⟨h1, h2, hl⟩ := ho
  have hobj := xWd_obj (D := D') (cy := cy') (b := b') (M := M) (R := R) h1 h2 hl
  have hcw : CallW Rm s args own y.cls idx y code maxL ret (xwords y code maxL ret) rmc rmc.cells rmc.slots na := ⟨callB_of na hts2 (xgood m5 m6) rfl rfl rfl (hts _ m4 rfl) (hts _ m1 rfl) m7 hroom, hts _ m2 rfl, hts _ m3 rfl⟩
  refine xcallk (rest := rest) (va_runV (cc := cc) (nL := nL) (Ts := lw_tbl.filter goodWord) (As := As.map (cv b')) (b := b' + i) ⟨hx, hb, hml, hown, hts2⟩ hC hcw ⟨xblind (as := xr i :: As), ?_, fun U hU hWm => ⟨rfl, by rw [hU]; exact hW, xK_warm hK hWm⟩⟩ rfl (by rw [List.length_map]; exact hn) (hv.1.trans hml) (by rw [hst]; simp [cv]) (lv_room (xcats b' rest hrest)) d hcells) hS
    (fun v n' M' R' H1 locs1 hp hw1 hS1 => t v n' M' R' hp H1 locs1 lsA hw1 hS1 hv)
  have := va_recv (q := q) hK.1 hW.2 hq hobj
  rw [← hyq] at this
  exact this
set_option maxHeartbeats 1000000 in
theorem x_callS (hg : xG g cc own rm nL) {l : Launch} {b : Nat} {D : va_G} {cy : Nat → ClassId} {idx na : Nat} {y : MethodName} {code : ByteArray} {maxL : Nat} {ret : Option FieldType} {rmc : Room} {As rest : List xV} {Post : xPost}
    (he : g.2.1 = l ∧ g.2.2.2.2.2.2.2.2.2.2.1 = b ∧ g.2.2.2.2.2.2.2.2.2.2.2.1 = D ∧ g.2.2.2.2.2.2.2.2.2.2.2.2.1 = cy) (d : decode cc pc = .ok (.invokestatic idx, 3)) (hM : xMS own idx y code maxL ret na) (hC : xC l b D cy y code maxL ret rmc As n M R Post)
    (hn : As.length = na) (hst : st = As.reverse ++ rest) (hrest : (rest.map xcat).sum ≤ 8) (hroom : rmc.frames + 1 ≤ rm.frames ∧ 8 + (maxL + 11) + rmc.locals ≤ rm.locals) (hcells : k + rmc.cells ≤ rm.cells ∧ w + rmc.slots ≤ rm.slots)
    (t : ∀ v n' M' R', Post v n' M' R' → xW g n' M' R' (k + rmc.cells) (w + rmc.slots) (pc + 3) ls (v.toList ++ rest)) : xW g n M R k w pc ls st := by
  obtain ⟨p, l', e, Rm, s, m, args, below, meth, c, b', D', cy', Q⟩ := g
  obtain ⟨rfl, rfl, rfl, rfl⟩ := he
  dsimp only at *
  obtain ⟨hx, hb, hown, hts, hK, hlk, hbs, hrm, hml⟩ := hg
  intro H locs lsA hW hS hv
  subst hrm
  obtain ⟨m1, m2, m4, m5, m6, m7⟩ := hM
  have hts2 : ∀ v ∈ lw_tbl.filter goodWord, v.before args s = true := fun v hv => hts v (List.mem_filter.mp hv).1 (List.mem_filter.mp hv).2
  have hcw : CallB Rm s args own idx y code maxL ret (xwords y code maxL ret) rmc rmc.cells rmc.slots na ∧ (Cond.static y).before args s = true := ⟨callB_of na hts2 (xgood m5 m6) rfl rfl rfl (hts _ m4 rfl) (hts _ m1 rfl) m7 hroom, hts _ m2 rfl⟩
  exact xcallk (rest := rest) (va_runS (cc := cc) (nL := nL) (Ts := lw_tbl.filter goodWord) (As := As.map (cv b')) ⟨hx, hb, hml, hown, hts2⟩ hC hcw ⟨xblind (as := As), fun U hU hWm => ⟨rfl, by rw [hU]; exact hW, xK_warm hK hWm⟩⟩ rfl (by rw [List.length_map]; exact hn) (hv.1.trans hml) (by rw [hst]; simp) (lv_room (xcats b' rest hrest)) d hcells) hS
    (fun v n' M' R' H1 locs1 hp hw1 hS1 => t v n' M' R' hp H1 locs1 lsA hw1 hS1 hv)
theorem x_iret (hg : xG g cc own rm nL) {ret : Option FieldType} {Post : xPost} {mc ms : Nat} {nm : String} {z : Int} (hr : xRet g ret Post mc ms nm) (hret : ret = some .int ∨ (ret = some .boolean ∧ (z = 0 ∨ z = 1))) (d : decode cc pc = .ok (.ireturn, 1)) (hk : k ≤ mc) (hw : w ≤ ms) (hp : Post (some (xi z)) n M R) : xW g n M R k w pc ls [xi z] := by
  obtain ⟨p, l, e, Rm, s, m, args, below, meth, c, b, D, cy, Q⟩ := g
  obtain ⟨hx, hb, hown, hts, hK, hlk, hbs, hrm, hml⟩ := hg
  obtain ⟨hr, hQ, hnm⟩ := hr
  intro H locs lsA hW hS hv
  subst hQ
  refine W.widen (k := mc) (n := ms) hk hw ?_
  obtain ⟨ty, hty, hnar⟩ : ∃ ty, ret = some ty ∧ narrow ty (.int (Int32.ofInt z)) = .int (Int32.ofInt z) := by
    rcases hret with rfl | ⟨rfl, rfl | rfl⟩
    · exact ⟨_, rfl, rfl⟩
    · exact ⟨_, rfl, rfl⟩
    · exact ⟨_, rfl, rfl⟩
  subst hty
  exact W.zret (v := Int32.ofInt z) hx hb hr hnar (fun t ht hWm => ⟨⟨some (xi z), n, M, R, rfl, hp, by rw [ht]; exact hW⟩, hS.F ht⟩) hS.2.2 d hlk
theorem x_lret (hg : xG g cc own rm nL) {Post : xPost} {mc ms : Nat} {nm : String} {z : Int} (hr : xRet g (some .long) Post mc ms nm) (d : decode cc pc = .ok (.lreturn, 1)) (hk : k ≤ mc) (hw : w ≤ ms) (hp : Post (some (xl z)) n M R) : xW g n M R k w pc ls [xl z] := by
  obtain ⟨p, l, e, Rm, s, m, args, below, meth, c, b, D, cy, Q⟩ := g
  obtain ⟨hx, hb, hown, hts, hK, hlk, hbs, hrm, hml⟩ := hg
  obtain ⟨hr, hQ, hnm⟩ := hr
  intro H locs lsA hW hS hv
  subst hQ
  refine W.widen (k := mc) (n := ms) hk hw ?_
  exact W.lret (v := Int64.ofInt z) hx hb hr (fun t ht hWm => ⟨⟨some (xl z), n, M, R, rfl, hp, by rw [ht]; exact hW⟩, hS.F ht⟩) hS.2.2 d hlk
theorem x_vret (hg : xG g cc own rm nL) {Post : xPost} {mc ms : Nat} {nm : String} (hr : xRet g none Post mc ms nm) (d : decode cc pc = .ok (.return_, 1)) (hk : k ≤ mc) (hw : w ≤ ms) (hp : Post none n M R) : xW g n M R k w pc ls [] := by
  obtain ⟨p, l, e, Rm, s, m, args, below, meth, c, b, D, cy, Q⟩ := g
  obtain ⟨hx, hb, hown, hts, hK, hlk, hbs, hrm, hml⟩ := hg
  obtain ⟨hr, hQ, hnm⟩ := hr
  intro H locs lsA hW hS hv
  subst hQ
  refine W.widen (k := mc) (n := ms) hk hw ?_
  exact W.vret hx hb hr (fun t ht hWm => ⟨⟨none, n, M, R, rfl, hp, by rw [ht]; exact hW⟩, hS.F ht⟩) hS.2.2 d hlk
/-- Math.max and Math.min -/
theorem x_max (hg : xG g cc own rm nL) {x y : Int} {idx : Nat} (d : decode cc pc = .ok (.invokestatic idx, 3)) (hl : Cond.methodLink own idx Lib.Math.max.name ∈ lw_tbl) (h1 : inR x) (h2 : inR y) (hroom : 1 ≤ rm.frames ∧ (st.map xcat).sum + 13 ≤ rm.locals) (hcells : k ≤ rm.cells ∧ w ≤ rm.slots) (t : xW g n M R k w (pc + 3) ls (xi (if x < y then y else x) :: st)) : xW g n M R k w pc ls (xi y :: xi x :: st) := by
  obtain ⟨p, l, e, Rm, s, m, args, below, meth, c, b, D, cy, Q⟩ := g
  obtain ⟨hx, hb, hown, hts, hK, hlk, hbs, hrm, hml⟩ := hg
  intro H locs lsA hW hS hv
  subst hrm
  have e1 : (st.map (cv b)).map (fun v => v.category) = st.map xcat := by simp [Function.comp_def, xcat_ok]
  refine va_mmax hx hb hv.1.symm hown (hts _ hl rfl) (hts _ (by decide +kernel) rfl) (hts _ (by decide +kernel) rfl) (hts _ (by decide +kernel) (by decide +kernel)) hroom.1 (by rw [e1]; exact hroom.2) hcells.1 hcells.2 d ?_
  have t2 := t H locs lsA hW hS hv
  rw [show (if Int32.ofInt x < Int32.ofInt y then Int32.ofInt y else Int32.ofInt x) = Int32.ofInt (if x < y then y else x) from ?_]
  · exact t2
  · by_cases h : x < y
    · rw [if_pos h, if_pos ((oi_lt h1 h2).mpr h)]
    · rw [if_neg h, if_neg (fun q => h ((oi_lt h1 h2).mp q))]
theorem x_min (hg : xG g cc own rm nL) {x y : Int} {idx : Nat} (d : decode cc pc = .ok (.invokestatic idx, 3)) (hl : Cond.methodLink own idx Lib.Math.min.name ∈ lw_tbl) (h1 : inR x) (h2 : inR y) (hroom : 1 ≤ rm.frames ∧ (st.map xcat).sum + 13 ≤ rm.locals) (hcells : k ≤ rm.cells ∧ w ≤ rm.slots) (t : xW g n M R k w (pc + 3) ls (xi (if y < x then y else x) :: st)) : xW g n M R k w pc ls (xi y :: xi x :: st) := by
  obtain ⟨p, l, e, Rm, s, m, args, below, meth, c, b, D, cy, Q⟩ := g
  obtain ⟨hx, hb, hown, hts, hK, hlk, hbs, hrm, hml⟩ := hg
  intro H locs lsA hW hS hv
  subst hrm
  have e1 : (st.map (cv b)).map (fun v => v.category) = st.map xcat := by simp [Function.comp_def, xcat_ok]
  refine va_mmin hx hb hv.1.symm hown (hts _ hl rfl) (hts _ (by decide +kernel) rfl) (hts _ (by decide +kernel) rfl) (hts _ (by decide +kernel) (by decide +kernel)) hroom.1 (by rw [e1]; exact hroom.2) hcells.1 hcells.2 d ?_
  have t2 := t H locs lsA hW hS hv
  rw [show (if Int32.ofInt y < Int32.ofInt x then Int32.ofInt y else Int32.ofInt x) = Int32.ofInt (if y < x then y else x) from ?_]
  · exact t2
  · by_cases h : y < x
    · rw [if_pos h, if_pos ((oi_lt h2 h1).mpr h)]
    · rw [if_neg h, if_neg (fun q => h ((oi_lt h2 h1).mp q))]
end XC
end
section
/-! ===== the references of the finished world; typed posts; calls by them ===== -/
/-- the references: those of MilkTrain (its table is cell tt: 5 or 31), of its parts, of the model -/
def RS (tt i k : Nat) : Nat :=
  if i = 1 then (if k = 0 then 2 else if k = 1 then 4 else if k = 2 then tt else if k = 3 then 36 - tt else if k = 4 then 57 else if k = 5 then 63 else if k = 6 then 68 else if k = 9 then 84 else if k = 11 then 95 else if k = 12 then 100 else if k = 14 then 141 else 0)
  else if i = 2 then 3
  else if i = 4 then 2
  else if i = 5 then 6
  else if i = 31 then 32
  else if i = 6 then 7 + 3 * k
  else if i = 32 then 33 + 3 * k
  else if i = 57 then 58 + k
  else if i = 63 then (if k = 0 then 57 else 63 + k)
  else if i = 68 then (if k = 0 then 63 else if k = 1 then 69 else 78 + k)
  else if i = 69 then 70 + k
  else if i = 84 then 85 + k
  else if i = 95 then 96 + k
  else if i = 100 then 101 + k
  else if i = 141 then 142 + k
  else if i = 172 then (if k ≤ 1 then 173 + k else if k ≤ 17 then 164 + k else if k ≤ 23 then 162 + k else if k ≤ 29 then 161 + k else if k ≤ 32 then 160 + k else if k ≤ 37 then 157 + k else 155 + k)
  else (if k = 4 then i + 1 else i + 2)
theorem RS_swap (tt : Nat) : ru (ru (RS tt) 1 2 (36 - tt)) 1 3 tt = (fun a c => if a = 1 ∧ c = 3 then tt else RS (36 - tt) a c) := by
  funext a c
  simp only [ru, RS]
  by_cases h1 : a = 1 ∧ c = 3
  · simp [h1]
  · by_cases h2 : a = 1 ∧ c = 2
    · obtain ⟨rfl, rfl⟩ := h2
      simp
    · simp only [h1, h2, if_false]
      by_cases ha : a = 1
      · subst ha
        have : c ≠ 2 := fun q => h2 ⟨rfl, q⟩
        have : c ≠ 3 := fun q => h1 ⟨rfl, q⟩
        simp [*]
      · simp [ha]
abbrev xPi (n : Nat) (R : xRm) (Q : Int → xMm → Prop) : xPost := fun v n' M' R' => n' = n ∧ R' = R ∧ ∃ r, v = some (xi r) ∧ Q r M'
abbrev xPl (n : Nat) (R : xRm) (Q : Int → xMm → Prop) : xPost := fun v n' M' R' => n' = n ∧ R' = R ∧ ∃ r, v = some (xl r) ∧ Q r M'
abbrev xPv (n : Nat) (R : xRm) (Q : xMm → Prop) : xPost := fun v n' M' R' => n' = n ∧ R' = R ∧ v = none ∧ Q M'
/-- the launch, the base and the tables' numbers of a walk -/
abbrev xE (g : xGT) (l : Launch) (b : Nat) (D : va_G) (cy : Nat → ClassId) : Prop := g.2.1 = l ∧ g.2.2.2.2.2.2.2.2.2.2.1 = b ∧ g.2.2.2.2.2.2.2.2.2.2.2.1 = D ∧ g.2.2.2.2.2.2.2.2.2.2.2.2.1 = cy
section XT
variable {g : xGT} {cc : ByteArray} {own : String} {rm : Room} {nL : Nat} {n : Nat} {M : xMm} {R : xRm} {k w pc : Nat} {ls ls' : List (Nat × xV)} {st : List xV}
variable {l : Launch} {b : Nat} {D : va_G} {cy : Nat → ClassId} {idx ci i na : Nat} {y : MethodName} {code : ByteArray} {maxL : Nat} {ret : Option FieldType} {rmc : Room}
theorem x_cVi (hg : xG g cc own rm nL) (he : xE g l b D cy) {n2 : Nat} {R2 : xRm} {Q : Int → xMm → Prop} (As rest : List xV) (d : decode cc pc = .ok (.invokevirtual idx, 3)) (hM : xMV own idx ci y code maxL ret na) (hC : xC l b D cy y code maxL ret rmc (xr i :: As) n M R (xPi n2 R2 Q)) (ho : xO n i ci) (hn : As.length = na) (hst : st = As.reverse ++ xr i :: rest) (hrest : (rest.map xcat).sum ≤ 8) (hroom : rmc.frames + 1 ≤ rm.frames ∧ 8 + (maxL + 11) + rmc.locals ≤ rm.locals) (hcells : k + rmc.cells ≤ rm.cells ∧ w + rmc.slots ≤ rm.slots)
    (t : ∀ (r : Int) M', Q r M' → xW g n2 M' R2 (k + rmc.cells) (w + rmc.slots) (pc + 3) ls (xi r :: rest)) : xW g n M R k w pc ls st :=
  x_callV (rest := rest) hg he d hM hC ho hn hst hrest hroom hcells (fun v n' M' R' hp => by obtain ⟨rfl, rfl, r, rfl, hq⟩ := hp; exact t r M' hq)
theorem x_cSi (hg : xG g cc own rm nL) (he : xE g l b D cy) {n2 : Nat} {R2 : xRm} {Q : Int → xMm → Prop} (As rest : List xV) (d : decode cc pc = .ok (.invokestatic idx, 3)) (hM : xMS own idx y code maxL ret na) (hC : xC l b D cy y code maxL ret rmc As n M R (xPi n2 R2 Q)) (hn : As.length = na) (hst : st = As.reverse ++ rest) (hrest : (rest.map xcat).sum ≤ 8) (hroom : rmc.frames + 1 ≤ rm.frames ∧ 8 + (maxL + 11) + rmc.locals ≤ rm.locals) (hcells : k + rmc.cells ≤ rm.cells ∧ w + rmc.slots ≤ rm.slots)
    (t : ∀ (r : Int) M', Q r M' → xW g n2 M' R2 (k + rmc.cells) (w + rmc.slots) (pc + 3) ls (xi r :: rest)) : xW g n M R k w pc ls st :=
  x_callS (rest := rest) hg he d hM hC hn hst hrest hroom hcells (fun v n' M' R' hp => by obtain ⟨rfl, rfl, r, rfl, hq⟩ := hp; exact t r M' hq)
theorem x_cVl (hg : xG g cc own rm nL) (he : xE g l b D cy) {n2 : Nat} {R2 : xRm} {Q : Int → xMm → Prop} (As rest : List xV) (d : decode cc pc = .ok (.invokevirtual idx, 3)) (hM : xMV own idx ci y code maxL ret na) (hC : xC l b D cy y code maxL ret rmc (xr i :: As) n M R (xPl n2 R2 Q)) (ho : xO n i ci) (hn : As.length = na) (hst : st = As.reverse ++ xr i :: rest) (hrest : (rest.map xcat).sum ≤ 8) (hroom : rmc.frames + 1 ≤ rm.frames ∧ 8 + (maxL + 11) + rmc.locals ≤ rm.locals) (hcells : k + rmc.cells ≤ rm.cells ∧ w + rmc.slots ≤ rm.slots)
    (t : ∀ (r : Int) M', Q r M' → xW g n2 M' R2 (k + rmc.cells) (w + rmc.slots) (pc + 3) ls (xl r :: rest)) : xW g n M R k w pc ls st :=
  x_callV (rest := rest) hg he d hM hC ho hn hst hrest hroom hcells (fun v n' M' R' hp => by obtain ⟨rfl, rfl, r, rfl, hq⟩ := hp; exact t r M' hq)
theorem x_cSl (hg : xG g cc own rm nL) (he : xE g l b D cy) {n2 : Nat} {R2 : xRm} {Q : Int → xMm → Prop} (As rest : List xV) (d : decode cc pc = .ok (.invokestatic idx, 3)) (hM : xMS own idx y code maxL ret na) (hC : xC l b D cy y code maxL ret rmc As n M R (xPl n2 R2 Q)) (hn : As.length = na) (hst : st = As.reverse ++ rest) (hrest : (rest.map xcat).sum ≤ 8) (hroom : rmc.frames + 1 ≤ rm.frames ∧ 8 + (maxL + 11) + rmc.locals ≤ rm.locals) (hcells : k + rmc.cells ≤ rm.cells ∧ w + rmc.slots ≤ rm.slots)
    (t : ∀ (r : Int) M', Q r M' → xW g n2 M' R2 (k + rmc.cells) (w + rmc.slots) (pc + 3) ls (xl r :: rest)) : xW g n M R k w pc ls st :=
  x_callS (rest := rest) hg he d hM hC hn hst hrest hroom hcells (fun v n' M' R' hp => by obtain ⟨rfl, rfl, r, rfl, hq⟩ := hp; exact t r M' hq)
theorem x_cVv (hg : xG g cc own rm nL) (he : xE g l b D cy) {n2 : Nat} {R2 : xRm} {Q : xMm → Prop} (As rest : List xV) (d : decode cc pc = .ok (.invokevirtual idx, 3)) (hM : xMV own idx ci y code maxL ret na) (hC : xC l b D cy y code maxL ret rmc (xr i :: As) n M R (xPv n2 R2 Q)) (ho : xO n i ci) (hn : As.length = na) (hst : st = As.reverse ++ xr i :: rest) (hrest : (rest.map xcat).sum ≤ 8) (hroom : rmc.frames + 1 ≤ rm.frames ∧ 8 + (maxL + 11) + rmc.locals ≤ rm.locals) (hcells : k + rmc.cells ≤ rm.cells ∧ w + rmc.slots ≤ rm.slots)
    (t : ∀ M', Q M' → xW g n2 M' R2 (k + rmc.cells) (w + rmc.slots) (pc + 3) ls (rest)) : xW g n M R k w pc ls st :=
  x_callV (rest := rest) hg he d hM hC ho hn hst hrest hroom hcells (fun v n' M' R' hp => by obtain ⟨rfl, rfl, rfl, hq⟩ := hp; exact t M' hq)
theorem x_cSv (hg : xG g cc own rm nL) (he : xE g l b D cy) {n2 : Nat} {R2 : xRm} {Q : xMm → Prop} (As rest : List xV) (d : decode cc pc = .ok (.invokestatic idx, 3)) (hM : xMS own idx y code maxL ret na) (hC : xC l b D cy y code maxL ret rmc As n M R (xPv n2 R2 Q)) (hn : As.length = na) (hst : st = As.reverse ++ rest) (hrest : (rest.map xcat).sum ≤ 8) (hroom : rmc.frames + 1 ≤ rm.frames ∧ 8 + (maxL + 11) + rmc.locals ≤ rm.locals) (hcells : k + rmc.cells ≤ rm.cells ∧ w + rmc.slots ≤ rm.slots)
    (t : ∀ M', Q M' → xW g n2 M' R2 (k + rmc.cells) (w + rmc.slots) (pc + 3) ls (rest)) : xW g n M R k w pc ls st :=
  x_callS (rest := rest) hg he d hM hC hn hst hrest hroom hcells (fun v n' M' R' hp => by obtain ⟨rfl, rfl, rfl, hq⟩ := hp; exact t M' hq)
/-- another number for the same int -/
theorem x_top {x z : Int} (h : Int32.ofInt x = Int32.ofInt z) (t : xW g n M R k w pc ls (xi z :: st)) : xW g n M R k w pc ls (xi x :: st) := by
  obtain ⟨p, l, e, Rm, s, m, args, below, meth, c, b, D, cy, Q⟩ := g
  intro H locs lsA hW hS hv
  have t2 := t H locs lsA hW hS hv
  simp only [List.map_cons, cv] at t2 ⊢
  rw [h]
  exact t2
theorem x_topl {x z : Int} (h : Int64.ofInt x = Int64.ofInt z) (t : xW g n M R k w pc ls (xl z :: st)) : xW g n M R k w pc ls (xl x :: st) := by
  obtain ⟨p, l, e, Rm, s, m, args, below, meth, c, b, D, cy, Q⟩ := g
  intro H locs lsA hW hS hv
  have t2 := t H locs lsA hW hS hv
  simp only [List.map_cons, cv] at t2 ⊢
  rw [h]
  exact t2
end XT
/-- families of cells -/
theorem lay_churn : ∀ c, c < 10 → lay (85 + c) = .inl 1 := by decide
theorem lay_tank : ∀ c, c < 4 → lay (96 + c) = .inl 6 := by decide
theorem lay_bottling : ∀ c, c < 40 → lay (101 + c) = .inl 0 := by decide
theorem lay_find : ∀ c, c < 30 → lay (142 + c) = .inl 3 := by decide
theorem lay_row : ∀ c, c < 10 → lay (70 + c) = .inr (3, 9) := by decide
/-- a train's cell -/
abbrev xTr (i : Nat) : Prop := (7 ≤ i ∧ i ≤ 28 ∧ i % 3 = 1) ∨ (33 ≤ i ∧ i ≤ 54 ∧ i % 3 = 0)
theorem lay_train : ∀ i, i < 57 → xTr i → lay i = .inl 9 ∧ lay (i + 1) = .inr (0, 8) ∧ lay (i + 2) = .inr (0, 8) := by decide
theorem RS_tr {tt i : Nat} (h : xTr i) : RS tt i 4 = i + 1 ∧ RS tt i 5 = i + 2 := by
  constructor
  · simp only [RS]
    rw [if_neg (by omega), if_neg (by omega), if_neg (by omega), if_neg (by omega), if_neg (by omega), if_neg (by omega), if_neg (by omega), if_neg (by omega), if_neg (by omega), if_neg (by omega), if_neg (by omega), if_neg (by omega), if_neg (by omega), if_neg (by omega), if_neg (by omega), if_neg (by omega)]
    simp
  · simp only [RS]
    rw [if_neg (by omega), if_neg (by omega), if_neg (by omega), if_neg (by omega), if_neg (by omega), if_neg (by omega), if_neg (by omega), if_neg (by omega), if_neg (by omega), if_neg (by omega), if_neg (by omega), if_neg (by omega), if_neg (by omega), if_neg (by omega), if_neg (by omega), if_neg (by omega)]
    simp
theorem oO_churn {c : Nat} (h : c < 10) : xO 209 (85 + c) 1 := ⟨by omega, by omega, lay_churn c h⟩
theorem oO_tank {c : Nat} (h : c < 4) : xO 209 (96 + c) 6 := ⟨by omega, by omega, lay_tank c h⟩
theorem oO_bottling {c : Nat} (h : c < 40) : xO 209 (101 + c) 0 := ⟨by omega, by omega, lay_bottling c h⟩
theorem oO_find {c : Nat} (h : c < 30) : xO 209 (142 + c) 3 := ⟨by omega, by omega, lay_find c h⟩
theorem oA_row {c : Nat} (h : c < 10) : xA 209 (70 + c) 3 9 := ⟨by omega, by omega, lay_row c h, by decide⟩
theorem oO_train {i : Nat} (h : xTr i) : xO 209 i 9 := ⟨by omega, by omega, (lay_train i (by omega) h).1⟩
theorem oA_train1 {i : Nat} (h : xTr i) : xA 209 (i + 1) 0 8 := ⟨by omega, by omega, (lay_train i (by omega) h).2.1, by decide⟩
theorem oA_train2 {i : Nat} (h : xTr i) : xA 209 (i + 2) 0 8 := ⟨by omega, by omega, (lay_train i (by omega) h).2.2, by decide⟩
theorem mu_nf {M : xMm} {i k a c : Nat} {v : Int} (h : c ≠ k) : mu M i k v a c = M a c := mu_n (fun q => h q.2)
theorem mu_nc {M : xMm} {i k a c : Nat} {v : Int} (h : a ≠ i) : mu M i k v a c = M a c := mu_n (fun q => h q.1)
theorem bAnd_255 (x : Int) : 0 ≤ bAnd x 255 ∧ bAnd x 255 ≤ 255 := by
  obtain ⟨j, hj, e⟩ := pk_andE (Int32.ofInt x) (m := Int32.ofInt 255) 8 (by decide)
  show 0 ≤ (Int32.ofInt x &&& Int32.ofInt 255).toInt ∧ (Int32.ofInt x &&& Int32.ofInt 255).toInt ≤ 255
  rw [e, nI_toInt (by omega)]
  omega
/-- the office's numbers: counts, clock, limit, churns, tanks, bottlings, finds -/
def IO (M : xMm) : Prop := (0 ≤ M 1 10 ∧ M 1 10 ≤ 10) ∧ (0 ≤ M 1 13 ∧ M 1 13 ≤ 40) ∧ (0 ≤ M 1 15 ∧ M 1 15 ≤ 30) ∧ (0 ≤ M 1 16 ∧ M 1 16 ≤ 100000) ∧ (1 ≤ M 1 8 ∧ M 1 8 ≤ 100000) ∧ (M 1 7 = 0 ∨ M 1 7 = 1)
  ∧ (∀ c, c < 10 → (0 ≤ M (85 + c) 0 ∧ M (85 + c) 0 ≤ 11) ∧ (0 ≤ M (85 + c) 1 ∧ M (85 + c) 1 ≤ 9) ∧ (0 ≤ M (85 + c) 2 ∧ M (85 + c) 2 ≤ 1439) ∧ (0 ≤ M (85 + c) 3 ∧ M (85 + c) 3 ≤ 100) ∧ (-1 ≤ M (85 + c) 4 ∧ M (85 + c) 4 ≤ 3))
  ∧ (∀ t, t < 4 → (0 ≤ M (96 + t) 0 ∧ M (96 + t) 0 ≤ 1000) ∧ inR (M (96 + t) 1))
  ∧ (∀ k, k < 40 → (0 ≤ M (101 + k) 0 ∧ M (101 + k) 0 ≤ 1000) ∧ inR (M (101 + k) 1) ∧ (0 ≤ M (101 + k) 2 ∧ M (101 + k) 2 ≤ 100000))
  ∧ (∀ k, k < 30 → (0 ≤ M (142 + k) 0 ∧ M (142 + k) 0 ≤ 11) ∧ (0 ≤ M (142 + k) 1 ∧ M (142 + k) 1 ≤ 100000) ∧ (0 ≤ M (142 + k) 2 ∧ M (142 + k) 2 ≤ 100000) ∧ (-1 ≤ M (142 + k) 3 ∧ M (142 + k) 3 ≤ 100000))
/-- the answers of the readers -/
def vOf (M : xMm) (z w : Int) : Int := if 0 ≤ z ∧ z < M 1 10 then (if w = 0 then M (85 + z.toNat) 0 else if w = 1 then M (85 + z.toNat) 1 else if w = 2 then M (85 + z.toNat) 2 else if w = 3 then M (85 + z.toNat) 3 else if w = 4 then M (85 + z.toNat) 4 else -1) else -1
def vTank (M : xMm) (z w : Int) : Int := if 0 ≤ z ∧ z < 4 then (if w = 0 then M (96 + z.toNat) 0 else if w = 1 then M (96 + z.toNat) 1 else -1) else -1
def vBottling (M : xMm) (z w : Int) : Int := if 0 ≤ z ∧ z < M 1 13 then (if w = 0 then M (101 + z.toNat) 0 else if w = 1 then M (101 + z.toNat) 1 else if w = 2 then M (101 + z.toNat) 2 else -1) else -1
/-- a bottling (cell j) is called back at k -/
abbrev pKn (M : xMm) (i : Nat) (k : Int) : Prop := M i 2 ≤ k ∧ (M i 3 = -1 ∨ k < M i 3)
abbrev pCo (M : xMm) (i j : Nat) : Prop := M i 1 ≤ M j 2 ∧ bAnd (M j 1) (bShl 1 (M i 0)) ≠ 0
def pCB (M : xMm) (j : Nat) (k : Int) : Prop := M j 2 ≤ k ∧ ∃ i : Nat, i < (M 1 15).toNat ∧ (pKn M (142 + i) k ∧ pCo M (142 + i) j)
def dCB (M : xMm) (j : Nat) (k : Int) : Decidable (pCB M j k) := inferInstanceAs (Decidable (M j 2 ≤ k ∧ ∃ i : Nat, i < (M 1 15).toNat ∧ (pKn M (142 + i) k ∧ pCo M (142 + i) j)))
/-- the pints that are called back of the first n bottlings -/
def vRs (M : xMm) (k : Int) : Nat → Int
  | 0 => 0
  | n + 1 => vRs M k n + @ite Int (pCB M (101 + n) k) (dCB M (101 + n) k) (M (101 + n) 0) 0
theorem vRs_y {M : xMm} {k : Int} {n : Nat} (h : pCB M (101 + n) k) : vRs M k (n + 1) = vRs M k n + M (101 + n) 0 := by simp only [vRs]; rw [if_pos h]
theorem vRs_n {M : xMm} {k : Int} {n : Nat} (h : ¬ pCB M (101 + n) k) : vRs M k (n + 1) = vRs M k n := by simp only [vRs]; rw [if_neg h, Int.add_zero]
theorem vRs_le {M : xMm} {k : Int} (h : ∀ j, j < 40 → 0 ≤ M (101 + j) 0 ∧ M (101 + j) 0 ≤ 1000) : ∀ n, n ≤ 40 → 0 ≤ vRs M k n ∧ vRs M k n ≤ 1000 * n
  | 0, _ => by simp [vRs]
  | n + 1, hn => by
    have ih := vRs_le (k := k) h n (by omega)
    have := h n (by omega)
    simp only [vRs]
    split <;> omega
/-- the tape: its length, its bytes -/
def IT (M : xMm) : Prop := (0 ≤ M 2 1 ∧ M 2 1 ≤ 1000) ∧ ∀ j, 0 ≤ M 3 j ∧ M 3 j ≤ 255
theorem IT_len {M : xMm} (h : IT M) {z : Int} (h1 : 0 ≤ z) (h2 : z ≤ 1000) : IT (mu M 2 1 z) := by
  refine ⟨by simp only [mu_s]; omega, fun j => ?_⟩
  rw [mu_nc (by decide)]
  exact h.2 j
theorem IT_byte {M : xMm} (h : IT M) {i : Nat} {z : Int} (h1 : 0 ≤ z) (h2 : z ≤ 255) : IT (mu M 3 i z) := by
  refine ⟨by rw [mu_nc (by decide)]; exact h.1, fun j => ?_⟩
  by_cases hj : j = i
  · subst hj
    rw [mu_s]
    omega
  · rw [mu_nf hj]
    exact h.2 j
theorem RS_churn (tt k : Nat) : RS tt 84 k = 85 + k := rfl
theorem RS_tank (tt k : Nat) : RS tt 95 k = 96 + k := rfl
theorem RS_bottling (tt k : Nat) : RS tt 100 k = 101 + k := rfl
theorem RS_find (tt k : Nat) : RS tt 141 k = 142 + k := rfl
theorem RS_row (tt k : Nat) : RS tt 69 k = 70 + k := rfl
/-- a timetable's cell -/
abbrev xTt (q : Nat) : Prop := q = 5 ∨ q = 31
theorem oO_tt {q : Nat} (h : xTt q) : xO 209 q 8 := by rcases h with rfl | rfl <;> decide
theorem oA_tt {q : Nat} (h : xTt q) : xA 209 (q + 1) 4 8 := by rcases h with rfl | rfl <;> decide
theorem RS_tt {tt q : Nat} (h : xTt q) : RS tt q 0 = q + 1 := by rcases h with rfl | rfl <;> rfl
theorem RS_trn {tt q : Nat} (h : xTt q) (k : Nat) : RS tt (q + 1) k = q + 2 + 3 * k := by rcases h with rfl | rfl <;> rfl
theorem xTr_of {q k : Nat} (h : xTt q) (hk : k < 8) : xTr (q + 2 + 3 * k) := by rcases h with rfl | rfl <;> omega
theorem x_int_cases {g : xGT} {n : Nat} {M : xMm} {R : xRm} {k w pc : Nat} {ls : List (Nat × xV)} {st : List xV} (lo hi : Int) {x : Int} (h1 : x < lo ∨ hi < x → xW g n M R k w pc ls (xi x :: st)) (h2 : ¬ x < lo → ¬ hi < x → xW g n M R k w pc ls (xi x :: st)) : xW g n M R k w pc ls (xi x :: st) := by
  by_cases a : x < lo
  · exact h1 (Or.inl a)
  · by_cases c : hi < x
    · exact h1 (Or.inr c)
    · exact h2 a c
theorem x_lk2 {g : xGT} {n : Nat} {M : xMm} {R : xRm} {k w pc : Nat} {ls : List (Nat × xV)} {st : List xV} {x : Int} (p0 : x = 0 → xW g n M R k w pc ls (xi x :: st)) (p1 : x = 1 → xW g n M R k w pc ls (xi x :: st)) (p2 : x ≠ 0 → x ≠ 1 → xW g n M R k w pc ls (xi x :: st)) : xW g n M R k w pc ls (xi x :: st) := by
  by_cases a : x = 0
  · exact p0 a
  · by_cases c : x = 1
    · exact p1 c
    · exact p2 a c
theorem x_sw2 {x : Int} {P : Prop} (h1 : ¬ x < 0) (h2 : ¬ 1 < x) (p0 : x = 0 → P) (p1 : x = 1 → P) : P := by
  rcases (show x = 0 ∨ x = 1 by omega) with h | h
  all_goals first | exact p0 h | exact p1 h
theorem x_sw3 {x : Int} {P : Prop} (h1 : ¬ x < 0) (h2 : ¬ 2 < x) (p0 : x = 0 → P) (p1 : x = 1 → P) (p2 : x = 2 → P) : P := by
  rcases (show x = 0 ∨ x = 1 ∨ x = 2 by omega) with h | h | h
  all_goals first | exact p0 h | exact p1 h | exact p2 h
theorem x_sw5 {x : Int} {P : Prop} (h1 : ¬ x < 0) (h2 : ¬ 4 < x) (p0 : x = 0 → P) (p1 : x = 1 → P) (p2 : x = 2 → P) (p3 : x = 3 → P) (p4 : x = 4 → P) : P := by
  rcases (show x = 0 ∨ x = 1 ∨ x = 2 ∨ x = 3 ∨ x = 4 by omega) with h | h | h | h | h
  all_goals first | exact p0 h | exact p1 h | exact p2 h | exact p3 h | exact p4 h
theorem x_sw7 {x : Int} {P : Prop} (h1 : ¬ x < 0) (h2 : ¬ 6 < x) (p0 : x = 0 → P) (p1 : x = 1 → P) (p2 : x = 2 → P) (p3 : x = 3 → P) (p4 : x = 4 → P) (p5 : x = 5 → P) (p6 : x = 6 → P) : P := by
  rcases (show x = 0 ∨ x = 1 ∨ x = 2 ∨ x = 3 ∨ x = 4 ∨ x = 5 ∨ x = 6 by omega) with h | h | h | h | h | h | h
  all_goals first | exact p0 h | exact p1 h | exact p2 h | exact p3 h | exact p4 h | exact p5 h | exact p6 h
theorem xt_int (x : Int32) : inR x.toInt := ⟨by have := Int32.le_toInt x; omega, by have := Int32.toInt_lt x; omega⟩
end
section
theorem dX11_isFarm_0 : decode cX11_isFarm 0 = .ok (.iload_n 0, 1) := by decide +kernel
theorem dX11_isFarm_1 : decode cX11_isFarm 1 = .ok (.ifCond .lt 13, 3) := by decide +kernel
theorem dX11_isFarm_4 : decode cX11_isFarm 4 = .ok (.iload_n 0, 1) := by decide +kernel
theorem dX11_isFarm_5 : decode cX11_isFarm 5 = .ok (.bipush 12, 2) := by decide +kernel
theorem dX11_isFarm_7 : decode cX11_isFarm 7 = .ok (.if_icmp .ge 7, 3) := by decide +kernel
theorem dX11_isFarm_10 : decode cX11_isFarm 10 = .ok (.iconst 1, 1) := by decide +kernel
theorem dX11_isFarm_11 : decode cX11_isFarm 11 = .ok (.goto 4, 3) := by decide +kernel
theorem dX11_isFarm_14 : decode cX11_isFarm 14 = .ok (.iconst 0, 1) := by decide +kernel
theorem dX11_isFarm_15 : decode cX11_isFarm 15 = .ok (.ireturn, 1) := by decide +kernel
set_option maxHeartbeats 4000000 in
set_option maxRecDepth 20000 in
theorem c_X11_isFarm (l : Launch) (b : Nat) (D : va_G) (cy : Nat → ClassId) {tt : Nat} {M : xMm} {z : Int} (hz : inR z) : xC l b D cy yX11_isFarm cX11_isFarm 1 (some .boolean) ({ frames := 0, cells := 0, slots := 0, locals := 0 }) [xi z] 209 M (RS tt) (xPi 209 (RS tt) (fun r M' => M' = M ∧ ((0 ≤ z ∧ z < 12) ∧ r = 1 ∨ ¬ (0 ≤ z ∧ z < 12) ∧ r = 0))) := by
  refine x_met (by decide) (Nat.le_of_ble_eq_true rfl) (fun g hg hr he => ?_)
  refine x_canon (ls' := [(0, _)]) rfl ?_
  refine x_iload_n hg dX11_isFarm_0 rfl ?_
  refine x_if_lt (tgt := 14) hg dX11_isFarm_1 (by decide) (by omega) (fun c1 => ?_) (fun c1 => ?_)
  · skip
    refine x_iconst hg dX11_isFarm_14 ?_
    refine x_iret hg hr (Or.inr ⟨rfl, by first | exact Or.inl rfl | exact Or.inr rfl | omega⟩) dX11_isFarm_15 (Nat.le_refl _) (Nat.le_refl _) ?_
    exact ⟨rfl, rfl, _, rfl, rfl, by omega⟩
  · skip
    refine x_iload_n hg dX11_isFarm_4 rfl ?_
    refine x_bipush hg dX11_isFarm_5 (by decide) ?_
    refine x_icmp_ge (tgt := 14) hg dX11_isFarm_7 (by decide) (by omega) (by omega) (fun c7 => ?_) (fun c7 => ?_)
    · skip
      refine x_iconst hg dX11_isFarm_14 ?_
      refine x_iret hg hr (Or.inr ⟨rfl, by first | exact Or.inl rfl | exact Or.inr rfl | omega⟩) dX11_isFarm_15 (Nat.le_refl _) (Nat.le_refl _) ?_
      exact ⟨rfl, rfl, _, rfl, rfl, by omega⟩
    · skip
      refine x_iconst hg dX11_isFarm_10 ?_
      refine x_goto (tgt := 15) hg dX11_isFarm_11 (by decide) ?_
      refine x_iret hg hr (Or.inr ⟨rfl, by first | exact Or.inl rfl | exact Or.inr rfl | omega⟩) dX11_isFarm_15 (Nat.le_refl _) (Nat.le_refl _) ?_
      exact ⟨rfl, rfl, _, rfl, rfl, by omega⟩

theorem dX11_isTank_0 : decode cX11_isTank 0 = .ok (.iload_n 0, 1) := by decide +kernel
theorem dX11_isTank_1 : decode cX11_isTank 1 = .ok (.ifCond .lt 12, 3) := by decide +kernel
theorem dX11_isTank_4 : decode cX11_isTank 4 = .ok (.iload_n 0, 1) := by decide +kernel
theorem dX11_isTank_5 : decode cX11_isTank 5 = .ok (.iconst 4, 1) := by decide +kernel
theorem dX11_isTank_6 : decode cX11_isTank 6 = .ok (.if_icmp .ge 7, 3) := by decide +kernel
theorem dX11_isTank_9 : decode cX11_isTank 9 = .ok (.iconst 1, 1) := by decide +kernel
theorem dX11_isTank_10 : decode cX11_isTank 10 = .ok (.goto 4, 3) := by decide +kernel
theorem dX11_isTank_13 : decode cX11_isTank 13 = .ok (.iconst 0, 1) := by decide +kernel
theorem dX11_isTank_14 : decode cX11_isTank 14 = .ok (.ireturn, 1) := by decide +kernel
set_option maxHeartbeats 4000000 in
set_option maxRecDepth 20000 in
theorem c_X11_isTank (l : Launch) (b : Nat) (D : va_G) (cy : Nat → ClassId) {tt : Nat} {M : xMm} {z : Int} (hz : inR z) : xC l b D cy yX11_isTank cX11_isTank 1 (some .boolean) ({ frames := 0, cells := 0, slots := 0, locals := 0 }) [xi z] 209 M (RS tt) (xPi 209 (RS tt) (fun r M' => M' = M ∧ ((0 ≤ z ∧ z < 4) ∧ r = 1 ∨ ¬ (0 ≤ z ∧ z < 4) ∧ r = 0))) := by
  refine x_met (by decide) (Nat.le_of_ble_eq_true rfl) (fun g hg hr he => ?_)
  refine x_canon (ls' := [(0, _)]) rfl ?_
  refine x_iload_n hg dX11_isTank_0 rfl ?_
  refine x_if_lt (tgt := 13) hg dX11_isTank_1 (by decide) (by omega) (fun c1 => ?_) (fun c1 => ?_)
  · skip
    refine x_iconst hg dX11_isTank_13 ?_
    refine x_iret hg hr (Or.inr ⟨rfl, by first | exact Or.inl rfl | exact Or.inr rfl | omega⟩) dX11_isTank_14 (Nat.le_refl _) (Nat.le_refl _) ?_
    exact ⟨rfl, rfl, _, rfl, rfl, by omega⟩
  · skip
    refine x_iload_n hg dX11_isTank_4 rfl ?_
    refine x_iconst hg dX11_isTank_5 ?_
    refine x_icmp_ge (tgt := 13) hg dX11_isTank_6 (by decide) (by omega) (by omega) (fun c6 => ?_) (fun c6 => ?_)
    · skip
      refine x_iconst hg dX11_isTank_13 ?_
      refine x_iret hg hr (Or.inr ⟨rfl, by first | exact Or.inl rfl | exact Or.inr rfl | omega⟩) dX11_isTank_14 (Nat.le_refl _) (Nat.le_refl _) ?_
      exact ⟨rfl, rfl, _, rfl, rfl, by omega⟩
    · skip
      refine x_iconst hg dX11_isTank_9 ?_
      refine x_goto (tgt := 14) hg dX11_isTank_10 (by decide) ?_
      refine x_iret hg hr (Or.inr ⟨rfl, by first | exact Or.inl rfl | exact Or.inr rfl | omega⟩) dX11_isTank_14 (Nat.le_refl _) (Nat.le_refl _) ?_
      exact ⟨rfl, rfl, _, rfl, rfl, by omega⟩

theorem dX11_isChurn_0 : decode cX11_isChurn 0 = .ok (.iload_n 1, 1) := by decide +kernel
theorem dX11_isChurn_1 : decode cX11_isChurn 1 = .ok (.ifCond .lt 15, 3) := by decide +kernel
theorem dX11_isChurn_4 : decode cX11_isChurn 4 = .ok (.iload_n 1, 1) := by decide +kernel
theorem dX11_isChurn_5 : decode cX11_isChurn 5 = .ok (.aload_n 0, 1) := by decide +kernel
theorem dX11_isChurn_6 : decode cX11_isChurn 6 = .ok (.getfield 162, 3) := by decide +kernel
theorem dX11_isChurn_9 : decode cX11_isChurn 9 = .ok (.if_icmp .ge 7, 3) := by decide +kernel
theorem dX11_isChurn_12 : decode cX11_isChurn 12 = .ok (.iconst 1, 1) := by decide +kernel
theorem dX11_isChurn_13 : decode cX11_isChurn 13 = .ok (.goto 4, 3) := by decide +kernel
theorem dX11_isChurn_16 : decode cX11_isChurn 16 = .ok (.iconst 0, 1) := by decide +kernel
theorem dX11_isChurn_17 : decode cX11_isChurn 17 = .ok (.ireturn, 1) := by decide +kernel
set_option maxHeartbeats 4000000 in
set_option maxRecDepth 20000 in
theorem c_X11_isChurn (l : Launch) (b : Nat) (D : va_G) (cy : Nat → ClassId) {tt : Nat} {M : xMm} {z : Int} (hz : inR z) (hM : inR (M 1 10)) : xC l b D cy yX11_isChurn cX11_isChurn 2 (some .boolean) ({ frames := 0, cells := 0, slots := 0, locals := 0 }) [xr 1, xi z] 209 M (RS tt) (xPi 209 (RS tt) (fun r M' => M' = M ∧ ((0 ≤ z ∧ z < M 1 10) ∧ r = 1 ∨ ¬ (0 ≤ z ∧ z < M 1 10) ∧ r = 0))) := by
  refine x_met (by decide) (Nat.le_of_ble_eq_true rfl) (fun g hg hr he => ?_)
  refine x_canon (ls' := [(0, _), (1, _)]) rfl ?_
  refine x_iload_n hg dX11_isChurn_0 rfl ?_
  refine x_if_lt (tgt := 16) hg dX11_isChurn_1 (by decide) (by omega) (fun c1 => ?_) (fun c1 => ?_)
  · skip
    refine x_iconst hg dX11_isChurn_16 ?_
    refine x_iret hg hr (Or.inr ⟨rfl, by first | exact Or.inl rfl | exact Or.inr rfl | omega⟩) dX11_isChurn_17 (Nat.le_refl _) (Nat.le_refl _) ?_
    exact ⟨rfl, rfl, _, rfl, rfl, by omega⟩
  · skip
    refine x_iload_n hg dX11_isChurn_4 rfl ?_
    refine x_aload_n hg dX11_isChurn_5 rfl ?_
    refine x_getI hg dX11_isChurn_6 fl_X11_162 (by decide) rfl ?_
    refine x_icmp_ge (tgt := 16) hg dX11_isChurn_9 (by decide) (by omega) (by omega) (fun c9 => ?_) (fun c9 => ?_)
    · skip
      refine x_iconst hg dX11_isChurn_16 ?_
      refine x_iret hg hr (Or.inr ⟨rfl, by first | exact Or.inl rfl | exact Or.inr rfl | omega⟩) dX11_isChurn_17 (Nat.le_refl _) (Nat.le_refl _) ?_
      exact ⟨rfl, rfl, _, rfl, rfl, by omega⟩
    · skip
      refine x_iconst hg dX11_isChurn_12 ?_
      refine x_goto (tgt := 17) hg dX11_isChurn_13 (by decide) ?_
      refine x_iret hg hr (Or.inr ⟨rfl, by first | exact Or.inl rfl | exact Or.inr rfl | omega⟩) dX11_isChurn_17 (Nat.le_refl _) (Nat.le_refl _) ?_
      exact ⟨rfl, rfl, _, rfl, rfl, by omega⟩

theorem dX11_isBottling_0 : decode cX11_isBottling 0 = .ok (.iload_n 1, 1) := by decide +kernel
theorem dX11_isBottling_1 : decode cX11_isBottling 1 = .ok (.ifCond .lt 15, 3) := by decide +kernel
theorem dX11_isBottling_4 : decode cX11_isBottling 4 = .ok (.iload_n 1, 1) := by decide +kernel
theorem dX11_isBottling_5 : decode cX11_isBottling 5 = .ok (.aload_n 0, 1) := by decide +kernel
theorem dX11_isBottling_6 : decode cX11_isBottling 6 = .ok (.getfield 234, 3) := by decide +kernel
theorem dX11_isBottling_9 : decode cX11_isBottling 9 = .ok (.if_icmp .ge 7, 3) := by decide +kernel
theorem dX11_isBottling_12 : decode cX11_isBottling 12 = .ok (.iconst 1, 1) := by decide +kernel
theorem dX11_isBottling_13 : decode cX11_isBottling 13 = .ok (.goto 4, 3) := by decide +kernel
theorem dX11_isBottling_16 : decode cX11_isBottling 16 = .ok (.iconst 0, 1) := by decide +kernel
theorem dX11_isBottling_17 : decode cX11_isBottling 17 = .ok (.ireturn, 1) := by decide +kernel
set_option maxHeartbeats 4000000 in
set_option maxRecDepth 20000 in
theorem c_X11_isBottling (l : Launch) (b : Nat) (D : va_G) (cy : Nat → ClassId) {tt : Nat} {M : xMm} {z : Int} (hz : inR z) (hM : inR (M 1 13)) : xC l b D cy yX11_isBottling cX11_isBottling 2 (some .boolean) ({ frames := 0, cells := 0, slots := 0, locals := 0 }) [xr 1, xi z] 209 M (RS tt) (xPi 209 (RS tt) (fun r M' => M' = M ∧ ((0 ≤ z ∧ z < M 1 13) ∧ r = 1 ∨ ¬ (0 ≤ z ∧ z < M 1 13) ∧ r = 0))) := by
  refine x_met (by decide) (Nat.le_of_ble_eq_true rfl) (fun g hg hr he => ?_)
  refine x_canon (ls' := [(0, _), (1, _)]) rfl ?_
  refine x_iload_n hg dX11_isBottling_0 rfl ?_
  refine x_if_lt (tgt := 16) hg dX11_isBottling_1 (by decide) (by omega) (fun c1 => ?_) (fun c1 => ?_)
  · skip
    refine x_iconst hg dX11_isBottling_16 ?_
    refine x_iret hg hr (Or.inr ⟨rfl, by first | exact Or.inl rfl | exact Or.inr rfl | omega⟩) dX11_isBottling_17 (Nat.le_refl _) (Nat.le_refl _) ?_
    exact ⟨rfl, rfl, _, rfl, rfl, by omega⟩
  · skip
    refine x_iload_n hg dX11_isBottling_4 rfl ?_
    refine x_aload_n hg dX11_isBottling_5 rfl ?_
    refine x_getI hg dX11_isBottling_6 fl_X11_234 (by decide) rfl ?_
    refine x_icmp_ge (tgt := 16) hg dX11_isBottling_9 (by decide) (by omega) (by omega) (fun c9 => ?_) (fun c9 => ?_)
    · skip
      refine x_iconst hg dX11_isBottling_16 ?_
      refine x_iret hg hr (Or.inr ⟨rfl, by first | exact Or.inl rfl | exact Or.inr rfl | omega⟩) dX11_isBottling_17 (Nat.le_refl _) (Nat.le_refl _) ?_
      exact ⟨rfl, rfl, _, rfl, rfl, by omega⟩
    · skip
      refine x_iconst hg dX11_isBottling_12 ?_
      refine x_goto (tgt := 17) hg dX11_isBottling_13 (by decide) ?_
      refine x_iret hg hr (Or.inr ⟨rfl, by first | exact Or.inl rfl | exact Or.inr rfl | omega⟩) dX11_isBottling_17 (Nat.le_refl _) (Nat.le_refl _) ?_
      exact ⟨rfl, rfl, _, rfl, rfl, by omega⟩

theorem dX11_limit_0 : decode cX11_limit 0 = .ok (.iload_n 1, 1) := by decide +kernel
theorem dX11_limit_1 : decode cX11_limit 1 = .ok (.iconst 1, 1) := by decide +kernel
theorem dX11_limit_2 : decode cX11_limit 2 = .ok (.if_icmp .lt 9, 3) := by decide +kernel
theorem dX11_limit_5 : decode cX11_limit 5 = .ok (.iload_n 1, 1) := by decide +kernel
theorem dX11_limit_6 : decode cX11_limit 6 = .ok (.ldc 158, 2) := by decide +kernel
theorem dX11_limit_8 : decode cX11_limit 8 = .ok (.if_icmp .le 5, 3) := by decide +kernel
theorem dX11_limit_11 : decode cX11_limit 11 = .ok (.iconst 0, 1) := by decide +kernel
theorem dX11_limit_12 : decode cX11_limit 12 = .ok (.ireturn, 1) := by decide +kernel
theorem dX11_limit_13 : decode cX11_limit 13 = .ok (.aload_n 0, 1) := by decide +kernel
theorem dX11_limit_14 : decode cX11_limit 14 = .ok (.iload_n 1, 1) := by decide +kernel
theorem dX11_limit_15 : decode cX11_limit 15 = .ok (.putfield 64, 3) := by decide +kernel
theorem dX11_limit_18 : decode cX11_limit 18 = .ok (.aload_n 0, 1) := by decide +kernel
theorem dX11_limit_19 : decode cX11_limit 19 = .ok (.iconst 1, 1) := by decide +kernel
theorem dX11_limit_20 : decode cX11_limit 20 = .ok (.putfield 60, 3) := by decide +kernel
theorem dX11_limit_23 : decode cX11_limit 23 = .ok (.iconst 1, 1) := by decide +kernel
theorem dX11_limit_24 : decode cX11_limit 24 = .ok (.ireturn, 1) := by decide +kernel
set_option maxHeartbeats 4000000 in
set_option maxRecDepth 20000 in
theorem c_X11_limit (l : Launch) (b : Nat) (D : va_G) (cy : Nat → ClassId) {tt : Nat} {M : xMm} {z : Int} (hz : inR z) : xC l b D cy yX11_limit cX11_limit 2 (some .boolean) ({ frames := 0, cells := 0, slots := 0, locals := 0 }) [xr 1, xi z] 209 M (RS tt) (xPi 209 (RS tt) (fun r M' => ((1 ≤ z ∧ z ≤ 100000) ∧ r = 1 ∧ M' = mu (mu M 1 8 z) 1 7 1) ∨ (¬ (1 ≤ z ∧ z ≤ 100000) ∧ r = 0 ∧ M' = M))) := by
  refine x_met (by decide) (Nat.le_of_ble_eq_true rfl) (fun g hg hr he => ?_)
  refine x_canon (ls' := [(0, _), (1, _)]) rfl ?_
  refine x_iload_n hg dX11_limit_0 rfl ?_
  refine x_iconst hg dX11_limit_1 ?_
  refine x_icmp_lt (tgt := 11) hg dX11_limit_2 (by decide) (by omega) (by omega) (fun c2 => ?_) (fun c2 => ?_)
  · skip
    refine x_iconst hg dX11_limit_11 ?_
    refine x_iret hg hr (Or.inr ⟨rfl, by first | exact Or.inl rfl | exact Or.inr rfl | omega⟩) dX11_limit_12 (Nat.le_refl _) (Nat.le_refl _) ?_
    refine ⟨rfl, rfl, _, rfl, ?_⟩
    first | exact Or.inl ⟨by omega, rfl, rfl⟩ | exact Or.inr ⟨by omega, rfl, rfl⟩
  · skip
    refine x_iload_n hg dX11_limit_5 rfl ?_
    refine x_ldc hg 100000 dX11_limit_6 (List.mem_of_getElem? (i := 605) (by decide +kernel)) ?_
    refine x_icmp_le (tgt := 13) hg dX11_limit_8 (by decide) (by omega) (by omega) (fun c8 => ?_) (fun c8 => ?_)
    · skip
      refine x_aload_n hg dX11_limit_13 rfl ?_
      refine x_iload_n hg dX11_limit_14 rfl ?_
      refine x_putI hg dX11_limit_15 fl_X11_64 ft_11_8 (by decide) rfl ?_
      refine x_aload_n hg dX11_limit_18 rfl ?_
      refine x_iconst hg dX11_limit_19 ?_
      refine x_putZ hg dX11_limit_20 fl_X11_60 ft_11_7 (by decide) rfl (by first | exact Or.inl rfl | exact Or.inr rfl | omega) ?_
      refine x_iconst hg dX11_limit_23 ?_
      refine x_iret hg hr (Or.inr ⟨rfl, by first | exact Or.inl rfl | exact Or.inr rfl | omega⟩) dX11_limit_24 (Nat.le_refl _) (Nat.le_refl _) ?_
      refine ⟨rfl, rfl, _, rfl, ?_⟩
      first | exact Or.inl ⟨by omega, rfl, rfl⟩ | exact Or.inr ⟨by omega, rfl, rfl⟩
    · skip
      refine x_iconst hg dX11_limit_11 ?_
      refine x_iret hg hr (Or.inr ⟨rfl, by first | exact Or.inl rfl | exact Or.inr rfl | omega⟩) dX11_limit_12 (Nat.le_refl _) (Nat.le_refl _) ?_
      refine ⟨rfl, rfl, _, rfl, ?_⟩
      first | exact Or.inl ⟨by omega, rfl, rfl⟩ | exact Or.inr ⟨by omega, rfl, rfl⟩

theorem dX11_later_0 : decode cX11_later 0 = .ok (.iload_n 1, 1) := by decide +kernel
theorem dX11_later_1 : decode cX11_later 1 = .ok (.ifCond .lt 21, 3) := by decide +kernel
theorem dX11_later_4 : decode cX11_later 4 = .ok (.iload_n 1, 1) := by decide +kernel
theorem dX11_later_5 : decode cX11_later 5 = .ok (.sipush 1000, 3) := by decide +kernel
theorem dX11_later_8 : decode cX11_later 8 = .ok (.if_icmp .gt 14, 3) := by decide +kernel
theorem dX11_later_11 : decode cX11_later 11 = .ok (.aload_n 0, 1) := by decide +kernel
theorem dX11_later_12 : decode cX11_later 12 = .ok (.getfield 212, 3) := by decide +kernel
theorem dX11_later_15 : decode cX11_later 15 = .ok (.iload_n 1, 1) := by decide +kernel
theorem dX11_later_16 : decode cX11_later 16 = .ok (.iadd, 1) := by decide +kernel
theorem dX11_later_17 : decode cX11_later 17 = .ok (.ldc 158, 2) := by decide +kernel
theorem dX11_later_19 : decode cX11_later 19 = .ok (.if_icmp .le 5, 3) := by decide +kernel
theorem dX11_later_22 : decode cX11_later 22 = .ok (.iconst (-1), 1) := by decide +kernel
theorem dX11_later_23 : decode cX11_later 23 = .ok (.ireturn, 1) := by decide +kernel
theorem dX11_later_24 : decode cX11_later 24 = .ok (.aload_n 0, 1) := by decide +kernel
theorem dX11_later_25 : decode cX11_later 25 = .ok (.dup, 1) := by decide +kernel
theorem dX11_later_26 : decode cX11_later 26 = .ok (.getfield 212, 3) := by decide +kernel
theorem dX11_later_29 : decode cX11_later 29 = .ok (.iload_n 1, 1) := by decide +kernel
theorem dX11_later_30 : decode cX11_later 30 = .ok (.iadd, 1) := by decide +kernel
theorem dX11_later_31 : decode cX11_later 31 = .ok (.putfield 212, 3) := by decide +kernel
theorem dX11_later_34 : decode cX11_later 34 = .ok (.aload_n 0, 1) := by decide +kernel
theorem dX11_later_35 : decode cX11_later 35 = .ok (.getfield 212, 3) := by decide +kernel
theorem dX11_later_38 : decode cX11_later 38 = .ok (.ireturn, 1) := by decide +kernel
set_option maxHeartbeats 4000000 in
set_option maxRecDepth 20000 in
theorem c_X11_later (l : Launch) (b : Nat) (D : va_G) (cy : Nat → ClassId) {tt : Nat} {M : xMm} {z : Int} (hz : inR z) (hM : 0 ≤ M 1 16 ∧ M 1 16 ≤ 100000) : xC l b D cy yX11_later cX11_later 2 (some .int) ({ frames := 0, cells := 0, slots := 0, locals := 0 }) [xr 1, xi z] 209 M (RS tt) (xPi 209 (RS tt) (fun r M' => ((0 ≤ z ∧ z ≤ 1000 ∧ M 1 16 + z ≤ 100000) ∧ r = M 1 16 + z ∧ M' = mu M 1 16 (M 1 16 + z)) ∨ (¬ (0 ≤ z ∧ z ≤ 1000 ∧ M 1 16 + z ≤ 100000) ∧ r = -1 ∧ M' = M))) := by
  refine x_met (by decide) (Nat.le_of_ble_eq_true rfl) (fun g hg hr he => ?_)
  refine x_canon (ls' := [(0, _), (1, _)]) rfl ?_
  refine x_iload_n hg dX11_later_0 rfl ?_
  refine x_if_lt (tgt := 22) hg dX11_later_1 (by decide) (by omega) (fun c1 => ?_) (fun c1 => ?_)
  · skip
    refine x_iconst hg dX11_later_22 ?_
    refine x_iret hg hr (Or.inl rfl) dX11_later_23 (Nat.le_refl _) (Nat.le_refl _) ?_
    refine ⟨rfl, rfl, _, rfl, ?_⟩
    first | exact Or.inl ⟨by omega, rfl, rfl⟩ | exact Or.inr ⟨by omega, rfl, rfl⟩
  · skip
    refine x_iload_n hg dX11_later_4 rfl ?_
    refine x_sipush hg dX11_later_5 (by decide) ?_
    refine x_icmp_gt (tgt := 22) hg dX11_later_8 (by decide) (by omega) (by omega) (fun c8 => ?_) (fun c8 => ?_)
    · skip
      refine x_iconst hg dX11_later_22 ?_
      refine x_iret hg hr (Or.inl rfl) dX11_later_23 (Nat.le_refl _) (Nat.le_refl _) ?_
      refine ⟨rfl, rfl, _, rfl, ?_⟩
      first | exact Or.inl ⟨by omega, rfl, rfl⟩ | exact Or.inr ⟨by omega, rfl, rfl⟩
    · skip
      refine x_aload_n hg dX11_later_11 rfl ?_
      refine x_getI hg dX11_later_12 fl_X11_212 (by decide) rfl ?_
      refine x_iload_n hg dX11_later_15 rfl ?_
      refine x_iadd hg dX11_later_16 ?_
      refine x_ldc hg 100000 dX11_later_17 (List.mem_of_getElem? (i := 605) (by decide +kernel)) ?_
      refine x_icmp_le (tgt := 24) hg dX11_later_19 (by decide) (by omega) (by omega) (fun c19 => ?_) (fun c19 => ?_)
      · skip
        refine x_aload_n hg dX11_later_24 rfl ?_
        refine x_dup hg dX11_later_25 rfl ?_
        refine x_getI hg dX11_later_26 fl_X11_212 (by decide) rfl ?_
        refine x_iload_n hg dX11_later_29 rfl ?_
        refine x_iadd hg dX11_later_30 ?_
        refine x_putI hg dX11_later_31 fl_X11_212 ft_11_16 (by decide) rfl ?_
        refine x_aload_n hg dX11_later_34 rfl ?_
        refine x_getI hg dX11_later_35 fl_X11_212 (by decide) rfl ?_
        try simp (disch := omega) only [mu_s, mu_nf, mu_nc]
        refine x_iret hg hr (Or.inl rfl) dX11_later_38 (Nat.le_refl _) (Nat.le_refl _) ?_
        refine ⟨rfl, rfl, _, rfl, ?_⟩
        first | exact Or.inl ⟨by omega, rfl, rfl⟩ | exact Or.inr ⟨by omega, rfl, rfl⟩
      · skip
        refine x_iconst hg dX11_later_22 ?_
        refine x_iret hg hr (Or.inl rfl) dX11_later_23 (Nat.le_refl _) (Nat.le_refl _) ?_
        refine ⟨rfl, rfl, _, rfl, ?_⟩
        first | exact Or.inl ⟨by omega, rfl, rfl⟩ | exact Or.inr ⟨by omega, rfl, rfl⟩

theorem dX11_cooler_0 : decode cX11_cooler 0 = .ok (.iload_n 1, 1) := by decide +kernel
theorem dX11_cooler_1 : decode cX11_cooler 1 = .ok (.ifCond .lt 9, 3) := by decide +kernel
theorem dX11_cooler_4 : decode cX11_cooler 4 = .ok (.iload_n 1, 1) := by decide +kernel
theorem dX11_cooler_5 : decode cX11_cooler 5 = .ok (.bipush 10, 2) := by decide +kernel
theorem dX11_cooler_7 : decode cX11_cooler 7 = .ok (.if_icmp .lt 5, 3) := by decide +kernel
theorem dX11_cooler_10 : decode cX11_cooler 10 = .ok (.iconst 0, 1) := by decide +kernel
theorem dX11_cooler_11 : decode cX11_cooler 11 = .ok (.ireturn, 1) := by decide +kernel
theorem dX11_cooler_12 : decode cX11_cooler 12 = .ok (.aload_n 0, 1) := by decide +kernel
theorem dX11_cooler_13 : decode cX11_cooler 13 = .ok (.getfield 38, 3) := by decide +kernel
theorem dX11_cooler_16 : decode cX11_cooler 16 = .ok (.getfield 154, 3) := by decide +kernel
theorem dX11_cooler_19 : decode cX11_cooler 19 = .ok (.iload_n 1, 1) := by decide +kernel
theorem dX11_cooler_20 : decode cX11_cooler 20 = .ok (.iload_n 2, 1) := by decide +kernel
theorem dX11_cooler_21 : decode cX11_cooler 21 = .ok (.bastore, 1) := by decide +kernel
theorem dX11_cooler_22 : decode cX11_cooler 22 = .ok (.aload_n 0, 1) := by decide +kernel
theorem dX11_cooler_23 : decode cX11_cooler 23 = .ok (.iconst 1, 1) := by decide +kernel
theorem dX11_cooler_24 : decode cX11_cooler 24 = .ok (.putfield 60, 3) := by decide +kernel
theorem dX11_cooler_27 : decode cX11_cooler 27 = .ok (.iconst 1, 1) := by decide +kernel
theorem dX11_cooler_28 : decode cX11_cooler 28 = .ok (.ireturn, 1) := by decide +kernel
set_option maxHeartbeats 4000000 in
set_option maxRecDepth 20000 in
theorem c_X11_cooler (l : Launch) (b : Nat) (D : va_G) (cy : Nat → ClassId) {tt : Nat} {M : xMm} {s z : Int} (hs : inR s) (hz : z = 0 ∨ z = 1) : xC l b D cy yX11_cooler cX11_cooler 3 (some .boolean) ({ frames := 0, cells := 0, slots := 0, locals := 0 }) [xr 1, xi s, xi z] 209 M (RS tt) (xPi 209 (RS tt) (fun r M' => ((0 ≤ s ∧ s < 10) ∧ r = 1 ∧ M' = mu (mu M 59 s.toNat z) 1 7 1) ∨ (¬ (0 ≤ s ∧ s < 10) ∧ r = 0 ∧ M' = M))) := by
  refine x_met (by decide) (Nat.le_of_ble_eq_true rfl) (fun g hg hr he => ?_)
  refine x_canon (ls' := [(0, _), (1, _), (2, _)]) rfl ?_
  refine x_iload_n hg dX11_cooler_0 rfl ?_
  refine x_if_lt (tgt := 10) hg dX11_cooler_1 (by decide) (by omega) (fun c1 => ?_) (fun c1 => ?_)
  · skip
    refine x_iconst hg dX11_cooler_10 ?_
    refine x_iret hg hr (Or.inr ⟨rfl, by first | exact Or.inl rfl | exact Or.inr rfl | omega⟩) dX11_cooler_11 (Nat.le_refl _) (Nat.le_refl _) ?_
    refine ⟨rfl, rfl, _, rfl, ?_⟩
    first | exact Or.inl ⟨by omega, rfl, rfl⟩ | exact Or.inr ⟨by omega, rfl, rfl⟩
  · skip
    refine x_iload_n hg dX11_cooler_4 rfl ?_
    refine x_bipush hg dX11_cooler_5 (by decide) ?_
    refine x_icmp_lt (tgt := 12) hg dX11_cooler_7 (by decide) (by omega) (by omega) (fun c7 => ?_) (fun c7 => ?_)
    · skip
      refine x_aload_n hg dX11_cooler_12 rfl ?_
      refine x_getR (j9 := 57) hg dX11_cooler_13 fl_X11_38 (by decide) rfl rfl (by decide) ?_
      refine x_getR (j9 := 59) hg dX11_cooler_16 fl_X11_154 (by decide) rfl rfl (by decide) ?_
      refine x_iload_n hg dX11_cooler_19 rfl ?_
      refine x_iload_n hg dX11_cooler_20 rfl ?_
      refine x_zastore (len := 10) hg dX11_cooler_21 (by decide) (by omega) (by omega) ?_
      refine x_aload_n hg dX11_cooler_22 rfl ?_
      refine x_iconst hg dX11_cooler_23 ?_
      refine x_putZ hg dX11_cooler_24 fl_X11_60 ft_11_7 (by decide) rfl (by first | exact Or.inl rfl | exact Or.inr rfl | omega) ?_
      refine x_iconst hg dX11_cooler_27 ?_
      refine x_iret hg hr (Or.inr ⟨rfl, by first | exact Or.inl rfl | exact Or.inr rfl | omega⟩) dX11_cooler_28 (Nat.le_refl _) (Nat.le_refl _) ?_
      refine ⟨rfl, rfl, _, rfl, ?_⟩
      first | exact Or.inl ⟨by omega, rfl, rfl⟩ | exact Or.inr ⟨by omega, rfl, rfl⟩
    · skip
      refine x_iconst hg dX11_cooler_10 ?_
      refine x_iret hg hr (Or.inr ⟨rfl, by first | exact Or.inl rfl | exact Or.inr rfl | omega⟩) dX11_cooler_11 (Nat.le_refl _) (Nat.le_refl _) ?_
      refine ⟨rfl, rfl, _, rfl, ?_⟩
      first | exact Or.inl ⟨by omega, rfl, rfl⟩ | exact Or.inr ⟨by omega, rfl, rfl⟩

theorem dX6_hasRoomFor_0 : decode cX6_hasRoomFor 0 = .ok (.iload_n 1, 1) := by decide +kernel
theorem dX6_hasRoomFor_1 : decode cX6_hasRoomFor 1 = .ok (.sipush 1000, 3) := by decide +kernel
theorem dX6_hasRoomFor_4 : decode cX6_hasRoomFor 4 = .ok (.aload_n 0, 1) := by decide +kernel
theorem dX6_hasRoomFor_5 : decode cX6_hasRoomFor 5 = .ok (.getfield 9, 3) := by decide +kernel
theorem dX6_hasRoomFor_8 : decode cX6_hasRoomFor 8 = .ok (.isub, 1) := by decide +kernel
theorem dX6_hasRoomFor_9 : decode cX6_hasRoomFor 9 = .ok (.if_icmp .gt 7, 3) := by decide +kernel
theorem dX6_hasRoomFor_12 : decode cX6_hasRoomFor 12 = .ok (.iconst 1, 1) := by decide +kernel
theorem dX6_hasRoomFor_13 : decode cX6_hasRoomFor 13 = .ok (.goto 4, 3) := by decide +kernel
theorem dX6_hasRoomFor_16 : decode cX6_hasRoomFor 16 = .ok (.iconst 0, 1) := by decide +kernel
theorem dX6_hasRoomFor_17 : decode cX6_hasRoomFor 17 = .ok (.ireturn, 1) := by decide +kernel
set_option maxHeartbeats 4000000 in
set_option maxRecDepth 20000 in
theorem c_X6_hasRoomFor (l : Launch) (b : Nat) (D : va_G) (cy : Nat → ClassId) {tt : Nat} {M : xMm} {i : Nat} {z : Int} (ho : xO 209 i 6) (hz : inR z) (hM : 0 ≤ M i 0 ∧ M i 0 ≤ 1000) : xC l b D cy yX6_hasRoomFor cX6_hasRoomFor 2 (some .boolean) ({ frames := 0, cells := 0, slots := 0, locals := 0 }) [xr i, xi z] 209 M (RS tt) (xPi 209 (RS tt) (fun r M' => M' = M ∧ (z ≤ 1000 - M i 0 ∧ r = 1 ∨ ¬ z ≤ 1000 - M i 0 ∧ r = 0))) := by
  refine x_met (by decide) (Nat.le_of_ble_eq_true rfl) (fun g hg hr he => ?_)
  refine x_canon (ls' := [(0, _), (1, _)]) rfl ?_
  refine x_iload_n hg dX6_hasRoomFor_0 rfl ?_
  refine x_sipush hg dX6_hasRoomFor_1 (by decide) ?_
  refine x_aload_n hg dX6_hasRoomFor_4 rfl ?_
  refine x_getI hg dX6_hasRoomFor_5 fl_X6_9 ho rfl ?_
  refine x_isub hg dX6_hasRoomFor_8 ?_
  refine x_icmp_gt (tgt := 16) hg dX6_hasRoomFor_9 (by decide) (by omega) (by omega) (fun c9 => ?_) (fun c9 => ?_)
  · skip
    refine x_iconst hg dX6_hasRoomFor_16 ?_
    refine x_iret hg hr (Or.inr ⟨rfl, by first | exact Or.inl rfl | exact Or.inr rfl | omega⟩) dX6_hasRoomFor_17 (Nat.le_refl _) (Nat.le_refl _) ?_
    exact ⟨rfl, rfl, _, rfl, rfl, by omega⟩
  · skip
    refine x_iconst hg dX6_hasRoomFor_12 ?_
    refine x_goto (tgt := 17) hg dX6_hasRoomFor_13 (by decide) ?_
    refine x_iret hg hr (Or.inr ⟨rfl, by first | exact Or.inl rfl | exact Or.inr rfl | omega⟩) dX6_hasRoomFor_17 (Nat.le_refl _) (Nat.le_refl _) ?_
    exact ⟨rfl, rfl, _, rfl, rfl, by omega⟩

theorem dX6_canGive_0 : decode cX6_canGive 0 = .ok (.iload_n 1, 1) := by decide +kernel
theorem dX6_canGive_1 : decode cX6_canGive 1 = .ok (.iconst 1, 1) := by decide +kernel
theorem dX6_canGive_2 : decode cX6_canGive 2 = .ok (.if_icmp .lt 15, 3) := by decide +kernel
theorem dX6_canGive_5 : decode cX6_canGive 5 = .ok (.iload_n 1, 1) := by decide +kernel
theorem dX6_canGive_6 : decode cX6_canGive 6 = .ok (.aload_n 0, 1) := by decide +kernel
theorem dX6_canGive_7 : decode cX6_canGive 7 = .ok (.getfield 9, 3) := by decide +kernel
theorem dX6_canGive_10 : decode cX6_canGive 10 = .ok (.if_icmp .gt 7, 3) := by decide +kernel
theorem dX6_canGive_13 : decode cX6_canGive 13 = .ok (.iconst 1, 1) := by decide +kernel
theorem dX6_canGive_14 : decode cX6_canGive 14 = .ok (.goto 4, 3) := by decide +kernel
theorem dX6_canGive_17 : decode cX6_canGive 17 = .ok (.iconst 0, 1) := by decide +kernel
theorem dX6_canGive_18 : decode cX6_canGive 18 = .ok (.ireturn, 1) := by decide +kernel
set_option maxHeartbeats 4000000 in
set_option maxRecDepth 20000 in
theorem c_X6_canGive (l : Launch) (b : Nat) (D : va_G) (cy : Nat → ClassId) {tt : Nat} {M : xMm} {i : Nat} {z : Int} (ho : xO 209 i 6) (hz : inR z) (hM : 0 ≤ M i 0 ∧ M i 0 ≤ 1000) : xC l b D cy yX6_canGive cX6_canGive 2 (some .boolean) ({ frames := 0, cells := 0, slots := 0, locals := 0 }) [xr i, xi z] 209 M (RS tt) (xPi 209 (RS tt) (fun r M' => M' = M ∧ ((1 ≤ z ∧ z ≤ M i 0) ∧ r = 1 ∨ ¬ (1 ≤ z ∧ z ≤ M i 0) ∧ r = 0))) := by
  refine x_met (by decide) (Nat.le_of_ble_eq_true rfl) (fun g hg hr he => ?_)
  refine x_canon (ls' := [(0, _), (1, _)]) rfl ?_
  refine x_iload_n hg dX6_canGive_0 rfl ?_
  refine x_iconst hg dX6_canGive_1 ?_
  refine x_icmp_lt (tgt := 17) hg dX6_canGive_2 (by decide) (by omega) (by omega) (fun c2 => ?_) (fun c2 => ?_)
  · skip
    refine x_iconst hg dX6_canGive_17 ?_
    refine x_iret hg hr (Or.inr ⟨rfl, by first | exact Or.inl rfl | exact Or.inr rfl | omega⟩) dX6_canGive_18 (Nat.le_refl _) (Nat.le_refl _) ?_
    exact ⟨rfl, rfl, _, rfl, rfl, by omega⟩
  · skip
    refine x_iload_n hg dX6_canGive_5 rfl ?_
    refine x_aload_n hg dX6_canGive_6 rfl ?_
    refine x_getI hg dX6_canGive_7 fl_X6_9 ho rfl ?_
    refine x_icmp_gt (tgt := 17) hg dX6_canGive_10 (by decide) (by omega) (by omega) (fun c10 => ?_) (fun c10 => ?_)
    · skip
      refine x_iconst hg dX6_canGive_17 ?_
      refine x_iret hg hr (Or.inr ⟨rfl, by first | exact Or.inl rfl | exact Or.inr rfl | omega⟩) dX6_canGive_18 (Nat.le_refl _) (Nat.le_refl _) ?_
      exact ⟨rfl, rfl, _, rfl, rfl, by omega⟩
    · skip
      refine x_iconst hg dX6_canGive_13 ?_
      refine x_goto (tgt := 18) hg dX6_canGive_14 (by decide) ?_
      refine x_iret hg hr (Or.inr ⟨rfl, by first | exact Or.inl rfl | exact Or.inr rfl | omega⟩) dX6_canGive_18 (Nat.le_refl _) (Nat.le_refl _) ?_
      exact ⟨rfl, rfl, _, rfl, rfl, by omega⟩

theorem dX6_fill_0 : decode cX6_fill 0 = .ok (.aload_n 0, 1) := by decide +kernel
theorem dX6_fill_1 : decode cX6_fill 1 = .ok (.dup, 1) := by decide +kernel
theorem dX6_fill_2 : decode cX6_fill 2 = .ok (.getfield 9, 3) := by decide +kernel
theorem dX6_fill_5 : decode cX6_fill 5 = .ok (.iload_n 1, 1) := by decide +kernel
theorem dX6_fill_6 : decode cX6_fill 6 = .ok (.iadd, 1) := by decide +kernel
theorem dX6_fill_7 : decode cX6_fill 7 = .ok (.putfield 9, 3) := by decide +kernel
theorem dX6_fill_10 : decode cX6_fill 10 = .ok (.aload_n 0, 1) := by decide +kernel
theorem dX6_fill_11 : decode cX6_fill 11 = .ok (.dup, 1) := by decide +kernel
theorem dX6_fill_12 : decode cX6_fill 12 = .ok (.getfield 15, 3) := by decide +kernel
theorem dX6_fill_15 : decode cX6_fill 15 = .ok (.iload_n 2, 1) := by decide +kernel
theorem dX6_fill_16 : decode cX6_fill 16 = .ok (.ior, 1) := by decide +kernel
theorem dX6_fill_17 : decode cX6_fill 17 = .ok (.putfield 15, 3) := by decide +kernel
theorem dX6_fill_20 : decode cX6_fill 20 = .ok (.return_, 1) := by decide +kernel
set_option maxHeartbeats 4000000 in
set_option maxRecDepth 20000 in
theorem c_X6_fill (l : Launch) (b : Nat) (D : va_G) (cy : Nat → ClassId) {tt : Nat} {M : xMm} {i : Nat} {z f : Int} (ho : xO 209 i 6) : xC l b D cy yX6_fill cX6_fill 3 none ({ frames := 0, cells := 0, slots := 0, locals := 0 }) [xr i, xi z, xi f] 209 M (RS tt) (xPv 209 (RS tt) (fun M' => M' = mu (mu M i 0 (M i 0 + z)) i 1 (bOr (M i 1) f))) := by
  refine x_met (by decide) (Nat.le_of_ble_eq_true rfl) (fun g hg hr he => ?_)
  refine x_canon (ls' := [(0, _), (1, _), (2, _)]) rfl ?_
  refine x_aload_n hg dX6_fill_0 rfl ?_
  refine x_dup hg dX6_fill_1 rfl ?_
  refine x_getI hg dX6_fill_2 fl_X6_9 ho rfl ?_
  refine x_iload_n hg dX6_fill_5 rfl ?_
  refine x_iadd hg dX6_fill_6 ?_
  refine x_putI hg dX6_fill_7 fl_X6_9 ft_6_0 ho rfl ?_
  refine x_aload_n hg dX6_fill_10 rfl ?_
  refine x_dup hg dX6_fill_11 rfl ?_
  refine x_getI hg dX6_fill_12 fl_X6_15 ho rfl ?_
  try simp (disch := omega) only [mu_s, mu_nf, mu_nc]
  refine x_iload_n hg dX6_fill_15 rfl ?_
  refine x_ior hg dX6_fill_16 ?_
  refine x_putI hg dX6_fill_17 fl_X6_15 ft_6_1 ho rfl ?_
  refine x_vret hg hr dX6_fill_20 (Nat.le_refl _) (Nat.le_refl _) ?_
  exact ⟨rfl, rfl, rfl, rfl⟩

theorem dX6_draw_0 : decode cX6_draw 0 = .ok (.aload_n 0, 1) := by decide +kernel
theorem dX6_draw_1 : decode cX6_draw 1 = .ok (.dup, 1) := by decide +kernel
theorem dX6_draw_2 : decode cX6_draw 2 = .ok (.getfield 9, 3) := by decide +kernel
theorem dX6_draw_5 : decode cX6_draw 5 = .ok (.iload_n 1, 1) := by decide +kernel
theorem dX6_draw_6 : decode cX6_draw 6 = .ok (.isub, 1) := by decide +kernel
theorem dX6_draw_7 : decode cX6_draw 7 = .ok (.putfield 9, 3) := by decide +kernel
theorem dX6_draw_10 : decode cX6_draw 10 = .ok (.aload_n 0, 1) := by decide +kernel
theorem dX6_draw_11 : decode cX6_draw 11 = .ok (.getfield 9, 3) := by decide +kernel
theorem dX6_draw_14 : decode cX6_draw 14 = .ok (.ifCond .ne 8, 3) := by decide +kernel
theorem dX6_draw_17 : decode cX6_draw 17 = .ok (.aload_n 0, 1) := by decide +kernel
theorem dX6_draw_18 : decode cX6_draw 18 = .ok (.iconst 0, 1) := by decide +kernel
theorem dX6_draw_19 : decode cX6_draw 19 = .ok (.putfield 15, 3) := by decide +kernel
theorem dX6_draw_22 : decode cX6_draw 22 = .ok (.return_, 1) := by decide +kernel
set_option maxHeartbeats 4000000 in
set_option maxRecDepth 20000 in
theorem c_X6_draw (l : Launch) (b : Nat) (D : va_G) (cy : Nat → ClassId) {tt : Nat} {M : xMm} {i : Nat} {z : Int} (ho : xO 209 i 6) (hz : 0 ≤ z ∧ z ≤ M i 0) (hM : M i 0 ≤ 1000) : xC l b D cy yX6_draw cX6_draw 2 none ({ frames := 0, cells := 0, slots := 0, locals := 0 }) [xr i, xi z] 209 M (RS tt) (xPv 209 (RS tt) (fun M' => M' = if M i 0 - z = 0 then mu (mu M i 0 (M i 0 - z)) i 1 0 else mu M i 0 (M i 0 - z))) := by
  refine x_met (by decide) (Nat.le_of_ble_eq_true rfl) (fun g hg hr he => ?_)
  refine x_canon (ls' := [(0, _), (1, _)]) rfl ?_
  refine x_aload_n hg dX6_draw_0 rfl ?_
  refine x_dup hg dX6_draw_1 rfl ?_
  refine x_getI hg dX6_draw_2 fl_X6_9 ho rfl ?_
  refine x_iload_n hg dX6_draw_5 rfl ?_
  refine x_isub hg dX6_draw_6 ?_
  refine x_putI hg dX6_draw_7 fl_X6_9 ft_6_0 ho rfl ?_
  refine x_aload_n hg dX6_draw_10 rfl ?_
  refine x_getI hg dX6_draw_11 fl_X6_9 ho rfl ?_
  try simp (disch := omega) only [mu_s, mu_nf, mu_nc]
  refine x_if_ne (tgt := 22) hg dX6_draw_14 (by decide) (by first | omega | (simp [mu_s, mu_nf, mu_nc]; omega)) (fun c14 => ?_) (fun c14 => ?_)
  · skip
    refine x_vret hg hr dX6_draw_22 (Nat.le_refl _) (Nat.le_refl _) ?_
    refine ⟨rfl, rfl, rfl, ?_⟩
    first | rw [if_pos (by omega)] | rw [if_neg (by omega)]
  · skip
    refine x_aload_n hg dX6_draw_17 rfl ?_
    refine x_iconst hg dX6_draw_18 ?_
    refine x_putI hg dX6_draw_19 fl_X6_15 ft_6_1 ho rfl ?_
    refine x_vret hg hr dX6_draw_22 (Nat.le_refl _) (Nat.le_refl _) ?_
    refine ⟨rfl, rfl, rfl, ?_⟩
    first | rw [if_pos (by omega)] | rw [if_neg (by omega)]

theorem dX3_isKnownAt_0 : decode cX3_isKnownAt 0 = .ok (.aload_n 0, 1) := by decide +kernel
theorem dX3_isKnownAt_1 : decode cX3_isKnownAt 1 = .ok (.getfield 15, 3) := by decide +kernel
theorem dX3_isKnownAt_4 : decode cX3_isKnownAt 4 = .ok (.iload_n 1, 1) := by decide +kernel
theorem dX3_isKnownAt_5 : decode cX3_isKnownAt 5 = .ok (.if_icmp .gt 23, 3) := by decide +kernel
theorem dX3_isKnownAt_8 : decode cX3_isKnownAt 8 = .ok (.aload_n 0, 1) := by decide +kernel
theorem dX3_isKnownAt_9 : decode cX3_isKnownAt 9 = .ok (.getfield 9, 3) := by decide +kernel
theorem dX3_isKnownAt_12 : decode cX3_isKnownAt 12 = .ok (.iconst (-1), 1) := by decide +kernel
theorem dX3_isKnownAt_13 : decode cX3_isKnownAt 13 = .ok (.if_icmp .eq 11, 3) := by decide +kernel
theorem dX3_isKnownAt_16 : decode cX3_isKnownAt 16 = .ok (.aload_n 0, 1) := by decide +kernel
theorem dX3_isKnownAt_17 : decode cX3_isKnownAt 17 = .ok (.getfield 9, 3) := by decide +kernel
theorem dX3_isKnownAt_20 : decode cX3_isKnownAt 20 = .ok (.iload_n 1, 1) := by decide +kernel
theorem dX3_isKnownAt_21 : decode cX3_isKnownAt 21 = .ok (.if_icmp .le 7, 3) := by decide +kernel
theorem dX3_isKnownAt_24 : decode cX3_isKnownAt 24 = .ok (.iconst 1, 1) := by decide +kernel
theorem dX3_isKnownAt_25 : decode cX3_isKnownAt 25 = .ok (.goto 4, 3) := by decide +kernel
theorem dX3_isKnownAt_28 : decode cX3_isKnownAt 28 = .ok (.iconst 0, 1) := by decide +kernel
theorem dX3_isKnownAt_29 : decode cX3_isKnownAt 29 = .ok (.ireturn, 1) := by decide +kernel
set_option maxHeartbeats 4000000 in
set_option maxRecDepth 20000 in
theorem c_X3_isKnownAt (l : Launch) (b : Nat) (D : va_G) (cy : Nat → ClassId) {tt : Nat} {M : xMm} {i : Nat} {k : Int} (ho : xO 209 i 3) (hk : inR k) (h2 : inR (M i 2)) (h3 : inR (M i 3)) : xC l b D cy yX3_isKnownAt cX3_isKnownAt 2 (some .boolean) ({ frames := 0, cells := 0, slots := 0, locals := 0 }) [xr i, xi k] 209 M (RS tt) (xPi 209 (RS tt) (fun r M' => M' = M ∧ ((M i 2 ≤ k ∧ (M i 3 = -1 ∨ k < M i 3)) ∧ r = 1 ∨ ¬ (M i 2 ≤ k ∧ (M i 3 = -1 ∨ k < M i 3)) ∧ r = 0))) := by
  refine x_met (by decide) (Nat.le_of_ble_eq_true rfl) (fun g hg hr he => ?_)
  refine x_canon (ls' := [(0, _), (1, _)]) rfl ?_
  refine x_aload_n hg dX3_isKnownAt_0 rfl ?_
  refine x_getI hg dX3_isKnownAt_1 fl_X3_15 ho rfl ?_
  refine x_iload_n hg dX3_isKnownAt_4 rfl ?_
  refine x_icmp_gt (tgt := 28) hg dX3_isKnownAt_5 (by decide) (by omega) (by omega) (fun c5 => ?_) (fun c5 => ?_)
  · skip
    refine x_iconst hg dX3_isKnownAt_28 ?_
    refine x_iret hg hr (Or.inr ⟨rfl, by first | exact Or.inl rfl | exact Or.inr rfl | omega⟩) dX3_isKnownAt_29 (Nat.le_refl _) (Nat.le_refl _) ?_
    exact ⟨rfl, rfl, _, rfl, rfl, by omega⟩
  · skip
    refine x_aload_n hg dX3_isKnownAt_8 rfl ?_
    refine x_getI hg dX3_isKnownAt_9 fl_X3_9 ho rfl ?_
    refine x_iconst hg dX3_isKnownAt_12 ?_
    refine x_icmp_eq (tgt := 24) hg dX3_isKnownAt_13 (by decide) (by omega) (by omega) (fun c13 => ?_) (fun c13 => ?_)
    · skip
      refine x_iconst hg dX3_isKnownAt_24 ?_
      refine x_goto (tgt := 29) hg dX3_isKnownAt_25 (by decide) ?_
      refine x_iret hg hr (Or.inr ⟨rfl, by first | exact Or.inl rfl | exact Or.inr rfl | omega⟩) dX3_isKnownAt_29 (Nat.le_refl _) (Nat.le_refl _) ?_
      exact ⟨rfl, rfl, _, rfl, rfl, by omega⟩
    · skip
      refine x_aload_n hg dX3_isKnownAt_16 rfl ?_
      refine x_getI hg dX3_isKnownAt_17 fl_X3_9 ho rfl ?_
      refine x_iload_n hg dX3_isKnownAt_20 rfl ?_
      refine x_icmp_le (tgt := 28) hg dX3_isKnownAt_21 (by decide) (by omega) (by omega) (fun c21 => ?_) (fun c21 => ?_)
      · skip
        refine x_iconst hg dX3_isKnownAt_28 ?_
        refine x_iret hg hr (Or.inr ⟨rfl, by first | exact Or.inl rfl | exact Or.inr rfl | omega⟩) dX3_isKnownAt_29 (Nat.le_refl _) (Nat.le_refl _) ?_
        exact ⟨rfl, rfl, _, rfl, rfl, by omega⟩
      · skip
        refine x_iconst hg dX3_isKnownAt_24 ?_
        refine x_goto (tgt := 29) hg dX3_isKnownAt_25 (by decide) ?_
        refine x_iret hg hr (Or.inr ⟨rfl, by first | exact Or.inl rfl | exact Or.inr rfl | omega⟩) dX3_isKnownAt_29 (Nat.le_refl _) (Nat.le_refl _) ?_
        exact ⟨rfl, rfl, _, rfl, rfl, by omega⟩

theorem dX3_concerns_0 : decode cX3_concerns 0 = .ok (.aload_n 1, 1) := by decide +kernel
theorem dX3_concerns_1 : decode cX3_concerns 1 = .ok (.getfield 18, 3) := by decide +kernel
theorem dX3_concerns_4 : decode cX3_concerns 4 = .ok (.aload_n 0, 1) := by decide +kernel
theorem dX3_concerns_5 : decode cX3_concerns 5 = .ok (.getfield 23, 3) := by decide +kernel
theorem dX3_concerns_8 : decode cX3_concerns 8 = .ok (.if_icmp .lt 21, 3) := by decide +kernel
theorem dX3_concerns_11 : decode cX3_concerns 11 = .ok (.aload_n 1, 1) := by decide +kernel
theorem dX3_concerns_12 : decode cX3_concerns 12 = .ok (.getfield 26, 3) := by decide +kernel
theorem dX3_concerns_15 : decode cX3_concerns 15 = .ok (.iconst 1, 1) := by decide +kernel
theorem dX3_concerns_16 : decode cX3_concerns 16 = .ok (.aload_n 0, 1) := by decide +kernel
theorem dX3_concerns_17 : decode cX3_concerns 17 = .ok (.getfield 29, 3) := by decide +kernel
theorem dX3_concerns_20 : decode cX3_concerns 20 = .ok (.ishl, 1) := by decide +kernel
theorem dX3_concerns_21 : decode cX3_concerns 21 = .ok (.iand, 1) := by decide +kernel
theorem dX3_concerns_22 : decode cX3_concerns 22 = .ok (.ifCond .eq 7, 3) := by decide +kernel
theorem dX3_concerns_25 : decode cX3_concerns 25 = .ok (.iconst 1, 1) := by decide +kernel
theorem dX3_concerns_26 : decode cX3_concerns 26 = .ok (.goto 4, 3) := by decide +kernel
theorem dX3_concerns_29 : decode cX3_concerns 29 = .ok (.iconst 0, 1) := by decide +kernel
theorem dX3_concerns_30 : decode cX3_concerns 30 = .ok (.ireturn, 1) := by decide +kernel
set_option maxHeartbeats 4000000 in
set_option maxRecDepth 20000 in
theorem c_X3_concerns (l : Launch) (b : Nat) (D : va_G) (cy : Nat → ClassId) {tt : Nat} {M : xMm} {i j : Nat} (ho : xO 209 i 3) (hb : xO 209 j 0) (h1 : inR (M i 1)) (h2 : inR (M j 2)) : xC l b D cy yX3_concerns cX3_concerns 2 (some .boolean) ({ frames := 0, cells := 0, slots := 0, locals := 0 }) [xr i, xr j] 209 M (RS tt) (xPi 209 (RS tt) (fun r M' => M' = M ∧ ((M i 1 ≤ M j 2 ∧ bAnd (M j 1) (bShl 1 (M i 0)) ≠ 0) ∧ r = 1 ∨ ¬ (M i 1 ≤ M j 2 ∧ bAnd (M j 1) (bShl 1 (M i 0)) ≠ 0) ∧ r = 0))) := by
  refine x_met (by decide) (Nat.le_of_ble_eq_true rfl) (fun g hg hr he => ?_)
  refine x_canon (ls' := [(0, _), (1, _)]) rfl ?_
  refine x_aload_n hg dX3_concerns_0 rfl ?_
  refine x_getI hg dX3_concerns_1 fl_X3_18 hb rfl ?_
  refine x_aload_n hg dX3_concerns_4 rfl ?_
  refine x_getI hg dX3_concerns_5 fl_X3_23 ho rfl ?_
  refine x_icmp_lt (tgt := 29) hg dX3_concerns_8 (by decide) (by omega) (by omega) (fun c8 => ?_) (fun c8 => ?_)
  · skip
    refine x_iconst hg dX3_concerns_29 ?_
    refine x_iret hg hr (Or.inr ⟨rfl, by first | exact Or.inl rfl | exact Or.inr rfl | omega⟩) dX3_concerns_30 (Nat.le_refl _) (Nat.le_refl _) ?_
    exact ⟨rfl, rfl, _, rfl, rfl, by omega⟩
  · skip
    refine x_aload_n hg dX3_concerns_11 rfl ?_
    refine x_getI hg dX3_concerns_12 fl_X3_26 hb rfl ?_
    refine x_iconst hg dX3_concerns_15 ?_
    refine x_aload_n hg dX3_concerns_16 rfl ?_
    refine x_getI hg dX3_concerns_17 fl_X3_29 ho rfl ?_
    refine x_ishl hg dX3_concerns_20 ?_
    refine x_iand hg dX3_concerns_21 ?_
    refine x_if_eq (tgt := 29) hg dX3_concerns_22 (by decide) (by exact xt_int _) (fun c22 => ?_) (fun c22 => ?_)
    · skip
      refine x_iconst hg dX3_concerns_29 ?_
      refine x_iret hg hr (Or.inr ⟨rfl, by first | exact Or.inl rfl | exact Or.inr rfl | omega⟩) dX3_concerns_30 (Nat.le_refl _) (Nat.le_refl _) ?_
      exact ⟨rfl, rfl, _, rfl, rfl, by omega⟩
    · skip
      refine x_iconst hg dX3_concerns_25 ?_
      refine x_goto (tgt := 30) hg dX3_concerns_26 (by decide) ?_
      refine x_iret hg hr (Or.inr ⟨rfl, by first | exact Or.inl rfl | exact Or.inr rfl | omega⟩) dX3_concerns_30 (Nat.le_refl _) (Nat.le_refl _) ?_
      exact ⟨rfl, rfl, _, rfl, rfl, by omega⟩
end
section
theorem dX11_of_0 : decode cX11_of 0 = .ok (.aload_n 0, 1) := by decide +kernel
theorem dX11_of_1 : decode cX11_of 1 = .ok (.iload_n 1, 1) := by decide +kernel
theorem dX11_of_2 : decode cX11_of 2 = .ok (.invokevirtual 177, 3) := by decide +kernel
theorem dX11_of_5 : decode cX11_of 5 = .ok (.ifCond .ne 5, 3) := by decide +kernel
theorem dX11_of_8 : decode cX11_of 8 = .ok (.iconst (-1), 1) := by decide +kernel
theorem dX11_of_9 : decode cX11_of 9 = .ok (.ireturn, 1) := by decide +kernel
theorem dX11_of_10 : decode cX11_of 10 = .ok (.aload_n 0, 1) := by decide +kernel
theorem dX11_of_11 : decode cX11_of 11 = .ok (.getfield 70, 3) := by decide +kernel
theorem dX11_of_14 : decode cX11_of 14 = .ok (.iload_n 1, 1) := by decide +kernel
theorem dX11_of_15 : decode cX11_of 15 = .ok (.aaload, 1) := by decide +kernel
theorem dX11_of_16 : decode cX11_of 16 = .ok (.astore_n 3, 1) := by decide +kernel
theorem dX11_of_17 : decode cX11_of 17 = .ok (.iload_n 2, 1) := by decide +kernel
theorem dX11_of_18 : decode cX11_of 18 = .ok (.tableswitch 59 0 4 #[34, 39, 44, 49, 54], 34) := by decide +kernel
theorem dX11_of_52 : decode cX11_of 52 = .ok (.aload_n 3, 1) := by decide +kernel
theorem dX11_of_53 : decode cX11_of 53 = .ok (.getfield 165, 3) := by decide +kernel
theorem dX11_of_56 : decode cX11_of 56 = .ok (.ireturn, 1) := by decide +kernel
theorem dX11_of_57 : decode cX11_of 57 = .ok (.aload_n 3, 1) := by decide +kernel
theorem dX11_of_58 : decode cX11_of 58 = .ok (.getfield 168, 3) := by decide +kernel
theorem dX11_of_61 : decode cX11_of 61 = .ok (.ireturn, 1) := by decide +kernel
theorem dX11_of_62 : decode cX11_of 62 = .ok (.aload_n 3, 1) := by decide +kernel
theorem dX11_of_63 : decode cX11_of 63 = .ok (.getfield 171, 3) := by decide +kernel
theorem dX11_of_66 : decode cX11_of 66 = .ok (.ireturn, 1) := by decide +kernel
theorem dX11_of_67 : decode cX11_of 67 = .ok (.aload_n 3, 1) := by decide +kernel
theorem dX11_of_68 : decode cX11_of 68 = .ok (.getfield 174, 3) := by decide +kernel
theorem dX11_of_71 : decode cX11_of 71 = .ok (.ireturn, 1) := by decide +kernel
theorem dX11_of_72 : decode cX11_of 72 = .ok (.aload_n 3, 1) := by decide +kernel
theorem dX11_of_73 : decode cX11_of 73 = .ok (.getfield 180, 3) := by decide +kernel
theorem dX11_of_76 : decode cX11_of 76 = .ok (.ireturn, 1) := by decide +kernel
theorem dX11_of_77 : decode cX11_of 77 = .ok (.iconst (-1), 1) := by decide +kernel
theorem dX11_of_78 : decode cX11_of 78 = .ok (.ireturn, 1) := by decide +kernel
set_option maxHeartbeats 4000000 in
set_option maxRecDepth 20000 in
theorem c_X11_of (l : Launch) (b : Nat) (D : va_G) (cy : Nat → ClassId) {tt : Nat} {M : xMm} {z w : Int} (hI : IO M) (hz : inR z) (hw : inR w) : xC l b D cy yX11_of cX11_of 4 (some .int) ({ frames := 1, cells := 0, slots := 0, locals := 21 }) [xr 1, xi z, xi w] 209 M (RS tt) (xPi 209 (RS tt) (fun r M' => M' = M ∧ r = vOf M z w)) := by
  refine x_met (by decide) (Nat.le_of_ble_eq_true rfl) (fun g hg hr he => ?_)
  obtain ⟨hn10, hn13, hn15, hn16, hn8, hn7, hC, hT, hB, hF⟩ := hI
  refine x_canon (ls' := [(0, _), (1, _), (2, _)]) rfl ?_
  refine x_aload_n hg dX11_of_0 rfl ?_
  refine x_iload_n hg dX11_of_1 rfl ?_
  refine x_cVi hg he [_] [] dX11_of_2 mv_X11_177 (c_X11_isChurn l b D cy (by omega) (by omega)) (by decide) rfl rfl (Nat.le_of_ble_eq_true rfl) (by decide) (by decide) (fun r2 M2 q2 => ?_)
  obtain ⟨h2, e2⟩ := q2
  replace h2 := h2.symm
  subst h2
  refine x_if_ne (tgt := 10) hg dX11_of_5 (by decide) (by omega) (fun c5 => ?_) (fun c5 => ?_)
  · skip
    refine x_aload_n hg dX11_of_10 rfl ?_
    refine x_getR (j9 := 84) hg dX11_of_11 fl_X11_70 (by decide) rfl rfl (by decide) ?_
    refine x_iload_n hg dX11_of_14 rfl ?_
    refine x_aaload (len := 10) (et := 5) hg dX11_of_15 (by decide) (by decide) (by omega) (RS_churn _ _) (by omega) ?_
    refine x_astore_n (ls' := [(0, _), (1, _), (2, _), (3, _)]) hg dX11_of_16 rfl (by decide) rfl ?_
    refine x_iload_n hg dX11_of_17 rfl ?_
    refine x_int_cases 0 4 (fun hsw18 => ?_) (fun h1sw18 h2sw18 => ?_)
    · refine x_tableOut (tgt := 77) hg dX11_of_18 (by omega) hsw18 (by decide) ?_
      refine x_iconst hg dX11_of_77 ?_
      refine x_iret hg hr (Or.inl rfl) dX11_of_78 (Nat.le_refl _) (Nat.le_refl _) ?_
      refine ⟨rfl, rfl, _, rfl, rfl, ?_⟩
      unfold vOf
      repeat (first | rw [if_pos (by omega)] | rw [if_neg (by omega)])
    · refine x_sw5 h1sw18 h2sw18 (fun e18 => ?_) (fun e18 => ?_) (fun e18 => ?_) (fun e18 => ?_) (fun e18 => ?_)
      · refine x_tableIn (off := 34) (tgt := 52) hg dX11_of_18 (by omega) h1sw18 h2sw18 (by rw [e18]; rfl) (by decide) ?_
        refine x_aload_n hg dX11_of_52 rfl ?_
        refine x_getI hg dX11_of_53 fl_X11_165 (oO_churn (by omega)) rfl ?_
        refine x_iret hg hr (Or.inl rfl) dX11_of_56 (Nat.le_refl _) (Nat.le_refl _) ?_
        refine ⟨rfl, rfl, _, rfl, rfl, ?_⟩
        unfold vOf
        repeat (first | rw [if_pos (by omega)] | rw [if_neg (by omega)])
      · refine x_tableIn (off := 39) (tgt := 57) hg dX11_of_18 (by omega) h1sw18 h2sw18 (by rw [e18]; rfl) (by decide) ?_
        refine x_aload_n hg dX11_of_57 rfl ?_
        refine x_getI hg dX11_of_58 fl_X11_168 (oO_churn (by omega)) rfl ?_
        refine x_iret hg hr (Or.inl rfl) dX11_of_61 (Nat.le_refl _) (Nat.le_refl _) ?_
        refine ⟨rfl, rfl, _, rfl, rfl, ?_⟩
        unfold vOf
        repeat (first | rw [if_pos (by omega)] | rw [if_neg (by omega)])
      · refine x_tableIn (off := 44) (tgt := 62) hg dX11_of_18 (by omega) h1sw18 h2sw18 (by rw [e18]; rfl) (by decide) ?_
        refine x_aload_n hg dX11_of_62 rfl ?_
        refine x_getI hg dX11_of_63 fl_X11_171 (oO_churn (by omega)) rfl ?_
        refine x_iret hg hr (Or.inl rfl) dX11_of_66 (Nat.le_refl _) (Nat.le_refl _) ?_
        refine ⟨rfl, rfl, _, rfl, rfl, ?_⟩
        unfold vOf
        repeat (first | rw [if_pos (by omega)] | rw [if_neg (by omega)])
      · refine x_tableIn (off := 49) (tgt := 67) hg dX11_of_18 (by omega) h1sw18 h2sw18 (by rw [e18]; rfl) (by decide) ?_
        refine x_aload_n hg dX11_of_67 rfl ?_
        refine x_getI hg dX11_of_68 fl_X11_174 (oO_churn (by omega)) rfl ?_
        refine x_iret hg hr (Or.inl rfl) dX11_of_71 (Nat.le_refl _) (Nat.le_refl _) ?_
        refine ⟨rfl, rfl, _, rfl, rfl, ?_⟩
        unfold vOf
        repeat (first | rw [if_pos (by omega)] | rw [if_neg (by omega)])
      · refine x_tableIn (off := 54) (tgt := 72) hg dX11_of_18 (by omega) h1sw18 h2sw18 (by rw [e18]; rfl) (by decide) ?_
        refine x_aload_n hg dX11_of_72 rfl ?_
        refine x_getI hg dX11_of_73 fl_X11_180 (oO_churn (by omega)) rfl ?_
        refine x_iret hg hr (Or.inl rfl) dX11_of_76 (Nat.le_refl _) (Nat.le_refl _) ?_
        refine ⟨rfl, rfl, _, rfl, rfl, ?_⟩
        unfold vOf
        repeat (first | rw [if_pos (by omega)] | rw [if_neg (by omega)])
  · skip
    refine x_iconst hg dX11_of_8 ?_
    refine x_iret hg hr (Or.inl rfl) dX11_of_9 (Nat.le_refl _) (Nat.le_refl _) ?_
    refine ⟨rfl, rfl, _, rfl, rfl, ?_⟩
    unfold vOf
    repeat (first | rw [if_pos (by omega)] | rw [if_neg (by omega)])

theorem dX11_tank_0 : decode cX11_tank 0 = .ok (.iload_n 1, 1) := by decide +kernel
theorem dX11_tank_1 : decode cX11_tank 1 = .ok (.invokestatic 215, 3) := by decide +kernel
theorem dX11_tank_4 : decode cX11_tank 4 = .ok (.ifCond .ne 5, 3) := by decide +kernel
theorem dX11_tank_7 : decode cX11_tank 7 = .ok (.iconst (-1), 1) := by decide +kernel
theorem dX11_tank_8 : decode cX11_tank 8 = .ok (.ireturn, 1) := by decide +kernel
theorem dX11_tank_9 : decode cX11_tank 9 = .ok (.iload_n 2, 1) := by decide +kernel
theorem dX11_tank_10 : decode cX11_tank 10 = .ok (.lookupswitch 46 #[(0, 26), (1, 36)], 26) := by decide +kernel
theorem dX11_tank_36 : decode cX11_tank 36 = .ok (.aload_n 0, 1) := by decide +kernel
theorem dX11_tank_37 : decode cX11_tank 37 = .ok (.getfield 77, 3) := by decide +kernel
theorem dX11_tank_40 : decode cX11_tank 40 = .ok (.iload_n 1, 1) := by decide +kernel
theorem dX11_tank_41 : decode cX11_tank 41 = .ok (.aaload, 1) := by decide +kernel
theorem dX11_tank_42 : decode cX11_tank 42 = .ok (.getfield 224, 3) := by decide +kernel
theorem dX11_tank_45 : decode cX11_tank 45 = .ok (.ireturn, 1) := by decide +kernel
theorem dX11_tank_46 : decode cX11_tank 46 = .ok (.aload_n 0, 1) := by decide +kernel
theorem dX11_tank_47 : decode cX11_tank 47 = .ok (.getfield 77, 3) := by decide +kernel
theorem dX11_tank_50 : decode cX11_tank 50 = .ok (.iload_n 1, 1) := by decide +kernel
theorem dX11_tank_51 : decode cX11_tank 51 = .ok (.aaload, 1) := by decide +kernel
theorem dX11_tank_52 : decode cX11_tank 52 = .ok (.getfield 228, 3) := by decide +kernel
theorem dX11_tank_55 : decode cX11_tank 55 = .ok (.ireturn, 1) := by decide +kernel
theorem dX11_tank_56 : decode cX11_tank 56 = .ok (.iconst (-1), 1) := by decide +kernel
theorem dX11_tank_57 : decode cX11_tank 57 = .ok (.ireturn, 1) := by decide +kernel
set_option maxHeartbeats 4000000 in
set_option maxRecDepth 20000 in
theorem c_X11_tank (l : Launch) (b : Nat) (D : va_G) (cy : Nat → ClassId) {tt : Nat} {M : xMm} {z w : Int} (hI : IO M) (hz : inR z) (hw : inR w) : xC l b D cy yX11_tank cX11_tank 3 (some .int) ({ frames := 1, cells := 0, slots := 0, locals := 20 }) [xr 1, xi z, xi w] 209 M (RS tt) (xPi 209 (RS tt) (fun r M' => M' = M ∧ r = vTank M z w)) := by
  refine x_met (by decide) (Nat.le_of_ble_eq_true rfl) (fun g hg hr he => ?_)
  obtain ⟨hn10, hn13, hn15, hn16, hn8, hn7, hC, hT, hB, hF⟩ := hI
  refine x_canon (ls' := [(0, _), (1, _), (2, _)]) rfl ?_
  refine x_iload_n hg dX11_tank_0 rfl ?_
  refine x_cSi hg he [_] [] dX11_tank_1 ms_X11_215 (c_X11_isTank l b D cy (by omega)) rfl rfl (Nat.le_of_ble_eq_true rfl) (by decide) (by decide) (fun r1 M1 q1 => ?_)
  obtain ⟨h1, e1⟩ := q1
  replace h1 := h1.symm
  subst h1
  refine x_if_ne (tgt := 9) hg dX11_tank_4 (by decide) (by omega) (fun c4 => ?_) (fun c4 => ?_)
  · skip
    refine x_iload_n hg dX11_tank_9 rfl ?_
    refine x_lk2 (fun e10 => ?_) (fun e10 => ?_) (fun e10 f10 => ?_)
    · refine x_lookup (off := 26) (tgt := 36) hg dX11_tank_10 (by omega) rfl (by rw [e10]; rfl) (by decide) ?_
      refine x_aload_n hg dX11_tank_36 rfl ?_
      refine x_getR (j9 := 95) hg dX11_tank_37 fl_X11_77 (by decide) rfl rfl (by decide) ?_
      refine x_iload_n hg dX11_tank_40 rfl ?_
      refine x_aaload (len := 4) (et := 6) hg dX11_tank_41 (by decide) (by decide) (by omega) (RS_tank _ _) (by omega) ?_
      refine x_getI hg dX11_tank_42 fl_X11_224 (oO_tank (by omega)) rfl ?_
      refine x_iret hg hr (Or.inl rfl) dX11_tank_45 (Nat.le_refl _) (Nat.le_refl _) ?_
      refine ⟨rfl, rfl, _, rfl, rfl, ?_⟩
      unfold vTank
      repeat (first | rw [if_pos (by omega)] | rw [if_neg (by omega)])
    · refine x_lookup (off := 36) (tgt := 46) hg dX11_tank_10 (by omega) rfl (by rw [e10]; rfl) (by decide) ?_
      refine x_aload_n hg dX11_tank_46 rfl ?_
      refine x_getR (j9 := 95) hg dX11_tank_47 fl_X11_77 (by decide) rfl rfl (by decide) ?_
      refine x_iload_n hg dX11_tank_50 rfl ?_
      refine x_aaload (len := 4) (et := 6) hg dX11_tank_51 (by decide) (by decide) (by omega) (RS_tank _ _) (by omega) ?_
      refine x_getI hg dX11_tank_52 fl_X11_228 (oO_tank (by omega)) rfl ?_
      refine x_iret hg hr (Or.inl rfl) dX11_tank_55 (Nat.le_refl _) (Nat.le_refl _) ?_
      refine ⟨rfl, rfl, _, rfl, rfl, ?_⟩
      unfold vTank
      repeat (first | rw [if_pos (by omega)] | rw [if_neg (by omega)])
    · refine x_lookup (off := 46) (tgt := 56) hg dX11_tank_10 (by omega) rfl (by simp [Op.lookupswitch.offset, e10, f10, Ne.symm e10, Ne.symm f10]) (by decide) ?_
      refine x_iconst hg dX11_tank_56 ?_
      refine x_iret hg hr (Or.inl rfl) dX11_tank_57 (Nat.le_refl _) (Nat.le_refl _) ?_
      refine ⟨rfl, rfl, _, rfl, rfl, ?_⟩
      unfold vTank
      repeat (first | rw [if_pos (by omega)] | rw [if_neg (by omega)])
  · skip
    refine x_iconst hg dX11_tank_7 ?_
    refine x_iret hg hr (Or.inl rfl) dX11_tank_8 (Nat.le_refl _) (Nat.le_refl _) ?_
    refine ⟨rfl, rfl, _, rfl, rfl, ?_⟩
    unfold vTank
    repeat (first | rw [if_pos (by omega)] | rw [if_neg (by omega)])

theorem dX11_bottling_0 : decode cX11_bottling 0 = .ok (.aload_n 0, 1) := by decide +kernel
theorem dX11_bottling_1 : decode cX11_bottling 1 = .ok (.iload_n 1, 1) := by decide +kernel
theorem dX11_bottling_2 : decode cX11_bottling 2 = .ok (.invokevirtual 242, 3) := by decide +kernel
theorem dX11_bottling_5 : decode cX11_bottling 5 = .ok (.ifCond .ne 5, 3) := by decide +kernel
theorem dX11_bottling_8 : decode cX11_bottling 8 = .ok (.iconst (-1), 1) := by decide +kernel
theorem dX11_bottling_9 : decode cX11_bottling 9 = .ok (.ireturn, 1) := by decide +kernel
theorem dX11_bottling_10 : decode cX11_bottling 10 = .ok (.aload_n 0, 1) := by decide +kernel
theorem dX11_bottling_11 : decode cX11_bottling 11 = .ok (.getfield 84, 3) := by decide +kernel
theorem dX11_bottling_14 : decode cX11_bottling 14 = .ok (.iload_n 1, 1) := by decide +kernel
theorem dX11_bottling_15 : decode cX11_bottling 15 = .ok (.aaload, 1) := by decide +kernel
theorem dX11_bottling_16 : decode cX11_bottling 16 = .ok (.astore_n 3, 1) := by decide +kernel
theorem dX11_bottling_17 : decode cX11_bottling 17 = .ok (.iload_n 2, 1) := by decide +kernel
theorem dX11_bottling_18 : decode cX11_bottling 18 = .ok (.tableswitch 41 0 2 #[26, 31, 36], 26) := by decide +kernel
theorem dX11_bottling_44 : decode cX11_bottling 44 = .ok (.aload_n 3, 1) := by decide +kernel
theorem dX11_bottling_45 : decode cX11_bottling 45 = .ok (.getfield 237, 3) := by decide +kernel
theorem dX11_bottling_48 : decode cX11_bottling 48 = .ok (.ireturn, 1) := by decide +kernel
theorem dX11_bottling_49 : decode cX11_bottling 49 = .ok (.aload_n 3, 1) := by decide +kernel
theorem dX11_bottling_50 : decode cX11_bottling 50 = .ok (.getfield 238, 3) := by decide +kernel
theorem dX11_bottling_53 : decode cX11_bottling 53 = .ok (.ireturn, 1) := by decide +kernel
theorem dX11_bottling_54 : decode cX11_bottling 54 = .ok (.aload_n 3, 1) := by decide +kernel
theorem dX11_bottling_55 : decode cX11_bottling 55 = .ok (.getfield 239, 3) := by decide +kernel
theorem dX11_bottling_58 : decode cX11_bottling 58 = .ok (.ireturn, 1) := by decide +kernel
theorem dX11_bottling_59 : decode cX11_bottling 59 = .ok (.iconst (-1), 1) := by decide +kernel
theorem dX11_bottling_60 : decode cX11_bottling 60 = .ok (.ireturn, 1) := by decide +kernel
set_option maxHeartbeats 4000000 in
set_option maxRecDepth 20000 in
theorem c_X11_bottling (l : Launch) (b : Nat) (D : va_G) (cy : Nat → ClassId) {tt : Nat} {M : xMm} {z w : Int} (hI : IO M) (hz : inR z) (hw : inR w) : xC l b D cy yX11_bottling cX11_bottling 4 (some .int) ({ frames := 1, cells := 0, slots := 0, locals := 21 }) [xr 1, xi z, xi w] 209 M (RS tt) (xPi 209 (RS tt) (fun r M' => M' = M ∧ r = vBottling M z w)) := by
  refine x_met (by decide) (Nat.le_of_ble_eq_true rfl) (fun g hg hr he => ?_)
  obtain ⟨hn10, hn13, hn15, hn16, hn8, hn7, hC, hT, hB, hF⟩ := hI
  refine x_canon (ls' := [(0, _), (1, _), (2, _)]) rfl ?_
  refine x_aload_n hg dX11_bottling_0 rfl ?_
  refine x_iload_n hg dX11_bottling_1 rfl ?_
  refine x_cVi hg he [_] [] dX11_bottling_2 mv_X11_242 (c_X11_isBottling l b D cy (by omega) (by omega)) (by decide) rfl rfl (Nat.le_of_ble_eq_true rfl) (by decide) (by decide) (fun r2 M2 q2 => ?_)
  obtain ⟨h2, e2⟩ := q2
  replace h2 := h2.symm
  subst h2
  refine x_if_ne (tgt := 10) hg dX11_bottling_5 (by decide) (by omega) (fun c5 => ?_) (fun c5 => ?_)
  · skip
    refine x_aload_n hg dX11_bottling_10 rfl ?_
    refine x_getR (j9 := 100) hg dX11_bottling_11 fl_X11_84 (by decide) rfl rfl (by decide) ?_
    refine x_iload_n hg dX11_bottling_14 rfl ?_
    refine x_aaload (len := 40) (et := 7) hg dX11_bottling_15 (by decide) (by decide) (by omega) (RS_bottling _ _) (by omega) ?_
    refine x_astore_n (ls' := [(0, _), (1, _), (2, _), (3, _)]) hg dX11_bottling_16 rfl (by decide) rfl ?_
    refine x_iload_n hg dX11_bottling_17 rfl ?_
    refine x_int_cases 0 2 (fun hsw18 => ?_) (fun h1sw18 h2sw18 => ?_)
    · refine x_tableOut (tgt := 59) hg dX11_bottling_18 (by omega) hsw18 (by decide) ?_
      refine x_iconst hg dX11_bottling_59 ?_
      refine x_iret hg hr (Or.inl rfl) dX11_bottling_60 (Nat.le_refl _) (Nat.le_refl _) ?_
      refine ⟨rfl, rfl, _, rfl, rfl, ?_⟩
      unfold vBottling
      repeat (first | rw [if_pos (by omega)] | rw [if_neg (by omega)])
    · refine x_sw3 h1sw18 h2sw18 (fun e18 => ?_) (fun e18 => ?_) (fun e18 => ?_)
      · refine x_tableIn (off := 26) (tgt := 44) hg dX11_bottling_18 (by omega) h1sw18 h2sw18 (by rw [e18]; rfl) (by decide) ?_
        refine x_aload_n hg dX11_bottling_44 rfl ?_
        refine x_getI hg dX11_bottling_45 fl_X11_237 (oO_bottling (by omega)) rfl ?_
        refine x_iret hg hr (Or.inl rfl) dX11_bottling_48 (Nat.le_refl _) (Nat.le_refl _) ?_
        refine ⟨rfl, rfl, _, rfl, rfl, ?_⟩
        unfold vBottling
        repeat (first | rw [if_pos (by omega)] | rw [if_neg (by omega)])
      · refine x_tableIn (off := 31) (tgt := 49) hg dX11_bottling_18 (by omega) h1sw18 h2sw18 (by rw [e18]; rfl) (by decide) ?_
        refine x_aload_n hg dX11_bottling_49 rfl ?_
        refine x_getI hg dX11_bottling_50 fl_X11_238 (oO_bottling (by omega)) rfl ?_
        refine x_iret hg hr (Or.inl rfl) dX11_bottling_53 (Nat.le_refl _) (Nat.le_refl _) ?_
        refine ⟨rfl, rfl, _, rfl, rfl, ?_⟩
        unfold vBottling
        repeat (first | rw [if_pos (by omega)] | rw [if_neg (by omega)])
      · refine x_tableIn (off := 36) (tgt := 54) hg dX11_bottling_18 (by omega) h1sw18 h2sw18 (by rw [e18]; rfl) (by decide) ?_
        refine x_aload_n hg dX11_bottling_54 rfl ?_
        refine x_getI hg dX11_bottling_55 fl_X11_239 (oO_bottling (by omega)) rfl ?_
        refine x_iret hg hr (Or.inl rfl) dX11_bottling_58 (Nat.le_refl _) (Nat.le_refl _) ?_
        refine ⟨rfl, rfl, _, rfl, rfl, ?_⟩
        unfold vBottling
        repeat (first | rw [if_pos (by omega)] | rw [if_neg (by omega)])
  · skip
    refine x_iconst hg dX11_bottling_8 ?_
    refine x_iret hg hr (Or.inl rfl) dX11_bottling_9 (Nat.le_refl _) (Nat.le_refl _) ?_
    refine ⟨rfl, rfl, _, rfl, rfl, ?_⟩
    unfold vBottling
    repeat (first | rw [if_pos (by omega)] | rw [if_neg (by omega)])

theorem dX11_pour_0 : decode cX11_pour 0 = .ok (.aload_n 0, 1) := by decide +kernel
theorem dX11_pour_1 : decode cX11_pour 1 = .ok (.iload_n 1, 1) := by decide +kernel
theorem dX11_pour_2 : decode cX11_pour 2 = .ok (.invokevirtual 177, 3) := by decide +kernel
theorem dX11_pour_5 : decode cX11_pour 5 = .ok (.ifCond .eq 10, 3) := by decide +kernel
theorem dX11_pour_8 : decode cX11_pour 8 = .ok (.iload_n 2, 1) := by decide +kernel
theorem dX11_pour_9 : decode cX11_pour 9 = .ok (.invokestatic 215, 3) := by decide +kernel
theorem dX11_pour_12 : decode cX11_pour 12 = .ok (.ifCond .ne 5, 3) := by decide +kernel
theorem dX11_pour_15 : decode cX11_pour 15 = .ok (.iconst (-1), 1) := by decide +kernel
theorem dX11_pour_16 : decode cX11_pour 16 = .ok (.ireturn, 1) := by decide +kernel
theorem dX11_pour_17 : decode cX11_pour 17 = .ok (.aload_n 0, 1) := by decide +kernel
theorem dX11_pour_18 : decode cX11_pour 18 = .ok (.getfield 70, 3) := by decide +kernel
theorem dX11_pour_21 : decode cX11_pour 21 = .ok (.iload_n 1, 1) := by decide +kernel
theorem dX11_pour_22 : decode cX11_pour 22 = .ok (.aaload, 1) := by decide +kernel
theorem dX11_pour_23 : decode cX11_pour 23 = .ok (.astore_n 3, 1) := by decide +kernel
theorem dX11_pour_24 : decode cX11_pour 24 = .ok (.aload_n 3, 1) := by decide +kernel
theorem dX11_pour_25 : decode cX11_pour 25 = .ok (.getfield 180, 3) := by decide +kernel
theorem dX11_pour_28 : decode cX11_pour 28 = .ok (.iconst (-1), 1) := by decide +kernel
theorem dX11_pour_29 : decode cX11_pour 29 = .ok (.if_icmp .ne 19, 3) := by decide +kernel
theorem dX11_pour_32 : decode cX11_pour 32 = .ok (.aload_n 0, 1) := by decide +kernel
theorem dX11_pour_33 : decode cX11_pour 33 = .ok (.getfield 77, 3) := by decide +kernel
theorem dX11_pour_36 : decode cX11_pour 36 = .ok (.iload_n 2, 1) := by decide +kernel
theorem dX11_pour_37 : decode cX11_pour 37 = .ok (.aaload, 1) := by decide +kernel
theorem dX11_pour_38 : decode cX11_pour 38 = .ok (.aload_n 3, 1) := by decide +kernel
theorem dX11_pour_39 : decode cX11_pour 39 = .ok (.getfield 174, 3) := by decide +kernel
theorem dX11_pour_42 : decode cX11_pour 42 = .ok (.invokevirtual 218, 3) := by decide +kernel
theorem dX11_pour_45 : decode cX11_pour 45 = .ok (.ifCond .ne 5, 3) := by decide +kernel
theorem dX11_pour_48 : decode cX11_pour 48 = .ok (.iconst (-1), 1) := by decide +kernel
theorem dX11_pour_49 : decode cX11_pour 49 = .ok (.ireturn, 1) := by decide +kernel
theorem dX11_pour_50 : decode cX11_pour 50 = .ok (.aload_n 0, 1) := by decide +kernel
theorem dX11_pour_51 : decode cX11_pour 51 = .ok (.getfield 77, 3) := by decide +kernel
theorem dX11_pour_54 : decode cX11_pour 54 = .ok (.iload_n 2, 1) := by decide +kernel
theorem dX11_pour_55 : decode cX11_pour 55 = .ok (.aaload, 1) := by decide +kernel
theorem dX11_pour_56 : decode cX11_pour 56 = .ok (.aload_n 3, 1) := by decide +kernel
theorem dX11_pour_57 : decode cX11_pour 57 = .ok (.getfield 174, 3) := by decide +kernel
theorem dX11_pour_60 : decode cX11_pour 60 = .ok (.iconst 1, 1) := by decide +kernel
theorem dX11_pour_61 : decode cX11_pour 61 = .ok (.aload_n 3, 1) := by decide +kernel
theorem dX11_pour_62 : decode cX11_pour 62 = .ok (.getfield 165, 3) := by decide +kernel
theorem dX11_pour_65 : decode cX11_pour 65 = .ok (.ishl, 1) := by decide +kernel
theorem dX11_pour_66 : decode cX11_pour 66 = .ok (.invokevirtual 221, 3) := by decide +kernel
theorem dX11_pour_69 : decode cX11_pour 69 = .ok (.aload_n 3, 1) := by decide +kernel
theorem dX11_pour_70 : decode cX11_pour 70 = .ok (.iload_n 2, 1) := by decide +kernel
theorem dX11_pour_71 : decode cX11_pour 71 = .ok (.putfield 180, 3) := by decide +kernel
theorem dX11_pour_74 : decode cX11_pour 74 = .ok (.aload_n 0, 1) := by decide +kernel
theorem dX11_pour_75 : decode cX11_pour 75 = .ok (.getfield 77, 3) := by decide +kernel
theorem dX11_pour_78 : decode cX11_pour 78 = .ok (.iload_n 2, 1) := by decide +kernel
theorem dX11_pour_79 : decode cX11_pour 79 = .ok (.aaload, 1) := by decide +kernel
theorem dX11_pour_80 : decode cX11_pour 80 = .ok (.getfield 224, 3) := by decide +kernel
theorem dX11_pour_83 : decode cX11_pour 83 = .ok (.ireturn, 1) := by decide +kernel
set_option maxHeartbeats 4000000 in
set_option maxRecDepth 20000 in
theorem c_X11_pour (l : Launch) (b : Nat) (D : va_G) (cy : Nat → ClassId) {tt : Nat} {M : xMm} {z y : Int} (hI : IO M) (hz : inR z) (hy : inR y) : xC l b D cy yX11_pour cX11_pour 4 (some .int) ({ frames := 1, cells := 0, slots := 0, locals := 22 }) [xr 1, xi z, xi y] 209 M (RS tt) (xPi 209 (RS tt) (fun r M' => ((0 ≤ z ∧ z < M 1 10 ∧ 0 ≤ y ∧ y < 4 ∧ M (85 + z.toNat) 4 = -1 ∧ M (85 + z.toNat) 3 ≤ 1000 - M (96 + y.toNat) 0) ∧ r = M (96 + y.toNat) 0 + M (85 + z.toNat) 3 ∧ M' = mu (mu (mu M (96 + y.toNat) 0 (M (96 + y.toNat) 0 + M (85 + z.toNat) 3)) (96 + y.toNat) 1 (bOr (M (96 + y.toNat) 1) (bShl 1 (M (85 + z.toNat) 0)))) (85 + z.toNat) 4 y) ∨ (¬ (0 ≤ z ∧ z < M 1 10 ∧ 0 ≤ y ∧ y < 4 ∧ M (85 + z.toNat) 4 = -1 ∧ M (85 + z.toNat) 3 ≤ 1000 - M (96 + y.toNat) 0) ∧ r = -1 ∧ M' = M))) := by
  refine x_met (by decide) (Nat.le_of_ble_eq_true rfl) (fun g hg hr he => ?_)
  obtain ⟨hn10, hn13, hn15, hn16, hn8, hn7, hC, hT, hB, hF⟩ := hI
  refine x_canon (ls' := [(0, _), (1, _), (2, _)]) rfl ?_
  refine x_aload_n hg dX11_pour_0 rfl ?_
  refine x_iload_n hg dX11_pour_1 rfl ?_
  refine x_cVi hg he [_] [] dX11_pour_2 mv_X11_177 (c_X11_isChurn l b D cy (by omega) (by omega)) (by decide) rfl rfl (Nat.le_of_ble_eq_true rfl) (by decide) (by decide) (fun r2 M2 q2 => ?_)
  obtain ⟨h2, e2⟩ := q2
  replace h2 := h2.symm
  subst h2
  refine x_if_eq (tgt := 15) hg dX11_pour_5 (by decide) (by omega) (fun c5 => ?_) (fun c5 => ?_)
  · skip
    refine x_iconst hg dX11_pour_15 ?_
    refine x_iret hg hr (Or.inl rfl) dX11_pour_16 (Nat.le_refl _) (Nat.le_refl _) ?_
    refine ⟨rfl, rfl, _, rfl, ?_⟩
    first | exact Or.inr ⟨by omega, rfl, rfl⟩ | exact Or.inl ⟨by omega, rfl, rfl⟩
  · skip
    refine x_iload_n hg dX11_pour_8 rfl ?_
    refine x_cSi hg he [_] [] dX11_pour_9 ms_X11_215 (c_X11_isTank l b D cy (by omega)) rfl rfl (Nat.le_of_ble_eq_true rfl) (by decide) (by decide) (fun r9 M9 q9 => ?_)
    obtain ⟨h9, e9⟩ := q9
    replace h9 := h9.symm
    subst h9
    refine x_if_ne (tgt := 17) hg dX11_pour_12 (by decide) (by omega) (fun c12 => ?_) (fun c12 => ?_)
    · skip
      refine x_aload_n hg dX11_pour_17 rfl ?_
      refine x_getR (j9 := 84) hg dX11_pour_18 fl_X11_70 (by decide) rfl rfl (by decide) ?_
      refine x_iload_n hg dX11_pour_21 rfl ?_
      refine x_aaload (len := 10) (et := 5) hg dX11_pour_22 (by decide) (by decide) (by omega) (RS_churn _ _) (by omega) ?_
      refine x_astore_n (ls' := [(0, _), (1, _), (2, _), (3, _)]) hg dX11_pour_23 rfl (by decide) rfl ?_
      refine x_aload_n hg dX11_pour_24 rfl ?_
      refine x_getI hg dX11_pour_25 fl_X11_180 (oO_churn (by omega)) rfl ?_
      refine x_iconst hg dX11_pour_28 ?_
      refine x_icmp_ne (tgt := 48) hg dX11_pour_29 (by decide) (by have h1 := hT y.toNat (by omega); have h2 := hC z.toNat (by omega); omega) (by omega) (fun c29 => ?_) (fun c29 => ?_)
      · skip
        refine x_iconst hg dX11_pour_48 ?_
        refine x_iret hg hr (Or.inl rfl) dX11_pour_49 (Nat.le_refl _) (Nat.le_refl _) ?_
        refine ⟨rfl, rfl, _, rfl, ?_⟩
        first | exact Or.inr ⟨by omega, rfl, rfl⟩ | exact Or.inl ⟨by omega, rfl, rfl⟩
      · skip
        refine x_aload_n hg dX11_pour_32 rfl ?_
        refine x_getR (j9 := 95) hg dX11_pour_33 fl_X11_77 (by decide) rfl rfl (by decide) ?_
        refine x_iload_n hg dX11_pour_36 rfl ?_
        refine x_aaload (len := 4) (et := 6) hg dX11_pour_37 (by decide) (by decide) (by omega) (RS_tank _ _) (by omega) ?_
        refine x_aload_n hg dX11_pour_38 rfl ?_
        refine x_getI hg dX11_pour_39 fl_X11_174 (oO_churn (by omega)) rfl ?_
        refine x_cVi hg he [_] [] dX11_pour_42 mv_X11_218 (c_X6_hasRoomFor l b D cy (oO_tank (by omega)) (by have h1 := hT y.toNat (by omega); have h2 := hC z.toNat (by omega); omega) (by have h1 := hT y.toNat (by omega); have h2 := hC z.toNat (by omega); omega)) (oO_tank (by omega)) rfl rfl (Nat.le_of_ble_eq_true rfl) (by decide) (by decide) (fun r42 M42 q42 => ?_)
        obtain ⟨h42, e42⟩ := q42
        replace h42 := h42.symm
        subst h42
        refine x_if_ne (tgt := 50) hg dX11_pour_45 (by decide) (by omega) (fun c45 => ?_) (fun c45 => ?_)
        · skip
          refine x_aload_n hg dX11_pour_50 rfl ?_
          refine x_getR (j9 := 95) hg dX11_pour_51 fl_X11_77 (by decide) rfl rfl (by decide) ?_
          refine x_iload_n hg dX11_pour_54 rfl ?_
          refine x_aaload (len := 4) (et := 6) hg dX11_pour_55 (by decide) (by decide) (by omega) (RS_tank _ _) (by omega) ?_
          refine x_aload_n hg dX11_pour_56 rfl ?_
          refine x_getI hg dX11_pour_57 fl_X11_174 (oO_churn (by omega)) rfl ?_
          refine x_iconst hg dX11_pour_60 ?_
          refine x_aload_n hg dX11_pour_61 rfl ?_
          refine x_getI hg dX11_pour_62 fl_X11_165 (oO_churn (by omega)) rfl ?_
          refine x_ishl hg dX11_pour_65 ?_
          refine x_cVv hg he [_, _] [] dX11_pour_66 mv_X11_221 (c_X6_fill l b D cy (oO_tank (by omega))) (oO_tank (by omega)) rfl rfl (Nat.le_of_ble_eq_true rfl) (by decide) (by decide) (fun M66 q66 => ?_)
          subst q66
          refine x_aload_n hg dX11_pour_69 rfl ?_
          refine x_iload_n hg dX11_pour_70 rfl ?_
          refine x_putI hg dX11_pour_71 fl_X11_180 ft_1_4 (oO_churn (by omega)) rfl ?_
          refine x_aload_n hg dX11_pour_74 rfl ?_
          refine x_getR (j9 := 95) hg dX11_pour_75 fl_X11_77 (by decide) rfl rfl (by decide) ?_
          refine x_iload_n hg dX11_pour_78 rfl ?_
          refine x_aaload (len := 4) (et := 6) hg dX11_pour_79 (by decide) (by decide) (by omega) (RS_tank _ _) (by omega) ?_
          refine x_getI hg dX11_pour_80 fl_X11_224 (oO_tank (by omega)) rfl ?_
          try simp (disch := omega) only [mu_s, mu_nf, mu_nc]
          refine x_iret hg hr (Or.inl rfl) dX11_pour_83 (Nat.le_refl _) (Nat.le_refl _) ?_
          refine ⟨rfl, rfl, _, rfl, ?_⟩
          first | exact Or.inr ⟨by omega, rfl, rfl⟩ | exact Or.inl ⟨by omega, rfl, rfl⟩
        · skip
          refine x_iconst hg dX11_pour_48 ?_
          refine x_iret hg hr (Or.inl rfl) dX11_pour_49 (Nat.le_refl _) (Nat.le_refl _) ?_
          refine ⟨rfl, rfl, _, rfl, ?_⟩
          first | exact Or.inr ⟨by omega, rfl, rfl⟩ | exact Or.inl ⟨by omega, rfl, rfl⟩
    · skip
      refine x_iconst hg dX11_pour_15 ?_
      refine x_iret hg hr (Or.inl rfl) dX11_pour_16 (Nat.le_refl _) (Nat.le_refl _) ?_
      refine ⟨rfl, rfl, _, rfl, ?_⟩
      first | exact Or.inr ⟨by omega, rfl, rfl⟩ | exact Or.inl ⟨by omega, rfl, rfl⟩

theorem dX11_bottle_0 : decode cX11_bottle 0 = .ok (.iload_n 1, 1) := by decide +kernel
theorem dX11_bottle_1 : decode cX11_bottle 1 = .ok (.invokestatic 215, 3) := by decide +kernel
theorem dX11_bottle_4 : decode cX11_bottle 4 = .ok (.ifCond .eq 25, 3) := by decide +kernel
theorem dX11_bottle_7 : decode cX11_bottle 7 = .ok (.aload_n 0, 1) := by decide +kernel
theorem dX11_bottle_8 : decode cX11_bottle 8 = .ok (.getfield 77, 3) := by decide +kernel
theorem dX11_bottle_11 : decode cX11_bottle 11 = .ok (.iload_n 1, 1) := by decide +kernel
theorem dX11_bottle_12 : decode cX11_bottle 12 = .ok (.aaload, 1) := by decide +kernel
theorem dX11_bottle_13 : decode cX11_bottle 13 = .ok (.iload_n 2, 1) := by decide +kernel
theorem dX11_bottle_14 : decode cX11_bottle 14 = .ok (.invokevirtual 225, 3) := by decide +kernel
theorem dX11_bottle_17 : decode cX11_bottle 17 = .ok (.ifCond .eq 12, 3) := by decide +kernel
theorem dX11_bottle_20 : decode cX11_bottle 20 = .ok (.aload_n 0, 1) := by decide +kernel
theorem dX11_bottle_21 : decode cX11_bottle 21 = .ok (.getfield 234, 3) := by decide +kernel
theorem dX11_bottle_24 : decode cX11_bottle 24 = .ok (.bipush 40, 2) := by decide +kernel
theorem dX11_bottle_26 : decode cX11_bottle 26 = .ok (.if_icmp .lt 5, 3) := by decide +kernel
theorem dX11_bottle_29 : decode cX11_bottle 29 = .ok (.iconst (-1), 1) := by decide +kernel
theorem dX11_bottle_30 : decode cX11_bottle 30 = .ok (.ireturn, 1) := by decide +kernel
theorem dX11_bottle_31 : decode cX11_bottle 31 = .ok (.aload_n 0, 1) := by decide +kernel
theorem dX11_bottle_32 : decode cX11_bottle 32 = .ok (.getfield 84, 3) := by decide +kernel
theorem dX11_bottle_35 : decode cX11_bottle 35 = .ok (.aload_n 0, 1) := by decide +kernel
theorem dX11_bottle_36 : decode cX11_bottle 36 = .ok (.getfield 234, 3) := by decide +kernel
theorem dX11_bottle_39 : decode cX11_bottle 39 = .ok (.aaload, 1) := by decide +kernel
theorem dX11_bottle_40 : decode cX11_bottle 40 = .ok (.astore_n 3, 1) := by decide +kernel
theorem dX11_bottle_41 : decode cX11_bottle 41 = .ok (.aload_n 3, 1) := by decide +kernel
theorem dX11_bottle_42 : decode cX11_bottle 42 = .ok (.iload_n 2, 1) := by decide +kernel
theorem dX11_bottle_43 : decode cX11_bottle 43 = .ok (.putfield 237, 3) := by decide +kernel
theorem dX11_bottle_46 : decode cX11_bottle 46 = .ok (.aload_n 3, 1) := by decide +kernel
theorem dX11_bottle_47 : decode cX11_bottle 47 = .ok (.aload_n 0, 1) := by decide +kernel
theorem dX11_bottle_48 : decode cX11_bottle 48 = .ok (.getfield 77, 3) := by decide +kernel
theorem dX11_bottle_51 : decode cX11_bottle 51 = .ok (.iload_n 1, 1) := by decide +kernel
theorem dX11_bottle_52 : decode cX11_bottle 52 = .ok (.aaload, 1) := by decide +kernel
theorem dX11_bottle_53 : decode cX11_bottle 53 = .ok (.getfield 228, 3) := by decide +kernel
theorem dX11_bottle_56 : decode cX11_bottle 56 = .ok (.putfield 238, 3) := by decide +kernel
theorem dX11_bottle_59 : decode cX11_bottle 59 = .ok (.aload_n 3, 1) := by decide +kernel
theorem dX11_bottle_60 : decode cX11_bottle 60 = .ok (.aload_n 0, 1) := by decide +kernel
theorem dX11_bottle_61 : decode cX11_bottle 61 = .ok (.getfield 212, 3) := by decide +kernel
theorem dX11_bottle_64 : decode cX11_bottle 64 = .ok (.putfield 239, 3) := by decide +kernel
theorem dX11_bottle_67 : decode cX11_bottle 67 = .ok (.aload_n 0, 1) := by decide +kernel
theorem dX11_bottle_68 : decode cX11_bottle 68 = .ok (.getfield 77, 3) := by decide +kernel
theorem dX11_bottle_71 : decode cX11_bottle 71 = .ok (.iload_n 1, 1) := by decide +kernel
theorem dX11_bottle_72 : decode cX11_bottle 72 = .ok (.aaload, 1) := by decide +kernel
theorem dX11_bottle_73 : decode cX11_bottle 73 = .ok (.iload_n 2, 1) := by decide +kernel
theorem dX11_bottle_74 : decode cX11_bottle 74 = .ok (.invokevirtual 231, 3) := by decide +kernel
theorem dX11_bottle_77 : decode cX11_bottle 77 = .ok (.aload_n 0, 1) := by decide +kernel
theorem dX11_bottle_78 : decode cX11_bottle 78 = .ok (.dup, 1) := by decide +kernel
theorem dX11_bottle_79 : decode cX11_bottle 79 = .ok (.getfield 234, 3) := by decide +kernel
theorem dX11_bottle_82 : decode cX11_bottle 82 = .ok (.iconst 1, 1) := by decide +kernel
theorem dX11_bottle_83 : decode cX11_bottle 83 = .ok (.iadd, 1) := by decide +kernel
theorem dX11_bottle_84 : decode cX11_bottle 84 = .ok (.putfield 234, 3) := by decide +kernel
theorem dX11_bottle_87 : decode cX11_bottle 87 = .ok (.aload_n 0, 1) := by decide +kernel
theorem dX11_bottle_88 : decode cX11_bottle 88 = .ok (.getfield 234, 3) := by decide +kernel
theorem dX11_bottle_91 : decode cX11_bottle 91 = .ok (.iconst 1, 1) := by decide +kernel
theorem dX11_bottle_92 : decode cX11_bottle 92 = .ok (.isub, 1) := by decide +kernel
theorem dX11_bottle_93 : decode cX11_bottle 93 = .ok (.ireturn, 1) := by decide +kernel
set_option maxHeartbeats 4000000 in
set_option maxRecDepth 20000 in
theorem c_X11_bottle (l : Launch) (b : Nat) (D : va_G) (cy : Nat → ClassId) {tt : Nat} {M : xMm} {z y : Int} (hI : IO M) (hz : inR z) (hy : inR y) : xC l b D cy yX11_bottle cX11_bottle 4 (some .int) ({ frames := 1, cells := 0, slots := 0, locals := 21 }) [xr 1, xi z, xi y] 209 M (RS tt) (xPi 209 (RS tt) (fun r M' => ((0 ≤ z ∧ z < 4 ∧ 1 ≤ y ∧ y ≤ M (96 + z.toNat) 0 ∧ M 1 13 < 40) ∧ r = M 1 13 ∧ ∃ Mt, (Mt = if M (96 + z.toNat) 0 - y = 0 then mu (mu (mu (mu (mu M (101 + (M 1 13).toNat) 0 y) (101 + (M 1 13).toNat) 1 (M (96 + z.toNat) 1)) (101 + (M 1 13).toNat) 2 (M 1 16)) (96 + z.toNat) 0 (M (96 + z.toNat) 0 - y)) (96 + z.toNat) 1 0 else mu (mu (mu (mu M (101 + (M 1 13).toNat) 0 y) (101 + (M 1 13).toNat) 1 (M (96 + z.toNat) 1)) (101 + (M 1 13).toNat) 2 (M 1 16)) (96 + z.toNat) 0 (M (96 + z.toNat) 0 - y)) ∧ M' = mu Mt 1 13 (M 1 13 + 1)) ∨ (¬ (0 ≤ z ∧ z < 4 ∧ 1 ≤ y ∧ y ≤ M (96 + z.toNat) 0 ∧ M 1 13 < 40) ∧ r = -1 ∧ M' = M))) := by
  refine x_met (by decide) (Nat.le_of_ble_eq_true rfl) (fun g hg hr he => ?_)
  obtain ⟨hn10, hn13, hn15, hn16, hn8, hn7, hC, hT, hB, hF⟩ := hI
  refine x_canon (ls' := [(0, _), (1, _), (2, _)]) rfl ?_
  refine x_iload_n hg dX11_bottle_0 rfl ?_
  refine x_cSi hg he [_] [] dX11_bottle_1 ms_X11_215 (c_X11_isTank l b D cy (by omega)) rfl rfl (Nat.le_of_ble_eq_true rfl) (by decide) (by decide) (fun r1 M1 q1 => ?_)
  obtain ⟨h1, e1⟩ := q1
  replace h1 := h1.symm
  subst h1
  refine x_if_eq (tgt := 29) hg dX11_bottle_4 (by decide) (by omega) (fun c4 => ?_) (fun c4 => ?_)
  · skip
    refine x_iconst hg dX11_bottle_29 ?_
    refine x_iret hg hr (Or.inl rfl) dX11_bottle_30 (Nat.le_refl _) (Nat.le_refl _) ?_
    exact ⟨rfl, rfl, _, rfl, Or.inr ⟨by omega, rfl, rfl⟩⟩
  · skip
    refine x_aload_n hg dX11_bottle_7 rfl ?_
    refine x_getR (j9 := 95) hg dX11_bottle_8 fl_X11_77 (by decide) rfl rfl (by decide) ?_
    refine x_iload_n hg dX11_bottle_11 rfl ?_
    refine x_aaload (len := 4) (et := 6) hg dX11_bottle_12 (by decide) (by decide) (by omega) (RS_tank _ _) (by omega) ?_
    refine x_iload_n hg dX11_bottle_13 rfl ?_
    refine x_cVi hg he [_] [] dX11_bottle_14 mv_X11_225 (c_X6_canGive l b D cy (oO_tank (by omega)) (by omega) (by have h1 := hT z.toNat (by omega); omega)) (oO_tank (by omega)) rfl rfl (Nat.le_of_ble_eq_true rfl) (by decide) (by decide) (fun r14 M14 q14 => ?_)
    obtain ⟨h14, e14⟩ := q14
    replace h14 := h14.symm
    subst h14
    refine x_if_eq (tgt := 29) hg dX11_bottle_17 (by decide) (by omega) (fun c17 => ?_) (fun c17 => ?_)
    · skip
      refine x_iconst hg dX11_bottle_29 ?_
      refine x_iret hg hr (Or.inl rfl) dX11_bottle_30 (Nat.le_refl _) (Nat.le_refl _) ?_
      exact ⟨rfl, rfl, _, rfl, Or.inr ⟨by omega, rfl, rfl⟩⟩
    · skip
      refine x_aload_n hg dX11_bottle_20 rfl ?_
      refine x_getI hg dX11_bottle_21 fl_X11_234 (by decide) rfl ?_
      refine x_bipush hg dX11_bottle_24 (by decide) ?_
      refine x_icmp_lt (tgt := 31) hg dX11_bottle_26 (by decide) (by omega) (by omega) (fun c26 => ?_) (fun c26 => ?_)
      · skip
        refine x_aload_n hg dX11_bottle_31 rfl ?_
        refine x_getR (j9 := 100) hg dX11_bottle_32 fl_X11_84 (by decide) rfl rfl (by decide) ?_
        refine x_aload_n hg dX11_bottle_35 rfl ?_
        refine x_getI hg dX11_bottle_36 fl_X11_234 (by decide) rfl ?_
        refine x_aaload (len := 40) (et := 7) hg dX11_bottle_39 (by decide) (by decide) (by omega) (RS_bottling _ _) (by omega) ?_
        refine x_astore_n (ls' := [(0, _), (1, _), (2, _), (3, _)]) hg dX11_bottle_40 rfl (by decide) rfl ?_
        refine x_aload_n hg dX11_bottle_41 rfl ?_
        refine x_iload_n hg dX11_bottle_42 rfl ?_
        refine x_putI hg dX11_bottle_43 fl_X11_237 ft_0_0 (oO_bottling (by omega)) rfl ?_
        refine x_aload_n hg dX11_bottle_46 rfl ?_
        refine x_aload_n hg dX11_bottle_47 rfl ?_
        refine x_getR (j9 := 95) hg dX11_bottle_48 fl_X11_77 (by decide) rfl rfl (by decide) ?_
        refine x_iload_n hg dX11_bottle_51 rfl ?_
        refine x_aaload (len := 4) (et := 6) hg dX11_bottle_52 (by decide) (by decide) (by omega) (RS_tank _ _) (by omega) ?_
        refine x_getI hg dX11_bottle_53 fl_X11_228 (oO_tank (by omega)) rfl ?_
        try simp (disch := omega) only [mu_s, mu_nf, mu_nc]
        refine x_putI hg dX11_bottle_56 fl_X11_238 ft_0_1 (oO_bottling (by omega)) rfl ?_
        refine x_aload_n hg dX11_bottle_59 rfl ?_
        refine x_aload_n hg dX11_bottle_60 rfl ?_
        refine x_getI hg dX11_bottle_61 fl_X11_212 (by decide) rfl ?_
        try simp (disch := omega) only [mu_s, mu_nf, mu_nc]
        refine x_putI hg dX11_bottle_64 fl_X11_239 ft_0_2 (oO_bottling (by omega)) rfl ?_
        refine x_aload_n hg dX11_bottle_67 rfl ?_
        refine x_getR (j9 := 95) hg dX11_bottle_68 fl_X11_77 (by decide) rfl rfl (by decide) ?_
        refine x_iload_n hg dX11_bottle_71 rfl ?_
        refine x_aaload (len := 4) (et := 6) hg dX11_bottle_72 (by decide) (by decide) (by omega) (RS_tank _ _) (by omega) ?_
        refine x_iload_n hg dX11_bottle_73 rfl ?_
        refine x_cVv hg he [_] [] dX11_bottle_74 mv_X11_231 (c_X6_draw l b D cy (oO_tank (by omega)) (by simp (disch := omega) only [mu_s, mu_nf, mu_nc]; have h1 := hT z.toNat (by omega); omega) (by simp (disch := omega) only [mu_s, mu_nf, mu_nc]; have h1 := hT z.toNat (by omega); omega)) (oO_tank (by omega)) rfl rfl (Nat.le_of_ble_eq_true rfl) (by decide) (by decide) (fun M74 q74 => ?_)
        simp (disch := omega) only [mu_s, mu_nf, mu_nc] at q74
        have q74b : ∀ c, M74 1 c = M 1 c := by intro c; rw [q74]; split <;> simp (disch := omega) only [mu_nc]
        refine x_aload_n hg dX11_bottle_77 rfl ?_
        refine x_dup hg dX11_bottle_78 rfl ?_
        refine x_getI hg dX11_bottle_79 fl_X11_234 (by decide) rfl ?_
        try simp (disch := omega) only [mu_s, mu_nf, mu_nc]
        refine x_iconst hg dX11_bottle_82 ?_
        refine x_iadd hg dX11_bottle_83 ?_
        refine x_putI hg dX11_bottle_84 fl_X11_234 ft_11_13 (by decide) rfl ?_
        refine x_aload_n hg dX11_bottle_87 rfl ?_
        refine x_getI hg dX11_bottle_88 fl_X11_234 (by decide) rfl ?_
        try simp (disch := omega) only [mu_s, mu_nf, mu_nc]
        refine x_iconst hg dX11_bottle_91 ?_
        refine x_isub hg dX11_bottle_92 ?_
        refine x_iret hg hr (Or.inl rfl) dX11_bottle_93 (Nat.le_refl _) (Nat.le_refl _) ?_
        refine ⟨rfl, rfl, _, rfl, Or.inl ⟨by omega, by rw [q74b]; omega, M74, q74, by rw [q74b]⟩⟩
      · skip
        refine x_iconst hg dX11_bottle_29 ?_
        refine x_iret hg hr (Or.inl rfl) dX11_bottle_30 (Nat.le_refl _) (Nat.le_refl _) ?_
        exact ⟨rfl, rfl, _, rfl, Or.inr ⟨by omega, rfl, rfl⟩⟩

theorem dX11_find_0 : decode cX11_find 0 = .ok (.iload_n 1, 1) := by decide +kernel
theorem dX11_find_1 : decode cX11_find 1 = .ok (.invokestatic 159, 3) := by decide +kernel
theorem dX11_find_4 : decode cX11_find 4 = .ok (.ifCond .eq 22, 3) := by decide +kernel
theorem dX11_find_7 : decode cX11_find 7 = .ok (.iload_n 2, 1) := by decide +kernel
theorem dX11_find_8 : decode cX11_find 8 = .ok (.ifCond .lt 18, 3) := by decide +kernel
theorem dX11_find_11 : decode cX11_find 11 = .ok (.iload_n 2, 1) := by decide +kernel
theorem dX11_find_12 : decode cX11_find 12 = .ok (.ldc 158, 2) := by decide +kernel
theorem dX11_find_14 : decode cX11_find 14 = .ok (.if_icmp .gt 12, 3) := by decide +kernel
theorem dX11_find_17 : decode cX11_find 17 = .ok (.aload_n 0, 1) := by decide +kernel
theorem dX11_find_18 : decode cX11_find 18 = .ok (.getfield 245, 3) := by decide +kernel
theorem dX11_find_21 : decode cX11_find 21 = .ok (.bipush 30, 2) := by decide +kernel
theorem dX11_find_23 : decode cX11_find 23 = .ok (.if_icmp .lt 5, 3) := by decide +kernel
theorem dX11_find_26 : decode cX11_find 26 = .ok (.iconst (-1), 1) := by decide +kernel
theorem dX11_find_27 : decode cX11_find 27 = .ok (.ireturn, 1) := by decide +kernel
theorem dX11_find_28 : decode cX11_find 28 = .ok (.aload_n 0, 1) := by decide +kernel
theorem dX11_find_29 : decode cX11_find 29 = .ok (.getfield 91, 3) := by decide +kernel
theorem dX11_find_32 : decode cX11_find 32 = .ok (.aload_n 0, 1) := by decide +kernel
theorem dX11_find_33 : decode cX11_find 33 = .ok (.getfield 245, 3) := by decide +kernel
theorem dX11_find_36 : decode cX11_find 36 = .ok (.aaload, 1) := by decide +kernel
theorem dX11_find_37 : decode cX11_find 37 = .ok (.astore_n 3, 1) := by decide +kernel
theorem dX11_find_38 : decode cX11_find 38 = .ok (.aload_n 3, 1) := by decide +kernel
theorem dX11_find_39 : decode cX11_find 39 = .ok (.iload_n 1, 1) := by decide +kernel
theorem dX11_find_40 : decode cX11_find 40 = .ok (.putfield 248, 3) := by decide +kernel
theorem dX11_find_43 : decode cX11_find 43 = .ok (.aload_n 3, 1) := by decide +kernel
theorem dX11_find_44 : decode cX11_find 44 = .ok (.iload_n 2, 1) := by decide +kernel
theorem dX11_find_45 : decode cX11_find 45 = .ok (.putfield 249, 3) := by decide +kernel
theorem dX11_find_48 : decode cX11_find 48 = .ok (.aload_n 3, 1) := by decide +kernel
theorem dX11_find_49 : decode cX11_find 49 = .ok (.aload_n 0, 1) := by decide +kernel
theorem dX11_find_50 : decode cX11_find 50 = .ok (.getfield 212, 3) := by decide +kernel
theorem dX11_find_53 : decode cX11_find 53 = .ok (.putfield 252, 3) := by decide +kernel
theorem dX11_find_56 : decode cX11_find 56 = .ok (.aload_n 0, 1) := by decide +kernel
theorem dX11_find_57 : decode cX11_find 57 = .ok (.dup, 1) := by decide +kernel
theorem dX11_find_58 : decode cX11_find 58 = .ok (.getfield 245, 3) := by decide +kernel
theorem dX11_find_61 : decode cX11_find 61 = .ok (.iconst 1, 1) := by decide +kernel
theorem dX11_find_62 : decode cX11_find 62 = .ok (.iadd, 1) := by decide +kernel
theorem dX11_find_63 : decode cX11_find 63 = .ok (.putfield 245, 3) := by decide +kernel
theorem dX11_find_66 : decode cX11_find 66 = .ok (.aload_n 0, 1) := by decide +kernel
theorem dX11_find_67 : decode cX11_find 67 = .ok (.getfield 245, 3) := by decide +kernel
theorem dX11_find_70 : decode cX11_find 70 = .ok (.iconst 1, 1) := by decide +kernel
theorem dX11_find_71 : decode cX11_find 71 = .ok (.isub, 1) := by decide +kernel
theorem dX11_find_72 : decode cX11_find 72 = .ok (.ireturn, 1) := by decide +kernel
set_option maxHeartbeats 4000000 in
set_option maxRecDepth 20000 in
theorem c_X11_find (l : Launch) (b : Nat) (D : va_G) (cy : Nat → ClassId) {tt : Nat} {M : xMm} {z y : Int} (hI : IO M) (hz : inR z) (hy : inR y) : xC l b D cy yX11_find cX11_find 4 (some .int) ({ frames := 1, cells := 0, slots := 0, locals := 20 }) [xr 1, xi z, xi y] 209 M (RS tt) (xPi 209 (RS tt) (fun r M' => ((0 ≤ z ∧ z < 12 ∧ 0 ≤ y ∧ y ≤ 100000 ∧ M 1 15 < 30) ∧ r = M 1 15 ∧ M' = mu (mu (mu (mu M (142 + (M 1 15).toNat) 0 z) (142 + (M 1 15).toNat) 1 y) (142 + (M 1 15).toNat) 2 (M 1 16)) 1 15 (M 1 15 + 1)) ∨ (¬ (0 ≤ z ∧ z < 12 ∧ 0 ≤ y ∧ y ≤ 100000 ∧ M 1 15 < 30) ∧ r = -1 ∧ M' = M))) := by
  refine x_met (by decide) (Nat.le_of_ble_eq_true rfl) (fun g hg hr he => ?_)
  obtain ⟨hn10, hn13, hn15, hn16, hn8, hn7, hC, hT, hB, hF⟩ := hI
  refine x_canon (ls' := [(0, _), (1, _), (2, _)]) rfl ?_
  refine x_iload_n hg dX11_find_0 rfl ?_
  refine x_cSi hg he [_] [] dX11_find_1 ms_X11_159 (c_X11_isFarm l b D cy (by omega)) rfl rfl (Nat.le_of_ble_eq_true rfl) (by decide) (by decide) (fun r1 M1 q1 => ?_)
  obtain ⟨h1, e1⟩ := q1
  replace h1 := h1.symm
  subst h1
  refine x_if_eq (tgt := 26) hg dX11_find_4 (by decide) (by omega) (fun c4 => ?_) (fun c4 => ?_)
  · skip
    refine x_iconst hg dX11_find_26 ?_
    refine x_iret hg hr (Or.inl rfl) dX11_find_27 (Nat.le_refl _) (Nat.le_refl _) ?_
    refine ⟨rfl, rfl, _, rfl, ?_⟩
    first | exact Or.inr ⟨by omega, rfl, rfl⟩ | exact Or.inl ⟨by omega, by omega, rfl⟩
  · skip
    refine x_iload_n hg dX11_find_7 rfl ?_
    refine x_if_lt (tgt := 26) hg dX11_find_8 (by decide) (by omega) (fun c8 => ?_) (fun c8 => ?_)
    · skip
      refine x_iconst hg dX11_find_26 ?_
      refine x_iret hg hr (Or.inl rfl) dX11_find_27 (Nat.le_refl _) (Nat.le_refl _) ?_
      refine ⟨rfl, rfl, _, rfl, ?_⟩
      first | exact Or.inr ⟨by omega, rfl, rfl⟩ | exact Or.inl ⟨by omega, by omega, rfl⟩
    · skip
      refine x_iload_n hg dX11_find_11 rfl ?_
      refine x_ldc hg 100000 dX11_find_12 (List.mem_of_getElem? (i := 605) (by decide +kernel)) ?_
      refine x_icmp_gt (tgt := 26) hg dX11_find_14 (by decide) (by omega) (by omega) (fun c14 => ?_) (fun c14 => ?_)
      · skip
        refine x_iconst hg dX11_find_26 ?_
        refine x_iret hg hr (Or.inl rfl) dX11_find_27 (Nat.le_refl _) (Nat.le_refl _) ?_
        refine ⟨rfl, rfl, _, rfl, ?_⟩
        first | exact Or.inr ⟨by omega, rfl, rfl⟩ | exact Or.inl ⟨by omega, by omega, rfl⟩
      · skip
        refine x_aload_n hg dX11_find_17 rfl ?_
        refine x_getI hg dX11_find_18 fl_X11_245 (by decide) rfl ?_
        refine x_bipush hg dX11_find_21 (by decide) ?_
        refine x_icmp_lt (tgt := 28) hg dX11_find_23 (by decide) (by omega) (by omega) (fun c23 => ?_) (fun c23 => ?_)
        · skip
          refine x_aload_n hg dX11_find_28 rfl ?_
          refine x_getR (j9 := 141) hg dX11_find_29 fl_X11_91 (by decide) rfl rfl (by decide) ?_
          refine x_aload_n hg dX11_find_32 rfl ?_
          refine x_getI hg dX11_find_33 fl_X11_245 (by decide) rfl ?_
          refine x_aaload (len := 30) (et := 8) hg dX11_find_36 (by decide) (by decide) (by omega) (RS_find _ _) (by omega) ?_
          refine x_astore_n (ls' := [(0, _), (1, _), (2, _), (3, _)]) hg dX11_find_37 rfl (by decide) rfl ?_
          refine x_aload_n hg dX11_find_38 rfl ?_
          refine x_iload_n hg dX11_find_39 rfl ?_
          refine x_putI hg dX11_find_40 fl_X11_248 ft_3_0 (oO_find (by omega)) rfl ?_
          refine x_aload_n hg dX11_find_43 rfl ?_
          refine x_iload_n hg dX11_find_44 rfl ?_
          refine x_putI hg dX11_find_45 fl_X11_249 ft_3_1 (oO_find (by omega)) rfl ?_
          refine x_aload_n hg dX11_find_48 rfl ?_
          refine x_aload_n hg dX11_find_49 rfl ?_
          refine x_getI hg dX11_find_50 fl_X11_212 (by decide) rfl ?_
          try simp (disch := omega) only [mu_s, mu_nf, mu_nc]
          refine x_putI hg dX11_find_53 fl_X11_252 ft_3_2 (oO_find (by omega)) rfl ?_
          refine x_aload_n hg dX11_find_56 rfl ?_
          refine x_dup hg dX11_find_57 rfl ?_
          refine x_getI hg dX11_find_58 fl_X11_245 (by decide) rfl ?_
          try simp (disch := omega) only [mu_s, mu_nf, mu_nc]
          refine x_iconst hg dX11_find_61 ?_
          refine x_iadd hg dX11_find_62 ?_
          refine x_putI hg dX11_find_63 fl_X11_245 ft_11_15 (by decide) rfl ?_
          refine x_aload_n hg dX11_find_66 rfl ?_
          refine x_getI hg dX11_find_67 fl_X11_245 (by decide) rfl ?_
          try simp (disch := omega) only [mu_s, mu_nf, mu_nc]
          refine x_iconst hg dX11_find_70 ?_
          refine x_isub hg dX11_find_71 ?_
          refine x_iret hg hr (Or.inl rfl) dX11_find_72 (Nat.le_refl _) (Nat.le_refl _) ?_
          refine ⟨rfl, rfl, _, rfl, ?_⟩
          first | exact Or.inr ⟨by omega, rfl, rfl⟩ | exact Or.inl ⟨by omega, by omega, rfl⟩
        · skip
          refine x_iconst hg dX11_find_26 ?_
          refine x_iret hg hr (Or.inl rfl) dX11_find_27 (Nat.le_refl _) (Nat.le_refl _) ?_
          refine ⟨rfl, rfl, _, rfl, ?_⟩
          first | exact Or.inr ⟨by omega, rfl, rfl⟩ | exact Or.inl ⟨by omega, by omega, rfl⟩

theorem dX11_untell_0 : decode cX11_untell 0 = .ok (.iload_n 1, 1) := by decide +kernel
theorem dX11_untell_1 : decode cX11_untell 1 = .ok (.ifCond .lt 24, 3) := by decide +kernel
theorem dX11_untell_4 : decode cX11_untell 4 = .ok (.iload_n 1, 1) := by decide +kernel
theorem dX11_untell_5 : decode cX11_untell 5 = .ok (.aload_n 0, 1) := by decide +kernel
theorem dX11_untell_6 : decode cX11_untell 6 = .ok (.getfield 245, 3) := by decide +kernel
theorem dX11_untell_9 : decode cX11_untell 9 = .ok (.if_icmp .ge 16, 3) := by decide +kernel
theorem dX11_untell_12 : decode cX11_untell 12 = .ok (.aload_n 0, 1) := by decide +kernel
theorem dX11_untell_13 : decode cX11_untell 13 = .ok (.getfield 91, 3) := by decide +kernel
theorem dX11_untell_16 : decode cX11_untell 16 = .ok (.iload_n 1, 1) := by decide +kernel
theorem dX11_untell_17 : decode cX11_untell 17 = .ok (.aaload, 1) := by decide +kernel
theorem dX11_untell_18 : decode cX11_untell 18 = .ok (.getfield 255, 3) := by decide +kernel
theorem dX11_untell_21 : decode cX11_untell 21 = .ok (.iconst (-1), 1) := by decide +kernel
theorem dX11_untell_22 : decode cX11_untell 22 = .ok (.if_icmp .eq 5, 3) := by decide +kernel
theorem dX11_untell_25 : decode cX11_untell 25 = .ok (.iconst 0, 1) := by decide +kernel
theorem dX11_untell_26 : decode cX11_untell 26 = .ok (.ireturn, 1) := by decide +kernel
theorem dX11_untell_27 : decode cX11_untell 27 = .ok (.aload_n 0, 1) := by decide +kernel
theorem dX11_untell_28 : decode cX11_untell 28 = .ok (.getfield 91, 3) := by decide +kernel
theorem dX11_untell_31 : decode cX11_untell 31 = .ok (.iload_n 1, 1) := by decide +kernel
theorem dX11_untell_32 : decode cX11_untell 32 = .ok (.aaload, 1) := by decide +kernel
theorem dX11_untell_33 : decode cX11_untell 33 = .ok (.aload_n 0, 1) := by decide +kernel
theorem dX11_untell_34 : decode cX11_untell 34 = .ok (.getfield 212, 3) := by decide +kernel
theorem dX11_untell_37 : decode cX11_untell 37 = .ok (.putfield 255, 3) := by decide +kernel
theorem dX11_untell_40 : decode cX11_untell 40 = .ok (.iconst 1, 1) := by decide +kernel
theorem dX11_untell_41 : decode cX11_untell 41 = .ok (.ireturn, 1) := by decide +kernel
set_option maxHeartbeats 4000000 in
set_option maxRecDepth 20000 in
theorem c_X11_untell (l : Launch) (b : Nat) (D : va_G) (cy : Nat → ClassId) {tt : Nat} {M : xMm} {z : Int} (hI : IO M) (hz : inR z) : xC l b D cy yX11_untell cX11_untell 2 (some .boolean) ({ frames := 0, cells := 0, slots := 0, locals := 0 }) [xr 1, xi z] 209 M (RS tt) (xPi 209 (RS tt) (fun r M' => ((0 ≤ z ∧ z < M 1 15 ∧ M (142 + z.toNat) 3 = -1) ∧ r = 1 ∧ M' = mu M (142 + z.toNat) 3 (M 1 16)) ∨ (¬ (0 ≤ z ∧ z < M 1 15 ∧ M (142 + z.toNat) 3 = -1) ∧ r = 0 ∧ M' = M))) := by
  refine x_met (by decide) (Nat.le_of_ble_eq_true rfl) (fun g hg hr he => ?_)
  obtain ⟨hn10, hn13, hn15, hn16, hn8, hn7, hC, hT, hB, hF⟩ := hI
  refine x_canon (ls' := [(0, _), (1, _)]) rfl ?_
  refine x_iload_n hg dX11_untell_0 rfl ?_
  refine x_if_lt (tgt := 25) hg dX11_untell_1 (by decide) (by omega) (fun c1 => ?_) (fun c1 => ?_)
  · skip
    refine x_iconst hg dX11_untell_25 ?_
    refine x_iret hg hr (Or.inr ⟨rfl, by first | exact Or.inl rfl | exact Or.inr rfl | omega⟩) dX11_untell_26 (Nat.le_refl _) (Nat.le_refl _) ?_
    refine ⟨rfl, rfl, _, rfl, ?_⟩
    first | exact Or.inl ⟨by omega, rfl, rfl⟩ | exact Or.inr ⟨by omega, rfl, rfl⟩
  · skip
    refine x_iload_n hg dX11_untell_4 rfl ?_
    refine x_aload_n hg dX11_untell_5 rfl ?_
    refine x_getI hg dX11_untell_6 fl_X11_245 (by decide) rfl ?_
    refine x_icmp_ge (tgt := 25) hg dX11_untell_9 (by decide) (by omega) (by omega) (fun c9 => ?_) (fun c9 => ?_)
    · skip
      refine x_iconst hg dX11_untell_25 ?_
      refine x_iret hg hr (Or.inr ⟨rfl, by first | exact Or.inl rfl | exact Or.inr rfl | omega⟩) dX11_untell_26 (Nat.le_refl _) (Nat.le_refl _) ?_
      refine ⟨rfl, rfl, _, rfl, ?_⟩
      first | exact Or.inl ⟨by omega, rfl, rfl⟩ | exact Or.inr ⟨by omega, rfl, rfl⟩
    · skip
      refine x_aload_n hg dX11_untell_12 rfl ?_
      refine x_getR (j9 := 141) hg dX11_untell_13 fl_X11_91 (by decide) rfl rfl (by decide) ?_
      refine x_iload_n hg dX11_untell_16 rfl ?_
      refine x_aaload (len := 30) (et := 8) hg dX11_untell_17 (by decide) (by decide) (by omega) (RS_find _ _) (by omega) ?_
      refine x_getI hg dX11_untell_18 fl_X11_255 (oO_find (by omega)) rfl ?_
      refine x_iconst hg dX11_untell_21 ?_
      refine x_icmp_eq (tgt := 27) hg dX11_untell_22 (by decide) (by have h1 := hF z.toNat (by omega); omega) (by omega) (fun c22 => ?_) (fun c22 => ?_)
      · skip
        refine x_aload_n hg dX11_untell_27 rfl ?_
        refine x_getR (j9 := 141) hg dX11_untell_28 fl_X11_91 (by decide) rfl rfl (by decide) ?_
        refine x_iload_n hg dX11_untell_31 rfl ?_
        refine x_aaload (len := 30) (et := 8) hg dX11_untell_32 (by decide) (by decide) (by omega) (RS_find _ _) (by omega) ?_
        refine x_aload_n hg dX11_untell_33 rfl ?_
        refine x_getI hg dX11_untell_34 fl_X11_212 (by decide) rfl ?_
        refine x_putI hg dX11_untell_37 fl_X11_255 ft_3_3 (oO_find (by omega)) rfl ?_
        refine x_iconst hg dX11_untell_40 ?_
        refine x_iret hg hr (Or.inr ⟨rfl, by first | exact Or.inl rfl | exact Or.inr rfl | omega⟩) dX11_untell_41 (Nat.le_refl _) (Nat.le_refl _) ?_
        refine ⟨rfl, rfl, _, rfl, ?_⟩
        first | exact Or.inl ⟨by omega, rfl, rfl⟩ | exact Or.inr ⟨by omega, rfl, rfl⟩
      · skip
        refine x_iconst hg dX11_untell_25 ?_
        refine x_iret hg hr (Or.inr ⟨rfl, by first | exact Or.inl rfl | exact Or.inr rfl | omega⟩) dX11_untell_26 (Nat.le_refl _) (Nat.le_refl _) ?_
        refine ⟨rfl, rfl, _, rfl, ?_⟩
        first | exact Or.inl ⟨by omega, rfl, rfl⟩ | exact Or.inr ⟨by omega, rfl, rfl⟩
end
section
theorem dX11_lead_0 : decode cX11_lead 0 = .ok (.iload_n 1, 1) := by decide +kernel
theorem dX11_lead_1 : decode cX11_lead 1 = .ok (.invokestatic 215, 3) := by decide +kernel
theorem dX11_lead_4 : decode cX11_lead 4 = .ok (.ifCond .eq 15, 3) := by decide +kernel
theorem dX11_lead_7 : decode cX11_lead 7 = .ok (.iload_n 2, 1) := by decide +kernel
theorem dX11_lead_8 : decode cX11_lead 8 = .ok (.invokestatic 215, 3) := by decide +kernel
theorem dX11_lead_11 : decode cX11_lead 11 = .ok (.ifCond .eq 8, 3) := by decide +kernel
theorem dX11_lead_14 : decode cX11_lead 14 = .ok (.iload_n 1, 1) := by decide +kernel
theorem dX11_lead_15 : decode cX11_lead 15 = .ok (.iload_n 2, 1) := by decide +kernel
theorem dX11_lead_16 : decode cX11_lead 16 = .ok (.if_icmp .ne 5, 3) := by decide +kernel
theorem dX11_lead_19 : decode cX11_lead 19 = .ok (.iconst (-1), 1) := by decide +kernel
theorem dX11_lead_20 : decode cX11_lead 20 = .ok (.ireturn, 1) := by decide +kernel
theorem dX11_lead_21 : decode cX11_lead 21 = .ok (.aload_n 0, 1) := by decide +kernel
theorem dX11_lead_22 : decode cX11_lead 22 = .ok (.getfield 77, 3) := by decide +kernel
theorem dX11_lead_25 : decode cX11_lead 25 = .ok (.iload_n 1, 1) := by decide +kernel
theorem dX11_lead_26 : decode cX11_lead 26 = .ok (.aaload, 1) := by decide +kernel
theorem dX11_lead_27 : decode cX11_lead 27 = .ok (.iload_n 3, 1) := by decide +kernel
theorem dX11_lead_28 : decode cX11_lead 28 = .ok (.invokevirtual 225, 3) := by decide +kernel
theorem dX11_lead_31 : decode cX11_lead 31 = .ok (.ifCond .eq 16, 3) := by decide +kernel
theorem dX11_lead_34 : decode cX11_lead 34 = .ok (.aload_n 0, 1) := by decide +kernel
theorem dX11_lead_35 : decode cX11_lead 35 = .ok (.getfield 77, 3) := by decide +kernel
theorem dX11_lead_38 : decode cX11_lead 38 = .ok (.iload_n 2, 1) := by decide +kernel
theorem dX11_lead_39 : decode cX11_lead 39 = .ok (.aaload, 1) := by decide +kernel
theorem dX11_lead_40 : decode cX11_lead 40 = .ok (.iload_n 3, 1) := by decide +kernel
theorem dX11_lead_41 : decode cX11_lead 41 = .ok (.invokevirtual 218, 3) := by decide +kernel
theorem dX11_lead_44 : decode cX11_lead 44 = .ok (.ifCond .ne 5, 3) := by decide +kernel
theorem dX11_lead_47 : decode cX11_lead 47 = .ok (.iconst (-1), 1) := by decide +kernel
theorem dX11_lead_48 : decode cX11_lead 48 = .ok (.ireturn, 1) := by decide +kernel
theorem dX11_lead_49 : decode cX11_lead 49 = .ok (.aload_n 0, 1) := by decide +kernel
theorem dX11_lead_50 : decode cX11_lead 50 = .ok (.getfield 77, 3) := by decide +kernel
theorem dX11_lead_53 : decode cX11_lead 53 = .ok (.iload_n 2, 1) := by decide +kernel
theorem dX11_lead_54 : decode cX11_lead 54 = .ok (.aaload, 1) := by decide +kernel
theorem dX11_lead_55 : decode cX11_lead 55 = .ok (.iload_n 3, 1) := by decide +kernel
theorem dX11_lead_56 : decode cX11_lead 56 = .ok (.aload_n 0, 1) := by decide +kernel
theorem dX11_lead_57 : decode cX11_lead 57 = .ok (.getfield 77, 3) := by decide +kernel
theorem dX11_lead_60 : decode cX11_lead 60 = .ok (.iload_n 1, 1) := by decide +kernel
theorem dX11_lead_61 : decode cX11_lead 61 = .ok (.aaload, 1) := by decide +kernel
theorem dX11_lead_62 : decode cX11_lead 62 = .ok (.getfield 228, 3) := by decide +kernel
theorem dX11_lead_65 : decode cX11_lead 65 = .ok (.invokevirtual 221, 3) := by decide +kernel
theorem dX11_lead_68 : decode cX11_lead 68 = .ok (.aload_n 0, 1) := by decide +kernel
theorem dX11_lead_69 : decode cX11_lead 69 = .ok (.getfield 77, 3) := by decide +kernel
theorem dX11_lead_72 : decode cX11_lead 72 = .ok (.iload_n 1, 1) := by decide +kernel
theorem dX11_lead_73 : decode cX11_lead 73 = .ok (.aaload, 1) := by decide +kernel
theorem dX11_lead_74 : decode cX11_lead 74 = .ok (.iload_n 3, 1) := by decide +kernel
theorem dX11_lead_75 : decode cX11_lead 75 = .ok (.invokevirtual 231, 3) := by decide +kernel
theorem dX11_lead_78 : decode cX11_lead 78 = .ok (.aload_n 0, 1) := by decide +kernel
theorem dX11_lead_79 : decode cX11_lead 79 = .ok (.getfield 77, 3) := by decide +kernel
theorem dX11_lead_82 : decode cX11_lead 82 = .ok (.iload_n 1, 1) := by decide +kernel
theorem dX11_lead_83 : decode cX11_lead 83 = .ok (.aaload, 1) := by decide +kernel
theorem dX11_lead_84 : decode cX11_lead 84 = .ok (.getfield 224, 3) := by decide +kernel
theorem dX11_lead_87 : decode cX11_lead 87 = .ok (.ireturn, 1) := by decide +kernel
set_option maxHeartbeats 4000000 in
set_option maxRecDepth 20000 in
theorem c_X11_lead (l : Launch) (b : Nat) (D : va_G) (cy : Nat → ClassId) {tt : Nat} {M : xMm} {z y p : Int} (hI : IO M) (hz : inR z) (hy : inR y) (hp : inR p) : xC l b D cy yX11_lead cX11_lead 4 (some .int) ({ frames := 1, cells := 0, slots := 0, locals := 22 }) [xr 1, xi z, xi y, xi p] 209 M (RS tt) (xPi 209 (RS tt) (fun r M' => ((0 ≤ z ∧ z < 4 ∧ 0 ≤ y ∧ y < 4 ∧ z ≠ y ∧ 1 ≤ p ∧ p ≤ M (96 + z.toNat) 0 ∧ p ≤ 1000 - M (96 + y.toNat) 0) ∧ r = (M (96 + z.toNat) 0 - p) ∧ M' = if (M (96 + z.toNat) 0 - p) = 0 then mu (mu (mu (mu M (96 + y.toNat) 0 (M (96 + y.toNat) 0 + p)) (96 + y.toNat) 1 (bOr (M (96 + y.toNat) 1) (M (96 + z.toNat) 1))) (96 + z.toNat) 0 (M (96 + z.toNat) 0 - p)) (96 + z.toNat) 1 0 else mu (mu (mu M (96 + y.toNat) 0 (M (96 + y.toNat) 0 + p)) (96 + y.toNat) 1 (bOr (M (96 + y.toNat) 1) (M (96 + z.toNat) 1))) (96 + z.toNat) 0 (M (96 + z.toNat) 0 - p)) ∨ (¬ (0 ≤ z ∧ z < 4 ∧ 0 ≤ y ∧ y < 4 ∧ z ≠ y ∧ 1 ≤ p ∧ p ≤ M (96 + z.toNat) 0 ∧ p ≤ 1000 - M (96 + y.toNat) 0) ∧ r = -1 ∧ M' = M))) := by
  refine x_met (by decide) (Nat.le_of_ble_eq_true rfl) (fun g hg hr he => ?_)
  obtain ⟨hn10, hn13, hn15, hn16, hn8, hn7, hC, hT, hB, hF⟩ := hI
  refine x_canon (ls' := [(0, _), (1, _), (2, _), (3, _)]) rfl ?_
  refine x_iload_n hg dX11_lead_0 rfl ?_
  refine x_cSi hg he [_] [] dX11_lead_1 ms_X11_215 (c_X11_isTank l b D cy (by omega)) rfl rfl (Nat.le_of_ble_eq_true rfl) (by decide) (by decide) (fun r1 M1 q1 => ?_)
  obtain ⟨h1, e1⟩ := q1
  replace h1 := h1.symm
  subst h1
  refine x_if_eq (tgt := 19) hg dX11_lead_4 (by decide) (by omega) (fun c4 => ?_) (fun c4 => ?_)
  · skip
    refine x_iconst hg dX11_lead_19 ?_
    refine x_iret hg hr (Or.inl rfl) dX11_lead_20 (Nat.le_refl _) (Nat.le_refl _) ?_
    exact ⟨rfl, rfl, _, rfl, Or.inr ⟨by omega, rfl, rfl⟩⟩
  · skip
    refine x_iload_n hg dX11_lead_7 rfl ?_
    refine x_cSi hg he [_] [] dX11_lead_8 ms_X11_215 (c_X11_isTank l b D cy (by omega)) rfl rfl (Nat.le_of_ble_eq_true rfl) (by decide) (by decide) (fun r8 M8 q8 => ?_)
    obtain ⟨h8, e8⟩ := q8
    replace h8 := h8.symm
    subst h8
    refine x_if_eq (tgt := 19) hg dX11_lead_11 (by decide) (by omega) (fun c11 => ?_) (fun c11 => ?_)
    · skip
      refine x_iconst hg dX11_lead_19 ?_
      refine x_iret hg hr (Or.inl rfl) dX11_lead_20 (Nat.le_refl _) (Nat.le_refl _) ?_
      exact ⟨rfl, rfl, _, rfl, Or.inr ⟨by omega, rfl, rfl⟩⟩
    · skip
      refine x_iload_n hg dX11_lead_14 rfl ?_
      refine x_iload_n hg dX11_lead_15 rfl ?_
      refine x_icmp_ne (tgt := 21) hg dX11_lead_16 (by decide) (by omega) (by omega) (fun c16 => ?_) (fun c16 => ?_)
      · skip
        refine x_aload_n hg dX11_lead_21 rfl ?_
        refine x_getR (j9 := 95) hg dX11_lead_22 fl_X11_77 (by decide) rfl rfl (by decide) ?_
        refine x_iload_n hg dX11_lead_25 rfl ?_
        refine x_aaload (len := 4) (et := 6) hg dX11_lead_26 (by decide) (by decide) (by omega) (RS_tank _ _) (by omega) ?_
        refine x_iload_n hg dX11_lead_27 rfl ?_
        refine x_cVi hg he [_] [] dX11_lead_28 mv_X11_225 (c_X6_canGive l b D cy (oO_tank (by omega)) (by omega) (by have h1 := hT z.toNat (by omega); have h2 := hT y.toNat (by omega); omega)) (oO_tank (by omega)) rfl rfl (Nat.le_of_ble_eq_true rfl) (by decide) (by decide) (fun r28 M28 q28 => ?_)
        obtain ⟨h28, e28⟩ := q28
        replace h28 := h28.symm
        subst h28
        refine x_if_eq (tgt := 47) hg dX11_lead_31 (by decide) (by omega) (fun c31 => ?_) (fun c31 => ?_)
        · skip
          refine x_iconst hg dX11_lead_47 ?_
          refine x_iret hg hr (Or.inl rfl) dX11_lead_48 (Nat.le_refl _) (Nat.le_refl _) ?_
          exact ⟨rfl, rfl, _, rfl, Or.inr ⟨by omega, rfl, rfl⟩⟩
        · skip
          refine x_aload_n hg dX11_lead_34 rfl ?_
          refine x_getR (j9 := 95) hg dX11_lead_35 fl_X11_77 (by decide) rfl rfl (by decide) ?_
          refine x_iload_n hg dX11_lead_38 rfl ?_
          refine x_aaload (len := 4) (et := 6) hg dX11_lead_39 (by decide) (by decide) (by omega) (RS_tank _ _) (by omega) ?_
          refine x_iload_n hg dX11_lead_40 rfl ?_
          refine x_cVi hg he [_] [] dX11_lead_41 mv_X11_218 (c_X6_hasRoomFor l b D cy (oO_tank (by omega)) (by omega) (by have h1 := hT z.toNat (by omega); have h2 := hT y.toNat (by omega); omega)) (oO_tank (by omega)) rfl rfl (Nat.le_of_ble_eq_true rfl) (by decide) (by decide) (fun r41 M41 q41 => ?_)
          obtain ⟨h41, e41⟩ := q41
          replace h41 := h41.symm
          subst h41
          refine x_if_ne (tgt := 49) hg dX11_lead_44 (by decide) (by omega) (fun c44 => ?_) (fun c44 => ?_)
          · skip
            refine x_aload_n hg dX11_lead_49 rfl ?_
            refine x_getR (j9 := 95) hg dX11_lead_50 fl_X11_77 (by decide) rfl rfl (by decide) ?_
            refine x_iload_n hg dX11_lead_53 rfl ?_
            refine x_aaload (len := 4) (et := 6) hg dX11_lead_54 (by decide) (by decide) (by omega) (RS_tank _ _) (by omega) ?_
            refine x_iload_n hg dX11_lead_55 rfl ?_
            refine x_aload_n hg dX11_lead_56 rfl ?_
            refine x_getR (j9 := 95) hg dX11_lead_57 fl_X11_77 (by decide) rfl rfl (by decide) ?_
            refine x_iload_n hg dX11_lead_60 rfl ?_
            refine x_aaload (len := 4) (et := 6) hg dX11_lead_61 (by decide) (by decide) (by omega) (RS_tank _ _) (by omega) ?_
            refine x_getI hg dX11_lead_62 fl_X11_228 (oO_tank (by omega)) rfl ?_
            refine x_cVv hg he [_, _] [] dX11_lead_65 mv_X11_221 (c_X6_fill l b D cy (oO_tank (by omega))) (oO_tank (by omega)) rfl rfl (Nat.le_of_ble_eq_true rfl) (by decide) (by decide) (fun M65 q65 => ?_)
            subst q65
            refine x_aload_n hg dX11_lead_68 rfl ?_
            refine x_getR (j9 := 95) hg dX11_lead_69 fl_X11_77 (by decide) rfl rfl (by decide) ?_
            refine x_iload_n hg dX11_lead_72 rfl ?_
            refine x_aaload (len := 4) (et := 6) hg dX11_lead_73 (by decide) (by decide) (by omega) (RS_tank _ _) (by omega) ?_
            refine x_iload_n hg dX11_lead_74 rfl ?_
            refine x_cVv hg he [_] [] dX11_lead_75 mv_X11_231 (c_X6_draw l b D cy (oO_tank (by omega)) (by simp (disch := omega) only [mu_s, mu_nf, mu_nc]; have h1 := hT z.toNat (by omega); have h2 := hT y.toNat (by omega); omega) (by simp (disch := omega) only [mu_s, mu_nf, mu_nc]; have h1 := hT z.toNat (by omega); have h2 := hT y.toNat (by omega); omega)) (oO_tank (by omega)) rfl rfl (Nat.le_of_ble_eq_true rfl) (by decide) (by decide) (fun M75 q75 => ?_)
            simp (disch := omega) only [mu_s, mu_nf, mu_nc] at q75
            have q75b : M75 (96 + z.toNat) 0 = M (96 + z.toNat) 0 - p := by rw [q75]; split <;> simp (disch := omega) only [mu_s, mu_nf, mu_nc]
            refine x_aload_n hg dX11_lead_78 rfl ?_
            refine x_getR (j9 := 95) hg dX11_lead_79 fl_X11_77 (by decide) rfl rfl (by decide) ?_
            refine x_iload_n hg dX11_lead_82 rfl ?_
            refine x_aaload (len := 4) (et := 6) hg dX11_lead_83 (by decide) (by decide) (by omega) (RS_tank _ _) (by omega) ?_
            refine x_getI hg dX11_lead_84 fl_X11_224 (oO_tank (by omega)) rfl ?_
            try simp (disch := omega) only [mu_s, mu_nf, mu_nc]
            refine x_iret hg hr (Or.inl rfl) dX11_lead_87 (Nat.le_refl _) (Nat.le_refl _) ?_
            refine ⟨rfl, rfl, _, rfl, Or.inl ⟨by omega, q75b, q75⟩⟩
          · skip
            refine x_iconst hg dX11_lead_47 ?_
            refine x_iret hg hr (Or.inl rfl) dX11_lead_48 (Nat.le_refl _) (Nat.le_refl _) ?_
            exact ⟨rfl, rfl, _, rfl, Or.inr ⟨by omega, rfl, rfl⟩⟩
      · skip
        refine x_iconst hg dX11_lead_19 ?_
        refine x_iret hg hr (Or.inl rfl) dX11_lead_20 (Nat.le_refl _) (Nat.le_refl _) ?_
        exact ⟨rfl, rfl, _, rfl, Or.inr ⟨by omega, rfl, rfl⟩⟩

theorem dX11_isCalledBack_0 : decode cX11_isCalledBack 0 = .ok (.aload_n 1, 1) := by decide +kernel
theorem dX11_isCalledBack_1 : decode cX11_isCalledBack 1 = .ok (.getfield 239, 3) := by decide +kernel
theorem dX11_isCalledBack_4 : decode cX11_isCalledBack 4 = .ok (.iload_n 2, 1) := by decide +kernel
theorem dX11_isCalledBack_5 : decode cX11_isCalledBack 5 = .ok (.if_icmp .le 5, 3) := by decide +kernel
theorem dX11_isCalledBack_8 : decode cX11_isCalledBack 8 = .ok (.iconst 0, 1) := by decide +kernel
theorem dX11_isCalledBack_9 : decode cX11_isCalledBack 9 = .ok (.ireturn, 1) := by decide +kernel
theorem dX11_isCalledBack_10 : decode cX11_isCalledBack 10 = .ok (.iconst 0, 1) := by decide +kernel
theorem dX11_isCalledBack_11 : decode cX11_isCalledBack 11 = .ok (.istore_n 3, 1) := by decide +kernel
theorem dX11_isCalledBack_12 : decode cX11_isCalledBack 12 = .ok (.iload_n 3, 1) := by decide +kernel
theorem dX11_isCalledBack_13 : decode cX11_isCalledBack 13 = .ok (.aload_n 0, 1) := by decide +kernel
theorem dX11_isCalledBack_14 : decode cX11_isCalledBack 14 = .ok (.getfield 245, 3) := by decide +kernel
theorem dX11_isCalledBack_17 : decode cX11_isCalledBack 17 = .ok (.if_icmp .ge 37, 3) := by decide +kernel
theorem dX11_isCalledBack_20 : decode cX11_isCalledBack 20 = .ok (.aload_n 0, 1) := by decide +kernel
theorem dX11_isCalledBack_21 : decode cX11_isCalledBack 21 = .ok (.getfield 91, 3) := by decide +kernel
theorem dX11_isCalledBack_24 : decode cX11_isCalledBack 24 = .ok (.iload_n 3, 1) := by decide +kernel
theorem dX11_isCalledBack_25 : decode cX11_isCalledBack 25 = .ok (.aaload, 1) := by decide +kernel
theorem dX11_isCalledBack_26 : decode cX11_isCalledBack 26 = .ok (.iload_n 2, 1) := by decide +kernel
theorem dX11_isCalledBack_27 : decode cX11_isCalledBack 27 = .ok (.invokevirtual 262, 3) := by decide +kernel
theorem dX11_isCalledBack_30 : decode cX11_isCalledBack 30 = .ok (.ifCond .eq 18, 3) := by decide +kernel
theorem dX11_isCalledBack_33 : decode cX11_isCalledBack 33 = .ok (.aload_n 0, 1) := by decide +kernel
theorem dX11_isCalledBack_34 : decode cX11_isCalledBack 34 = .ok (.getfield 91, 3) := by decide +kernel
theorem dX11_isCalledBack_37 : decode cX11_isCalledBack 37 = .ok (.iload_n 3, 1) := by decide +kernel
theorem dX11_isCalledBack_38 : decode cX11_isCalledBack 38 = .ok (.aaload, 1) := by decide +kernel
theorem dX11_isCalledBack_39 : decode cX11_isCalledBack 39 = .ok (.aload_n 1, 1) := by decide +kernel
theorem dX11_isCalledBack_40 : decode cX11_isCalledBack 40 = .ok (.invokevirtual 265, 3) := by decide +kernel
theorem dX11_isCalledBack_43 : decode cX11_isCalledBack 43 = .ok (.ifCond .eq 5, 3) := by decide +kernel
theorem dX11_isCalledBack_46 : decode cX11_isCalledBack 46 = .ok (.iconst 1, 1) := by decide +kernel
theorem dX11_isCalledBack_47 : decode cX11_isCalledBack 47 = .ok (.ireturn, 1) := by decide +kernel
theorem dX11_isCalledBack_48 : decode cX11_isCalledBack 48 = .ok (.iinc 3 1, 3) := by decide +kernel
theorem dX11_isCalledBack_51 : decode cX11_isCalledBack 51 = .ok (.goto (-39), 3) := by decide +kernel
theorem dX11_isCalledBack_54 : decode cX11_isCalledBack 54 = .ok (.iconst 0, 1) := by decide +kernel
theorem dX11_isCalledBack_55 : decode cX11_isCalledBack 55 = .ok (.ireturn, 1) := by decide +kernel
set_option maxHeartbeats 4000000 in
set_option maxRecDepth 20000 in
theorem c_X11_isCalledBack (l : Launch) (b : Nat) (D : va_G) (cy : Nat → ClassId) {tt : Nat} {M : xMm} {j : Nat} {k : Int} (hI : IO M) (hj : xO 209 j 0) (hj2 : 0 ≤ M j 2 ∧ M j 2 ≤ 100000) (hk : inR k) : xC l b D cy yX11_isCalledBack cX11_isCalledBack 4 (some .boolean) ({ frames := 1, cells := 0, slots := 0, locals := 21 }) [xr 1, xr j, xi k] 209 M (RS tt) (xPi 209 (RS tt) (fun r M' => M' = M ∧ (pCB M j k ∧ r = 1 ∨ ¬ pCB M j k ∧ r = 0))) := by
  refine x_met (by decide) (Nat.le_of_ble_eq_true rfl) (fun g hg hr he => ?_)
  have hI0 := hI
  obtain ⟨hn10, hn13, hn15, hn16, hn8, hn7, hC, hT, hB, hF⟩ := hI
  refine x_canon (ls' := [(0, _), (1, _), (2, _)]) rfl ?_
  have loop : ∀ (f : Nat) (i : Int), 0 ≤ i → i ≤ M 1 15 → M 1 15 - i < f → M j 2 ≤ k → (∀ a : Nat, (a : Int) < i → ¬ (pKn M (142 + a) k ∧ pCo M (142 + a) j)) → xW g 209 M (RS tt) 0 0 12 [(0, xr 1), (1, xr j), (2, xi k), (3, xi i)] [] := by
    intro f
    induction f with
    | zero => intro i h1 h2 h3 _ _; exact absurd h3 (by omega)
    | succ f ih =>
      intro i hi1 hi2 hi3 hjk hno
      refine x_iload_n hg dX11_isCalledBack_12 rfl ?_
      refine x_aload_n hg dX11_isCalledBack_13 rfl ?_
      refine x_getI hg dX11_isCalledBack_14 fl_X11_245 (by decide) rfl ?_
      refine x_icmp_ge (tgt := 54) hg dX11_isCalledBack_17 (by decide) (by omega) (by omega) (fun c17 => ?_) (fun c17 => ?_)
      · skip
        refine x_iconst hg dX11_isCalledBack_54 ?_
        refine x_iret hg hr (Or.inr ⟨rfl, by first | exact Or.inl rfl | exact Or.inr rfl | omega⟩) dX11_isCalledBack_55 (Nat.le_refl _) (Nat.le_refl _) ?_
        refine ⟨rfl, rfl, _, rfl, rfl, Or.inr ⟨?_, rfl⟩⟩
        rintro ⟨-, a, ha, hp⟩
        exact hno a (by omega) hp
      · skip
        refine x_aload_n hg dX11_isCalledBack_20 rfl ?_
        refine x_getR (j9 := 141) hg dX11_isCalledBack_21 fl_X11_91 (by decide) rfl rfl (by decide) ?_
        refine x_iload_n hg dX11_isCalledBack_24 rfl ?_
        refine x_aaload (len := 30) (et := 8) hg dX11_isCalledBack_25 (by decide) (by decide) (by omega) (RS_find _ _) (by omega) ?_
        refine x_iload_n hg dX11_isCalledBack_26 rfl ?_
        refine x_cVi hg he [_] [] dX11_isCalledBack_27 mv_X11_262 (c_X3_isKnownAt l b D cy (oO_find (by omega)) (by omega) (by have h1 := hF i.toNat (by omega); omega) (by have h1 := hF i.toNat (by omega); omega)) (oO_find (by omega)) rfl rfl (Nat.le_of_ble_eq_true rfl) (by decide) (by decide) (fun r27 M27 q27 => ?_)
        obtain ⟨h27, e27⟩ := q27
        replace h27 := h27.symm
        subst h27
        refine x_if_eq (tgt := 48) hg dX11_isCalledBack_30 (by decide) (by omega) (fun c30 => ?_) (fun c30 => ?_)
        · skip
          refine x_iinc (ls' := [(0, _), (1, _), (2, _), (3, _)]) hg dX11_isCalledBack_48 rfl (by decide) rfl ?_
          refine x_goto (tgt := 12) hg dX11_isCalledBack_51 (by decide) ?_
          refine ih _ (by omega) (by omega) (by omega) hjk (fun a ha => ?_)
          by_cases hai : (a : Int) < i
          · exact hno a hai
          · have ea : a = i.toNat := by omega
            subst ea
            intro hcon
            first | (exact absurd hcon.1 (by omega)) | (exact absurd hcon.2 (by omega))
        · skip
          refine x_aload_n hg dX11_isCalledBack_33 rfl ?_
          refine x_getR (j9 := 141) hg dX11_isCalledBack_34 fl_X11_91 (by decide) rfl rfl (by decide) ?_
          refine x_iload_n hg dX11_isCalledBack_37 rfl ?_
          refine x_aaload (len := 30) (et := 8) hg dX11_isCalledBack_38 (by decide) (by decide) (by omega) (RS_find _ _) (by omega) ?_
          refine x_aload_n hg dX11_isCalledBack_39 rfl ?_
          refine x_cVi hg he [_] [] dX11_isCalledBack_40 mv_X11_265 (c_X3_concerns l b D cy (oO_find (by omega)) hj (by have h1 := hF i.toNat (by omega); omega) (by omega)) (oO_find (by omega)) rfl rfl (Nat.le_of_ble_eq_true rfl) (by decide) (by decide) (fun r40 M40 q40 => ?_)
          obtain ⟨h40, e40⟩ := q40
          replace h40 := h40.symm
          subst h40
          refine x_if_eq (tgt := 48) hg dX11_isCalledBack_43 (by decide) (by omega) (fun c43 => ?_) (fun c43 => ?_)
          · skip
            refine x_iinc (ls' := [(0, _), (1, _), (2, _), (3, _)]) hg dX11_isCalledBack_48 rfl (by decide) rfl ?_
            refine x_goto (tgt := 12) hg dX11_isCalledBack_51 (by decide) ?_
            refine ih _ (by omega) (by omega) (by omega) hjk (fun a ha => ?_)
            by_cases hai : (a : Int) < i
            · exact hno a hai
            · have ea : a = i.toNat := by omega
              subst ea
              intro hcon
              first | (exact absurd hcon.1 (by omega)) | (exact absurd hcon.2 (by omega))
          · skip
            refine x_iconst hg dX11_isCalledBack_46 ?_
            refine x_iret hg hr (Or.inr ⟨rfl, by first | exact Or.inl rfl | exact Or.inr rfl | omega⟩) dX11_isCalledBack_47 (Nat.le_refl _) (Nat.le_refl _) ?_
            exact ⟨rfl, rfl, _, rfl, rfl, Or.inl ⟨⟨by omega, i.toNat, by omega, by omega, by omega⟩, rfl⟩⟩
  refine x_aload_n hg dX11_isCalledBack_0 rfl ?_
  refine x_getI hg dX11_isCalledBack_1 fl_X11_239 hj rfl ?_
  refine x_iload_n hg dX11_isCalledBack_4 rfl ?_
  refine x_icmp_le (tgt := 10) hg dX11_isCalledBack_5 (by decide) (by omega) (by omega) (fun c5 => ?_) (fun c5 => ?_)
  · skip
    refine x_iconst hg dX11_isCalledBack_10 ?_
    refine x_istore_n (ls' := [(0, _), (1, _), (2, _), (3, _)]) hg dX11_isCalledBack_11 rfl (by decide) rfl ?_
    exact loop ((M 1 15).toNat + 1) 0 (by omega) (by omega) (by omega) (by omega) (fun a ha => absurd ha (by omega))
  · skip
    refine x_iconst hg dX11_isCalledBack_8 ?_
    refine x_iret hg hr (Or.inr ⟨rfl, by first | exact Or.inl rfl | exact Or.inr rfl | omega⟩) dX11_isCalledBack_9 (Nat.le_refl _) (Nat.le_refl _) ?_
    exact ⟨rfl, rfl, _, rfl, rfl, Or.inr ⟨fun hp => absurd hp.1 (by omega), rfl⟩⟩

theorem dX11_recalled_0 : decode cX11_recalled 0 = .ok (.aload_n 0, 1) := by decide +kernel
theorem dX11_recalled_1 : decode cX11_recalled 1 = .ok (.iload_n 1, 1) := by decide +kernel
theorem dX11_recalled_2 : decode cX11_recalled 2 = .ok (.invokevirtual 242, 3) := by decide +kernel
theorem dX11_recalled_5 : decode cX11_recalled 5 = .ok (.ifCond .ne 5, 3) := by decide +kernel
theorem dX11_recalled_8 : decode cX11_recalled 8 = .ok (.iconst (-1), 1) := by decide +kernel
theorem dX11_recalled_9 : decode cX11_recalled 9 = .ok (.ireturn, 1) := by decide +kernel
theorem dX11_recalled_10 : decode cX11_recalled 10 = .ok (.aload_n 0, 1) := by decide +kernel
theorem dX11_recalled_11 : decode cX11_recalled 11 = .ok (.aload_n 0, 1) := by decide +kernel
theorem dX11_recalled_12 : decode cX11_recalled 12 = .ok (.getfield 84, 3) := by decide +kernel
theorem dX11_recalled_15 : decode cX11_recalled 15 = .ok (.iload_n 1, 1) := by decide +kernel
theorem dX11_recalled_16 : decode cX11_recalled 16 = .ok (.aaload, 1) := by decide +kernel
theorem dX11_recalled_17 : decode cX11_recalled 17 = .ok (.iload_n 2, 1) := by decide +kernel
theorem dX11_recalled_18 : decode cX11_recalled 18 = .ok (.invokevirtual 258, 3) := by decide +kernel
theorem dX11_recalled_21 : decode cX11_recalled 21 = .ok (.ifCond .eq 7, 3) := by decide +kernel
theorem dX11_recalled_24 : decode cX11_recalled 24 = .ok (.iconst 1, 1) := by decide +kernel
theorem dX11_recalled_25 : decode cX11_recalled 25 = .ok (.goto 4, 3) := by decide +kernel
theorem dX11_recalled_28 : decode cX11_recalled 28 = .ok (.iconst 0, 1) := by decide +kernel
theorem dX11_recalled_29 : decode cX11_recalled 29 = .ok (.ireturn, 1) := by decide +kernel
set_option maxHeartbeats 4000000 in
set_option maxRecDepth 20000 in
theorem c_X11_recalled (l : Launch) (b : Nat) (D : va_G) (cy : Nat → ClassId) {tt : Nat} {M : xMm} {z k : Int} (hI : IO M) (hz : inR z) (hk : inR k) : xC l b D cy yX11_recalled cX11_recalled 3 (some .int) ({ frames := 2, cells := 0, slots := 0, locals := 44 }) [xr 1, xi z, xi k] 209 M (RS tt) (xPi 209 (RS tt) (fun r M' => M' = M ∧ ((0 ≤ z ∧ z < M 1 13) ∧ (pCB M (101 + z.toNat) k ∧ r = 1 ∨ ¬ pCB M (101 + z.toNat) k ∧ r = 0) ∨ ¬ (0 ≤ z ∧ z < M 1 13) ∧ r = -1))) := by
  refine x_met (by decide) (Nat.le_of_ble_eq_true rfl) (fun g hg hr he => ?_)
  have hI0 := hI
  obtain ⟨hn10, hn13, hn15, hn16, hn8, hn7, hC, hT, hB, hF⟩ := hI
  refine x_canon (ls' := [(0, _), (1, _), (2, _)]) rfl ?_
  refine x_aload_n hg dX11_recalled_0 rfl ?_
  refine x_iload_n hg dX11_recalled_1 rfl ?_
  refine x_cVi hg he [_] [] dX11_recalled_2 mv_X11_242 (c_X11_isBottling l b D cy (by omega) (by omega)) (by decide) rfl rfl (Nat.le_of_ble_eq_true rfl) (by decide) (by decide) (fun r2 M2 q2 => ?_)
  obtain ⟨h2, e2⟩ := q2
  replace h2 := h2.symm
  subst h2
  refine x_if_ne (tgt := 10) hg dX11_recalled_5 (by decide) (by omega) (fun c5 => ?_) (fun c5 => ?_)
  · skip
    refine x_aload_n hg dX11_recalled_10 rfl ?_
    refine x_aload_n hg dX11_recalled_11 rfl ?_
    refine x_getR (j9 := 100) hg dX11_recalled_12 fl_X11_84 (by decide) rfl rfl (by decide) ?_
    refine x_iload_n hg dX11_recalled_15 rfl ?_
    refine x_aaload (len := 40) (et := 7) hg dX11_recalled_16 (by decide) (by decide) (by omega) (RS_bottling _ _) (by omega) ?_
    refine x_iload_n hg dX11_recalled_17 rfl ?_
    refine x_cVi hg he [_, _] [] dX11_recalled_18 mv_X11_258 (c_X11_isCalledBack l b D cy hI0 (oO_bottling (by omega)) (by have h1 := hB z.toNat (by omega); omega) (by omega)) (by decide) rfl rfl (Nat.le_of_ble_eq_true rfl) (by decide) (by decide) (fun r18 M18 q18 => ?_)
    obtain ⟨h18, e18⟩ := q18
    replace h18 := h18.symm
    subst h18
    have e18b : r18 = 0 ∨ r18 = 1 := by rcases e18 with ⟨-, h⟩ | ⟨-, h⟩ <;> omega
    refine x_if_eq (tgt := 28) hg dX11_recalled_21 (by decide) (by omega) (fun c21 => ?_) (fun c21 => ?_)
    · skip
      refine x_iconst hg dX11_recalled_28 ?_
      refine x_iret hg hr (Or.inl rfl) dX11_recalled_29 (Nat.le_refl _) (Nat.le_refl _) ?_
      refine ⟨rfl, rfl, _, rfl, rfl, ?_⟩
      first | exact Or.inr ⟨by omega, rfl⟩ | (refine Or.inl ⟨by omega, ?_⟩; rcases e18 with h | h <;> first | exact Or.inl ⟨h.1, by omega⟩ | exact Or.inr ⟨h.1, by omega⟩)
    · skip
      refine x_iconst hg dX11_recalled_24 ?_
      refine x_goto (tgt := 29) hg dX11_recalled_25 (by decide) ?_
      refine x_iret hg hr (Or.inl rfl) dX11_recalled_29 (Nat.le_refl _) (Nat.le_refl _) ?_
      refine ⟨rfl, rfl, _, rfl, rfl, ?_⟩
      first | exact Or.inr ⟨by omega, rfl⟩ | (refine Or.inl ⟨by omega, ?_⟩; rcases e18 with h | h <;> first | exact Or.inl ⟨h.1, by omega⟩ | exact Or.inr ⟨h.1, by omega⟩)
  · skip
    refine x_iconst hg dX11_recalled_8 ?_
    refine x_iret hg hr (Or.inl rfl) dX11_recalled_9 (Nat.le_refl _) (Nat.le_refl _) ?_
    refine ⟨rfl, rfl, _, rfl, rfl, ?_⟩
    first | exact Or.inr ⟨by omega, rfl⟩ | (refine Or.inl ⟨by omega, ?_⟩; rcases e18 with h | h <;> first | exact Or.inl ⟨h.1, by omega⟩ | exact Or.inr ⟨h.1, by omega⟩)

theorem dX11_recall_0 : decode cX11_recall 0 = .ok (.iconst 0, 1) := by decide +kernel
theorem dX11_recall_1 : decode cX11_recall 1 = .ok (.istore_n 2, 1) := by decide +kernel
theorem dX11_recall_2 : decode cX11_recall 2 = .ok (.iconst 0, 1) := by decide +kernel
theorem dX11_recall_3 : decode cX11_recall 3 = .ok (.istore_n 3, 1) := by decide +kernel
theorem dX11_recall_4 : decode cX11_recall 4 = .ok (.iload_n 3, 1) := by decide +kernel
theorem dX11_recall_5 : decode cX11_recall 5 = .ok (.aload_n 0, 1) := by decide +kernel
theorem dX11_recall_6 : decode cX11_recall 6 = .ok (.getfield 234, 3) := by decide +kernel
theorem dX11_recall_9 : decode cX11_recall 9 = .ok (.if_icmp .ge 35, 3) := by decide +kernel
theorem dX11_recall_12 : decode cX11_recall 12 = .ok (.aload_n 0, 1) := by decide +kernel
theorem dX11_recall_13 : decode cX11_recall 13 = .ok (.aload_n 0, 1) := by decide +kernel
theorem dX11_recall_14 : decode cX11_recall 14 = .ok (.getfield 84, 3) := by decide +kernel
theorem dX11_recall_17 : decode cX11_recall 17 = .ok (.iload_n 3, 1) := by decide +kernel
theorem dX11_recall_18 : decode cX11_recall 18 = .ok (.aaload, 1) := by decide +kernel
theorem dX11_recall_19 : decode cX11_recall 19 = .ok (.iload_n 1, 1) := by decide +kernel
theorem dX11_recall_20 : decode cX11_recall 20 = .ok (.invokevirtual 258, 3) := by decide +kernel
theorem dX11_recall_23 : decode cX11_recall 23 = .ok (.ifCond .eq 15, 3) := by decide +kernel
theorem dX11_recall_26 : decode cX11_recall 26 = .ok (.iload_n 2, 1) := by decide +kernel
theorem dX11_recall_27 : decode cX11_recall 27 = .ok (.aload_n 0, 1) := by decide +kernel
theorem dX11_recall_28 : decode cX11_recall 28 = .ok (.getfield 84, 3) := by decide +kernel
theorem dX11_recall_31 : decode cX11_recall 31 = .ok (.iload_n 3, 1) := by decide +kernel
theorem dX11_recall_32 : decode cX11_recall 32 = .ok (.aaload, 1) := by decide +kernel
theorem dX11_recall_33 : decode cX11_recall 33 = .ok (.getfield 237, 3) := by decide +kernel
theorem dX11_recall_36 : decode cX11_recall 36 = .ok (.iadd, 1) := by decide +kernel
theorem dX11_recall_37 : decode cX11_recall 37 = .ok (.istore_n 2, 1) := by decide +kernel
theorem dX11_recall_38 : decode cX11_recall 38 = .ok (.iinc 3 1, 3) := by decide +kernel
theorem dX11_recall_41 : decode cX11_recall 41 = .ok (.goto (-37), 3) := by decide +kernel
theorem dX11_recall_44 : decode cX11_recall 44 = .ok (.iload_n 2, 1) := by decide +kernel
theorem dX11_recall_45 : decode cX11_recall 45 = .ok (.ireturn, 1) := by decide +kernel
set_option maxHeartbeats 4000000 in
set_option maxRecDepth 20000 in
theorem c_X11_recall (l : Launch) (b : Nat) (D : va_G) (cy : Nat → ClassId) {tt : Nat} {M : xMm} {k : Int} (hI : IO M) (hk : inR k) : xC l b D cy yX11_recall cX11_recall 4 (some .int) ({ frames := 2, cells := 0, slots := 0, locals := 44 }) [xr 1, xi k] 209 M (RS tt) (xPi 209 (RS tt) (fun r M' => M' = M ∧ r = vRs M k (M 1 13).toNat)) := by
  refine x_met (by decide) (Nat.le_of_ble_eq_true rfl) (fun g hg hr he => ?_)
  have hI0 := hI
  obtain ⟨hn10, hn13, hn15, hn16, hn8, hn7, hC, hT, hB, hF⟩ := hI
  refine x_canon (ls' := [(0, _), (1, _)]) rfl ?_
  have hle := vRs_le (M := M) (k := k) (fun j hj => (hB j hj).1)
  have loop : ∀ (f : Nat) (i : Nat), (i : Int) ≤ M 1 13 → M 1 13 - i < f → xW g 209 M (RS tt) 0 0 4 [(0, xr 1), (1, xi k), (2, xi (vRs M k i)), (3, xi (i : Int))] [] := by
    intro f
    induction f with
    | zero => intro i h1 h2; exact absurd h2 (by omega)
    | succ f ih =>
      intro i hi2 hi3
      have hli := hle i (by omega)
      refine x_iload_n hg dX11_recall_4 rfl ?_
      refine x_aload_n hg dX11_recall_5 rfl ?_
      refine x_getI hg dX11_recall_6 fl_X11_234 (by decide) rfl ?_
      refine x_icmp_ge (tgt := 44) hg dX11_recall_9 (by decide) (by omega) (by omega) (fun c9 => ?_) (fun c9 => ?_)
      · skip
        refine x_iload_n hg dX11_recall_44 rfl ?_
        refine x_iret hg hr (Or.inl rfl) dX11_recall_45 (Nat.le_refl _) (Nat.le_refl _) ?_
        exact ⟨rfl, rfl, _, rfl, rfl, by rw [show i = (M 1 13).toNat by omega]⟩
      · skip
        refine x_aload_n hg dX11_recall_12 rfl ?_
        refine x_aload_n hg dX11_recall_13 rfl ?_
        refine x_getR (j9 := 100) hg dX11_recall_14 fl_X11_84 (by decide) rfl rfl (by decide) ?_
        refine x_iload_n hg dX11_recall_17 rfl ?_
        refine x_aaload (len := 40) (et := 7) hg dX11_recall_18 (by decide) (by decide) (by omega) (RS_bottling _ _) (by omega) ?_
        refine x_iload_n hg dX11_recall_19 rfl ?_
        refine x_cVi hg he [_, _] [] dX11_recall_20 mv_X11_258 (c_X11_isCalledBack l b D cy hI0 (oO_bottling (by omega)) (by have h1 := hB i (by omega); simp only [Int.toNat_natCast]; omega) (by omega)) (by decide) rfl rfl (Nat.le_of_ble_eq_true rfl) (by decide) (by decide) (fun r20 M20 q20 => ?_)
        obtain ⟨h20, e20⟩ := q20
        replace h20 := h20.symm
        subst h20
        simp only [Int.toNat_natCast] at e20
        have e20b : r20 = 0 ∨ r20 = 1 := by rcases e20 with ⟨-, h⟩ | ⟨-, h⟩ <;> omega
        have hb1 := hB i (by omega)
        refine x_if_eq (tgt := 38) hg dX11_recall_23 (by decide) (by omega) (fun c23 => ?_) (fun c23 => ?_)
        · skip
          refine x_iinc (ls' := [(0, _), (1, _), (2, _), (3, _)]) hg dX11_recall_38 rfl (by decide) rfl ?_
          refine x_goto (tgt := 4) hg dX11_recall_41 (by decide) ?_
          have hn := ih (i + 1) (by omega) (by omega)
          rcases e20 with ⟨hcb, h2⟩ | ⟨hcb, h2⟩
          · rw [vRs_y hcb] at hn
            first | (simp only [Int.toNat_natCast, Int.natCast_add, Int.natCast_one] at hn ⊢; exact hn) | exact absurd h2 (by omega)
          · rw [vRs_n hcb] at hn
            first | (simp only [Int.toNat_natCast, Int.natCast_add, Int.natCast_one] at hn ⊢; exact hn) | exact absurd h2 (by omega)
        · skip
          refine x_iload_n hg dX11_recall_26 rfl ?_
          refine x_aload_n hg dX11_recall_27 rfl ?_
          refine x_getR (j9 := 100) hg dX11_recall_28 fl_X11_84 (by decide) rfl rfl (by decide) ?_
          refine x_iload_n hg dX11_recall_31 rfl ?_
          refine x_aaload (len := 40) (et := 7) hg dX11_recall_32 (by decide) (by decide) (by omega) (RS_bottling _ _) (by omega) ?_
          refine x_getI hg dX11_recall_33 fl_X11_237 (oO_bottling (by omega)) rfl ?_
          refine x_iadd hg dX11_recall_36 ?_
          refine x_istore_n (ls' := [(0, _), (1, _), (2, _), (3, _)]) hg dX11_recall_37 rfl (by decide) rfl ?_
          refine x_iinc (ls' := [(0, _), (1, _), (2, _), (3, _)]) hg dX11_recall_38 rfl (by decide) rfl ?_
          refine x_goto (tgt := 4) hg dX11_recall_41 (by decide) ?_
          have hn := ih (i + 1) (by omega) (by omega)
          rcases e20 with ⟨hcb, h2⟩ | ⟨hcb, h2⟩
          · rw [vRs_y hcb] at hn
            first | (simp only [Int.toNat_natCast, Int.natCast_add, Int.natCast_one] at hn ⊢; exact hn) | exact absurd h2 (by omega)
          · rw [vRs_n hcb] at hn
            first | (simp only [Int.toNat_natCast, Int.natCast_add, Int.natCast_one] at hn ⊢; exact hn) | exact absurd h2 (by omega)
  refine x_iconst hg dX11_recall_0 ?_
  refine x_istore_n (ls' := [(0, _), (1, _), (2, _)]) hg dX11_recall_1 rfl (by decide) rfl ?_
  refine x_iconst hg dX11_recall_2 ?_
  refine x_istore_n (ls' := [(0, _), (1, _), (2, _), (3, _)]) hg dX11_recall_3 rfl (by decide) rfl ?_
  exact loop ((M 1 13).toNat + 1) 0 (by omega) (by omega)
end
section
theorem dX11_churn_0 : decode cX11_churn 0 = .ok (.iload_n 1, 1) := by decide +kernel
theorem dX11_churn_1 : decode cX11_churn 1 = .ok (.invokestatic 159, 3) := by decide +kernel
theorem dX11_churn_4 : decode cX11_churn 4 = .ok (.ifCond .eq 18, 3) := by decide +kernel
theorem dX11_churn_7 : decode cX11_churn 7 = .ok (.iload_n 2, 1) := by decide +kernel
theorem dX11_churn_8 : decode cX11_churn 8 = .ok (.iconst 1, 1) := by decide +kernel
theorem dX11_churn_9 : decode cX11_churn 9 = .ok (.if_icmp .lt 13, 3) := by decide +kernel
theorem dX11_churn_12 : decode cX11_churn 12 = .ok (.iload_n 2, 1) := by decide +kernel
theorem dX11_churn_13 : decode cX11_churn 13 = .ok (.bipush 10, 2) := by decide +kernel
theorem dX11_churn_15 : decode cX11_churn 15 = .ok (.if_icmp .ge 7, 3) := by decide +kernel
theorem dX11_churn_18 : decode cX11_churn 18 = .ok (.iconst 1, 1) := by decide +kernel
theorem dX11_churn_19 : decode cX11_churn 19 = .ok (.goto 4, 3) := by decide +kernel
theorem dX11_churn_22 : decode cX11_churn 22 = .ok (.iconst 0, 1) := by decide +kernel
theorem dX11_churn_23 : decode cX11_churn 23 = .ok (.istore 5, 2) := by decide +kernel
theorem dX11_churn_25 : decode cX11_churn 25 = .ok (.iload_n 3, 1) := by decide +kernel
theorem dX11_churn_26 : decode cX11_churn 26 = .ok (.ifCond .lt 14, 3) := by decide +kernel
theorem dX11_churn_29 : decode cX11_churn 29 = .ok (.iload_n 3, 1) := by decide +kernel
theorem dX11_churn_30 : decode cX11_churn 30 = .ok (.sipush 1439, 3) := by decide +kernel
theorem dX11_churn_33 : decode cX11_churn 33 = .ok (.if_icmp .gt 7, 3) := by decide +kernel
theorem dX11_churn_36 : decode cX11_churn 36 = .ok (.iconst 1, 1) := by decide +kernel
theorem dX11_churn_37 : decode cX11_churn 37 = .ok (.goto 4, 3) := by decide +kernel
theorem dX11_churn_40 : decode cX11_churn 40 = .ok (.iconst 0, 1) := by decide +kernel
theorem dX11_churn_41 : decode cX11_churn 41 = .ok (.istore 6, 2) := by decide +kernel
theorem dX11_churn_43 : decode cX11_churn 43 = .ok (.iload 4, 2) := by decide +kernel
theorem dX11_churn_45 : decode cX11_churn 45 = .ok (.iconst 1, 1) := by decide +kernel
theorem dX11_churn_46 : decode cX11_churn 46 = .ok (.if_icmp .lt 14, 3) := by decide +kernel
theorem dX11_churn_49 : decode cX11_churn 49 = .ok (.iload 4, 2) := by decide +kernel
theorem dX11_churn_51 : decode cX11_churn 51 = .ok (.bipush 100, 2) := by decide +kernel
theorem dX11_churn_53 : decode cX11_churn 53 = .ok (.if_icmp .gt 7, 3) := by decide +kernel
theorem dX11_churn_56 : decode cX11_churn 56 = .ok (.iconst 1, 1) := by decide +kernel
theorem dX11_churn_57 : decode cX11_churn 57 = .ok (.goto 4, 3) := by decide +kernel
theorem dX11_churn_60 : decode cX11_churn 60 = .ok (.iconst 0, 1) := by decide +kernel
theorem dX11_churn_61 : decode cX11_churn 61 = .ok (.istore 7, 2) := by decide +kernel
theorem dX11_churn_63 : decode cX11_churn 63 = .ok (.iload 5, 2) := by decide +kernel
theorem dX11_churn_65 : decode cX11_churn 65 = .ok (.ifCond .eq 22, 3) := by decide +kernel
theorem dX11_churn_68 : decode cX11_churn 68 = .ok (.iload 6, 2) := by decide +kernel
theorem dX11_churn_70 : decode cX11_churn 70 = .ok (.ifCond .eq 17, 3) := by decide +kernel
theorem dX11_churn_73 : decode cX11_churn 73 = .ok (.iload 7, 2) := by decide +kernel
theorem dX11_churn_75 : decode cX11_churn 75 = .ok (.ifCond .eq 12, 3) := by decide +kernel
theorem dX11_churn_78 : decode cX11_churn 78 = .ok (.aload_n 0, 1) := by decide +kernel
theorem dX11_churn_79 : decode cX11_churn 79 = .ok (.getfield 162, 3) := by decide +kernel
theorem dX11_churn_82 : decode cX11_churn 82 = .ok (.bipush 10, 2) := by decide +kernel
theorem dX11_churn_84 : decode cX11_churn 84 = .ok (.if_icmp .lt 5, 3) := by decide +kernel
theorem dX11_churn_87 : decode cX11_churn 87 = .ok (.iconst (-1), 1) := by decide +kernel
theorem dX11_churn_88 : decode cX11_churn 88 = .ok (.ireturn, 1) := by decide +kernel
theorem dX11_churn_89 : decode cX11_churn 89 = .ok (.aload_n 0, 1) := by decide +kernel
theorem dX11_churn_90 : decode cX11_churn 90 = .ok (.getfield 70, 3) := by decide +kernel
theorem dX11_churn_93 : decode cX11_churn 93 = .ok (.aload_n 0, 1) := by decide +kernel
theorem dX11_churn_94 : decode cX11_churn 94 = .ok (.getfield 162, 3) := by decide +kernel
theorem dX11_churn_97 : decode cX11_churn 97 = .ok (.aaload, 1) := by decide +kernel
theorem dX11_churn_98 : decode cX11_churn 98 = .ok (.astore 8, 2) := by decide +kernel
theorem dX11_churn_100 : decode cX11_churn 100 = .ok (.aload 8, 2) := by decide +kernel
theorem dX11_churn_102 : decode cX11_churn 102 = .ok (.iload_n 1, 1) := by decide +kernel
theorem dX11_churn_103 : decode cX11_churn 103 = .ok (.putfield 165, 3) := by decide +kernel
theorem dX11_churn_106 : decode cX11_churn 106 = .ok (.aload 8, 2) := by decide +kernel
theorem dX11_churn_108 : decode cX11_churn 108 = .ok (.iload_n 2, 1) := by decide +kernel
theorem dX11_churn_109 : decode cX11_churn 109 = .ok (.putfield 168, 3) := by decide +kernel
theorem dX11_churn_112 : decode cX11_churn 112 = .ok (.aload 8, 2) := by decide +kernel
theorem dX11_churn_114 : decode cX11_churn 114 = .ok (.iload_n 3, 1) := by decide +kernel
theorem dX11_churn_115 : decode cX11_churn 115 = .ok (.putfield 171, 3) := by decide +kernel
theorem dX11_churn_118 : decode cX11_churn 118 = .ok (.aload 8, 2) := by decide +kernel
theorem dX11_churn_120 : decode cX11_churn 120 = .ok (.iload 4, 2) := by decide +kernel
theorem dX11_churn_122 : decode cX11_churn 122 = .ok (.putfield 174, 3) := by decide +kernel
theorem dX11_churn_125 : decode cX11_churn 125 = .ok (.aload_n 0, 1) := by decide +kernel
theorem dX11_churn_126 : decode cX11_churn 126 = .ok (.dup, 1) := by decide +kernel
theorem dX11_churn_127 : decode cX11_churn 127 = .ok (.getfield 162, 3) := by decide +kernel
theorem dX11_churn_130 : decode cX11_churn 130 = .ok (.iconst 1, 1) := by decide +kernel
theorem dX11_churn_131 : decode cX11_churn 131 = .ok (.iadd, 1) := by decide +kernel
theorem dX11_churn_132 : decode cX11_churn 132 = .ok (.putfield 162, 3) := by decide +kernel
theorem dX11_churn_135 : decode cX11_churn 135 = .ok (.aload_n 0, 1) := by decide +kernel
theorem dX11_churn_136 : decode cX11_churn 136 = .ok (.iconst 1, 1) := by decide +kernel
theorem dX11_churn_137 : decode cX11_churn 137 = .ok (.putfield 60, 3) := by decide +kernel
theorem dX11_churn_140 : decode cX11_churn 140 = .ok (.aload_n 0, 1) := by decide +kernel
theorem dX11_churn_141 : decode cX11_churn 141 = .ok (.getfield 162, 3) := by decide +kernel
theorem dX11_churn_144 : decode cX11_churn 144 = .ok (.iconst 1, 1) := by decide +kernel
theorem dX11_churn_145 : decode cX11_churn 145 = .ok (.isub, 1) := by decide +kernel
theorem dX11_churn_146 : decode cX11_churn 146 = .ok (.ireturn, 1) := by decide +kernel
set_option maxHeartbeats 4000000 in
set_option maxRecDepth 20000 in
theorem c_X11_churn (l : Launch) (b : Nat) (D : va_G) (cy : Nat → ClassId) {tt : Nat} {M : xMm} {f s y p : Int} (hI : IO M) (hf : inR f) (hs : inR s) (hy : inR y) (hp : inR p) : xC l b D cy yX11_churn cX11_churn 9 (some .int) ({ frames := 1, cells := 0, slots := 0, locals := 20 }) [xr 1, xi f, xi s, xi y, xi p] 209 M (RS tt) (xPi 209 (RS tt) (fun r M' => (((0 ≤ f ∧ f < 12) ∧ (1 ≤ s ∧ s < 10) ∧ (0 ≤ y ∧ y ≤ 1439) ∧ (1 ≤ p ∧ p ≤ 100) ∧ M 1 10 < 10) ∧ r = M 1 10 ∧ M' = mu (mu (mu (mu (mu (mu M (85 + (M 1 10).toNat) 0 f) (85 + (M 1 10).toNat) 1 s) (85 + (M 1 10).toNat) 2 y) (85 + (M 1 10).toNat) 3 p) 1 10 (M 1 10 + 1)) 1 7 1) ∨ (¬ ((0 ≤ f ∧ f < 12) ∧ (1 ≤ s ∧ s < 10) ∧ (0 ≤ y ∧ y ≤ 1439) ∧ (1 ≤ p ∧ p ≤ 100) ∧ M 1 10 < 10) ∧ r = -1 ∧ M' = M))) := by
  refine x_met (by decide) (Nat.le_of_ble_eq_true rfl) (fun g hg hr he => ?_)
  obtain ⟨hn10, hn13, hn15, hn16, hn8, hn7, hC, hT, hB, hF⟩ := hI
  refine x_canon (ls' := [(0, _), (1, _), (2, _), (3, _), (4, _)]) rfl ?_
  have j61 : ∀ a a6 a7 : Int, (((0 ≤ f ∧ f < 12) ∧ (1 ≤ s ∧ s < 10)) ∧ a = 1 ∨ ¬ ((0 ≤ f ∧ f < 12) ∧ (1 ≤ s ∧ s < 10)) ∧ a = 0) → ((0 ≤ y ∧ y ≤ 1439) ∧ a6 = 1 ∨ ¬ (0 ≤ y ∧ y ≤ 1439) ∧ a6 = 0) → ((1 ≤ p ∧ p ≤ 100) ∧ a7 = 1 ∨ ¬ (1 ≤ p ∧ p ≤ 100) ∧ a7 = 0) → xW g 209 M (RS tt) 0 0 61 [(0, xr 1), (1, xi f), (2, xi s), (3, xi y), (4, xi p), (5, xi a), (6, xi a6)] [xi a7] := by
    intro a a6 a7 e5 e6 e7
    refine x_istore (ls' := [(0, _), (1, _), (2, _), (3, _), (4, _), (5, _), (6, _), (7, _)]) hg dX11_churn_61 (by decide) rfl ?_
    refine x_iload hg dX11_churn_63 rfl ?_
    refine x_if_eq (tgt := 87) hg dX11_churn_65 (by decide) (by omega) (fun c65 => ?_) (fun c65 => ?_)
    · skip
      refine x_iconst hg dX11_churn_87 ?_
      refine x_iret hg hr (Or.inl rfl) dX11_churn_88 (Nat.le_refl _) (Nat.le_refl _) ?_
      exact ⟨rfl, rfl, _, rfl, Or.inr ⟨by omega, rfl, rfl⟩⟩
    · skip
      refine x_iload hg dX11_churn_68 rfl ?_
      refine x_if_eq (tgt := 87) hg dX11_churn_70 (by decide) (by omega) (fun c70 => ?_) (fun c70 => ?_)
      · skip
        refine x_iconst hg dX11_churn_87 ?_
        refine x_iret hg hr (Or.inl rfl) dX11_churn_88 (Nat.le_refl _) (Nat.le_refl _) ?_
        exact ⟨rfl, rfl, _, rfl, Or.inr ⟨by omega, rfl, rfl⟩⟩
      · skip
        refine x_iload hg dX11_churn_73 rfl ?_
        refine x_if_eq (tgt := 87) hg dX11_churn_75 (by decide) (by omega) (fun c75 => ?_) (fun c75 => ?_)
        · skip
          refine x_iconst hg dX11_churn_87 ?_
          refine x_iret hg hr (Or.inl rfl) dX11_churn_88 (Nat.le_refl _) (Nat.le_refl _) ?_
          exact ⟨rfl, rfl, _, rfl, Or.inr ⟨by omega, rfl, rfl⟩⟩
        · skip
          refine x_aload_n hg dX11_churn_78 rfl ?_
          refine x_getI hg dX11_churn_79 fl_X11_162 (by decide) rfl ?_
          refine x_bipush hg dX11_churn_82 (by decide) ?_
          refine x_icmp_lt (tgt := 89) hg dX11_churn_84 (by decide) (by omega) (by omega) (fun c84 => ?_) (fun c84 => ?_)
          · skip
            refine x_aload_n hg dX11_churn_89 rfl ?_
            refine x_getR (j9 := 84) hg dX11_churn_90 fl_X11_70 (by decide) rfl rfl (by decide) ?_
            refine x_aload_n hg dX11_churn_93 rfl ?_
            refine x_getI hg dX11_churn_94 fl_X11_162 (by decide) rfl ?_
            refine x_aaload (len := 10) (et := 5) hg dX11_churn_97 (by decide) (by decide) (by omega) (RS_churn _ _) (by omega) ?_
            refine x_astore (ls' := [(0, _), (1, _), (2, _), (3, _), (4, _), (5, _), (6, _), (7, _), (8, _)]) hg dX11_churn_98 (by decide) rfl ?_
            refine x_aload hg dX11_churn_100 rfl ?_
            refine x_iload_n hg dX11_churn_102 rfl ?_
            refine x_putI hg dX11_churn_103 fl_X11_165 ft_1_0 (oO_churn (by omega)) rfl ?_
            refine x_aload hg dX11_churn_106 rfl ?_
            refine x_iload_n hg dX11_churn_108 rfl ?_
            refine x_putI hg dX11_churn_109 fl_X11_168 ft_1_1 (oO_churn (by omega)) rfl ?_
            refine x_aload hg dX11_churn_112 rfl ?_
            refine x_iload_n hg dX11_churn_114 rfl ?_
            refine x_putI hg dX11_churn_115 fl_X11_171 ft_1_2 (oO_churn (by omega)) rfl ?_
            refine x_aload hg dX11_churn_118 rfl ?_
            refine x_iload hg dX11_churn_120 rfl ?_
            refine x_putI hg dX11_churn_122 fl_X11_174 ft_1_3 (oO_churn (by omega)) rfl ?_
            refine x_aload_n hg dX11_churn_125 rfl ?_
            refine x_dup hg dX11_churn_126 rfl ?_
            refine x_getI hg dX11_churn_127 fl_X11_162 (by decide) rfl ?_
            try simp (disch := omega) only [mu_s, mu_nf, mu_nc]
            refine x_iconst hg dX11_churn_130 ?_
            refine x_iadd hg dX11_churn_131 ?_
            refine x_putI hg dX11_churn_132 fl_X11_162 ft_11_10 (by decide) rfl ?_
            refine x_aload_n hg dX11_churn_135 rfl ?_
            refine x_iconst hg dX11_churn_136 ?_
            refine x_putZ hg dX11_churn_137 fl_X11_60 ft_11_7 (by decide) rfl (by first | exact Or.inl rfl | exact Or.inr rfl | omega) ?_
            refine x_aload_n hg dX11_churn_140 rfl ?_
            refine x_getI hg dX11_churn_141 fl_X11_162 (by decide) rfl ?_
            try simp (disch := omega) only [mu_s, mu_nf, mu_nc]
            refine x_iconst hg dX11_churn_144 ?_
            refine x_isub hg dX11_churn_145 ?_
            refine x_iret hg hr (Or.inl rfl) dX11_churn_146 (Nat.le_refl _) (Nat.le_refl _) ?_
            exact ⟨rfl, rfl, _, rfl, Or.inl ⟨by omega, by omega, rfl⟩⟩
          · skip
            refine x_iconst hg dX11_churn_87 ?_
            refine x_iret hg hr (Or.inl rfl) dX11_churn_88 (Nat.le_refl _) (Nat.le_refl _) ?_
            exact ⟨rfl, rfl, _, rfl, Or.inr ⟨by omega, rfl, rfl⟩⟩
  have j41 : ∀ a a6 : Int, (((0 ≤ f ∧ f < 12) ∧ (1 ≤ s ∧ s < 10)) ∧ a = 1 ∨ ¬ ((0 ≤ f ∧ f < 12) ∧ (1 ≤ s ∧ s < 10)) ∧ a = 0) → ((0 ≤ y ∧ y ≤ 1439) ∧ a6 = 1 ∨ ¬ (0 ≤ y ∧ y ≤ 1439) ∧ a6 = 0) → xW g 209 M (RS tt) 0 0 41 [(0, xr 1), (1, xi f), (2, xi s), (3, xi y), (4, xi p), (5, xi a)] [xi a6] := by
    intro a a6 e5 e6
    refine x_istore (ls' := [(0, _), (1, _), (2, _), (3, _), (4, _), (5, _), (6, _)]) hg dX11_churn_41 (by decide) rfl ?_
    refine x_iload hg dX11_churn_43 rfl ?_
    refine x_iconst hg dX11_churn_45 ?_
    refine x_icmp_lt (tgt := 60) hg dX11_churn_46 (by decide) (by omega) (by omega) (fun c46 => ?_) (fun c46 => ?_)
    · skip
      refine x_iconst hg dX11_churn_60 ?_
      exact j61 _ _ _ e5 e6 (by omega)
    · skip
      refine x_iload hg dX11_churn_49 rfl ?_
      refine x_bipush hg dX11_churn_51 (by decide) ?_
      refine x_icmp_gt (tgt := 60) hg dX11_churn_53 (by decide) (by omega) (by omega) (fun c53 => ?_) (fun c53 => ?_)
      · skip
        refine x_iconst hg dX11_churn_60 ?_
        exact j61 _ _ _ e5 e6 (by omega)
      · skip
        refine x_iconst hg dX11_churn_56 ?_
        refine x_goto (tgt := 61) hg dX11_churn_57 (by decide) ?_
        exact j61 _ _ _ e5 e6 (by omega)
  have j23 : ∀ a : Int, (((0 ≤ f ∧ f < 12) ∧ (1 ≤ s ∧ s < 10)) ∧ a = 1 ∨ ¬ ((0 ≤ f ∧ f < 12) ∧ (1 ≤ s ∧ s < 10)) ∧ a = 0) → xW g 209 M (RS tt) 0 0 23 [(0, xr 1), (1, xi f), (2, xi s), (3, xi y), (4, xi p)] [xi a] := by
    intro a e5
    refine x_istore (ls' := [(0, _), (1, _), (2, _), (3, _), (4, _), (5, _)]) hg dX11_churn_23 (by decide) rfl ?_
    refine x_iload_n hg dX11_churn_25 rfl ?_
    refine x_if_lt (tgt := 40) hg dX11_churn_26 (by decide) (by omega) (fun c26 => ?_) (fun c26 => ?_)
    · skip
      refine x_iconst hg dX11_churn_40 ?_
      exact j41 _ _ e5 (by omega)
    · skip
      refine x_iload_n hg dX11_churn_29 rfl ?_
      refine x_sipush hg dX11_churn_30 (by decide) ?_
      refine x_icmp_gt (tgt := 40) hg dX11_churn_33 (by decide) (by omega) (by omega) (fun c33 => ?_) (fun c33 => ?_)
      · skip
        refine x_iconst hg dX11_churn_40 ?_
        exact j41 _ _ e5 (by omega)
      · skip
        refine x_iconst hg dX11_churn_36 ?_
        refine x_goto (tgt := 41) hg dX11_churn_37 (by decide) ?_
        exact j41 _ _ e5 (by omega)
  refine x_iload_n hg dX11_churn_0 rfl ?_
  refine x_cSi hg he [_] [] dX11_churn_1 ms_X11_159 (c_X11_isFarm l b D cy (by omega)) rfl rfl (Nat.le_of_ble_eq_true rfl) (by decide) (by decide) (fun r1 M1 q1 => ?_)
  obtain ⟨h1, e1⟩ := q1
  replace h1 := h1.symm
  subst h1
  refine x_if_eq (tgt := 22) hg dX11_churn_4 (by decide) (by omega) (fun c4 => ?_) (fun c4 => ?_)
  · skip
    refine x_iconst hg dX11_churn_22 ?_
    exact j23 _ (by omega)
  · skip
    refine x_iload_n hg dX11_churn_7 rfl ?_
    refine x_iconst hg dX11_churn_8 ?_
    refine x_icmp_lt (tgt := 22) hg dX11_churn_9 (by decide) (by omega) (by omega) (fun c9 => ?_) (fun c9 => ?_)
    · skip
      refine x_iconst hg dX11_churn_22 ?_
      exact j23 _ (by omega)
    · skip
      refine x_iload_n hg dX11_churn_12 rfl ?_
      refine x_bipush hg dX11_churn_13 (by decide) ?_
      refine x_icmp_ge (tgt := 22) hg dX11_churn_15 (by decide) (by omega) (by omega) (fun c15 => ?_) (fun c15 => ?_)
      · skip
        refine x_iconst hg dX11_churn_22 ?_
        exact j23 _ (by omega)
      · skip
        refine x_iconst hg dX11_churn_18 ?_
        refine x_goto (tgt := 23) hg dX11_churn_19 (by decide) ?_
        exact j23 _ (by omega)

theorem dX7_byteAt_0 : decode cX7_byteAt 0 = .ok (.iload_n 1, 1) := by decide +kernel
theorem dX7_byteAt_1 : decode cX7_byteAt 1 = .ok (.ifCond .lt 20, 3) := by decide +kernel
theorem dX7_byteAt_4 : decode cX7_byteAt 4 = .ok (.iload_n 1, 1) := by decide +kernel
theorem dX7_byteAt_5 : decode cX7_byteAt 5 = .ok (.aload_n 0, 1) := by decide +kernel
theorem dX7_byteAt_6 : decode cX7_byteAt 6 = .ok (.getfield 15, 3) := by decide +kernel
theorem dX7_byteAt_9 : decode cX7_byteAt 9 = .ok (.if_icmp .ge 12, 3) := by decide +kernel
theorem dX7_byteAt_12 : decode cX7_byteAt 12 = .ok (.aload_n 0, 1) := by decide +kernel
theorem dX7_byteAt_13 : decode cX7_byteAt 13 = .ok (.getfield 9, 3) := by decide +kernel
theorem dX7_byteAt_16 : decode cX7_byteAt 16 = .ok (.iload_n 1, 1) := by decide +kernel
theorem dX7_byteAt_17 : decode cX7_byteAt 17 = .ok (.iaload, 1) := by decide +kernel
theorem dX7_byteAt_18 : decode cX7_byteAt 18 = .ok (.goto 4, 3) := by decide +kernel
theorem dX7_byteAt_21 : decode cX7_byteAt 21 = .ok (.iconst (-1), 1) := by decide +kernel
theorem dX7_byteAt_22 : decode cX7_byteAt 22 = .ok (.ireturn, 1) := by decide +kernel
set_option maxHeartbeats 4000000 in
set_option maxRecDepth 20000 in
theorem c_X7_byteAt (l : Launch) (b : Nat) (D : va_G) (cy : Nat → ClassId) {tt : Nat} {M : xMm} {z : Int} (hI : IT M) (hz : inR z) : xC l b D cy yX7_byteAt cX7_byteAt 2 (some .int) ({ frames := 0, cells := 0, slots := 0, locals := 0 }) [xr 2, xi z] 209 M (RS tt) (xPi 209 (RS tt) (fun r M' => M' = M ∧ ((0 ≤ z ∧ z < M 2 1) ∧ r = M 3 z.toNat ∨ ¬ (0 ≤ z ∧ z < M 2 1) ∧ r = -1))) := by
  refine x_met (by decide) (Nat.le_of_ble_eq_true rfl) (fun g hg hr he => ?_)
  obtain ⟨hl, hby⟩ := id hI
  refine x_canon (ls' := [(0, _), (1, _)]) rfl ?_
  refine x_iload_n hg dX7_byteAt_0 rfl ?_
  refine x_if_lt (tgt := 21) hg dX7_byteAt_1 (by decide) (by omega) (fun c1 => ?_) (fun c1 => ?_)
  · skip
    refine x_iconst hg dX7_byteAt_21 ?_
    refine x_iret hg hr (Or.inl rfl) dX7_byteAt_22 (Nat.le_refl _) (Nat.le_refl _) ?_
    refine ⟨rfl, rfl, _, rfl, rfl, ?_⟩
    first | exact Or.inl ⟨by omega, rfl⟩ | exact Or.inr ⟨by omega, rfl⟩
  · skip
    refine x_iload_n hg dX7_byteAt_4 rfl ?_
    refine x_aload_n hg dX7_byteAt_5 rfl ?_
    refine x_getI hg dX7_byteAt_6 fl_X7_15 (by decide) rfl ?_
    refine x_icmp_ge (tgt := 21) hg dX7_byteAt_9 (by decide) (by omega) (by omega) (fun c9 => ?_) (fun c9 => ?_)
    · skip
      refine x_iconst hg dX7_byteAt_21 ?_
      refine x_iret hg hr (Or.inl rfl) dX7_byteAt_22 (Nat.le_refl _) (Nat.le_refl _) ?_
      refine ⟨rfl, rfl, _, rfl, rfl, ?_⟩
      first | exact Or.inl ⟨by omega, rfl⟩ | exact Or.inr ⟨by omega, rfl⟩
    · skip
      refine x_aload_n hg dX7_byteAt_12 rfl ?_
      refine x_getR (j9 := 3) hg dX7_byteAt_13 fl_X7_9 (by decide) rfl rfl (by decide) ?_
      refine x_iload_n hg dX7_byteAt_16 rfl ?_
      refine x_iaload (len := 1000) hg dX7_byteAt_17 (by decide) (by omega) ?_
      refine x_goto (tgt := 22) hg dX7_byteAt_18 (by decide) ?_
      refine x_iret hg hr (Or.inl rfl) dX7_byteAt_22 (Nat.le_refl _) (Nat.le_refl _) ?_
      refine ⟨rfl, rfl, _, rfl, rfl, ?_⟩
      first | exact Or.inl ⟨by omega, rfl⟩ | exact Or.inr ⟨by omega, rfl⟩

theorem dX7_append_0 : decode cX7_append 0 = .ok (.bipush 24, 2) := by decide +kernel
theorem dX7_append_2 : decode cX7_append 2 = .ok (.istore_n 2, 1) := by decide +kernel
theorem dX7_append_3 : decode cX7_append 3 = .ok (.iload_n 2, 1) := by decide +kernel
theorem dX7_append_4 : decode cX7_append 4 = .ok (.ifCond .lt 45, 3) := by decide +kernel
theorem dX7_append_7 : decode cX7_append 7 = .ok (.aload_n 0, 1) := by decide +kernel
theorem dX7_append_8 : decode cX7_append 8 = .ok (.getfield 15, 3) := by decide +kernel
theorem dX7_append_11 : decode cX7_append 11 = .ok (.sipush 1000, 3) := by decide +kernel
theorem dX7_append_14 : decode cX7_append 14 = .ok (.if_icmp .ge 35, 3) := by decide +kernel
theorem dX7_append_17 : decode cX7_append 17 = .ok (.aload_n 0, 1) := by decide +kernel
theorem dX7_append_18 : decode cX7_append 18 = .ok (.getfield 9, 3) := by decide +kernel
theorem dX7_append_21 : decode cX7_append 21 = .ok (.aload_n 0, 1) := by decide +kernel
theorem dX7_append_22 : decode cX7_append 22 = .ok (.getfield 15, 3) := by decide +kernel
theorem dX7_append_25 : decode cX7_append 25 = .ok (.iload_n 1, 1) := by decide +kernel
theorem dX7_append_26 : decode cX7_append 26 = .ok (.iload_n 2, 1) := by decide +kernel
theorem dX7_append_27 : decode cX7_append 27 = .ok (.iushr, 1) := by decide +kernel
theorem dX7_append_28 : decode cX7_append 28 = .ok (.sipush 255, 3) := by decide +kernel
theorem dX7_append_31 : decode cX7_append 31 = .ok (.iand, 1) := by decide +kernel
theorem dX7_append_32 : decode cX7_append 32 = .ok (.iastore, 1) := by decide +kernel
theorem dX7_append_33 : decode cX7_append 33 = .ok (.aload_n 0, 1) := by decide +kernel
theorem dX7_append_34 : decode cX7_append 34 = .ok (.dup, 1) := by decide +kernel
theorem dX7_append_35 : decode cX7_append 35 = .ok (.getfield 15, 3) := by decide +kernel
theorem dX7_append_38 : decode cX7_append 38 = .ok (.iconst 1, 1) := by decide +kernel
theorem dX7_append_39 : decode cX7_append 39 = .ok (.iadd, 1) := by decide +kernel
theorem dX7_append_40 : decode cX7_append 40 = .ok (.putfield 15, 3) := by decide +kernel
theorem dX7_append_43 : decode cX7_append 43 = .ok (.iinc 2 (-8), 3) := by decide +kernel
theorem dX7_append_46 : decode cX7_append 46 = .ok (.goto (-43), 3) := by decide +kernel
theorem dX7_append_49 : decode cX7_append 49 = .ok (.return_, 1) := by decide +kernel
set_option maxHeartbeats 4000000 in
set_option maxRecDepth 20000 in
theorem c_X7_append (l : Launch) (b : Nat) (D : va_G) (cy : Nat → ClassId) {tt : Nat} {M0 : xMm} {z : Int} (hI : IT M0) : xC l b D cy yX7_append cX7_append 3 none ({ frames := 0, cells := 0, slots := 0, locals := 0 }) [xr 2, xi z] 209 M0 (RS tt) (xPv 209 (RS tt) (fun M' => IT M' ∧ ∀ a, a ≠ 2 → a ≠ 3 → M' a = M0 a)) := by
  refine x_met (by decide) (Nat.le_of_ble_eq_true rfl) (fun g hg hr he => ?_)
  refine x_canon (ls' := [(0, _), (1, _)]) rfl ?_
  have loop : ∀ (c : Nat) (M : xMm) (s : Int), s ≤ 24 → s + 8 < c → -8 ≤ s → IT M → (∀ a, a ≠ 2 → a ≠ 3 → M a = M0 a) → xW g 209 M (RS tt) 0 0 3 [(0, xr 2), (1, xi z), (2, xi s)] [] := by
    intro c
    induction c with
    | zero => intro M s h1 h2 h3 _ _; exact absurd h2 (by omega)
    | succ c ih =>
      intro M s hs1 hs2 hs3 hI hfr
      obtain ⟨hl, hby⟩ := id hI
      refine x_iload_n hg dX7_append_3 rfl ?_
      refine x_if_lt (tgt := 49) hg dX7_append_4 (by decide) (by omega) (fun c4 => ?_) (fun c4 => ?_)
      · skip
        refine x_vret hg hr dX7_append_49 (Nat.le_refl _) (Nat.le_refl _) ?_
        exact ⟨rfl, rfl, rfl, hI, hfr⟩
      · skip
        refine x_aload_n hg dX7_append_7 rfl ?_
        refine x_getI hg dX7_append_8 fl_X7_15 (by decide) rfl ?_
        refine x_sipush hg dX7_append_11 (by decide) ?_
        refine x_icmp_ge (tgt := 49) hg dX7_append_14 (by decide) (by omega) (by omega) (fun c14 => ?_) (fun c14 => ?_)
        · skip
          refine x_vret hg hr dX7_append_49 (Nat.le_refl _) (Nat.le_refl _) ?_
          exact ⟨rfl, rfl, rfl, hI, hfr⟩
        · skip
          refine x_aload_n hg dX7_append_17 rfl ?_
          refine x_getR (j9 := 3) hg dX7_append_18 fl_X7_9 (by decide) rfl rfl (by decide) ?_
          refine x_aload_n hg dX7_append_21 rfl ?_
          refine x_getI hg dX7_append_22 fl_X7_15 (by decide) rfl ?_
          refine x_iload_n hg dX7_append_25 rfl ?_
          refine x_iload_n hg dX7_append_26 rfl ?_
          refine x_iushr hg dX7_append_27 ?_
          refine x_sipush hg dX7_append_28 (by decide) ?_
          refine x_iand hg dX7_append_31 ?_
          refine x_iastore (len := 1000) hg dX7_append_32 (by decide) (by omega)  ?_
          refine x_aload_n hg dX7_append_33 rfl ?_
          refine x_dup hg dX7_append_34 rfl ?_
          refine x_getI hg dX7_append_35 fl_X7_15 (by decide) rfl ?_
          try simp (disch := omega) only [mu_s, mu_nf, mu_nc]
          refine x_iconst hg dX7_append_38 ?_
          refine x_iadd hg dX7_append_39 ?_
          refine x_putI hg dX7_append_40 fl_X7_15 ft_7_1 (by decide) rfl ?_
          refine x_iinc (ls' := [(0, _), (1, _), (2, _)]) hg dX7_append_43 rfl (by decide) rfl ?_
          refine x_goto (tgt := 3) hg dX7_append_46 (by decide) ?_
          have hb := bAnd_255 (bUshr z s)
          refine ih _ _ (by omega) (by omega) (by omega) (IT_len (IT_byte hI hb.1 hb.2) (by omega) (by omega)) (fun a h2 h3 => ?_)
          rw [← hfr a h2 h3]
          funext c
          rw [mu_nc h2, mu_nc h3]
  refine x_bipush hg dX7_append_0 (by decide) ?_
  refine x_istore_n (ls' := [(0, _), (1, _), (2, _)]) hg dX7_append_2 rfl (by decide) rfl ?_
  exact loop 33 M0 24 (by omega) (by omega) (by omega) hI (fun a _ _ => rfl)

theorem dX11_feed_0 : decode cX11_feed 0 = .ok (.aload_n 0, 1) := by decide +kernel
theorem dX11_feed_1 : decode cX11_feed 1 = .ok (.getfield 12, 3) := by decide +kernel
theorem dX11_feed_4 : decode cX11_feed 4 = .ok (.getfield 96, 3) := by decide +kernel
theorem dX11_feed_7 : decode cX11_feed 7 = .ok (.bipush 20, 2) := by decide +kernel
theorem dX11_feed_9 : decode cX11_feed 9 = .ok (.iadd, 1) := by decide +kernel
theorem dX11_feed_10 : decode cX11_feed 10 = .ok (.sipush 1000, 3) := by decide +kernel
theorem dX11_feed_13 : decode cX11_feed 13 = .ok (.if_icmp .le 5, 3) := by decide +kernel
theorem dX11_feed_16 : decode cX11_feed 16 = .ok (.iconst (-1), 1) := by decide +kernel
theorem dX11_feed_17 : decode cX11_feed 17 = .ok (.ireturn, 1) := by decide +kernel
theorem dX11_feed_18 : decode cX11_feed 18 = .ok (.aload_n 0, 1) := by decide +kernel
theorem dX11_feed_19 : decode cX11_feed 19 = .ok (.getfield 12, 3) := by decide +kernel
theorem dX11_feed_22 : decode cX11_feed 22 = .ok (.iload_n 1, 1) := by decide +kernel
theorem dX11_feed_23 : decode cX11_feed 23 = .ok (.invokevirtual 99, 3) := by decide +kernel
theorem dX11_feed_26 : decode cX11_feed 26 = .ok (.aload_n 0, 1) := by decide +kernel
theorem dX11_feed_27 : decode cX11_feed 27 = .ok (.getfield 12, 3) := by decide +kernel
theorem dX11_feed_30 : decode cX11_feed 30 = .ok (.iload_n 2, 1) := by decide +kernel
theorem dX11_feed_31 : decode cX11_feed 31 = .ok (.invokevirtual 99, 3) := by decide +kernel
theorem dX11_feed_34 : decode cX11_feed 34 = .ok (.aload_n 0, 1) := by decide +kernel
theorem dX11_feed_35 : decode cX11_feed 35 = .ok (.getfield 12, 3) := by decide +kernel
theorem dX11_feed_38 : decode cX11_feed 38 = .ok (.iload_n 3, 1) := by decide +kernel
theorem dX11_feed_39 : decode cX11_feed 39 = .ok (.invokevirtual 99, 3) := by decide +kernel
theorem dX11_feed_42 : decode cX11_feed 42 = .ok (.aload_n 0, 1) := by decide +kernel
theorem dX11_feed_43 : decode cX11_feed 43 = .ok (.getfield 12, 3) := by decide +kernel
theorem dX11_feed_46 : decode cX11_feed 46 = .ok (.iload 4, 2) := by decide +kernel
theorem dX11_feed_48 : decode cX11_feed 48 = .ok (.invokevirtual 99, 3) := by decide +kernel
theorem dX11_feed_51 : decode cX11_feed 51 = .ok (.aload_n 0, 1) := by decide +kernel
theorem dX11_feed_52 : decode cX11_feed 52 = .ok (.getfield 12, 3) := by decide +kernel
theorem dX11_feed_55 : decode cX11_feed 55 = .ok (.iload 5, 2) := by decide +kernel
theorem dX11_feed_57 : decode cX11_feed 57 = .ok (.invokevirtual 99, 3) := by decide +kernel
theorem dX11_feed_60 : decode cX11_feed 60 = .ok (.aload_n 0, 1) := by decide +kernel
theorem dX11_feed_61 : decode cX11_feed 61 = .ok (.getfield 12, 3) := by decide +kernel
theorem dX11_feed_64 : decode cX11_feed 64 = .ok (.getfield 96, 3) := by decide +kernel
theorem dX11_feed_67 : decode cX11_feed 67 = .ok (.ireturn, 1) := by decide +kernel
set_option maxHeartbeats 4000000 in
set_option maxRecDepth 20000 in
theorem c_X11_feed (l : Launch) (b : Nat) (D : va_G) (cy : Nat → ClassId) {tt : Nat} {M : xMm} {u v w x y : Int} (hI : IT M) : xC l b D cy yX11_feed cX11_feed 6 (some .int) ({ frames := 1, cells := 0, slots := 0, locals := 22 }) [xr 1, xi u, xi v, xi w, xi x, xi y] 209 M (RS tt) (xPi 209 (RS tt) (fun r M' => IT M' ∧ ∀ a, a ≠ 2 → a ≠ 3 → M' a = M a)) := by
  refine x_met (by decide) (Nat.le_of_ble_eq_true rfl) (fun g hg hr he => ?_)
  obtain ⟨hl, hby⟩ := id hI
  refine x_canon (ls' := [(0, _), (1, _), (2, _), (3, _), (4, _), (5, _)]) rfl ?_
  refine x_aload_n hg dX11_feed_0 rfl ?_
  refine x_getR (j9 := 2) hg dX11_feed_1 fl_X11_12 (by decide) rfl rfl (by decide) ?_
  refine x_getI hg dX11_feed_4 fl_X11_96 (by decide) rfl ?_
  refine x_bipush hg dX11_feed_7 (by decide) ?_
  refine x_iadd hg dX11_feed_9 ?_
  refine x_sipush hg dX11_feed_10 (by decide) ?_
  refine x_icmp_le (tgt := 18) hg dX11_feed_13 (by decide) (by omega) (by omega) (fun c13 => ?_) (fun c13 => ?_)
  · skip
    refine x_aload_n hg dX11_feed_18 rfl ?_
    refine x_getR (j9 := 2) hg dX11_feed_19 fl_X11_12 (by decide) rfl rfl (by decide) ?_
    refine x_iload_n hg dX11_feed_22 rfl ?_
    refine x_cVv hg he [_] [] dX11_feed_23 mv_X11_99 (c_X7_append l b D cy hI) (by decide) rfl rfl (Nat.le_of_ble_eq_true rfl) (by decide) (by decide) (fun M23 q23 => ?_)
    obtain ⟨hI23, hfr23⟩ := q23
    refine x_aload_n hg dX11_feed_26 rfl ?_
    refine x_getR (j9 := 2) hg dX11_feed_27 fl_X11_12 (by decide) rfl rfl (by decide) ?_
    refine x_iload_n hg dX11_feed_30 rfl ?_
    refine x_cVv hg he [_] [] dX11_feed_31 mv_X11_99 (c_X7_append l b D cy hI23) (by decide) rfl rfl (Nat.le_of_ble_eq_true rfl) (by decide) (by decide) (fun M31 q31 => ?_)
    obtain ⟨hI31, hfr31⟩ := q31
    refine x_aload_n hg dX11_feed_34 rfl ?_
    refine x_getR (j9 := 2) hg dX11_feed_35 fl_X11_12 (by decide) rfl rfl (by decide) ?_
    refine x_iload_n hg dX11_feed_38 rfl ?_
    refine x_cVv hg he [_] [] dX11_feed_39 mv_X11_99 (c_X7_append l b D cy hI31) (by decide) rfl rfl (Nat.le_of_ble_eq_true rfl) (by decide) (by decide) (fun M39 q39 => ?_)
    obtain ⟨hI39, hfr39⟩ := q39
    refine x_aload_n hg dX11_feed_42 rfl ?_
    refine x_getR (j9 := 2) hg dX11_feed_43 fl_X11_12 (by decide) rfl rfl (by decide) ?_
    refine x_iload hg dX11_feed_46 rfl ?_
    refine x_cVv hg he [_] [] dX11_feed_48 mv_X11_99 (c_X7_append l b D cy hI39) (by decide) rfl rfl (Nat.le_of_ble_eq_true rfl) (by decide) (by decide) (fun M48 q48 => ?_)
    obtain ⟨hI48, hfr48⟩ := q48
    refine x_aload_n hg dX11_feed_51 rfl ?_
    refine x_getR (j9 := 2) hg dX11_feed_52 fl_X11_12 (by decide) rfl rfl (by decide) ?_
    refine x_iload hg dX11_feed_55 rfl ?_
    refine x_cVv hg he [_] [] dX11_feed_57 mv_X11_99 (c_X7_append l b D cy hI48) (by decide) rfl rfl (Nat.le_of_ble_eq_true rfl) (by decide) (by decide) (fun M57 q57 => ?_)
    obtain ⟨hI57, hfr57⟩ := q57
    refine x_aload_n hg dX11_feed_60 rfl ?_
    refine x_getR (j9 := 2) hg dX11_feed_61 fl_X11_12 (by decide) rfl rfl (by decide) ?_
    refine x_getI hg dX11_feed_64 fl_X11_96 (by decide) rfl ?_
    refine x_iret hg hr (Or.inl rfl) dX11_feed_67 (Nat.le_refl _) (Nat.le_refl _) ?_
    exact ⟨rfl, rfl, _, rfl, hI57, fun a h2 h3 => by rw [hfr57 a h2 h3, hfr48 a h2 h3, hfr39 a h2 h3, hfr31 a h2 h3, hfr23 a h2 h3]⟩
  · skip
    refine x_iconst hg dX11_feed_16 ?_
    refine x_iret hg hr (Or.inl rfl) dX11_feed_17 (Nat.le_refl _) (Nat.le_refl _) ?_
    exact ⟨rfl, rfl, _, rfl, hI, fun a _ _ => rfl⟩

theorem dX11_end_0 : decode cX11_end 0 = .ok (.iload_n 1, 1) := by decide +kernel
theorem dX11_end_1 : decode cX11_end 1 = .ok (.ifCond .lt 14, 3) := by decide +kernel
theorem dX11_end_4 : decode cX11_end 4 = .ok (.iload_n 1, 1) := by decide +kernel
theorem dX11_end_5 : decode cX11_end 5 = .ok (.aload_n 0, 1) := by decide +kernel
theorem dX11_end_6 : decode cX11_end 6 = .ok (.getfield 12, 3) := by decide +kernel
theorem dX11_end_9 : decode cX11_end 9 = .ok (.getfield 96, 3) := by decide +kernel
theorem dX11_end_12 : decode cX11_end 12 = .ok (.if_icmp .le 5, 3) := by decide +kernel
theorem dX11_end_15 : decode cX11_end 15 = .ok (.iconst (-1), 1) := by decide +kernel
theorem dX11_end_16 : decode cX11_end 16 = .ok (.ireturn, 1) := by decide +kernel
theorem dX11_end_17 : decode cX11_end 17 = .ok (.aload_n 0, 1) := by decide +kernel
theorem dX11_end_18 : decode cX11_end 18 = .ok (.getfield 12, 3) := by decide +kernel
theorem dX11_end_21 : decode cX11_end 21 = .ok (.iload_n 1, 1) := by decide +kernel
theorem dX11_end_22 : decode cX11_end 22 = .ok (.putfield 96, 3) := by decide +kernel
theorem dX11_end_25 : decode cX11_end 25 = .ok (.iload_n 1, 1) := by decide +kernel
theorem dX11_end_26 : decode cX11_end 26 = .ok (.ireturn, 1) := by decide +kernel
set_option maxHeartbeats 4000000 in
set_option maxRecDepth 20000 in
theorem c_X11_end (l : Launch) (b : Nat) (D : va_G) (cy : Nat → ClassId) {tt : Nat} {M : xMm} {z : Int} (hI : IT M) (hz : inR z) : xC l b D cy yX11_end cX11_end 2 (some .int) ({ frames := 0, cells := 0, slots := 0, locals := 0 }) [xr 1, xi z] 209 M (RS tt) (xPi 209 (RS tt) (fun r M' => IT M' ∧ ∀ a, a ≠ 2 → a ≠ 3 → M' a = M a)) := by
  refine x_met (by decide) (Nat.le_of_ble_eq_true rfl) (fun g hg hr he => ?_)
  obtain ⟨hl, hby⟩ := id hI
  refine x_canon (ls' := [(0, _), (1, _)]) rfl ?_
  refine x_iload_n hg dX11_end_0 rfl ?_
  refine x_if_lt (tgt := 15) hg dX11_end_1 (by decide) (by omega) (fun c1 => ?_) (fun c1 => ?_)
  · skip
    refine x_iconst hg dX11_end_15 ?_
    refine x_iret hg hr (Or.inl rfl) dX11_end_16 (Nat.le_refl _) (Nat.le_refl _) ?_
    exact ⟨rfl, rfl, _, rfl, hI, fun a _ _ => rfl⟩
  · skip
    refine x_iload_n hg dX11_end_4 rfl ?_
    refine x_aload_n hg dX11_end_5 rfl ?_
    refine x_getR (j9 := 2) hg dX11_end_6 fl_X11_12 (by decide) rfl rfl (by decide) ?_
    refine x_getI hg dX11_end_9 fl_X11_96 (by decide) rfl ?_
    refine x_icmp_le (tgt := 17) hg dX11_end_12 (by decide) (by omega) (by omega) (fun c12 => ?_) (fun c12 => ?_)
    · skip
      refine x_aload_n hg dX11_end_17 rfl ?_
      refine x_getR (j9 := 2) hg dX11_end_18 fl_X11_12 (by decide) rfl rfl (by decide) ?_
      refine x_iload_n hg dX11_end_21 rfl ?_
      refine x_putI hg dX11_end_22 fl_X11_96 ft_7_1 (by decide) rfl ?_
      refine x_iload_n hg dX11_end_25 rfl ?_
      refine x_iret hg hr (Or.inl rfl) dX11_end_26 (Nat.le_refl _) (Nat.le_refl _) ?_
      exact ⟨rfl, rfl, _, rfl, IT_len hI (by omega) (by omega), fun a h2 h3 => by funext c; rw [mu_nc h2]⟩
    · skip
      refine x_iconst hg dX11_end_15 ?_
      refine x_iret hg hr (Or.inl rfl) dX11_end_16 (Nat.le_refl _) (Nat.le_refl _) ?_
      exact ⟨rfl, rfl, _, rfl, hI, fun a _ _ => rfl⟩

theorem dX11_fault_0 : decode cX11_fault 0 = .ok (.iload_n 1, 1) := by decide +kernel
theorem dX11_fault_1 : decode cX11_fault 1 = .ok (.lookupswitch 43 #[(0, 27), (1, 35)], 27) := by decide +kernel
theorem dX11_fault_28 : decode cX11_fault 28 = .ok (.aload_n 0, 1) := by decide +kernel
theorem dX11_fault_29 : decode cX11_fault 29 = .ok (.getfield 21, 3) := by decide +kernel
theorem dX11_fault_32 : decode cX11_fault 32 = .ok (.getfield 110, 3) := by decide +kernel
theorem dX11_fault_35 : decode cX11_fault 35 = .ok (.ireturn, 1) := by decide +kernel
theorem dX11_fault_36 : decode cX11_fault 36 = .ok (.aload_n 0, 1) := by decide +kernel
theorem dX11_fault_37 : decode cX11_fault 37 = .ok (.getfield 21, 3) := by decide +kernel
theorem dX11_fault_40 : decode cX11_fault 40 = .ok (.getfield 113, 3) := by decide +kernel
theorem dX11_fault_43 : decode cX11_fault 43 = .ok (.ireturn, 1) := by decide +kernel
theorem dX11_fault_44 : decode cX11_fault 44 = .ok (.iconst (-1), 1) := by decide +kernel
theorem dX11_fault_45 : decode cX11_fault 45 = .ok (.ireturn, 1) := by decide +kernel
set_option maxHeartbeats 4000000 in
set_option maxRecDepth 20000 in
theorem c_X11_fault (l : Launch) (b : Nat) (D : va_G) (cy : Nat → ClassId) {tt : Nat} {M : xMm} {z : Int} (hz : inR z) : xC l b D cy yX11_fault cX11_fault 2 (some .int) ({ frames := 0, cells := 0, slots := 0, locals := 0 }) [xr 1, xi z] 209 M (RS tt) (xPi 209 (RS tt) (fun r M' => M' = M)) := by
  refine x_met (by decide) (Nat.le_of_ble_eq_true rfl) (fun g hg hr he => ?_)
  refine x_canon (ls' := [(0, _), (1, _)]) rfl ?_
  refine x_iload_n hg dX11_fault_0 rfl ?_
  refine x_lk2 (fun e1 => ?_) (fun e1 => ?_) (fun e1 f1 => ?_)
  · refine x_lookup (off := 27) (tgt := 28) hg dX11_fault_1 (by omega) rfl (by rw [e1]; rfl) (by decide) ?_
    refine x_aload_n hg dX11_fault_28 rfl ?_
    refine x_getR (j9 := 4) hg dX11_fault_29 fl_X11_21 (by decide) rfl rfl (by decide) ?_
    refine x_getI hg dX11_fault_32 fl_X11_110 (by decide) rfl ?_
    refine x_iret hg hr (Or.inl rfl) dX11_fault_35 (Nat.le_refl _) (Nat.le_refl _) ?_
    exact ⟨rfl, rfl, _, rfl, rfl⟩
  · refine x_lookup (off := 35) (tgt := 36) hg dX11_fault_1 (by omega) rfl (by rw [e1]; rfl) (by decide) ?_
    refine x_aload_n hg dX11_fault_36 rfl ?_
    refine x_getR (j9 := 4) hg dX11_fault_37 fl_X11_21 (by decide) rfl rfl (by decide) ?_
    refine x_getI hg dX11_fault_40 fl_X11_113 (by decide) rfl ?_
    refine x_iret hg hr (Or.inl rfl) dX11_fault_43 (Nat.le_refl _) (Nat.le_refl _) ?_
    exact ⟨rfl, rfl, _, rfl, rfl⟩
  · refine x_lookup (off := 43) (tgt := 44) hg dX11_fault_1 (by omega) rfl (by simp [Op.lookupswitch.offset, e1, f1, Ne.symm e1, Ne.symm f1]) (by decide) ?_
    refine x_iconst hg dX11_fault_44 ?_
    refine x_iret hg hr (Or.inl rfl) dX11_fault_45 (Nat.le_refl _) (Nat.le_refl _) ?_
    exact ⟨rfl, rfl, _, rfl, rfl⟩

theorem dX11_about_0 : decode cX11_about 0 = .ok (.iload_n 1, 1) := by decide +kernel
theorem dX11_about_1 : decode cX11_about 1 = .ok (.tableswitch 84 0 6 #[43, 48, 56, 61, 66, 71, 79], 43) := by decide +kernel
theorem dX11_about_44 : decode cX11_about 44 = .ok (.aload_n 0, 1) := by decide +kernel
theorem dX11_about_45 : decode cX11_about 45 = .ok (.getfield 212, 3) := by decide +kernel
theorem dX11_about_48 : decode cX11_about 48 = .ok (.ireturn, 1) := by decide +kernel
theorem dX11_about_49 : decode cX11_about 49 = .ok (.aload_n 0, 1) := by decide +kernel
theorem dX11_about_50 : decode cX11_about 50 = .ok (.getfield 28, 3) := by decide +kernel
theorem dX11_about_53 : decode cX11_about 53 = .ok (.getfield 107, 3) := by decide +kernel
theorem dX11_about_56 : decode cX11_about 56 = .ok (.ireturn, 1) := by decide +kernel
theorem dX11_about_57 : decode cX11_about 57 = .ok (.aload_n 0, 1) := by decide +kernel
theorem dX11_about_58 : decode cX11_about 58 = .ok (.getfield 162, 3) := by decide +kernel
theorem dX11_about_61 : decode cX11_about 61 = .ok (.ireturn, 1) := by decide +kernel
theorem dX11_about_62 : decode cX11_about 62 = .ok (.aload_n 0, 1) := by decide +kernel
theorem dX11_about_63 : decode cX11_about 63 = .ok (.getfield 234, 3) := by decide +kernel
theorem dX11_about_66 : decode cX11_about 66 = .ok (.ireturn, 1) := by decide +kernel
theorem dX11_about_67 : decode cX11_about 67 = .ok (.aload_n 0, 1) := by decide +kernel
theorem dX11_about_68 : decode cX11_about 68 = .ok (.getfield 245, 3) := by decide +kernel
theorem dX11_about_71 : decode cX11_about 71 = .ok (.ireturn, 1) := by decide +kernel
theorem dX11_about_72 : decode cX11_about 72 = .ok (.aload_n 0, 1) := by decide +kernel
theorem dX11_about_73 : decode cX11_about 73 = .ok (.getfield 12, 3) := by decide +kernel
theorem dX11_about_76 : decode cX11_about 76 = .ok (.getfield 96, 3) := by decide +kernel
theorem dX11_about_79 : decode cX11_about 79 = .ok (.ireturn, 1) := by decide +kernel
theorem dX11_about_80 : decode cX11_about 80 = .ok (.aload_n 0, 1) := by decide +kernel
theorem dX11_about_81 : decode cX11_about 81 = .ok (.getfield 64, 3) := by decide +kernel
theorem dX11_about_84 : decode cX11_about 84 = .ok (.ireturn, 1) := by decide +kernel
theorem dX11_about_85 : decode cX11_about 85 = .ok (.iconst (-1), 1) := by decide +kernel
theorem dX11_about_86 : decode cX11_about 86 = .ok (.ireturn, 1) := by decide +kernel
set_option maxHeartbeats 4000000 in
set_option maxRecDepth 20000 in
theorem c_X11_about (l : Launch) (b : Nat) (D : va_G) (cy : Nat → ClassId) {tt : Nat} {M : xMm} {z : Int} (htt : xTt tt) (hz : inR z) : xC l b D cy yX11_about cX11_about 2 (some .int) ({ frames := 0, cells := 0, slots := 0, locals := 0 }) [xr 1, xi z] 209 M (RS tt) (xPi 209 (RS tt) (fun r M' => M' = M)) := by
  refine x_met (by decide) (Nat.le_of_ble_eq_true rfl) (fun g hg hr he => ?_)
  refine x_canon (ls' := [(0, _), (1, _)]) rfl ?_
  refine x_iload_n hg dX11_about_0 rfl ?_
  refine x_int_cases 0 6 (fun hsw1 => ?_) (fun h1sw1 h2sw1 => ?_)
  · refine x_tableOut (tgt := 85) hg dX11_about_1 (by omega) hsw1 (by decide) ?_
    refine x_iconst hg dX11_about_85 ?_
    refine x_iret hg hr (Or.inl rfl) dX11_about_86 (Nat.le_refl _) (Nat.le_refl _) ?_
    exact ⟨rfl, rfl, _, rfl, rfl⟩
  · refine x_sw7 h1sw1 h2sw1 (fun e1 => ?_) (fun e1 => ?_) (fun e1 => ?_) (fun e1 => ?_) (fun e1 => ?_) (fun e1 => ?_) (fun e1 => ?_)
    · refine x_tableIn (off := 43) (tgt := 44) hg dX11_about_1 (by omega) h1sw1 h2sw1 (by rw [e1]; rfl) (by decide) ?_
      refine x_aload_n hg dX11_about_44 rfl ?_
      refine x_getI hg dX11_about_45 fl_X11_212 (by decide) rfl ?_
      refine x_iret hg hr (Or.inl rfl) dX11_about_48 (Nat.le_refl _) (Nat.le_refl _) ?_
      exact ⟨rfl, rfl, _, rfl, rfl⟩
    · refine x_tableIn (off := 48) (tgt := 49) hg dX11_about_1 (by omega) h1sw1 h2sw1 (by rw [e1]; rfl) (by decide) ?_
      refine x_aload_n hg dX11_about_49 rfl ?_
      refine x_getR (j9 := tt) hg dX11_about_50 fl_X11_28 (by decide) rfl rfl (by omega) ?_
      refine x_getI hg dX11_about_53 fl_X11_107 (oO_tt htt) rfl ?_
      refine x_iret hg hr (Or.inl rfl) dX11_about_56 (Nat.le_refl _) (Nat.le_refl _) ?_
      exact ⟨rfl, rfl, _, rfl, rfl⟩
    · refine x_tableIn (off := 56) (tgt := 57) hg dX11_about_1 (by omega) h1sw1 h2sw1 (by rw [e1]; rfl) (by decide) ?_
      refine x_aload_n hg dX11_about_57 rfl ?_
      refine x_getI hg dX11_about_58 fl_X11_162 (by decide) rfl ?_
      refine x_iret hg hr (Or.inl rfl) dX11_about_61 (Nat.le_refl _) (Nat.le_refl _) ?_
      exact ⟨rfl, rfl, _, rfl, rfl⟩
    · refine x_tableIn (off := 61) (tgt := 62) hg dX11_about_1 (by omega) h1sw1 h2sw1 (by rw [e1]; rfl) (by decide) ?_
      refine x_aload_n hg dX11_about_62 rfl ?_
      refine x_getI hg dX11_about_63 fl_X11_234 (by decide) rfl ?_
      refine x_iret hg hr (Or.inl rfl) dX11_about_66 (Nat.le_refl _) (Nat.le_refl _) ?_
      exact ⟨rfl, rfl, _, rfl, rfl⟩
    · refine x_tableIn (off := 66) (tgt := 67) hg dX11_about_1 (by omega) h1sw1 h2sw1 (by rw [e1]; rfl) (by decide) ?_
      refine x_aload_n hg dX11_about_67 rfl ?_
      refine x_getI hg dX11_about_68 fl_X11_245 (by decide) rfl ?_
      refine x_iret hg hr (Or.inl rfl) dX11_about_71 (Nat.le_refl _) (Nat.le_refl _) ?_
      exact ⟨rfl, rfl, _, rfl, rfl⟩
    · refine x_tableIn (off := 71) (tgt := 72) hg dX11_about_1 (by omega) h1sw1 h2sw1 (by rw [e1]; rfl) (by decide) ?_
      refine x_aload_n hg dX11_about_72 rfl ?_
      refine x_getR (j9 := 2) hg dX11_about_73 fl_X11_12 (by decide) rfl rfl (by decide) ?_
      refine x_getI hg dX11_about_76 fl_X11_96 (by decide) rfl ?_
      refine x_iret hg hr (Or.inl rfl) dX11_about_79 (Nat.le_refl _) (Nat.le_refl _) ?_
      exact ⟨rfl, rfl, _, rfl, rfl⟩
    · refine x_tableIn (off := 79) (tgt := 80) hg dX11_about_1 (by omega) h1sw1 h2sw1 (by rw [e1]; rfl) (by decide) ?_
      refine x_aload_n hg dX11_about_80 rfl ?_
      refine x_getI hg dX11_about_81 fl_X11_64 (by decide) rfl ?_
      refine x_iret hg hr (Or.inl rfl) dX11_about_84 (Nat.le_refl _) (Nat.le_refl _) ?_
      exact ⟨rfl, rfl, _, rfl, rfl⟩
end
section
/-! ===== the climate ===== -/
/-- the warmth told last at or ahead of an hour (k: how many hours are looked at), and first at or behind it; -1: none -/
def wAc (M : xMm) (a : Nat) : Nat → Int
  | 0 => -1
  | k + 1 => if M a k = -1 then wAc M a k else M a k
def wBc (M : xMm) (a : Nat) : Nat → Int
  | 0 => -1
  | k + 1 => if M a (23 - k) = -1 then wBc M a k else M a (23 - k)
/-- the warmth of an hour, from the told ones in the cell a -/
def wOf (M : xMm) (a h : Nat) : Int :=
  if wAc M a (min h 23 + 1) = -1 then (if wBc M a (24 - min h 23) = -1 then 10 else wBc M a (24 - min h 23)) else (if wBc M a (24 - min h 23) = -1 then wAc M a (min h 23 + 1) else (wAc M a (min h 23 + 1) + wBc M a (24 - min h 23)) / 2)
def rate (M : xMm) (a h : Nat) : Int := if wOf M a h < 4 then 0 else wOf M a h - 4
def ITo (M : xMm) (a : Nat) : Prop := ∀ h, h < 24 → -1 ≤ M a h ∧ M a h ≤ 40
theorem wAc_le {M : xMm} {a : Nat} (h : ITo M a) : ∀ k, k ≤ 24 → -1 ≤ wAc M a k ∧ wAc M a k ≤ 40
  | 0, _ => by simp [wAc]
  | k + 1, hk => by
    have ih := wAc_le h k (by omega)
    have := h k (by omega)
    simp only [wAc]
    split <;> omega
theorem wBc_le {M : xMm} {a : Nat} (h : ITo M a) : ∀ k, k ≤ 24 → -1 ≤ wBc M a k ∧ wBc M a k ≤ 40
  | 0, _ => by simp [wBc]
  | k + 1, hk => by
    have ih := wBc_le h k (by omega)
    have := h (23 - k) (by omega)
    simp only [wBc]
    split <;> omega
theorem wOf_le {M : xMm} {a : Nat} (h : ITo M a) (hr : Nat) : 0 ≤ wOf M a hr ∧ wOf M a hr ≤ 40 := by
  have h1 := wAc_le h (min hr 23 + 1) (by omega)
  have h2 := wBc_le h (24 - min hr 23) (by omega)
  unfold wOf
  split <;> split <;> omega
theorem rate_le {M : xMm} {a : Nat} (h : ITo M a) (hr : Nat) : 0 ≤ rate M a hr ∧ rate M a hr ≤ 36 := by
  have h1 := wOf_le h hr
  unfold rate
  split <;> omega
theorem wAc_congr {M M' : xMm} {a a' : Nat} (h : ∀ k, k < 24 → M' a' k = M a k) : ∀ k, k ≤ 24 → wAc M' a' k = wAc M a k
  | 0, _ => rfl
  | k + 1, hk => by simp only [wAc, h k (by omega), wAc_congr h k (by omega)]
theorem wBc_congr {M M' : xMm} {a a' : Nat} (h : ∀ k, k < 24 → M' a' k = M a k) : ∀ k, k ≤ 24 → wBc M' a' k = wBc M a k
  | 0, _ => rfl
  | k + 1, hk => by simp only [wBc, h (23 - k) (by omega), wBc_congr h k (by omega)]
theorem wOf_congr {M M' : xMm} {a a' : Nat} (h : ∀ k, k < 24 → M' a' k = M a k) (hr : Nat) : wOf M' a' hr = wOf M a hr := by
  simp only [wOf, wAc_congr h _ (show min hr 23 + 1 ≤ 24 by omega), wBc_congr h _ (show 24 - min hr 23 ≤ 24 by omega)]
theorem rate_congr {M M' : xMm} {a a' : Nat} (h : ∀ k, k < 24 → M' a' k = M a k) (hr : Nat) : rate M' a' hr = rate M a hr := by simp only [rate, wOf_congr h]
/-- the climate's cells -/
def IC (M : xMm) : Prop := ITo M 58 ∧ (∀ s, s < 10 → M 59 s = 0 ∨ M 59 s = 1) ∧ ∀ h, h < 29 → M 60 h = rate M 58 h ∧ (0 ≤ M 61 h ∧ M 61 h ≤ 62640) ∧ (0 ≤ M 62 h ∧ M 62 h ≤ 62640)
theorem IC_rate {M : xMm} (h : IC M) {k : Nat} (hk : k < 29) : 0 ≤ M 60 k ∧ M 60 k ≤ 36 := by
  have h1 := rate_le h.1 k
  have h2 := (h.2.2 k hk).1
  omega
theorem IC_congr {M M' : xMm} (h : IC M) (e : ∀ a, 58 ≤ a → a ≤ 62 → M' a = M a) : IC M' := by
  have e58 := e 58 (by omega) (by omega)
  have e59 := e 59 (by omega) (by omega)
  have e60 := e 60 (by omega) (by omega)
  have e61 := e 61 (by omega) (by omega)
  have e62 := e 62 (by omega) (by omega)
  obtain ⟨h1, h2, h3⟩ := h
  refine ⟨fun k hk => by rw [e58]; exact h1 k hk, fun s hs => by rw [e59]; exact h2 s hs, fun k hk => ?_⟩
  rw [e60, e61, e62, rate_congr (M := M) (fun j _ => by rw [e58])]
  exact h3 k hk
theorem oC {n : Nat} (hn : 62 ≤ n) : xO n 57 2 := ⟨by decide, by omega, by decide⟩
theorem aC0 {n : Nat} (hn : 62 ≤ n) : xA n 58 0 24 := ⟨by decide, by omega, by decide, by decide⟩
theorem aC1 {n : Nat} (hn : 62 ≤ n) : xA n 59 2 10 := ⟨by decide, by omega, by decide, by decide⟩
theorem aC2 {n : Nat} (hn : 62 ≤ n) : xA n 60 0 29 := ⟨by decide, by omega, by decide, by decide⟩
theorem aC3 {n : Nat} (hn : 62 ≤ n) : xA n 61 0 29 := ⟨by decide, by omega, by decide, by decide⟩
theorem aC4 {n : Nat} (hn : 62 ≤ n) : xA n 62 0 29 := ⟨by decide, by omega, by decide, by decide⟩

theorem dX2_warmthOf_0 : decode cX2_warmthOf 0 = .ok (.iload_n 1, 1) := by decide +kernel
theorem dX2_warmthOf_1 : decode cX2_warmthOf 1 = .ok (.bipush 23, 2) := by decide +kernel
theorem dX2_warmthOf_3 : decode cX2_warmthOf 3 = .ok (.invokestatic 49, 3) := by decide +kernel
theorem dX2_warmthOf_6 : decode cX2_warmthOf 6 = .ok (.istore_n 2, 1) := by decide +kernel
theorem dX2_warmthOf_7 : decode cX2_warmthOf 7 = .ok (.iconst (-1), 1) := by decide +kernel
theorem dX2_warmthOf_8 : decode cX2_warmthOf 8 = .ok (.istore_n 3, 1) := by decide +kernel
theorem dX2_warmthOf_9 : decode cX2_warmthOf 9 = .ok (.iload_n 2, 1) := by decide +kernel
theorem dX2_warmthOf_10 : decode cX2_warmthOf 10 = .ok (.istore 4, 2) := by decide +kernel
theorem dX2_warmthOf_12 : decode cX2_warmthOf 12 = .ok (.iload 4, 2) := by decide +kernel
theorem dX2_warmthOf_14 : decode cX2_warmthOf 14 = .ok (.ifCond .lt 22, 3) := by decide +kernel
theorem dX2_warmthOf_17 : decode cX2_warmthOf 17 = .ok (.iload_n 3, 1) := by decide +kernel
theorem dX2_warmthOf_18 : decode cX2_warmthOf 18 = .ok (.iconst (-1), 1) := by decide +kernel
theorem dX2_warmthOf_19 : decode cX2_warmthOf 19 = .ok (.if_icmp .ne 17, 3) := by decide +kernel
theorem dX2_warmthOf_22 : decode cX2_warmthOf 22 = .ok (.aload_n 0, 1) := by decide +kernel
theorem dX2_warmthOf_23 : decode cX2_warmthOf 23 = .ok (.getfield 9, 3) := by decide +kernel
theorem dX2_warmthOf_26 : decode cX2_warmthOf 26 = .ok (.iload 4, 2) := by decide +kernel
theorem dX2_warmthOf_28 : decode cX2_warmthOf 28 = .ok (.iaload, 1) := by decide +kernel
theorem dX2_warmthOf_29 : decode cX2_warmthOf 29 = .ok (.istore_n 3, 1) := by decide +kernel
theorem dX2_warmthOf_30 : decode cX2_warmthOf 30 = .ok (.iinc 4 (-1), 3) := by decide +kernel
theorem dX2_warmthOf_33 : decode cX2_warmthOf 33 = .ok (.goto (-21), 3) := by decide +kernel
theorem dX2_warmthOf_36 : decode cX2_warmthOf 36 = .ok (.iconst (-1), 1) := by decide +kernel
theorem dX2_warmthOf_37 : decode cX2_warmthOf 37 = .ok (.istore 4, 2) := by decide +kernel
theorem dX2_warmthOf_39 : decode cX2_warmthOf 39 = .ok (.iload_n 2, 1) := by decide +kernel
theorem dX2_warmthOf_40 : decode cX2_warmthOf 40 = .ok (.istore 5, 2) := by decide +kernel
theorem dX2_warmthOf_42 : decode cX2_warmthOf 42 = .ok (.iload 5, 2) := by decide +kernel
theorem dX2_warmthOf_44 : decode cX2_warmthOf 44 = .ok (.ifCond .lt 31, 3) := by decide +kernel
theorem dX2_warmthOf_47 : decode cX2_warmthOf 47 = .ok (.iload 5, 2) := by decide +kernel
theorem dX2_warmthOf_49 : decode cX2_warmthOf 49 = .ok (.bipush 24, 2) := by decide +kernel
theorem dX2_warmthOf_51 : decode cX2_warmthOf 51 = .ok (.if_icmp .ge 24, 3) := by decide +kernel
theorem dX2_warmthOf_54 : decode cX2_warmthOf 54 = .ok (.iload 4, 2) := by decide +kernel
theorem dX2_warmthOf_56 : decode cX2_warmthOf 56 = .ok (.iconst (-1), 1) := by decide +kernel
theorem dX2_warmthOf_57 : decode cX2_warmthOf 57 = .ok (.if_icmp .ne 18, 3) := by decide +kernel
theorem dX2_warmthOf_60 : decode cX2_warmthOf 60 = .ok (.aload_n 0, 1) := by decide +kernel
theorem dX2_warmthOf_61 : decode cX2_warmthOf 61 = .ok (.getfield 9, 3) := by decide +kernel
theorem dX2_warmthOf_64 : decode cX2_warmthOf 64 = .ok (.iload 5, 2) := by decide +kernel
theorem dX2_warmthOf_66 : decode cX2_warmthOf 66 = .ok (.iaload, 1) := by decide +kernel
theorem dX2_warmthOf_67 : decode cX2_warmthOf 67 = .ok (.istore 4, 2) := by decide +kernel
theorem dX2_warmthOf_69 : decode cX2_warmthOf 69 = .ok (.iinc 5 1, 3) := by decide +kernel
theorem dX2_warmthOf_72 : decode cX2_warmthOf 72 = .ok (.goto (-30), 3) := by decide +kernel
theorem dX2_warmthOf_75 : decode cX2_warmthOf 75 = .ok (.iload_n 3, 1) := by decide +kernel
theorem dX2_warmthOf_76 : decode cX2_warmthOf 76 = .ok (.iconst (-1), 1) := by decide +kernel
theorem dX2_warmthOf_77 : decode cX2_warmthOf 77 = .ok (.if_icmp .ne 17, 3) := by decide +kernel
theorem dX2_warmthOf_80 : decode cX2_warmthOf 80 = .ok (.iload 4, 2) := by decide +kernel
theorem dX2_warmthOf_82 : decode cX2_warmthOf 82 = .ok (.iconst (-1), 1) := by decide +kernel
theorem dX2_warmthOf_83 : decode cX2_warmthOf 83 = .ok (.if_icmp .ne 8, 3) := by decide +kernel
theorem dX2_warmthOf_86 : decode cX2_warmthOf 86 = .ok (.bipush 10, 2) := by decide +kernel
theorem dX2_warmthOf_88 : decode cX2_warmthOf 88 = .ok (.goto 5, 3) := by decide +kernel
theorem dX2_warmthOf_91 : decode cX2_warmthOf 91 = .ok (.iload 4, 2) := by decide +kernel
theorem dX2_warmthOf_93 : decode cX2_warmthOf 93 = .ok (.ireturn, 1) := by decide +kernel
theorem dX2_warmthOf_94 : decode cX2_warmthOf 94 = .ok (.iload 4, 2) := by decide +kernel
theorem dX2_warmthOf_96 : decode cX2_warmthOf 96 = .ok (.iconst (-1), 1) := by decide +kernel
theorem dX2_warmthOf_97 : decode cX2_warmthOf 97 = .ok (.if_icmp .ne 7, 3) := by decide +kernel
theorem dX2_warmthOf_100 : decode cX2_warmthOf 100 = .ok (.iload_n 3, 1) := by decide +kernel
theorem dX2_warmthOf_101 : decode cX2_warmthOf 101 = .ok (.goto 9, 3) := by decide +kernel
theorem dX2_warmthOf_104 : decode cX2_warmthOf 104 = .ok (.iload_n 3, 1) := by decide +kernel
theorem dX2_warmthOf_105 : decode cX2_warmthOf 105 = .ok (.iload 4, 2) := by decide +kernel
theorem dX2_warmthOf_107 : decode cX2_warmthOf 107 = .ok (.iadd, 1) := by decide +kernel
theorem dX2_warmthOf_108 : decode cX2_warmthOf 108 = .ok (.iconst 2, 1) := by decide +kernel
theorem dX2_warmthOf_109 : decode cX2_warmthOf 109 = .ok (.idiv, 1) := by decide +kernel
theorem dX2_warmthOf_110 : decode cX2_warmthOf 110 = .ok (.ireturn, 1) := by decide +kernel
set_option maxHeartbeats 4000000 in
set_option maxRecDepth 20000 in
theorem c_X2_warmthOf (l : Launch) (b : Nat) (D : va_G) (cy : Nat → ClassId) {n : Nat} {R : xRm} {M : xMm} {z : Int} (hn : 62 ≤ n) (hR : ∀ k, k < 5 → R 57 k = 58 + k) (hT : ITo M 58) (hz : 0 ≤ z ∧ z ≤ 2147483647) : xC l b D cy yX2_warmthOf cX2_warmthOf 6 (some .int) ({ frames := 1, cells := 0, slots := 0, locals := 21 }) [xr 57, xi z] n M R (xPi n R (fun r M' => M' = M ∧ r = wOf M 58 z.toNat)) := by
  refine x_met (by decide) (Nat.le_of_ble_eq_true rfl) (fun g hg hr he => ?_)
  refine x_canon (ls' := [(0, _), (1, _)]) rfl ?_
  obtain ⟨H, hH⟩ : ∃ H : Nat, H = min z.toNat 23 := ⟨_, rfl⟩
  have hA := wAc_le hT (H + 1) (by omega)
  have hB := wBc_le hT (24 - H) (by omega)
  have j75 : xW g n M R 0 0 75 [(0, xr 57), (1, xi z), (2, xi (H : Int)), (3, xi (wAc M 58 (H + 1))), (4, xi (wBc M 58 (24 - H)))] [] := by
    refine x_iload_n hg dX2_warmthOf_75 rfl ?_
    refine x_iconst hg dX2_warmthOf_76 ?_
    refine x_icmp_ne (tgt := 94) hg dX2_warmthOf_77 (by decide) (by omega) (by omega) (fun c77 => ?_) (fun c77 => ?_)
    · skip
      refine x_iload hg dX2_warmthOf_94 rfl ?_
      refine x_iconst hg dX2_warmthOf_96 ?_
      refine x_icmp_ne (tgt := 104) hg dX2_warmthOf_97 (by decide) (by omega) (by omega) (fun c97 => ?_) (fun c97 => ?_)
      · skip
        refine x_iload_n hg dX2_warmthOf_104 rfl ?_
        refine x_iload hg dX2_warmthOf_105 rfl ?_
        refine x_iadd hg dX2_warmthOf_107 ?_
        refine x_iconst hg dX2_warmthOf_108 ?_
        refine x_idiv hg dX2_warmthOf_109 (by omega) (by omega) ?_
        refine x_iret hg hr (Or.inl rfl) dX2_warmthOf_110 (Nat.le_refl _) (Nat.le_refl _) ?_
        refine ⟨rfl, rfl, _, rfl, rfl, ?_⟩
        unfold wOf
        rw [← hH]
        repeat (first | rw [if_pos (by omega)] | rw [if_neg (by omega)])
      · skip
        refine x_iload_n hg dX2_warmthOf_100 rfl ?_
        refine x_goto (tgt := 110) hg dX2_warmthOf_101 (by decide) ?_
        refine x_iret hg hr (Or.inl rfl) dX2_warmthOf_110 (Nat.le_refl _) (Nat.le_refl _) ?_
        refine ⟨rfl, rfl, _, rfl, rfl, ?_⟩
        unfold wOf
        rw [← hH]
        repeat (first | rw [if_pos (by omega)] | rw [if_neg (by omega)])
    · skip
      refine x_iload hg dX2_warmthOf_80 rfl ?_
      refine x_iconst hg dX2_warmthOf_82 ?_
      refine x_icmp_ne (tgt := 91) hg dX2_warmthOf_83 (by decide) (by omega) (by omega) (fun c83 => ?_) (fun c83 => ?_)
      · skip
        refine x_iload hg dX2_warmthOf_91 rfl ?_
        refine x_iret hg hr (Or.inl rfl) dX2_warmthOf_93 (Nat.le_refl _) (Nat.le_refl _) ?_
        refine ⟨rfl, rfl, _, rfl, rfl, ?_⟩
        unfold wOf
        rw [← hH]
        repeat (first | rw [if_pos (by omega)] | rw [if_neg (by omega)])
      · skip
        refine x_bipush hg dX2_warmthOf_86 (by decide) ?_
        refine x_goto (tgt := 93) hg dX2_warmthOf_88 (by decide) ?_
        refine x_iret hg hr (Or.inl rfl) dX2_warmthOf_93 (Nat.le_refl _) (Nat.le_refl _) ?_
        refine ⟨rfl, rfl, _, rfl, rfl, ?_⟩
        unfold wOf
        rw [← hH]
        repeat (first | rw [if_pos (by omega)] | rw [if_neg (by omega)])
  have loop2 : ∀ (c : Nat) (i a : Int), 0 ≤ i → i ≤ 24 → 24 - i < c → -1 ≤ a → a ≤ 40 → (a = -1 ∧ wBc M 58 (24 - H) = wBc M 58 (24 - i).toNat ∨ a ≠ -1 ∧ a = wBc M 58 (24 - H)) → xW g n M R 0 0 42 [(0, xr 57), (1, xi z), (2, xi (H : Int)), (3, xi (wAc M 58 (H + 1))), (4, xi a), (5, xi i)] [] := by
    intro c
    induction c with
    | zero => intro i a h1 h2 h3; exact absurd h3 (by omega)
    | succ c ih =>
      intro i a hi1 hi2 hi3 ha1 ha2 hv
      refine x_iload hg dX2_warmthOf_42 rfl ?_
      refine x_if_lt (tgt := 75) hg dX2_warmthOf_44 (by decide) (by omega) (fun c44 => ?_) (fun c44 => ?_)
      · skip
        refine x_canon (ls' := [(0, _), (1, _), (2, _), (3, _), (4, _)]) rfl ?_
        have e9 : a = wBc M 58 (24 - H) := by
          rcases hv with ⟨h1, h2⟩ | ⟨h1, h2⟩
          · first | (exact absurd h1 (by omega)) | (rw [h1, h2, show (24 - i).toNat = 0 by omega]; rfl)
          · exact h2
        rw [e9]
        exact j75
      · skip
        refine x_iload hg dX2_warmthOf_47 rfl ?_
        refine x_bipush hg dX2_warmthOf_49 (by decide) ?_
        refine x_icmp_ge (tgt := 75) hg dX2_warmthOf_51 (by decide) (by omega) (by omega) (fun c51 => ?_) (fun c51 => ?_)
        · skip
          refine x_canon (ls' := [(0, _), (1, _), (2, _), (3, _), (4, _)]) rfl ?_
          have e9 : a = wBc M 58 (24 - H) := by
            rcases hv with ⟨h1, h2⟩ | ⟨h1, h2⟩
            · first | (exact absurd h1 (by omega)) | (rw [h1, h2, show (24 - i).toNat = 0 by omega]; rfl)
            · exact h2
          rw [e9]
          exact j75
        · skip
          refine x_iload hg dX2_warmthOf_54 rfl ?_
          refine x_iconst hg dX2_warmthOf_56 ?_
          refine x_icmp_ne (tgt := 75) hg dX2_warmthOf_57 (by decide) (by omega) (by omega) (fun c57 => ?_) (fun c57 => ?_)
          · skip
            refine x_canon (ls' := [(0, _), (1, _), (2, _), (3, _), (4, _)]) rfl ?_
            have e9 : a = wBc M 58 (24 - H) := by
              rcases hv with ⟨h1, h2⟩ | ⟨h1, h2⟩
              · first | (exact absurd h1 (by omega)) | (rw [h1, h2, show (24 - i).toNat = 0 by omega]; rfl)
              · exact h2
            rw [e9]
            exact j75
          · skip
            refine x_aload_n hg dX2_warmthOf_60 rfl ?_
            refine x_getR (j9 := 58) hg dX2_warmthOf_61 fl_X2_9 (oC hn) rfl (hR 0 (by decide)) (by decide) ?_
            refine x_iload hg dX2_warmthOf_64 rfl ?_
            refine x_iaload (len := 24) hg dX2_warmthOf_66 (aC0 hn) (by omega) ?_
            refine x_istore (ls' := [(0, _), (1, _), (2, _), (3, _), (4, _), (5, _)]) hg dX2_warmthOf_67 (by decide) rfl ?_
            refine x_iinc (ls' := [(0, _), (1, _), (2, _), (3, _), (4, _), (5, _)]) hg dX2_warmthOf_69 rfl (by decide) rfl ?_
            refine x_goto (tgt := 42) hg dX2_warmthOf_72 (by decide) ?_
            have ht := hT i.toNat (by omega)
            have e8 : (24 - i).toNat = (24 - (i + 1)).toNat + 1 := by omega
            have e7 : 23 - (24 - (i + 1)).toNat = i.toNat := by omega
            have hv2 : wBc M 58 (24 - H) = wBc M 58 (24 - i).toNat := by
              rcases hv with ⟨h1, h2⟩ | ⟨h1, h2⟩
              · exact h2
              · exact absurd h1 (by omega)
            rw [e8] at hv2
            simp only [wBc, e7] at hv2
            refine ih _ _ (by omega) (by omega) (by omega) ht.1 ht.2 ?_
            by_cases hm : M 58 i.toNat = -1
            · rw [if_pos hm] at hv2
              exact Or.inl ⟨hm, hv2⟩
            · rw [if_neg hm] at hv2
              exact Or.inr ⟨hm, hv2.symm⟩
  have loop1 : ∀ (c : Nat) (i a : Int), -1 ≤ i → i ≤ 23 → i < c → -1 ≤ a → a ≤ 40 → (a = -1 ∧ wAc M 58 (H + 1) = wAc M 58 (i + 1).toNat ∨ a ≠ -1 ∧ a = wAc M 58 (H + 1)) → xW g n M R 0 0 12 [(0, xr 57), (1, xi z), (2, xi (H : Int)), (3, xi a), (4, xi i)] [] := by
    intro c
    induction c with
    | zero =>
      intro i a hi1 hi2 hi3 ha1 ha2 hv
      refine x_iload hg dX2_warmthOf_12 rfl ?_
      refine x_if_lt (tgt := 36) hg dX2_warmthOf_14 (by decide) (by omega) (fun c14 => ?_) (fun c14 => ?_)
      · skip
        have e9 : a = wAc M 58 (H + 1) := by
          rcases hv with ⟨h1, h2⟩ | ⟨h1, h2⟩
          · first | (exact absurd h1 (by omega)) | (rw [h1, h2, show (i + 1).toNat = 0 by omega]; rfl)
          · exact h2
        rw [e9]
        refine x_iconst hg dX2_warmthOf_36 ?_
        refine x_istore (ls' := [(0, _), (1, _), (2, _), (3, _), (4, _)]) hg dX2_warmthOf_37 (by decide) rfl ?_
        refine x_iload_n hg dX2_warmthOf_39 rfl ?_
        refine x_istore (ls' := [(0, _), (1, _), (2, _), (3, _), (4, _), (5, _)]) hg dX2_warmthOf_40 (by decide) rfl ?_
        exact loop2 25 H (-1) (by omega) (by omega) (by omega) (by omega) (by omega) (Or.inl ⟨rfl, by rw [show (24 - (H : Int)).toNat = 24 - H by omega]⟩)
      · skip
        exact absurd hi3 (by omega)
    | succ c ih =>
      intro i a hi1 hi2 hi3 ha1 ha2 hv
      refine x_iload hg dX2_warmthOf_12 rfl ?_
      refine x_if_lt (tgt := 36) hg dX2_warmthOf_14 (by decide) (by omega) (fun c14 => ?_) (fun c14 => ?_)
      · skip
        have e9 : a = wAc M 58 (H + 1) := by
          rcases hv with ⟨h1, h2⟩ | ⟨h1, h2⟩
          · first | (exact absurd h1 (by omega)) | (rw [h1, h2, show (i + 1).toNat = 0 by omega]; rfl)
          · exact h2
        rw [e9]
        refine x_iconst hg dX2_warmthOf_36 ?_
        refine x_istore (ls' := [(0, _), (1, _), (2, _), (3, _), (4, _)]) hg dX2_warmthOf_37 (by decide) rfl ?_
        refine x_iload_n hg dX2_warmthOf_39 rfl ?_
        refine x_istore (ls' := [(0, _), (1, _), (2, _), (3, _), (4, _), (5, _)]) hg dX2_warmthOf_40 (by decide) rfl ?_
        exact loop2 25 H (-1) (by omega) (by omega) (by omega) (by omega) (by omega) (Or.inl ⟨rfl, by rw [show (24 - (H : Int)).toNat = 24 - H by omega]⟩)
      · skip
        refine x_iload_n hg dX2_warmthOf_17 rfl ?_
        refine x_iconst hg dX2_warmthOf_18 ?_
        refine x_icmp_ne (tgt := 36) hg dX2_warmthOf_19 (by decide) (by omega) (by omega) (fun c19 => ?_) (fun c19 => ?_)
        · skip
          have e9 : a = wAc M 58 (H + 1) := by
            rcases hv with ⟨h1, h2⟩ | ⟨h1, h2⟩
            · first | (exact absurd h1 (by omega)) | (rw [h1, h2, show (i + 1).toNat = 0 by omega]; rfl)
            · exact h2
          rw [e9]
          refine x_iconst hg dX2_warmthOf_36 ?_
          refine x_istore (ls' := [(0, _), (1, _), (2, _), (3, _), (4, _)]) hg dX2_warmthOf_37 (by decide) rfl ?_
          refine x_iload_n hg dX2_warmthOf_39 rfl ?_
          refine x_istore (ls' := [(0, _), (1, _), (2, _), (3, _), (4, _), (5, _)]) hg dX2_warmthOf_40 (by decide) rfl ?_
          exact loop2 25 H (-1) (by omega) (by omega) (by omega) (by omega) (by omega) (Or.inl ⟨rfl, by rw [show (24 - (H : Int)).toNat = 24 - H by omega]⟩)
        · skip
          refine x_aload_n hg dX2_warmthOf_22 rfl ?_
          refine x_getR (j9 := 58) hg dX2_warmthOf_23 fl_X2_9 (oC hn) rfl (hR 0 (by decide)) (by decide) ?_
          refine x_iload hg dX2_warmthOf_26 rfl ?_
          refine x_iaload (len := 24) hg dX2_warmthOf_28 (aC0 hn) (by omega) ?_
          refine x_istore_n (ls' := [(0, _), (1, _), (2, _), (3, _), (4, _)]) hg dX2_warmthOf_29 rfl (by decide) rfl ?_
          refine x_iinc (ls' := [(0, _), (1, _), (2, _), (3, _), (4, _)]) hg dX2_warmthOf_30 rfl (by decide) rfl ?_
          refine x_goto (tgt := 12) hg dX2_warmthOf_33 (by decide) ?_
          have ht := hT i.toNat (by omega)
          have e8 : (i + 1).toNat = i.toNat + 1 := by omega
          have e7 : (i + -1 + 1).toNat = i.toNat := by omega
          have hv2 : wAc M 58 (H + 1) = wAc M 58 (i + 1).toNat := by
            rcases hv with ⟨h1, h2⟩ | ⟨h1, h2⟩
            · exact h2
            · exact absurd h1 (by omega)
          rw [e8] at hv2
          simp only [wAc] at hv2
          refine ih _ _ (by omega) (by omega) (by omega) ht.1 ht.2 ?_
          rw [e7]
          by_cases hm : M 58 i.toNat = -1
          · rw [if_pos hm] at hv2
            exact Or.inl ⟨hm, hv2⟩
          · rw [if_neg hm] at hv2
            exact Or.inr ⟨hm, hv2.symm⟩
  refine x_iload_n hg dX2_warmthOf_0 rfl ?_
  refine x_bipush hg dX2_warmthOf_1 (by decide) ?_
  refine x_min hg dX2_warmthOf_3 (List.mem_of_getElem? (i := 212) (by decide +kernel)) (by omega) (by omega) ⟨by decide, Nat.le_of_ble_eq_true rfl⟩ (by decide) ?_
  refine x_istore_n (ls' := [(0, _), (1, _), (2, _)]) hg dX2_warmthOf_6 rfl (by decide) rfl ?_
  have e9 : (if (23 : Int) < z then 23 else z) = (H : Int) := by split <;> omega
  rw [e9]
  refine x_iconst hg dX2_warmthOf_7 ?_
  refine x_istore_n (ls' := [(0, _), (1, _), (2, _), (3, _)]) hg dX2_warmthOf_8 rfl (by decide) rfl ?_
  refine x_iload_n hg dX2_warmthOf_9 rfl ?_
  refine x_istore (ls' := [(0, _), (1, _), (2, _), (3, _), (4, _)]) hg dX2_warmthOf_10 (by decide) rfl ?_
  exact loop1 24 H (-1) (by omega) (by omega) (by omega) (by omega) (by omega) (Or.inl ⟨rfl, by rw [show ((H : Int) + 1).toNat = H + 1 by omega]⟩)
end
section
theorem IC_parts {M : xMm} (h : IC M) : (∀ k : Nat, k < 24 → -1 ≤ M 58 k ∧ M 58 k ≤ 40) ∧ (∀ k : Nat, k < 10 → 0 ≤ M 59 k ∧ M 59 k ≤ 1) ∧ (∀ k : Nat, k < 29 → (0 ≤ M 60 k ∧ M 60 k ≤ 36) ∧ (0 ≤ M 61 k ∧ M 61 k ≤ 62640) ∧ (0 ≤ M 62 k ∧ M 62 k ≤ 62640)) :=
  ⟨h.1, fun k hk => by rcases h.2.1 k hk with e | e <;> omega, fun k hk => ⟨IC_rate h hk, (h.2.2 k hk).2⟩⟩
theorem mul_bd {a c A C : Int} (h1 : 0 ≤ a) (h2 : a ≤ A) (h3 : 0 ≤ c) (h4 : c ≤ C) : 0 ≤ a * c ∧ a * c ≤ A * C :=
  ⟨Int.mul_nonneg h1 h3, Int.le_trans (Int.mul_le_mul_of_nonneg_right h2 h3) (Int.mul_le_mul_of_nonneg_left h4 (by omega))⟩

theorem dX2_sumUp_0 : decode cX2_sumUp 0 = .ok (.iconst 0, 1) := by decide +kernel
theorem dX2_sumUp_1 : decode cX2_sumUp 1 = .ok (.istore_n 1, 1) := by decide +kernel
theorem dX2_sumUp_2 : decode cX2_sumUp 2 = .ok (.iconst 0, 1) := by decide +kernel
theorem dX2_sumUp_3 : decode cX2_sumUp 3 = .ok (.istore_n 2, 1) := by decide +kernel
theorem dX2_sumUp_4 : decode cX2_sumUp 4 = .ok (.iconst 0, 1) := by decide +kernel
theorem dX2_sumUp_5 : decode cX2_sumUp 5 = .ok (.istore_n 3, 1) := by decide +kernel
theorem dX2_sumUp_6 : decode cX2_sumUp 6 = .ok (.iload_n 3, 1) := by decide +kernel
theorem dX2_sumUp_7 : decode cX2_sumUp 7 = .ok (.bipush 29, 2) := by decide +kernel
theorem dX2_sumUp_9 : decode cX2_sumUp 9 = .ok (.if_icmp .ge 66, 3) := by decide +kernel
theorem dX2_sumUp_12 : decode cX2_sumUp 12 = .ok (.aload_n 0, 1) := by decide +kernel
theorem dX2_sumUp_13 : decode cX2_sumUp 13 = .ok (.getfield 19, 3) := by decide +kernel
theorem dX2_sumUp_16 : decode cX2_sumUp 16 = .ok (.iload_n 3, 1) := by decide +kernel
theorem dX2_sumUp_17 : decode cX2_sumUp 17 = .ok (.iconst 0, 1) := by decide +kernel
theorem dX2_sumUp_18 : decode cX2_sumUp 18 = .ok (.aload_n 0, 1) := by decide +kernel
theorem dX2_sumUp_19 : decode cX2_sumUp 19 = .ok (.iload_n 3, 1) := by decide +kernel
theorem dX2_sumUp_20 : decode cX2_sumUp 20 = .ok (.invokevirtual 39, 3) := by decide +kernel
theorem dX2_sumUp_23 : decode cX2_sumUp 23 = .ok (.iconst 4, 1) := by decide +kernel
theorem dX2_sumUp_24 : decode cX2_sumUp 24 = .ok (.isub, 1) := by decide +kernel
theorem dX2_sumUp_25 : decode cX2_sumUp 25 = .ok (.invokestatic 43, 3) := by decide +kernel
theorem dX2_sumUp_28 : decode cX2_sumUp 28 = .ok (.iastore, 1) := by decide +kernel
theorem dX2_sumUp_29 : decode cX2_sumUp 29 = .ok (.aload_n 0, 1) := by decide +kernel
theorem dX2_sumUp_30 : decode cX2_sumUp 30 = .ok (.getfield 22, 3) := by decide +kernel
theorem dX2_sumUp_33 : decode cX2_sumUp 33 = .ok (.iload_n 3, 1) := by decide +kernel
theorem dX2_sumUp_34 : decode cX2_sumUp 34 = .ok (.iload_n 1, 1) := by decide +kernel
theorem dX2_sumUp_35 : decode cX2_sumUp 35 = .ok (.iastore, 1) := by decide +kernel
theorem dX2_sumUp_36 : decode cX2_sumUp 36 = .ok (.aload_n 0, 1) := by decide +kernel
theorem dX2_sumUp_37 : decode cX2_sumUp 37 = .ok (.getfield 25, 3) := by decide +kernel
theorem dX2_sumUp_40 : decode cX2_sumUp 40 = .ok (.iload_n 3, 1) := by decide +kernel
theorem dX2_sumUp_41 : decode cX2_sumUp 41 = .ok (.iload_n 2, 1) := by decide +kernel
theorem dX2_sumUp_42 : decode cX2_sumUp 42 = .ok (.iastore, 1) := by decide +kernel
theorem dX2_sumUp_43 : decode cX2_sumUp 43 = .ok (.iload_n 1, 1) := by decide +kernel
theorem dX2_sumUp_44 : decode cX2_sumUp 44 = .ok (.bipush 60, 2) := by decide +kernel
theorem dX2_sumUp_46 : decode cX2_sumUp 46 = .ok (.aload_n 0, 1) := by decide +kernel
theorem dX2_sumUp_47 : decode cX2_sumUp 47 = .ok (.getfield 19, 3) := by decide +kernel
theorem dX2_sumUp_50 : decode cX2_sumUp 50 = .ok (.iload_n 3, 1) := by decide +kernel
theorem dX2_sumUp_51 : decode cX2_sumUp 51 = .ok (.iaload, 1) := by decide +kernel
theorem dX2_sumUp_52 : decode cX2_sumUp 52 = .ok (.imul, 1) := by decide +kernel
theorem dX2_sumUp_53 : decode cX2_sumUp 53 = .ok (.iadd, 1) := by decide +kernel
theorem dX2_sumUp_54 : decode cX2_sumUp 54 = .ok (.istore_n 1, 1) := by decide +kernel
theorem dX2_sumUp_55 : decode cX2_sumUp 55 = .ok (.iload_n 2, 1) := by decide +kernel
theorem dX2_sumUp_56 : decode cX2_sumUp 56 = .ok (.bipush 60, 2) := by decide +kernel
theorem dX2_sumUp_58 : decode cX2_sumUp 58 = .ok (.aload_n 0, 1) := by decide +kernel
theorem dX2_sumUp_59 : decode cX2_sumUp 59 = .ok (.getfield 19, 3) := by decide +kernel
theorem dX2_sumUp_62 : decode cX2_sumUp 62 = .ok (.iload_n 3, 1) := by decide +kernel
theorem dX2_sumUp_63 : decode cX2_sumUp 63 = .ok (.iaload, 1) := by decide +kernel
theorem dX2_sumUp_64 : decode cX2_sumUp 64 = .ok (.iconst 4, 1) := by decide +kernel
theorem dX2_sumUp_65 : decode cX2_sumUp 65 = .ok (.idiv, 1) := by decide +kernel
theorem dX2_sumUp_66 : decode cX2_sumUp 66 = .ok (.imul, 1) := by decide +kernel
theorem dX2_sumUp_67 : decode cX2_sumUp 67 = .ok (.iadd, 1) := by decide +kernel
theorem dX2_sumUp_68 : decode cX2_sumUp 68 = .ok (.istore_n 2, 1) := by decide +kernel
theorem dX2_sumUp_69 : decode cX2_sumUp 69 = .ok (.iinc 3 1, 3) := by decide +kernel
theorem dX2_sumUp_72 : decode cX2_sumUp 72 = .ok (.goto (-66), 3) := by decide +kernel
theorem dX2_sumUp_75 : decode cX2_sumUp 75 = .ok (.return_, 1) := by decide +kernel
set_option maxHeartbeats 4000000 in
set_option maxRecDepth 20000 in
theorem c_X2_sumUp (l : Launch) (b : Nat) (D : va_G) (cy : Nat → ClassId) {n : Nat} {R : xRm} {M0 : xMm} (hn : 62 ≤ n) (hR : ∀ k, k < 5 → R 57 k = 58 + k) (hT : ITo M0 58) : xC l b D cy yX2_sumUp cX2_sumUp 4 none ({ frames := 2, cells := 0, slots := 0, locals := 46 }) [xr 57] n M0 R (xPv n R (fun M' => (∀ a, a ≠ 60 → a ≠ 61 → a ≠ 62 → M' a = M0 a) ∧ ∀ h, h < 29 → M' 60 h = rate M0 58 h ∧ (0 ≤ M' 61 h ∧ M' 61 h ≤ 62640) ∧ (0 ≤ M' 62 h ∧ M' 62 h ≤ 62640))) := by
  refine x_met (by decide) (Nat.le_of_ble_eq_true rfl) (fun g hg hr he => ?_)
  refine x_canon (ls' := [(0, _)]) rfl ?_
  have loop : ∀ (c : Nat) (i : Nat) (M : xMm) (u v : Int), i ≤ 29 → 29 < i + c → (0 ≤ u ∧ u ≤ 2160 * i) → (0 ≤ v ∧ v ≤ 2160 * i) → (∀ a, a ≠ 60 → a ≠ 61 → a ≠ 62 → M a = M0 a) → (∀ h, h < i → M 60 h = rate M0 58 h ∧ (0 ≤ M 61 h ∧ M 61 h ≤ 62640) ∧ (0 ≤ M 62 h ∧ M 62 h ≤ 62640)) → xW g n M R 0 0 6 [(0, xr 57), (1, xi u), (2, xi v), (3, xi (i : Int))] [] := by
    intro c
    induction c with
    | zero => intro i M u v h1 h2; exact absurd h2 (by omega)
    | succ c ih =>
      intro i M u v hi hc hu hv hfr hh
      have e58 : M 58 = M0 58 := hfr 58 (by decide) (by decide) (by decide)
      have hT1 : ITo M 58 := fun k hk => by rw [e58]; exact hT k hk
      have hw := wOf_le hT1 i
      have er : rate M 58 i = rate M0 58 i := rate_congr (fun j _ => by rw [e58]) i
      refine x_iload_n hg dX2_sumUp_6 rfl ?_
      refine x_bipush hg dX2_sumUp_7 (by decide) ?_
      refine x_icmp_ge (tgt := 75) hg dX2_sumUp_9 (by decide) (by omega) (by omega) (fun c9 => ?_) (fun c9 => ?_)
      · skip
        refine x_vret hg hr dX2_sumUp_75 (Nat.le_refl _) (Nat.le_refl _) ?_
        refine ⟨rfl, rfl, rfl, hfr, fun h hh2 => hh h (by omega)⟩
      · skip
        refine x_aload_n hg dX2_sumUp_12 rfl ?_
        refine x_getR (j9 := 60) hg dX2_sumUp_13 fl_X2_19 (oC hn) rfl (hR 2 (by decide)) (by decide) ?_
        refine x_iload_n hg dX2_sumUp_16 rfl ?_
        refine x_iconst hg dX2_sumUp_17 ?_
        refine x_aload_n hg dX2_sumUp_18 rfl ?_
        refine x_iload_n hg dX2_sumUp_19 rfl ?_
        refine x_cVi hg he [_] [_, _, _] dX2_sumUp_20 mv_X2_39 (c_X2_warmthOf l b D cy hn hR hT1 (by omega)) (oC hn) rfl rfl (Nat.le_of_ble_eq_true rfl) (by decide) (by decide) (fun r20 M20 q20 => ?_)
        obtain ⟨h20, e20⟩ := q20
        replace h20 := h20.symm
        subst h20
        rw [show (i : Int).toNat = i from Int.toNat_natCast i] at e20
        refine x_iconst hg dX2_sumUp_23 ?_
        refine x_isub hg dX2_sumUp_24 ?_
        refine x_max hg dX2_sumUp_25 (List.mem_of_getElem? (i := 215) (by decide +kernel)) (by omega) (by omega) ⟨by decide, Nat.le_of_ble_eq_true rfl⟩ (by decide) ?_
        have e28 : (if (0 : Int) < r20 - 4 then r20 - 4 else 0) = rate M0 58 i := by
          rw [← er]
          unfold rate
          rw [← e20]
          split <;> split <;> omega
        rw [e28]
        have hrt := rate_le hT i
        obtain ⟨ra, hra⟩ : ∃ ra, ra = rate M0 58 i := ⟨_, rfl⟩
        rw [← hra] at hrt ⊢
        refine x_iastore (len := 29) hg dX2_sumUp_28 (aC2 hn) (by omega)  ?_
        refine x_aload_n hg dX2_sumUp_29 rfl ?_
        refine x_getR (j9 := 61) hg dX2_sumUp_30 fl_X2_22 (oC hn) rfl (hR 3 (by decide)) (by decide) ?_
        refine x_iload_n hg dX2_sumUp_33 rfl ?_
        refine x_iload_n hg dX2_sumUp_34 rfl ?_
        refine x_iastore (len := 29) hg dX2_sumUp_35 (aC3 hn) (by omega)  ?_
        refine x_aload_n hg dX2_sumUp_36 rfl ?_
        refine x_getR (j9 := 62) hg dX2_sumUp_37 fl_X2_25 (oC hn) rfl (hR 4 (by decide)) (by decide) ?_
        refine x_iload_n hg dX2_sumUp_40 rfl ?_
        refine x_iload_n hg dX2_sumUp_41 rfl ?_
        refine x_iastore (len := 29) hg dX2_sumUp_42 (aC4 hn) (by omega)  ?_
        refine x_iload_n hg dX2_sumUp_43 rfl ?_
        refine x_bipush hg dX2_sumUp_44 (by decide) ?_
        refine x_aload_n hg dX2_sumUp_46 rfl ?_
        refine x_getR (j9 := 60) hg dX2_sumUp_47 fl_X2_19 (oC hn) rfl (hR 2 (by decide)) (by decide) ?_
        refine x_iload_n hg dX2_sumUp_50 rfl ?_
        refine x_iaload (len := 29) hg dX2_sumUp_51 (aC2 hn) (by omega) ?_
        try simp (disch := omega) only [mu_s, mu_nf, mu_nc]
        refine x_imul hg dX2_sumUp_52 ?_
        refine x_iadd hg dX2_sumUp_53 ?_
        refine x_istore_n (ls' := [(0, _), (1, _), (2, _), (3, _)]) hg dX2_sumUp_54 rfl (by decide) rfl ?_
        refine x_iload_n hg dX2_sumUp_55 rfl ?_
        refine x_bipush hg dX2_sumUp_56 (by decide) ?_
        refine x_aload_n hg dX2_sumUp_58 rfl ?_
        refine x_getR (j9 := 60) hg dX2_sumUp_59 fl_X2_19 (oC hn) rfl (hR 2 (by decide)) (by decide) ?_
        refine x_iload_n hg dX2_sumUp_62 rfl ?_
        refine x_iaload (len := 29) hg dX2_sumUp_63 (aC2 hn) (by omega) ?_
        try simp (disch := omega) only [mu_s, mu_nf, mu_nc]
        refine x_iconst hg dX2_sumUp_64 ?_
        refine x_idiv hg dX2_sumUp_65 (by omega) (by omega) ?_
        refine x_imul hg dX2_sumUp_66 ?_
        refine x_iadd hg dX2_sumUp_67 ?_
        refine x_istore_n (ls' := [(0, _), (1, _), (2, _), (3, _)]) hg dX2_sumUp_68 rfl (by decide) rfl ?_
        refine x_iinc (ls' := [(0, _), (1, _), (2, _), (3, _)]) hg dX2_sumUp_69 rfl (by decide) rfl ?_
        refine x_goto (tgt := 6) hg dX2_sumUp_72 (by decide) ?_
        refine ih (i + 1) _ _ _ (by omega) (by omega) ?_ ?_ (fun a h0 h1 h2 => ?_) (fun h hh2 => ?_)
        · constructor <;> omega
        · constructor <;> omega
        · rw [← hfr a h0 h1 h2]
          funext j
          rw [mu_nc h2, mu_nc h1, mu_nc h0]
        · simp only [Int.toNat_natCast]
          by_cases hhi : h = i
          · subst hhi
            simp only [mu_s, mu_nc (show (60 : Nat) ≠ 62 by decide), mu_nc (show (60 : Nat) ≠ 61 by decide), mu_nc (show (61 : Nat) ≠ 62 by decide)]
            exact ⟨hra, by omega, by omega⟩
          · have := hh h (by omega)
            simp only [mu_nf hhi]
            exact this
  refine x_iconst hg dX2_sumUp_0 ?_
  refine x_istore_n (ls' := [(0, _), (1, _)]) hg dX2_sumUp_1 rfl (by decide) rfl ?_
  refine x_iconst hg dX2_sumUp_2 ?_
  refine x_istore_n (ls' := [(0, _), (1, _), (2, _)]) hg dX2_sumUp_3 rfl (by decide) rfl ?_
  refine x_iconst hg dX2_sumUp_4 ?_
  refine x_istore_n (ls' := [(0, _), (1, _), (2, _), (3, _)]) hg dX2_sumUp_5 rfl (by decide) rfl ?_
  exact loop 30 0 M0 0 0 (by omega) (by omega) (by omega) (by omega) (fun a _ _ _ => rfl) (fun h hh => absurd hh (by omega))

theorem dX2_isCooled_0 : decode cX2_isCooled 0 = .ok (.iload_n 1, 1) := by decide +kernel
theorem dX2_isCooled_1 : decode cX2_isCooled 1 = .ok (.ifCond .lt 22, 3) := by decide +kernel
theorem dX2_isCooled_4 : decode cX2_isCooled 4 = .ok (.iload_n 1, 1) := by decide +kernel
theorem dX2_isCooled_5 : decode cX2_isCooled 5 = .ok (.bipush 10, 2) := by decide +kernel
theorem dX2_isCooled_7 : decode cX2_isCooled 7 = .ok (.if_icmp .ge 16, 3) := by decide +kernel
theorem dX2_isCooled_10 : decode cX2_isCooled 10 = .ok (.aload_n 0, 1) := by decide +kernel
theorem dX2_isCooled_11 : decode cX2_isCooled 11 = .ok (.getfield 15, 3) := by decide +kernel
theorem dX2_isCooled_14 : decode cX2_isCooled 14 = .ok (.iload_n 1, 1) := by decide +kernel
theorem dX2_isCooled_15 : decode cX2_isCooled 15 = .ok (.baload, 1) := by decide +kernel
theorem dX2_isCooled_16 : decode cX2_isCooled 16 = .ok (.ifCond .eq 7, 3) := by decide +kernel
theorem dX2_isCooled_19 : decode cX2_isCooled 19 = .ok (.iconst 1, 1) := by decide +kernel
theorem dX2_isCooled_20 : decode cX2_isCooled 20 = .ok (.goto 4, 3) := by decide +kernel
theorem dX2_isCooled_23 : decode cX2_isCooled 23 = .ok (.iconst 0, 1) := by decide +kernel
theorem dX2_isCooled_24 : decode cX2_isCooled 24 = .ok (.ireturn, 1) := by decide +kernel
set_option maxHeartbeats 4000000 in
set_option maxRecDepth 20000 in
theorem c_X2_isCooled (l : Launch) (b : Nat) (D : va_G) (cy : Nat → ClassId) {tt : Nat} {M : xMm} {z : Int} (hI : IC M) (hz : inR z) : xC l b D cy yX2_isCooled cX2_isCooled 2 (some .boolean) ({ frames := 0, cells := 0, slots := 0, locals := 0 }) [xr 57, xi z] 209 M (RS tt) (xPi 209 (RS tt) (fun r M' => M' = M ∧ ((0 ≤ z ∧ z < 10 ∧ M 59 z.toNat ≠ 0) ∧ r = 1 ∨ ¬ (0 ≤ z ∧ z < 10 ∧ M 59 z.toNat ≠ 0) ∧ r = 0))) := by
  refine x_met (by decide) (Nat.le_of_ble_eq_true rfl) (fun g hg hr he => ?_)
  obtain ⟨hTo, hCo, hRa⟩ := IC_parts hI
  refine x_canon (ls' := [(0, _), (1, _)]) rfl ?_
  refine x_iload_n hg dX2_isCooled_0 rfl ?_
  refine x_if_lt (tgt := 23) hg dX2_isCooled_1 (by decide) (by omega) (fun c1 => ?_) (fun c1 => ?_)
  · skip
    refine x_iconst hg dX2_isCooled_23 ?_
    refine x_iret hg hr (Or.inr ⟨rfl, by first | exact Or.inl rfl | exact Or.inr rfl | omega⟩) dX2_isCooled_24 (Nat.le_refl _) (Nat.le_refl _) ?_
    exact ⟨rfl, rfl, _, rfl, rfl, by omega⟩
  · skip
    refine x_iload_n hg dX2_isCooled_4 rfl ?_
    refine x_bipush hg dX2_isCooled_5 (by decide) ?_
    refine x_icmp_ge (tgt := 23) hg dX2_isCooled_7 (by decide) (by omega) (by omega) (fun c7 => ?_) (fun c7 => ?_)
    · skip
      refine x_iconst hg dX2_isCooled_23 ?_
      refine x_iret hg hr (Or.inr ⟨rfl, by first | exact Or.inl rfl | exact Or.inr rfl | omega⟩) dX2_isCooled_24 (Nat.le_refl _) (Nat.le_refl _) ?_
      exact ⟨rfl, rfl, _, rfl, rfl, by omega⟩
    · skip
      refine x_aload_n hg dX2_isCooled_10 rfl ?_
      refine x_getR (j9 := 59) hg dX2_isCooled_11 fl_X2_15 (by decide) rfl rfl (by decide) ?_
      refine x_iload_n hg dX2_isCooled_14 rfl ?_
      refine x_zaload (len := 10) hg dX2_isCooled_15 (by decide) (by omega) ?_
      refine x_if_eq (tgt := 23) hg dX2_isCooled_16 (by decide) (by have h1 := hCo z.toNat (by omega); omega) (fun c16 => ?_) (fun c16 => ?_)
      · skip
        refine x_iconst hg dX2_isCooled_23 ?_
        refine x_iret hg hr (Or.inr ⟨rfl, by first | exact Or.inl rfl | exact Or.inr rfl | omega⟩) dX2_isCooled_24 (Nat.le_refl _) (Nat.le_refl _) ?_
        exact ⟨rfl, rfl, _, rfl, rfl, by omega⟩
      · skip
        refine x_iconst hg dX2_isCooled_19 ?_
        refine x_goto (tgt := 24) hg dX2_isCooled_20 (by decide) ?_
        refine x_iret hg hr (Or.inr ⟨rfl, by first | exact Or.inl rfl | exact Or.inr rfl | omega⟩) dX2_isCooled_24 (Nat.le_refl _) (Nat.le_refl _) ?_
        exact ⟨rfl, rfl, _, rfl, rfl, by omega⟩

theorem dX2_until_0 : decode cX2_until 0 = .ok (.iload_n 1, 1) := by decide +kernel
theorem dX2_until_1 : decode cX2_until 1 = .ok (.bipush 60, 2) := by decide +kernel
theorem dX2_until_3 : decode cX2_until 3 = .ok (.idiv, 1) := by decide +kernel
theorem dX2_until_4 : decode cX2_until 4 = .ok (.istore_n 3, 1) := by decide +kernel
theorem dX2_until_5 : decode cX2_until 5 = .ok (.iload_n 3, 1) := by decide +kernel
theorem dX2_until_6 : decode cX2_until 6 = .ok (.ifCond .lt 9, 3) := by decide +kernel
theorem dX2_until_9 : decode cX2_until 9 = .ok (.iload_n 3, 1) := by decide +kernel
theorem dX2_until_10 : decode cX2_until 10 = .ok (.bipush 29, 2) := by decide +kernel
theorem dX2_until_12 : decode cX2_until 12 = .ok (.if_icmp .lt 5, 3) := by decide +kernel
theorem dX2_until_15 : decode cX2_until 15 = .ok (.iconst 0, 1) := by decide +kernel
theorem dX2_until_16 : decode cX2_until 16 = .ok (.ireturn, 1) := by decide +kernel
theorem dX2_until_17 : decode cX2_until 17 = .ok (.iload_n 1, 1) := by decide +kernel
theorem dX2_until_18 : decode cX2_until 18 = .ok (.bipush 60, 2) := by decide +kernel
theorem dX2_until_20 : decode cX2_until 20 = .ok (.irem, 1) := by decide +kernel
theorem dX2_until_21 : decode cX2_until 21 = .ok (.istore 4, 2) := by decide +kernel
theorem dX2_until_23 : decode cX2_until 23 = .ok (.iload_n 2, 1) := by decide +kernel
theorem dX2_until_24 : decode cX2_until 24 = .ok (.ifCond .eq 24, 3) := by decide +kernel
theorem dX2_until_27 : decode cX2_until 27 = .ok (.aload_n 0, 1) := by decide +kernel
theorem dX2_until_28 : decode cX2_until 28 = .ok (.getfield 25, 3) := by decide +kernel
theorem dX2_until_31 : decode cX2_until 31 = .ok (.iload_n 3, 1) := by decide +kernel
theorem dX2_until_32 : decode cX2_until 32 = .ok (.iaload, 1) := by decide +kernel
theorem dX2_until_33 : decode cX2_until 33 = .ok (.iload 4, 2) := by decide +kernel
theorem dX2_until_35 : decode cX2_until 35 = .ok (.aload_n 0, 1) := by decide +kernel
theorem dX2_until_36 : decode cX2_until 36 = .ok (.getfield 19, 3) := by decide +kernel
theorem dX2_until_39 : decode cX2_until 39 = .ok (.iload_n 3, 1) := by decide +kernel
theorem dX2_until_40 : decode cX2_until 40 = .ok (.iaload, 1) := by decide +kernel
theorem dX2_until_41 : decode cX2_until 41 = .ok (.iconst 4, 1) := by decide +kernel
theorem dX2_until_42 : decode cX2_until 42 = .ok (.idiv, 1) := by decide +kernel
theorem dX2_until_43 : decode cX2_until 43 = .ok (.imul, 1) := by decide +kernel
theorem dX2_until_44 : decode cX2_until 44 = .ok (.iadd, 1) := by decide +kernel
theorem dX2_until_45 : decode cX2_until 45 = .ok (.goto 19, 3) := by decide +kernel
theorem dX2_until_48 : decode cX2_until 48 = .ok (.aload_n 0, 1) := by decide +kernel
theorem dX2_until_49 : decode cX2_until 49 = .ok (.getfield 22, 3) := by decide +kernel
theorem dX2_until_52 : decode cX2_until 52 = .ok (.iload_n 3, 1) := by decide +kernel
theorem dX2_until_53 : decode cX2_until 53 = .ok (.iaload, 1) := by decide +kernel
theorem dX2_until_54 : decode cX2_until 54 = .ok (.iload 4, 2) := by decide +kernel
theorem dX2_until_56 : decode cX2_until 56 = .ok (.aload_n 0, 1) := by decide +kernel
theorem dX2_until_57 : decode cX2_until 57 = .ok (.getfield 19, 3) := by decide +kernel
theorem dX2_until_60 : decode cX2_until 60 = .ok (.iload_n 3, 1) := by decide +kernel
theorem dX2_until_61 : decode cX2_until 61 = .ok (.iaload, 1) := by decide +kernel
theorem dX2_until_62 : decode cX2_until 62 = .ok (.imul, 1) := by decide +kernel
theorem dX2_until_63 : decode cX2_until 63 = .ok (.iadd, 1) := by decide +kernel
theorem dX2_until_64 : decode cX2_until 64 = .ok (.ireturn, 1) := by decide +kernel
set_option maxHeartbeats 4000000 in
set_option maxRecDepth 20000 in
theorem c_X2_until (l : Launch) (b : Nat) (D : va_G) (cy : Nat → ClassId) {tt : Nat} {M : xMm} {z k : Int} (hI : IC M) (hz : 0 ≤ z ∧ z ≤ 1739) (hk : k = 0 ∨ k = 1) : xC l b D cy yX2_until cX2_until 5 (some .int) ({ frames := 0, cells := 0, slots := 0, locals := 0 }) [xr 57, xi z, xi k] 209 M (RS tt) (xPi 209 (RS tt) (fun r M' => M' = M ∧ 0 ≤ r ∧ r ≤ 100000)) := by
  refine x_met (by decide) (Nat.le_of_ble_eq_true rfl) (fun g hg hr he => ?_)
  obtain ⟨hTo, hCo, hRa⟩ := IC_parts hI
  have h9 := hRa (z / 60).toNat (by omega)
  have m1 := mul_bd (a := z % 60) (c := M 60 (z / 60).toNat) (A := 59) (C := 36) (by omega) (by omega) (by omega) (by omega)
  have m2 := mul_bd (a := z % 60) (c := M 60 (z / 60).toNat / 4) (A := 59) (C := 36) (by omega) (by omega) (by omega) (by omega)
  refine x_canon (ls' := [(0, _), (1, _), (2, _)]) rfl ?_
  refine x_iload_n hg dX2_until_0 rfl ?_
  refine x_bipush hg dX2_until_1 (by decide) ?_
  refine x_idiv hg dX2_until_3 (by omega) (by omega) ?_
  refine x_istore_n (ls' := [(0, _), (1, _), (2, _), (3, _)]) hg dX2_until_4 rfl (by decide) rfl ?_
  refine x_iload_n hg dX2_until_5 rfl ?_
  refine x_if_lt (tgt := 15) hg dX2_until_6 (by decide) (by omega) (fun c6 => ?_) (fun c6 => ?_)
  · skip
    refine x_iconst hg dX2_until_15 ?_
    refine x_iret hg hr (Or.inl rfl) dX2_until_16 (Nat.le_refl _) (Nat.le_refl _) ?_
    exact ⟨rfl, rfl, _, rfl, rfl, by omega, by omega⟩
  · skip
    refine x_iload_n hg dX2_until_9 rfl ?_
    refine x_bipush hg dX2_until_10 (by decide) ?_
    refine x_icmp_lt (tgt := 17) hg dX2_until_12 (by decide) (by omega) (by omega) (fun c12 => ?_) (fun c12 => ?_)
    · skip
      refine x_iload_n hg dX2_until_17 rfl ?_
      refine x_bipush hg dX2_until_18 (by decide) ?_
      refine x_irem hg dX2_until_20 (by omega) (by omega) ?_
      refine x_istore (ls' := [(0, _), (1, _), (2, _), (3, _), (4, _)]) hg dX2_until_21 (by decide) rfl ?_
      refine x_iload_n hg dX2_until_23 rfl ?_
      refine x_if_eq (tgt := 48) hg dX2_until_24 (by decide) (by omega) (fun c24 => ?_) (fun c24 => ?_)
      · skip
        refine x_aload_n hg dX2_until_48 rfl ?_
        refine x_getR (j9 := 61) hg dX2_until_49 fl_X2_22 (by decide) rfl rfl (by decide) ?_
        refine x_iload_n hg dX2_until_52 rfl ?_
        refine x_iaload (len := 29) hg dX2_until_53 (by decide) (by omega) ?_
        refine x_iload hg dX2_until_54 rfl ?_
        refine x_aload_n hg dX2_until_56 rfl ?_
        refine x_getR (j9 := 60) hg dX2_until_57 fl_X2_19 (by decide) rfl rfl (by decide) ?_
        refine x_iload_n hg dX2_until_60 rfl ?_
        refine x_iaload (len := 29) hg dX2_until_61 (by decide) (by omega) ?_
        refine x_imul hg dX2_until_62 ?_
        refine x_iadd hg dX2_until_63 ?_
        refine x_iret hg hr (Or.inl rfl) dX2_until_64 (Nat.le_refl _) (Nat.le_refl _) ?_
        exact ⟨rfl, rfl, _, rfl, rfl, by omega, by omega⟩
      · skip
        refine x_aload_n hg dX2_until_27 rfl ?_
        refine x_getR (j9 := 62) hg dX2_until_28 fl_X2_25 (by decide) rfl rfl (by decide) ?_
        refine x_iload_n hg dX2_until_31 rfl ?_
        refine x_iaload (len := 29) hg dX2_until_32 (by decide) (by omega) ?_
        refine x_iload hg dX2_until_33 rfl ?_
        refine x_aload_n hg dX2_until_35 rfl ?_
        refine x_getR (j9 := 60) hg dX2_until_36 fl_X2_19 (by decide) rfl rfl (by decide) ?_
        refine x_iload_n hg dX2_until_39 rfl ?_
        refine x_iaload (len := 29) hg dX2_until_40 (by decide) (by omega) ?_
        refine x_iconst hg dX2_until_41 ?_
        refine x_idiv hg dX2_until_42 (by omega) (by omega) ?_
        refine x_imul hg dX2_until_43 ?_
        refine x_iadd hg dX2_until_44 ?_
        refine x_goto (tgt := 64) hg dX2_until_45 (by decide) ?_
        refine x_iret hg hr (Or.inl rfl) dX2_until_64 (Nat.le_refl _) (Nat.le_refl _) ?_
        exact ⟨rfl, rfl, _, rfl, rfl, by omega, by omega⟩
    · skip
      refine x_iconst hg dX2_until_15 ?_
      refine x_iret hg hr (Or.inl rfl) dX2_until_16 (Nat.le_refl _) (Nat.le_refl _) ?_
      exact ⟨rfl, rfl, _, rfl, rfl, by omega, by omega⟩

theorem dX2_between_0 : decode cX2_between 0 = .ok (.aload_n 0, 1) := by decide +kernel
theorem dX2_between_1 : decode cX2_between 1 = .ok (.iload_n 3, 1) := by decide +kernel
theorem dX2_between_2 : decode cX2_between 2 = .ok (.invokevirtual 31, 3) := by decide +kernel
theorem dX2_between_5 : decode cX2_between 5 = .ok (.istore 4, 2) := by decide +kernel
theorem dX2_between_7 : decode cX2_between 7 = .ok (.aload_n 0, 1) := by decide +kernel
theorem dX2_between_8 : decode cX2_between 8 = .ok (.iload_n 2, 1) := by decide +kernel
theorem dX2_between_9 : decode cX2_between 9 = .ok (.iload 4, 2) := by decide +kernel
theorem dX2_between_11 : decode cX2_between 11 = .ok (.invokevirtual 35, 3) := by decide +kernel
theorem dX2_between_14 : decode cX2_between 14 = .ok (.aload_n 0, 1) := by decide +kernel
theorem dX2_between_15 : decode cX2_between 15 = .ok (.iload_n 1, 1) := by decide +kernel
theorem dX2_between_16 : decode cX2_between 16 = .ok (.iload 4, 2) := by decide +kernel
theorem dX2_between_18 : decode cX2_between 18 = .ok (.invokevirtual 35, 3) := by decide +kernel
theorem dX2_between_21 : decode cX2_between 21 = .ok (.isub, 1) := by decide +kernel
theorem dX2_between_22 : decode cX2_between 22 = .ok (.ireturn, 1) := by decide +kernel
set_option maxHeartbeats 4000000 in
set_option maxRecDepth 20000 in
theorem c_X2_between (l : Launch) (b : Nat) (D : va_G) (cy : Nat → ClassId) {tt : Nat} {M : xMm} {x y z : Int} (hI : IC M) (hx : 0 ≤ x ∧ x ≤ 1739) (hy : 0 ≤ y ∧ y ≤ 1739) (hz : inR z) : xC l b D cy yX2_between cX2_between 5 (some .int) ({ frames := 1, cells := 0, slots := 0, locals := 24 }) [xr 57, xi x, xi y, xi z] 209 M (RS tt) (xPi 209 (RS tt) (fun r M' => M' = M ∧ -100000 ≤ r ∧ r ≤ 100000)) := by
  refine x_met (by decide) (Nat.le_of_ble_eq_true rfl) (fun g hg hr he => ?_)
  refine x_canon (ls' := [(0, _), (1, _), (2, _), (3, _)]) rfl ?_
  refine x_aload_n hg dX2_between_0 rfl ?_
  refine x_iload_n hg dX2_between_1 rfl ?_
  refine x_cVi hg he [_] [] dX2_between_2 mv_X2_31 (c_X2_isCooled l b D cy hI (by omega)) (by decide) rfl rfl (Nat.le_of_ble_eq_true rfl) (by decide) (by decide) (fun r2 M2 q2 => ?_)
  obtain ⟨h2, e2⟩ := q2
  replace h2 := h2.symm
  subst h2
  refine x_istore (ls' := [(0, _), (1, _), (2, _), (3, _), (4, _)]) hg dX2_between_5 (by decide) rfl ?_
  refine x_aload_n hg dX2_between_7 rfl ?_
  refine x_iload_n hg dX2_between_8 rfl ?_
  refine x_iload hg dX2_between_9 rfl ?_
  refine x_cVi hg he [_, _] [] dX2_between_11 mv_X2_35 (c_X2_until l b D cy hI (by omega) (by omega)) (by decide) rfl rfl (Nat.le_of_ble_eq_true rfl) (by decide) (by decide) (fun r11 M11 q11 => ?_)
  obtain ⟨h11, e11⟩ := q11
  replace h11 := h11.symm
  subst h11
  refine x_aload_n hg dX2_between_14 rfl ?_
  refine x_iload_n hg dX2_between_15 rfl ?_
  refine x_iload hg dX2_between_16 rfl ?_
  refine x_cVi hg he [_, _] [_] dX2_between_18 mv_X2_35 (c_X2_until l b D cy hI (by omega) (by omega)) (by decide) rfl rfl (Nat.le_of_ble_eq_true rfl) (by decide) (by decide) (fun r18 M18 q18 => ?_)
  obtain ⟨h18, e18⟩ := q18
  replace h18 := h18.symm
  subst h18
  refine x_isub hg dX2_between_21 ?_
  refine x_iret hg hr (Or.inl rfl) dX2_between_22 (Nat.le_refl _) (Nat.le_refl _) ?_
  exact ⟨rfl, rfl, _, rfl, rfl, by omega, by omega⟩

def vSo (M : xMm) (z y : Int) : Int := if 0 ≤ y ∧ y < 10 ∧ M 59 y.toNat ≠ 0 then rate M 58 (z / 60).toNat / 4 else rate M 58 (z / 60).toNat
theorem dX2_inMinute_0 : decode cX2_inMinute 0 = .ok (.iload_n 1, 1) := by decide +kernel
theorem dX2_inMinute_1 : decode cX2_inMinute 1 = .ok (.bipush 60, 2) := by decide +kernel
theorem dX2_inMinute_3 : decode cX2_inMinute 3 = .ok (.idiv, 1) := by decide +kernel
theorem dX2_inMinute_4 : decode cX2_inMinute 4 = .ok (.istore_n 3, 1) := by decide +kernel
theorem dX2_inMinute_5 : decode cX2_inMinute 5 = .ok (.iload_n 3, 1) := by decide +kernel
theorem dX2_inMinute_6 : decode cX2_inMinute 6 = .ok (.ifCond .lt 9, 3) := by decide +kernel
theorem dX2_inMinute_9 : decode cX2_inMinute 9 = .ok (.iload_n 3, 1) := by decide +kernel
theorem dX2_inMinute_10 : decode cX2_inMinute 10 = .ok (.bipush 29, 2) := by decide +kernel
theorem dX2_inMinute_12 : decode cX2_inMinute 12 = .ok (.if_icmp .lt 5, 3) := by decide +kernel
theorem dX2_inMinute_15 : decode cX2_inMinute 15 = .ok (.iconst 0, 1) := by decide +kernel
theorem dX2_inMinute_16 : decode cX2_inMinute 16 = .ok (.ireturn, 1) := by decide +kernel
theorem dX2_inMinute_17 : decode cX2_inMinute 17 = .ok (.aload_n 0, 1) := by decide +kernel
theorem dX2_inMinute_18 : decode cX2_inMinute 18 = .ok (.iload_n 2, 1) := by decide +kernel
theorem dX2_inMinute_19 : decode cX2_inMinute 19 = .ok (.invokevirtual 31, 3) := by decide +kernel
theorem dX2_inMinute_22 : decode cX2_inMinute 22 = .ok (.ifCond .eq 14, 3) := by decide +kernel
theorem dX2_inMinute_25 : decode cX2_inMinute 25 = .ok (.aload_n 0, 1) := by decide +kernel
theorem dX2_inMinute_26 : decode cX2_inMinute 26 = .ok (.getfield 19, 3) := by decide +kernel
theorem dX2_inMinute_29 : decode cX2_inMinute 29 = .ok (.iload_n 3, 1) := by decide +kernel
theorem dX2_inMinute_30 : decode cX2_inMinute 30 = .ok (.iaload, 1) := by decide +kernel
theorem dX2_inMinute_31 : decode cX2_inMinute 31 = .ok (.iconst 4, 1) := by decide +kernel
theorem dX2_inMinute_32 : decode cX2_inMinute 32 = .ok (.idiv, 1) := by decide +kernel
theorem dX2_inMinute_33 : decode cX2_inMinute 33 = .ok (.goto 9, 3) := by decide +kernel
theorem dX2_inMinute_36 : decode cX2_inMinute 36 = .ok (.aload_n 0, 1) := by decide +kernel
theorem dX2_inMinute_37 : decode cX2_inMinute 37 = .ok (.getfield 19, 3) := by decide +kernel
theorem dX2_inMinute_40 : decode cX2_inMinute 40 = .ok (.iload_n 3, 1) := by decide +kernel
theorem dX2_inMinute_41 : decode cX2_inMinute 41 = .ok (.iaload, 1) := by decide +kernel
theorem dX2_inMinute_42 : decode cX2_inMinute 42 = .ok (.ireturn, 1) := by decide +kernel
set_option maxHeartbeats 4000000 in
set_option maxRecDepth 20000 in
theorem c_X2_inMinute (l : Launch) (b : Nat) (D : va_G) (cy : Nat → ClassId) {tt : Nat} {M : xMm} {z y : Int} (hI : IC M) (hz : 0 ≤ z ∧ z ≤ 1739) (hy : inR y) : xC l b D cy yX2_inMinute cX2_inMinute 4 (some .int) ({ frames := 1, cells := 0, slots := 0, locals := 21 }) [xr 57, xi z, xi y] 209 M (RS tt) (xPi 209 (RS tt) (fun r M' => M' = M ∧ r = vSo M z y)) := by
  refine x_met (by decide) (Nat.le_of_ble_eq_true rfl) (fun g hg hr he => ?_)
  obtain ⟨hTo, hCo, hRa⟩ := IC_parts hI
  have h9 := hRa (z / 60).toNat (by omega)
  have h8 := (hI.2.2 (z / 60).toNat (by omega)).1
  refine x_canon (ls' := [(0, _), (1, _), (2, _)]) rfl ?_
  refine x_iload_n hg dX2_inMinute_0 rfl ?_
  refine x_bipush hg dX2_inMinute_1 (by decide) ?_
  refine x_idiv hg dX2_inMinute_3 (by omega) (by omega) ?_
  refine x_istore_n (ls' := [(0, _), (1, _), (2, _), (3, _)]) hg dX2_inMinute_4 rfl (by decide) rfl ?_
  refine x_iload_n hg dX2_inMinute_5 rfl ?_
  refine x_if_lt (tgt := 15) hg dX2_inMinute_6 (by decide) (by omega) (fun c6 => ?_) (fun c6 => ?_)
  · skip
    refine x_iconst hg dX2_inMinute_15 ?_
    refine x_iret hg hr (Or.inl rfl) dX2_inMinute_16 (Nat.le_refl _) (Nat.le_refl _) ?_
    refine ⟨rfl, rfl, _, rfl, rfl, ?_⟩
    first | (exfalso; omega) | (unfold vSo; rw [← h8]; first | rw [if_pos (by omega)] | rw [if_neg (by omega)])
  · skip
    refine x_iload_n hg dX2_inMinute_9 rfl ?_
    refine x_bipush hg dX2_inMinute_10 (by decide) ?_
    refine x_icmp_lt (tgt := 17) hg dX2_inMinute_12 (by decide) (by omega) (by omega) (fun c12 => ?_) (fun c12 => ?_)
    · skip
      refine x_aload_n hg dX2_inMinute_17 rfl ?_
      refine x_iload_n hg dX2_inMinute_18 rfl ?_
      refine x_cVi hg he [_] [] dX2_inMinute_19 mv_X2_31 (c_X2_isCooled l b D cy hI (by omega)) (by decide) rfl rfl (Nat.le_of_ble_eq_true rfl) (by decide) (by decide) (fun r19 M19 q19 => ?_)
      obtain ⟨h19, e19⟩ := q19
      replace h19 := h19.symm
      subst h19
      refine x_if_eq (tgt := 36) hg dX2_inMinute_22 (by decide) (by omega) (fun c22 => ?_) (fun c22 => ?_)
      · skip
        refine x_aload_n hg dX2_inMinute_36 rfl ?_
        refine x_getR (j9 := 60) hg dX2_inMinute_37 fl_X2_19 (by decide) rfl rfl (by decide) ?_
        refine x_iload_n hg dX2_inMinute_40 rfl ?_
        refine x_iaload (len := 29) hg dX2_inMinute_41 (by decide) (by omega) ?_
        refine x_iret hg hr (Or.inl rfl) dX2_inMinute_42 (Nat.le_refl _) (Nat.le_refl _) ?_
        refine ⟨rfl, rfl, _, rfl, rfl, ?_⟩
        first | (exfalso; omega) | (unfold vSo; rw [← h8]; first | rw [if_pos (by omega)] | rw [if_neg (by omega)])
      · skip
        refine x_aload_n hg dX2_inMinute_25 rfl ?_
        refine x_getR (j9 := 60) hg dX2_inMinute_26 fl_X2_19 (by decide) rfl rfl (by decide) ?_
        refine x_iload_n hg dX2_inMinute_29 rfl ?_
        refine x_iaload (len := 29) hg dX2_inMinute_30 (by decide) (by omega) ?_
        refine x_iconst hg dX2_inMinute_31 ?_
        refine x_idiv hg dX2_inMinute_32 (by omega) (by omega) ?_
        refine x_goto (tgt := 42) hg dX2_inMinute_33 (by decide) ?_
        refine x_iret hg hr (Or.inl rfl) dX2_inMinute_42 (Nat.le_refl _) (Nat.le_refl _) ?_
        refine ⟨rfl, rfl, _, rfl, rfl, ?_⟩
        first | (exfalso; omega) | (unfold vSo; rw [← h8]; first | rw [if_pos (by omega)] | rw [if_neg (by omega)])
    · skip
      refine x_iconst hg dX2_inMinute_15 ?_
      refine x_iret hg hr (Or.inl rfl) dX2_inMinute_16 (Nat.le_refl _) (Nat.le_refl _) ?_
      refine ⟨rfl, rfl, _, rfl, rfl, ?_⟩
      first | (exfalso; omega) | (unfold vSo; rw [← h8]; first | rw [if_pos (by omega)] | rw [if_neg (by omega)])

theorem dX2_tell_0 : decode cX2_tell 0 = .ok (.iload_n 1, 1) := by decide +kernel
theorem dX2_tell_1 : decode cX2_tell 1 = .ok (.ifCond .lt 20, 3) := by decide +kernel
theorem dX2_tell_4 : decode cX2_tell 4 = .ok (.iload_n 1, 1) := by decide +kernel
theorem dX2_tell_5 : decode cX2_tell 5 = .ok (.bipush 24, 2) := by decide +kernel
theorem dX2_tell_7 : decode cX2_tell 7 = .ok (.if_icmp .ge 14, 3) := by decide +kernel
theorem dX2_tell_10 : decode cX2_tell 10 = .ok (.aload_n 0, 1) := by decide +kernel
theorem dX2_tell_11 : decode cX2_tell 11 = .ok (.getfield 9, 3) := by decide +kernel
theorem dX2_tell_14 : decode cX2_tell 14 = .ok (.iload_n 1, 1) := by decide +kernel
theorem dX2_tell_15 : decode cX2_tell 15 = .ok (.iload_n 2, 1) := by decide +kernel
theorem dX2_tell_16 : decode cX2_tell 16 = .ok (.iastore, 1) := by decide +kernel
theorem dX2_tell_17 : decode cX2_tell 17 = .ok (.aload_n 0, 1) := by decide +kernel
theorem dX2_tell_18 : decode cX2_tell 18 = .ok (.invokevirtual 28, 3) := by decide +kernel
theorem dX2_tell_21 : decode cX2_tell 21 = .ok (.return_, 1) := by decide +kernel
set_option maxHeartbeats 4000000 in
set_option maxRecDepth 20000 in
theorem c_X2_tell (l : Launch) (b : Nat) (D : va_G) (cy : Nat → ClassId) {tt : Nat} {M : xMm} {z y : Int} (hI : IC M) (hz : inR z) (hy : -1 ≤ y ∧ y ≤ 40) : xC l b D cy yX2_tell cX2_tell 3 none ({ frames := 3, cells := 0, slots := 0, locals := 69 }) [xr 57, xi z, xi y] 209 M (RS tt) (xPv 209 (RS tt) (fun M' => IC M' ∧ (∀ a, a < 58 ∨ 62 < a → M' a = M a) ∧ M' 59 = M 59 ∧ M' 58 = if 0 ≤ z ∧ z < 24 then mu M 58 z.toNat y 58 else M 58)) := by
  refine x_met (by decide) (Nat.le_of_ble_eq_true rfl) (fun g hg hr he => ?_)
  obtain ⟨hTo, hCo, hRa⟩ := IC_parts hI
  refine x_canon (ls' := [(0, _), (1, _), (2, _)]) rfl ?_
  refine x_iload_n hg dX2_tell_0 rfl ?_
  refine x_if_lt (tgt := 21) hg dX2_tell_1 (by decide) (by omega) (fun c1 => ?_) (fun c1 => ?_)
  · skip
    refine x_vret hg hr dX2_tell_21 (Nat.le_refl _) (Nat.le_refl _) ?_
    exact ⟨rfl, rfl, rfl, hI, fun a _ => rfl, rfl, by rw [if_neg (by omega)]⟩
  · skip
    refine x_iload_n hg dX2_tell_4 rfl ?_
    refine x_bipush hg dX2_tell_5 (by decide) ?_
    refine x_icmp_ge (tgt := 21) hg dX2_tell_7 (by decide) (by omega) (by omega) (fun c7 => ?_) (fun c7 => ?_)
    · skip
      refine x_vret hg hr dX2_tell_21 (Nat.le_refl _) (Nat.le_refl _) ?_
      exact ⟨rfl, rfl, rfl, hI, fun a _ => rfl, rfl, by rw [if_neg (by omega)]⟩
    · skip
      refine x_aload_n hg dX2_tell_10 rfl ?_
      refine x_getR (j9 := 58) hg dX2_tell_11 fl_X2_9 (by decide) rfl rfl (by decide) ?_
      refine x_iload_n hg dX2_tell_14 rfl ?_
      refine x_iload_n hg dX2_tell_15 rfl ?_
      refine x_iastore (len := 24) hg dX2_tell_16 (by decide) (by omega)  ?_
      have hT1 : ITo (mu M 58 z.toNat y) 58 := fun k hk => by
        by_cases e : k = z.toNat
        · subst e; rw [mu_s]; omega
        · rw [mu_nf e]; exact hTo k hk
      refine x_aload_n hg dX2_tell_17 rfl ?_
      refine x_cVv hg he [] [] dX2_tell_18 mv_X2_28 (c_X2_sumUp l b D cy (n := 209) (R := RS tt) (by decide) (fun k hk => rfl) hT1) (by decide) rfl rfl (by decide) (by decide) (by decide) (fun M18 q18 => ?_)
      obtain ⟨hfr, hv⟩ := q18
      refine x_vret hg hr dX2_tell_21 (Nat.le_refl _) (Nat.le_refl _) ?_
      have e58 : M18 58 = mu M 58 z.toNat y 58 := hfr 58 (by decide) (by decide) (by decide)
      have e59 : M18 59 = M 59 := by
        rw [hfr 59 (by decide) (by decide) (by decide)]
        funext k
        exact mu_nc (by decide)
      refine ⟨rfl, rfl, rfl, ⟨fun k hk => by rw [e58]; exact hT1 k hk, fun s hs => by rw [e59]; exact hI.2.1 s hs, fun h hh => ?_⟩, fun a ha => ?_, e59, by rw [if_pos (by omega)]; exact e58⟩
      · rw [rate_congr (M := mu M 58 z.toNat y) (fun k _ => by rw [e58])]
        exact hv h hh
      · rw [hfr a (by omega) (by omega) (by omega)]
        funext k
        exact mu_nc (by omega)

theorem dX11_warmth_0 : decode cX11_warmth 0 = .ok (.iload_n 1, 1) := by decide +kernel
theorem dX11_warmth_1 : decode cX11_warmth 1 = .ok (.ifCond .lt 20, 3) := by decide +kernel
theorem dX11_warmth_4 : decode cX11_warmth 4 = .ok (.iload_n 1, 1) := by decide +kernel
theorem dX11_warmth_5 : decode cX11_warmth 5 = .ok (.bipush 24, 2) := by decide +kernel
theorem dX11_warmth_7 : decode cX11_warmth 7 = .ok (.if_icmp .ge 14, 3) := by decide +kernel
theorem dX11_warmth_10 : decode cX11_warmth 10 = .ok (.iload_n 2, 1) := by decide +kernel
theorem dX11_warmth_11 : decode cX11_warmth 11 = .ok (.iconst (-1), 1) := by decide +kernel
theorem dX11_warmth_12 : decode cX11_warmth 12 = .ok (.if_icmp .lt 9, 3) := by decide +kernel
theorem dX11_warmth_15 : decode cX11_warmth 15 = .ok (.iload_n 2, 1) := by decide +kernel
theorem dX11_warmth_16 : decode cX11_warmth 16 = .ok (.bipush 40, 2) := by decide +kernel
theorem dX11_warmth_18 : decode cX11_warmth 18 = .ok (.if_icmp .le 5, 3) := by decide +kernel
theorem dX11_warmth_21 : decode cX11_warmth 21 = .ok (.iconst 0, 1) := by decide +kernel
theorem dX11_warmth_22 : decode cX11_warmth 22 = .ok (.ireturn, 1) := by decide +kernel
theorem dX11_warmth_23 : decode cX11_warmth 23 = .ok (.aload_n 0, 1) := by decide +kernel
theorem dX11_warmth_24 : decode cX11_warmth 24 = .ok (.getfield 38, 3) := by decide +kernel
theorem dX11_warmth_27 : decode cX11_warmth 27 = .ok (.iload_n 1, 1) := by decide +kernel
theorem dX11_warmth_28 : decode cX11_warmth 28 = .ok (.iload_n 2, 1) := by decide +kernel
theorem dX11_warmth_29 : decode cX11_warmth 29 = .ok (.invokevirtual 146, 3) := by decide +kernel
theorem dX11_warmth_32 : decode cX11_warmth 32 = .ok (.aload_n 0, 1) := by decide +kernel
theorem dX11_warmth_33 : decode cX11_warmth 33 = .ok (.iconst 1, 1) := by decide +kernel
theorem dX11_warmth_34 : decode cX11_warmth 34 = .ok (.putfield 60, 3) := by decide +kernel
theorem dX11_warmth_37 : decode cX11_warmth 37 = .ok (.iconst 1, 1) := by decide +kernel
theorem dX11_warmth_38 : decode cX11_warmth 38 = .ok (.ireturn, 1) := by decide +kernel
set_option maxHeartbeats 4000000 in
set_option maxRecDepth 20000 in
theorem c_X11_warmth (l : Launch) (b : Nat) (D : va_G) (cy : Nat → ClassId) {tt : Nat} {M : xMm} {z y : Int} (hI : IC M) (hz : inR z) (hy : inR y) : xC l b D cy yX11_warmth cX11_warmth 3 (some .boolean) ({ frames := 4, cells := 0, slots := 0, locals := 91 }) [xr 1, xi z, xi y] 209 M (RS tt) (xPi 209 (RS tt) (fun r M' => ((0 ≤ z ∧ z < 24 ∧ -1 ≤ y ∧ y ≤ 40) ∧ r = 1 ∧ IC M' ∧ (∀ a, a ≠ 1 → (a < 58 ∨ 62 < a) → M' a = M a) ∧ M' 1 = mu M 1 7 1 1 ∧ M' 59 = M 59 ∧ M' 58 = mu M 58 z.toNat y 58) ∨ (¬ (0 ≤ z ∧ z < 24 ∧ -1 ≤ y ∧ y ≤ 40) ∧ r = 0 ∧ M' = M))) := by
  refine x_met (by decide) (Nat.le_of_ble_eq_true rfl) (fun g hg hr he => ?_)
  refine x_canon (ls' := [(0, _), (1, _), (2, _)]) rfl ?_
  refine x_iload_n hg dX11_warmth_0 rfl ?_
  refine x_if_lt (tgt := 21) hg dX11_warmth_1 (by decide) (by omega) (fun c1 => ?_) (fun c1 => ?_)
  · skip
    refine x_iconst hg dX11_warmth_21 ?_
    refine x_iret hg hr (Or.inr ⟨rfl, by first | exact Or.inl rfl | exact Or.inr rfl | omega⟩) dX11_warmth_22 (Nat.le_refl _) (Nat.le_refl _) ?_
    exact ⟨rfl, rfl, _, rfl, Or.inr ⟨by omega, rfl, rfl⟩⟩
  · skip
    refine x_iload_n hg dX11_warmth_4 rfl ?_
    refine x_bipush hg dX11_warmth_5 (by decide) ?_
    refine x_icmp_ge (tgt := 21) hg dX11_warmth_7 (by decide) (by omega) (by omega) (fun c7 => ?_) (fun c7 => ?_)
    · skip
      refine x_iconst hg dX11_warmth_21 ?_
      refine x_iret hg hr (Or.inr ⟨rfl, by first | exact Or.inl rfl | exact Or.inr rfl | omega⟩) dX11_warmth_22 (Nat.le_refl _) (Nat.le_refl _) ?_
      exact ⟨rfl, rfl, _, rfl, Or.inr ⟨by omega, rfl, rfl⟩⟩
    · skip
      refine x_iload_n hg dX11_warmth_10 rfl ?_
      refine x_iconst hg dX11_warmth_11 ?_
      refine x_icmp_lt (tgt := 21) hg dX11_warmth_12 (by decide) (by omega) (by omega) (fun c12 => ?_) (fun c12 => ?_)
      · skip
        refine x_iconst hg dX11_warmth_21 ?_
        refine x_iret hg hr (Or.inr ⟨rfl, by first | exact Or.inl rfl | exact Or.inr rfl | omega⟩) dX11_warmth_22 (Nat.le_refl _) (Nat.le_refl _) ?_
        exact ⟨rfl, rfl, _, rfl, Or.inr ⟨by omega, rfl, rfl⟩⟩
      · skip
        refine x_iload_n hg dX11_warmth_15 rfl ?_
        refine x_bipush hg dX11_warmth_16 (by decide) ?_
        refine x_icmp_le (tgt := 23) hg dX11_warmth_18 (by decide) (by omega) (by omega) (fun c18 => ?_) (fun c18 => ?_)
        · skip
          refine x_aload_n hg dX11_warmth_23 rfl ?_
          refine x_getR (j9 := 57) hg dX11_warmth_24 fl_X11_38 (by decide) rfl rfl (by decide) ?_
          refine x_iload_n hg dX11_warmth_27 rfl ?_
          refine x_iload_n hg dX11_warmth_28 rfl ?_
          refine x_cVv hg he [_, _] [] dX11_warmth_29 mv_X11_146 (c_X2_tell l b D cy hI (by omega) (by omega)) (by decide) rfl rfl (Nat.le_of_ble_eq_true rfl) (by decide) (by decide) (fun M29 q29 => ?_)
          obtain ⟨hI29, hfr29, hc29, ht29⟩ := q29
          refine x_aload_n hg dX11_warmth_32 rfl ?_
          refine x_iconst hg dX11_warmth_33 ?_
          refine x_putZ hg dX11_warmth_34 fl_X11_60 ft_11_7 (by decide) rfl (by first | exact Or.inl rfl | exact Or.inr rfl | omega) ?_
          refine x_iconst hg dX11_warmth_37 ?_
          refine x_iret hg hr (Or.inr ⟨rfl, by first | exact Or.inl rfl | exact Or.inr rfl | omega⟩) dX11_warmth_38 (Nat.le_refl _) (Nat.le_refl _) ?_
          rw [if_pos (by omega)] at ht29
          refine ⟨rfl, rfl, _, rfl, Or.inl ⟨by omega, rfl, IC_congr hI29 (fun a h1 h2 => ?_), fun a h1 h2 => ?_, ?_, ?_, ?_⟩⟩
          · funext k; exact mu_nc (by omega)
          · rw [← hfr29 a h2]; funext k; exact mu_nc h1
          · funext k
            by_cases e : k = 7
            · subst e; rw [mu_s, mu_s]
            · rw [mu_nf e, mu_nf e, hfr29 1 (by omega)]
          · rw [← hc29]; funext k; exact mu_nc (by decide)
          · rw [← ht29]; funext k; exact mu_nc (by decide)
        · skip
          refine x_iconst hg dX11_warmth_21 ?_
          refine x_iret hg hr (Or.inr ⟨rfl, by first | exact Or.inl rfl | exact Or.inr rfl | omega⟩) dX11_warmth_22 (Nat.le_refl _) (Nat.le_refl _) ?_
          exact ⟨rfl, rfl, _, rfl, Or.inr ⟨by omega, rfl, rfl⟩⟩

theorem dX11_sours_0 : decode cX11_sours 0 = .ok (.iload_n 1, 1) := by decide +kernel
theorem dX11_sours_1 : decode cX11_sours 1 = .ok (.ifCond .lt 21, 3) := by decide +kernel
theorem dX11_sours_4 : decode cX11_sours 4 = .ok (.iload_n 1, 1) := by decide +kernel
theorem dX11_sours_5 : decode cX11_sours 5 = .ok (.sipush 1739, 3) := by decide +kernel
theorem dX11_sours_8 : decode cX11_sours 8 = .ok (.if_icmp .gt 14, 3) := by decide +kernel
theorem dX11_sours_11 : decode cX11_sours 11 = .ok (.iload_n 2, 1) := by decide +kernel
theorem dX11_sours_12 : decode cX11_sours 12 = .ok (.iconst (-1), 1) := by decide +kernel
theorem dX11_sours_13 : decode cX11_sours 13 = .ok (.if_icmp .lt 9, 3) := by decide +kernel
theorem dX11_sours_16 : decode cX11_sours 16 = .ok (.iload_n 2, 1) := by decide +kernel
theorem dX11_sours_17 : decode cX11_sours 17 = .ok (.bipush 10, 2) := by decide +kernel
theorem dX11_sours_19 : decode cX11_sours 19 = .ok (.if_icmp .lt 5, 3) := by decide +kernel
theorem dX11_sours_22 : decode cX11_sours 22 = .ok (.iconst (-1), 1) := by decide +kernel
theorem dX11_sours_23 : decode cX11_sours 23 = .ok (.ireturn, 1) := by decide +kernel
theorem dX11_sours_24 : decode cX11_sours 24 = .ok (.aload_n 0, 1) := by decide +kernel
theorem dX11_sours_25 : decode cX11_sours 25 = .ok (.getfield 38, 3) := by decide +kernel
theorem dX11_sours_28 : decode cX11_sours 28 = .ok (.iload_n 1, 1) := by decide +kernel
theorem dX11_sours_29 : decode cX11_sours 29 = .ok (.iload_n 2, 1) := by decide +kernel
theorem dX11_sours_30 : decode cX11_sours 30 = .ok (.invokevirtual 150, 3) := by decide +kernel
theorem dX11_sours_33 : decode cX11_sours 33 = .ok (.ireturn, 1) := by decide +kernel
set_option maxHeartbeats 4000000 in
set_option maxRecDepth 20000 in
theorem c_X11_sours (l : Launch) (b : Nat) (D : va_G) (cy : Nat → ClassId) {tt : Nat} {M : xMm} {z y : Int} (hI : IC M) (hz : inR z) (hy : inR y) : xC l b D cy yX11_sours cX11_sours 3 (some .int) ({ frames := 2, cells := 0, slots := 0, locals := 44 }) [xr 1, xi z, xi y] 209 M (RS tt) (xPi 209 (RS tt) (fun r M' => M' = M ∧ ((0 ≤ z ∧ z ≤ 1739 ∧ -1 ≤ y ∧ y < 10) ∧ r = vSo M z y ∨ ¬ (0 ≤ z ∧ z ≤ 1739 ∧ -1 ≤ y ∧ y < 10) ∧ r = -1))) := by
  refine x_met (by decide) (Nat.le_of_ble_eq_true rfl) (fun g hg hr he => ?_)
  refine x_canon (ls' := [(0, _), (1, _), (2, _)]) rfl ?_
  refine x_iload_n hg dX11_sours_0 rfl ?_
  refine x_if_lt (tgt := 22) hg dX11_sours_1 (by decide) (by omega) (fun c1 => ?_) (fun c1 => ?_)
  · skip
    refine x_iconst hg dX11_sours_22 ?_
    refine x_iret hg hr (Or.inl rfl) dX11_sours_23 (Nat.le_refl _) (Nat.le_refl _) ?_
    exact ⟨rfl, rfl, _, rfl, rfl, Or.inr ⟨by omega, rfl⟩⟩
  · skip
    refine x_iload_n hg dX11_sours_4 rfl ?_
    refine x_sipush hg dX11_sours_5 (by decide) ?_
    refine x_icmp_gt (tgt := 22) hg dX11_sours_8 (by decide) (by omega) (by omega) (fun c8 => ?_) (fun c8 => ?_)
    · skip
      refine x_iconst hg dX11_sours_22 ?_
      refine x_iret hg hr (Or.inl rfl) dX11_sours_23 (Nat.le_refl _) (Nat.le_refl _) ?_
      exact ⟨rfl, rfl, _, rfl, rfl, Or.inr ⟨by omega, rfl⟩⟩
    · skip
      refine x_iload_n hg dX11_sours_11 rfl ?_
      refine x_iconst hg dX11_sours_12 ?_
      refine x_icmp_lt (tgt := 22) hg dX11_sours_13 (by decide) (by omega) (by omega) (fun c13 => ?_) (fun c13 => ?_)
      · skip
        refine x_iconst hg dX11_sours_22 ?_
        refine x_iret hg hr (Or.inl rfl) dX11_sours_23 (Nat.le_refl _) (Nat.le_refl _) ?_
        exact ⟨rfl, rfl, _, rfl, rfl, Or.inr ⟨by omega, rfl⟩⟩
      · skip
        refine x_iload_n hg dX11_sours_16 rfl ?_
        refine x_bipush hg dX11_sours_17 (by decide) ?_
        refine x_icmp_lt (tgt := 24) hg dX11_sours_19 (by decide) (by omega) (by omega) (fun c19 => ?_) (fun c19 => ?_)
        · skip
          refine x_aload_n hg dX11_sours_24 rfl ?_
          refine x_getR (j9 := 57) hg dX11_sours_25 fl_X11_38 (by decide) rfl rfl (by decide) ?_
          refine x_iload_n hg dX11_sours_28 rfl ?_
          refine x_iload_n hg dX11_sours_29 rfl ?_
          refine x_cVi hg he [_, _] [] dX11_sours_30 mv_X11_150 (c_X2_inMinute l b D cy hI (by omega) (by omega)) (by decide) rfl rfl (Nat.le_of_ble_eq_true rfl) (by decide) (by decide) (fun r30 M30 q30 => ?_)
          obtain ⟨h30, e30⟩ := q30
          replace h30 := h30.symm
          subst h30
          refine x_iret hg hr (Or.inl rfl) dX11_sours_33 (Nat.le_refl _) (Nat.le_refl _) ?_
          exact ⟨rfl, rfl, _, rfl, rfl, Or.inl ⟨by omega, e30⟩⟩
        · skip
          refine x_iconst hg dX11_sours_22 ?_
          refine x_iret hg hr (Or.inl rfl) dX11_sours_23 (Nat.le_refl _) (Nat.le_refl _) ?_
          exact ⟨rfl, rfl, _, rfl, rfl, Or.inr ⟨by omega, rfl⟩⟩
end
section
/-! ===== values that are only in range ===== -/
section XA
variable {g : xGT} {n : Nat} {M : xMm} {R : xRm} {k w pc : Nat} {ls : List (Nat × xV)} {st : List xV}
theorem x_any {P : Int → Prop} {z : Int} (hz : P z) (t : ∀ a, P a → xW g n M R k w pc ls (xi a :: st)) : xW g n M R k w pc ls (xi z :: st) := t z hz
theorem x_wrap {z : Int} (t : ∀ a, inR a → xW g n M R k w pc ls (xi a :: st)) : xW g n M R k w pc ls (xi z :: st) :=
  x_top (z := (Int32.ofInt z).toInt) (Int32.ofInt_toInt _).symm (t _ (xt_int _))
theorem xt_long (x : Int64) : inL x.toInt := ⟨by have := Int64.le_toInt x; omega, by have := Int64.toInt_lt x; omega⟩
theorem x_wrapl {z : Int} (t : ∀ a, inL a → xW g n M R k w pc ls (xl a :: st)) : xW g n M R k w pc ls (xl z :: st) :=
  x_topl (z := (Int64.ofInt z).toInt) (Int64.ofInt_toInt _).symm (t _ (xt_long _))
theorem x_idivW {cc : ByteArray} {own : String} {rm : Room} {nL : Nat} (hg : xG g cc own rm nL) {x y : Int} (d : decode cc pc = .ok (.idiv, 1)) (hy : inR y ∧ y ≠ 0) (t : ∀ a, inR a → xW g n M R k w (pc + 1) ls (xi a :: st)) : xW g n M R k w pc ls (xi y :: xi x :: st) := by
  have t2 := t _ (xt_int (Int32.ofInt x / Int32.ofInt y))
  obtain ⟨p, l, e, Rm, s, m, args, below, meth, c, b, D, cy, Q⟩ := g
  obtain ⟨hx, hb, -⟩ := hg
  intro H locs lsA hW hS hv
  refine lv_idiv hx hb d (fun q => ?_) ?_
  · rw [oi_0, oi_eq hy.1 ⟨by omega, by omega⟩] at q
    exact hy.2 q
  · have t3 := t2 H locs lsA hW hS hv
    simp only [List.map_cons, cv, Int32.ofInt_toInt] at t3
    exact t3
theorem x_iremW {cc : ByteArray} {own : String} {rm : Room} {nL : Nat} (hg : xG g cc own rm nL) {x y : Int} (d : decode cc pc = .ok (.irem, 1)) (hy : inR y ∧ y ≠ 0) (t : ∀ a, inR a → xW g n M R k w (pc + 1) ls (xi a :: st)) : xW g n M R k w pc ls (xi y :: xi x :: st) := by
  have t2 := t _ (xt_int (Int32.ofInt x - Int32.ofInt x / Int32.ofInt y * Int32.ofInt y))
  obtain ⟨p, l, e, Rm, s, m, args, below, meth, c, b, D, cy, Q⟩ := g
  obtain ⟨hx, hb, -⟩ := hg
  intro H locs lsA hW hS hv
  refine lv_irem hx hb d (fun q => ?_) ?_
  · rw [oi_0, oi_eq hy.1 ⟨by omega, by omega⟩] at q
    exact hy.2 q
  · have t3 := t2 H locs lsA hW hS hv
    simp only [List.map_cons, cv, Int32.ofInt_toInt] at t3
    exact t3
theorem x_ldivW {cc : ByteArray} {own : String} {rm : Room} {nL : Nat} (hg : xG g cc own rm nL) {x y : Int} (d : decode cc pc = .ok (.ldiv, 1)) (hy : inL y ∧ y ≠ 0) (t : ∀ a, inL a → xW g n M R k w (pc + 1) ls (xl a :: st)) : xW g n M R k w pc ls (xl y :: xl x :: st) := by
  have t2 := t _ (xt_long (Int64.ofInt x / Int64.ofInt y))
  obtain ⟨p, l, e, Rm, s, m, args, below, meth, c, b, D, cy, Q⟩ := g
  obtain ⟨hx, hb, -⟩ := hg
  intro H locs lsA hW hS hv
  refine lv_ldiv hx hb d (fun q => ?_) ?_
  · rw [show (0 : Int64) = Int64.ofInt 0 from rfl, ol_eq hy.1 ⟨by omega, by omega⟩] at q
    exact hy.2 q
  · have t3 := t2 H locs lsA hW hS hv
    simp only [List.map_cons, cv, Int64.ofInt_toInt] at t3
    exact t3
end XA
/-! ===== the rails: two timetables, their trains ===== -/
def IR (M : xMm) : Prop := (∀ q, xTt q → 0 ≤ M q 1 ∧ M q 1 ≤ 8) ∧ ∀ i, xTr i → ((0 ≤ M i 1 ∧ M i 1 ≤ 99) ∧ (0 ≤ M i 2 ∧ M i 2 ≤ 300) ∧ (0 ≤ M i 3 ∧ M i 3 ≤ 8) ∧ inL (M i 0)) ∧ ∀ k, k < 8 → (0 ≤ M (i + 1) k ∧ M (i + 1) k ≤ 9) ∧ (0 ≤ M (i + 2) k ∧ M (i + 2) k ≤ 1439)
theorem IR_congr {M M' : xMm} (h : IR M) (e : ∀ a, 5 ≤ a → a ≤ 56 → M' a = M a) : IR M' := by
  refine ⟨fun q hq => ?_, fun i hi => ?_⟩
  · have := h.1 q hq
    rw [e q (by omega) (by omega)]
    exact this
  · rw [e i (by omega) (by omega), e (i + 1) (by omega) (by omega), e (i + 2) (by omega) (by omega)]
    exact h.2 i hi
/-- a train's own numbers change -/
theorem IR_tr {M : xMm} (h : IR M) {j f : Nat} {z : Int} (hj : xTr j) (hf : f = 1 ∧ (0 ≤ z ∧ z ≤ 99) ∨ f = 2 ∧ (0 ≤ z ∧ z ≤ 300) ∨ f = 3 ∧ (0 ≤ z ∧ z ≤ 8) ∨ f = 0 ∧ inL z) : IR (mu M j f z) := by
  refine ⟨fun q hq => ?_, fun i hi => ?_⟩
  · rw [mu_nc (by omega)]
    exact h.1 q hq
  · have h1 := h.2 i hi
    refine ⟨?_, fun k hk => ?_⟩
    · by_cases e : i = j
      · subst e
        have h2 := h1.1
        rcases hf with ⟨rfl, hz⟩ | ⟨rfl, hz⟩ | ⟨rfl, hz⟩ | ⟨rfl, hz⟩ <;> simp only [mu_s, mu_nf (show (0 : Nat) ≠ 1 by decide), mu_nf (show (0 : Nat) ≠ 2 by decide), mu_nf (show (0 : Nat) ≠ 3 by decide), mu_nf (show (1 : Nat) ≠ 0 by decide), mu_nf (show (1 : Nat) ≠ 2 by decide), mu_nf (show (1 : Nat) ≠ 3 by decide), mu_nf (show (2 : Nat) ≠ 0 by decide), mu_nf (show (2 : Nat) ≠ 1 by decide), mu_nf (show (2 : Nat) ≠ 3 by decide), mu_nf (show (3 : Nat) ≠ 0 by decide), mu_nf (show (3 : Nat) ≠ 1 by decide), mu_nf (show (3 : Nat) ≠ 2 by decide)] <;> omega
      · rw [mu_nc e, mu_nc e, mu_nc e, mu_nc e]
        exact h1.1
    · rw [mu_nc (by omega), mu_nc (by omega)]
      exact h1.2 k hk
theorem IR_st {M : xMm} (h : IR M) {j k : Nat} {z : Int} (hj : xTr j) (hz : 0 ≤ z ∧ z ≤ 9) : IR (mu M (j + 1) k z) := by
  refine ⟨fun q hq => ?_, fun i hi => ?_⟩
  · rw [mu_nc (by omega)]
    exact h.1 q hq
  · have h1 := h.2 i hi
    refine ⟨?_, fun c hc => ?_⟩
    · rw [mu_nc (by omega), mu_nc (by omega), mu_nc (by omega), mu_nc (by omega)]
      exact h1.1
    · rw [mu_nc (show i + 2 ≠ j + 1 by omega)]
      refine ⟨?_, (h1.2 c hc).2⟩
      by_cases e : i + 1 = j + 1 ∧ c = k
      · obtain ⟨e1, rfl⟩ := e
        rw [e1, mu_s]
        omega
      · rw [mu_n e]
        exact (h1.2 c hc).1
theorem IR_mi {M : xMm} (h : IR M) {j k : Nat} {z : Int} (hj : xTr j) (hz : 0 ≤ z ∧ z ≤ 1439) : IR (mu M (j + 2) k z) := by
  refine ⟨fun q hq => ?_, fun i hi => ?_⟩
  · rw [mu_nc (by omega)]
    exact h.1 q hq
  · have h1 := h.2 i hi
    refine ⟨?_, fun c hc => ?_⟩
    · rw [mu_nc (by omega), mu_nc (by omega), mu_nc (by omega), mu_nc (by omega)]
      exact h1.1
    · rw [mu_nc (show i + 1 ≠ j + 2 by omega)]
      refine ⟨(h1.2 c hc).1, ?_⟩
      by_cases e : i + 2 = j + 2 ∧ c = k
      · obtain ⟨e1, rfl⟩ := e
        rw [e1, mu_s]
        omega
      · rw [mu_n e]
        exact (h1.2 c hc).2
theorem IR_ct {M : xMm} (h : IR M) {q : Nat} {z : Int} (hq : xTt q) (hz : 0 ≤ z ∧ z ≤ 8) : IR (mu M q 1 z) := by
  refine ⟨fun p hp => ?_, fun i hi => ?_⟩
  · by_cases e : p = q
    · subst e
      rw [mu_s]
      omega
    · rw [mu_nc e]
      exact h.1 p hp
  · rw [mu_nc (by omega), mu_nc (by omega), mu_nc (by omega), mu_nc (by omega)]
    refine ⟨(h.2 i hi).1, fun k hk => ?_⟩
    rw [mu_nc (by omega), mu_nc (by omega)]
    exact (h.2 i hi).2 k hk

theorem dX9_stationOf_0 : decode cX9_stationOf 0 = .ok (.iload_n 1, 1) := by decide +kernel
theorem dX9_stationOf_1 : decode cX9_stationOf 1 = .ok (.ifCond .lt 20, 3) := by decide +kernel
theorem dX9_stationOf_4 : decode cX9_stationOf 4 = .ok (.iload_n 1, 1) := by decide +kernel
theorem dX9_stationOf_5 : decode cX9_stationOf 5 = .ok (.aload_n 0, 1) := by decide +kernel
theorem dX9_stationOf_6 : decode cX9_stationOf 6 = .ok (.getfield 29, 3) := by decide +kernel
theorem dX9_stationOf_9 : decode cX9_stationOf 9 = .ok (.if_icmp .ge 12, 3) := by decide +kernel
theorem dX9_stationOf_12 : decode cX9_stationOf 12 = .ok (.aload_n 0, 1) := by decide +kernel
theorem dX9_stationOf_13 : decode cX9_stationOf 13 = .ok (.getfield 9, 3) := by decide +kernel
theorem dX9_stationOf_16 : decode cX9_stationOf 16 = .ok (.iload_n 1, 1) := by decide +kernel
theorem dX9_stationOf_17 : decode cX9_stationOf 17 = .ok (.iaload, 1) := by decide +kernel
theorem dX9_stationOf_18 : decode cX9_stationOf 18 = .ok (.goto 4, 3) := by decide +kernel
theorem dX9_stationOf_21 : decode cX9_stationOf 21 = .ok (.iconst (-1), 1) := by decide +kernel
theorem dX9_stationOf_22 : decode cX9_stationOf 22 = .ok (.ireturn, 1) := by decide +kernel
set_option maxHeartbeats 4000000 in
set_option maxRecDepth 20000 in
theorem c_X9_stationOf (l : Launch) (b : Nat) (D : va_G) (cy : Nat → ClassId) {tt : Nat} {M : xMm} {i : Nat} {z : Int} (hI : IR M) (hi : xTr i) (hz : inR z) : xC l b D cy yX9_stationOf cX9_stationOf 2 (some .int) ({ frames := 0, cells := 0, slots := 0, locals := 0 }) [xr i, xi z] 209 M (RS tt) (xPi 209 (RS tt) (fun r M' => M' = M ∧ ((0 ≤ z ∧ z < M i 3) ∧ (0 ≤ r ∧ r ≤ 9) ∨ ¬ (0 ≤ z ∧ z < M i 3) ∧ r = -1))) := by
  refine x_met (by decide) (Nat.le_of_ble_eq_true rfl) (fun g hg hr he => ?_)
  obtain ⟨hn, hst⟩ := hI.2 i hi
  refine x_canon (ls' := [(0, _), (1, _)]) rfl ?_
  refine x_iload_n hg dX9_stationOf_0 rfl ?_
  refine x_if_lt (tgt := 21) hg dX9_stationOf_1 (by decide) (by omega) (fun c1 => ?_) (fun c1 => ?_)
  · skip
    refine x_iconst hg dX9_stationOf_21 ?_
    refine x_iret hg hr (Or.inl rfl) dX9_stationOf_22 (Nat.le_refl _) (Nat.le_refl _) ?_
    refine ⟨rfl, rfl, _, rfl, rfl, ?_⟩
    first | (have h1 := hst z.toNat (by omega); omega) | omega
  · skip
    refine x_iload_n hg dX9_stationOf_4 rfl ?_
    refine x_aload_n hg dX9_stationOf_5 rfl ?_
    refine x_getI hg dX9_stationOf_6 fl_X9_29 (oO_train hi) rfl ?_
    refine x_icmp_ge (tgt := 21) hg dX9_stationOf_9 (by decide) (by omega) (by omega) (fun c9 => ?_) (fun c9 => ?_)
    · skip
      refine x_iconst hg dX9_stationOf_21 ?_
      refine x_iret hg hr (Or.inl rfl) dX9_stationOf_22 (Nat.le_refl _) (Nat.le_refl _) ?_
      refine ⟨rfl, rfl, _, rfl, rfl, ?_⟩
      first | (have h1 := hst z.toNat (by omega); omega) | omega
    · skip
      refine x_aload_n hg dX9_stationOf_12 rfl ?_
      refine x_getR hg dX9_stationOf_13 fl_X9_9 (oO_train hi) rfl (RS_tr hi).1 (by omega) ?_
      refine x_iload_n hg dX9_stationOf_16 rfl ?_
      refine x_iaload (len := 8) hg dX9_stationOf_17 (oA_train1 hi) (by omega) ?_
      refine x_goto (tgt := 22) hg dX9_stationOf_18 (by decide) ?_
      refine x_iret hg hr (Or.inl rfl) dX9_stationOf_22 (Nat.le_refl _) (Nat.le_refl _) ?_
      refine ⟨rfl, rfl, _, rfl, rfl, ?_⟩
      first | (have h1 := hst z.toNat (by omega); omega) | omega

theorem dX9_minuteOf_0 : decode cX9_minuteOf 0 = .ok (.iload_n 1, 1) := by decide +kernel
theorem dX9_minuteOf_1 : decode cX9_minuteOf 1 = .ok (.ifCond .lt 25, 3) := by decide +kernel
theorem dX9_minuteOf_4 : decode cX9_minuteOf 4 = .ok (.iload_n 1, 1) := by decide +kernel
theorem dX9_minuteOf_5 : decode cX9_minuteOf 5 = .ok (.aload_n 0, 1) := by decide +kernel
theorem dX9_minuteOf_6 : decode cX9_minuteOf 6 = .ok (.getfield 29, 3) := by decide +kernel
theorem dX9_minuteOf_9 : decode cX9_minuteOf 9 = .ok (.if_icmp .ge 17, 3) := by decide +kernel
theorem dX9_minuteOf_12 : decode cX9_minuteOf 12 = .ok (.aload_n 0, 1) := by decide +kernel
theorem dX9_minuteOf_13 : decode cX9_minuteOf 13 = .ok (.getfield 15, 3) := by decide +kernel
theorem dX9_minuteOf_16 : decode cX9_minuteOf 16 = .ok (.iload_n 1, 1) := by decide +kernel
theorem dX9_minuteOf_17 : decode cX9_minuteOf 17 = .ok (.iaload, 1) := by decide +kernel
theorem dX9_minuteOf_18 : decode cX9_minuteOf 18 = .ok (.aload_n 0, 1) := by decide +kernel
theorem dX9_minuteOf_19 : decode cX9_minuteOf 19 = .ok (.getfield 26, 3) := by decide +kernel
theorem dX9_minuteOf_22 : decode cX9_minuteOf 22 = .ok (.iadd, 1) := by decide +kernel
theorem dX9_minuteOf_23 : decode cX9_minuteOf 23 = .ok (.goto 4, 3) := by decide +kernel
theorem dX9_minuteOf_26 : decode cX9_minuteOf 26 = .ok (.iconst (-1), 1) := by decide +kernel
theorem dX9_minuteOf_27 : decode cX9_minuteOf 27 = .ok (.ireturn, 1) := by decide +kernel
set_option maxHeartbeats 4000000 in
set_option maxRecDepth 20000 in
theorem c_X9_minuteOf (l : Launch) (b : Nat) (D : va_G) (cy : Nat → ClassId) {tt : Nat} {M : xMm} {i : Nat} {z : Int} (hI : IR M) (hi : xTr i) (hz : inR z) : xC l b D cy yX9_minuteOf cX9_minuteOf 2 (some .int) ({ frames := 0, cells := 0, slots := 0, locals := 0 }) [xr i, xi z] 209 M (RS tt) (xPi 209 (RS tt) (fun r M' => M' = M ∧ ((0 ≤ z ∧ z < M i 3) ∧ (0 ≤ r ∧ r ≤ 1739) ∨ ¬ (0 ≤ z ∧ z < M i 3) ∧ r = -1))) := by
  refine x_met (by decide) (Nat.le_of_ble_eq_true rfl) (fun g hg hr he => ?_)
  obtain ⟨hn, hst⟩ := hI.2 i hi
  refine x_canon (ls' := [(0, _), (1, _)]) rfl ?_
  refine x_iload_n hg dX9_minuteOf_0 rfl ?_
  refine x_if_lt (tgt := 26) hg dX9_minuteOf_1 (by decide) (by omega) (fun c1 => ?_) (fun c1 => ?_)
  · skip
    refine x_iconst hg dX9_minuteOf_26 ?_
    refine x_iret hg hr (Or.inl rfl) dX9_minuteOf_27 (Nat.le_refl _) (Nat.le_refl _) ?_
    refine ⟨rfl, rfl, _, rfl, rfl, ?_⟩
    first | (have h1 := hst z.toNat (by omega); omega) | omega
  · skip
    refine x_iload_n hg dX9_minuteOf_4 rfl ?_
    refine x_aload_n hg dX9_minuteOf_5 rfl ?_
    refine x_getI hg dX9_minuteOf_6 fl_X9_29 (oO_train hi) rfl ?_
    refine x_icmp_ge (tgt := 26) hg dX9_minuteOf_9 (by decide) (by omega) (by omega) (fun c9 => ?_) (fun c9 => ?_)
    · skip
      refine x_iconst hg dX9_minuteOf_26 ?_
      refine x_iret hg hr (Or.inl rfl) dX9_minuteOf_27 (Nat.le_refl _) (Nat.le_refl _) ?_
      refine ⟨rfl, rfl, _, rfl, rfl, ?_⟩
      first | (have h1 := hst z.toNat (by omega); omega) | omega
    · skip
      refine x_aload_n hg dX9_minuteOf_12 rfl ?_
      refine x_getR hg dX9_minuteOf_13 fl_X9_15 (oO_train hi) rfl (RS_tr hi).2 (by omega) ?_
      refine x_iload_n hg dX9_minuteOf_16 rfl ?_
      refine x_iaload (len := 8) hg dX9_minuteOf_17 (oA_train2 hi) (by omega) ?_
      refine x_aload_n hg dX9_minuteOf_18 rfl ?_
      refine x_getI hg dX9_minuteOf_19 fl_X9_26 (oO_train hi) rfl ?_
      refine x_iadd hg dX9_minuteOf_22 ?_
      refine x_goto (tgt := 27) hg dX9_minuteOf_23 (by decide) ?_
      refine x_iret hg hr (Or.inl rfl) dX9_minuteOf_27 (Nat.le_refl _) (Nat.le_refl _) ?_
      refine ⟨rfl, rfl, _, rfl, rfl, ?_⟩
      first | (have h1 := hst z.toNat (by omega); omega) | omega

theorem dX9_stopAt_0 : decode cX9_stopAt 0 = .ok (.iconst 0, 1) := by decide +kernel
theorem dX9_stopAt_1 : decode cX9_stopAt 1 = .ok (.istore_n 2, 1) := by decide +kernel
theorem dX9_stopAt_2 : decode cX9_stopAt 2 = .ok (.iload_n 2, 1) := by decide +kernel
theorem dX9_stopAt_3 : decode cX9_stopAt 3 = .ok (.aload_n 0, 1) := by decide +kernel
theorem dX9_stopAt_4 : decode cX9_stopAt 4 = .ok (.getfield 29, 3) := by decide +kernel
theorem dX9_stopAt_7 : decode cX9_stopAt 7 = .ok (.if_icmp .ge 21, 3) := by decide +kernel
theorem dX9_stopAt_10 : decode cX9_stopAt 10 = .ok (.aload_n 0, 1) := by decide +kernel
theorem dX9_stopAt_11 : decode cX9_stopAt 11 = .ok (.getfield 9, 3) := by decide +kernel
theorem dX9_stopAt_14 : decode cX9_stopAt 14 = .ok (.iload_n 2, 1) := by decide +kernel
theorem dX9_stopAt_15 : decode cX9_stopAt 15 = .ok (.iaload, 1) := by decide +kernel
theorem dX9_stopAt_16 : decode cX9_stopAt 16 = .ok (.iload_n 1, 1) := by decide +kernel
theorem dX9_stopAt_17 : decode cX9_stopAt 17 = .ok (.if_icmp .ne 5, 3) := by decide +kernel
theorem dX9_stopAt_20 : decode cX9_stopAt 20 = .ok (.iload_n 2, 1) := by decide +kernel
theorem dX9_stopAt_21 : decode cX9_stopAt 21 = .ok (.ireturn, 1) := by decide +kernel
theorem dX9_stopAt_22 : decode cX9_stopAt 22 = .ok (.iinc 2 1, 3) := by decide +kernel
theorem dX9_stopAt_25 : decode cX9_stopAt 25 = .ok (.goto (-23), 3) := by decide +kernel
theorem dX9_stopAt_28 : decode cX9_stopAt 28 = .ok (.iconst (-1), 1) := by decide +kernel
theorem dX9_stopAt_29 : decode cX9_stopAt 29 = .ok (.ireturn, 1) := by decide +kernel
set_option maxHeartbeats 4000000 in
set_option maxRecDepth 20000 in
theorem c_X9_stopAt (l : Launch) (b : Nat) (D : va_G) (cy : Nat → ClassId) {tt : Nat} {M : xMm} {i : Nat} {z : Int} (hI : IR M) (hi : xTr i) (hz : inR z) : xC l b D cy yX9_stopAt cX9_stopAt 3 (some .int) ({ frames := 0, cells := 0, slots := 0, locals := 0 }) [xr i, xi z] 209 M (RS tt) (xPi 209 (RS tt) (fun r M' => M' = M ∧ -1 ≤ r ∧ r < 8 ∧ (r < M i 3))) := by
  refine x_met (by decide) (Nat.le_of_ble_eq_true rfl) (fun g hg hr he => ?_)
  obtain ⟨hn, hst⟩ := hI.2 i hi
  refine x_canon (ls' := [(0, _), (1, _)]) rfl ?_
  have loop : ∀ (c : Nat) (j : Int), 0 ≤ j → j ≤ M i 3 → M i 3 - j < c → xW g 209 M (RS tt) 0 0 2 [(0, xr i), (1, xi z), (2, xi j)] [] := by
    intro c
    induction c with
    | zero => intro j h1 h2 h3; exact absurd h3 (by omega)
    | succ c ih =>
      intro j hj1 hj2 hj3
      refine x_iload_n hg dX9_stopAt_2 rfl ?_
      refine x_aload_n hg dX9_stopAt_3 rfl ?_
      refine x_getI hg dX9_stopAt_4 fl_X9_29 (oO_train hi) rfl ?_
      refine x_icmp_ge (tgt := 28) hg dX9_stopAt_7 (by decide) (by omega) (by omega) (fun c7 => ?_) (fun c7 => ?_)
      · skip
        refine x_iconst hg dX9_stopAt_28 ?_
        refine x_iret hg hr (Or.inl rfl) dX9_stopAt_29 (Nat.le_refl _) (Nat.le_refl _) ?_
        exact ⟨rfl, rfl, _, rfl, rfl, by omega, by omega, by omega⟩
      · skip
        refine x_aload_n hg dX9_stopAt_10 rfl ?_
        refine x_getR hg dX9_stopAt_11 fl_X9_9 (oO_train hi) rfl (RS_tr hi).1 (by omega) ?_
        refine x_iload_n hg dX9_stopAt_14 rfl ?_
        refine x_iaload (len := 8) hg dX9_stopAt_15 (oA_train1 hi) (by omega) ?_
        refine x_iload_n hg dX9_stopAt_16 rfl ?_
        refine x_icmp_ne (tgt := 22) hg dX9_stopAt_17 (by decide) (by have h1 := hst j.toNat (by omega); omega) (by omega) (fun c17 => ?_) (fun c17 => ?_)
        · skip
          refine x_iinc (ls' := [(0, _), (1, _), (2, _)]) hg dX9_stopAt_22 rfl (by decide) rfl ?_
          refine x_goto (tgt := 2) hg dX9_stopAt_25 (by decide) ?_
          exact ih _ (by omega) (by omega) (by omega)
        · skip
          refine x_iload_n hg dX9_stopAt_20 rfl ?_
          refine x_iret hg hr (Or.inl rfl) dX9_stopAt_21 (Nat.le_refl _) (Nat.le_refl _) ?_
          exact ⟨rfl, rfl, _, rfl, rfl, by omega, by omega, by omega⟩
  refine x_iconst hg dX9_stopAt_0 ?_
  refine x_istore_n (ls' := [(0, _), (1, _), (2, _)]) hg dX9_stopAt_1 rfl (by decide) rfl ?_
  exact loop 9 0 (by omega) (by omega) (by omega)

theorem dX9_begin_0 : decode cX9_begin 0 = .ok (.aload_n 0, 1) := by decide +kernel
theorem dX9_begin_1 : decode cX9_begin 1 = .ok (.lload_n 1, 1) := by decide +kernel
theorem dX9_begin_2 : decode cX9_begin 2 = .ok (.putfield 18, 3) := by decide +kernel
theorem dX9_begin_5 : decode cX9_begin 5 = .ok (.aload_n 0, 1) := by decide +kernel
theorem dX9_begin_6 : decode cX9_begin 6 = .ok (.iconst 0, 1) := by decide +kernel
theorem dX9_begin_7 : decode cX9_begin 7 = .ok (.putfield 22, 3) := by decide +kernel
theorem dX9_begin_10 : decode cX9_begin 10 = .ok (.aload_n 0, 1) := by decide +kernel
theorem dX9_begin_11 : decode cX9_begin 11 = .ok (.iconst 0, 1) := by decide +kernel
theorem dX9_begin_12 : decode cX9_begin 12 = .ok (.putfield 26, 3) := by decide +kernel
theorem dX9_begin_15 : decode cX9_begin 15 = .ok (.aload_n 0, 1) := by decide +kernel
theorem dX9_begin_16 : decode cX9_begin 16 = .ok (.iconst 0, 1) := by decide +kernel
theorem dX9_begin_17 : decode cX9_begin 17 = .ok (.putfield 29, 3) := by decide +kernel
theorem dX9_begin_20 : decode cX9_begin 20 = .ok (.return_, 1) := by decide +kernel
set_option maxHeartbeats 4000000 in
set_option maxRecDepth 20000 in
theorem c_X9_begin (l : Launch) (b : Nat) (D : va_G) (cy : Nat → ClassId) {tt : Nat} {M : xMm} {i : Nat} {z : Int} (hi : xTr i) : xC l b D cy yX9_begin cX9_begin 3 none ({ frames := 0, cells := 0, slots := 0, locals := 0 }) [xr i, xl z] 209 M (RS tt) (xPv 209 (RS tt) (fun M' => M' = mu (mu (mu (mu M i 0 z) i 1 0) i 2 0) i 3 0)) := by
  refine x_met (by decide) (Nat.le_of_ble_eq_true rfl) (fun g hg hr he => ?_)
  refine x_canon (ls' := [(0, _), (1, _)]) rfl ?_
  refine x_aload_n hg dX9_begin_0 rfl ?_
  refine x_lload_n hg dX9_begin_1 rfl ?_
  refine x_putL hg dX9_begin_2 fl_X9_18 ft_9_0 (oO_train hi) rfl ?_
  refine x_aload_n hg dX9_begin_5 rfl ?_
  refine x_iconst hg dX9_begin_6 ?_
  refine x_putI hg dX9_begin_7 fl_X9_22 ft_9_1 (oO_train hi) rfl ?_
  refine x_aload_n hg dX9_begin_10 rfl ?_
  refine x_iconst hg dX9_begin_11 ?_
  refine x_putI hg dX9_begin_12 fl_X9_26 ft_9_2 (oO_train hi) rfl ?_
  refine x_aload_n hg dX9_begin_15 rfl ?_
  refine x_iconst hg dX9_begin_16 ?_
  refine x_putI hg dX9_begin_17 fl_X9_29 ft_9_3 (oO_train hi) rfl ?_
  refine x_vret hg hr dX9_begin_20 (Nat.le_refl _) (Nat.le_refl _) ?_
  exact ⟨rfl, rfl, rfl, rfl⟩

theorem dX8_has_0 : decode cX8_has 0 = .ok (.iload_n 1, 1) := by decide +kernel
theorem dX8_has_1 : decode cX8_has 1 = .ok (.ifCond .lt 15, 3) := by decide +kernel
theorem dX8_has_4 : decode cX8_has 4 = .ok (.iload_n 1, 1) := by decide +kernel
theorem dX8_has_5 : decode cX8_has 5 = .ok (.aload_n 0, 1) := by decide +kernel
theorem dX8_has_6 : decode cX8_has 6 = .ok (.getfield 18, 3) := by decide +kernel
theorem dX8_has_9 : decode cX8_has 9 = .ok (.if_icmp .ge 7, 3) := by decide +kernel
theorem dX8_has_12 : decode cX8_has 12 = .ok (.iconst 1, 1) := by decide +kernel
theorem dX8_has_13 : decode cX8_has 13 = .ok (.goto 4, 3) := by decide +kernel
theorem dX8_has_16 : decode cX8_has 16 = .ok (.iconst 0, 1) := by decide +kernel
theorem dX8_has_17 : decode cX8_has 17 = .ok (.ireturn, 1) := by decide +kernel
set_option maxHeartbeats 4000000 in
set_option maxRecDepth 20000 in
theorem c_X8_has (l : Launch) (b : Nat) (D : va_G) (cy : Nat → ClassId) {tt : Nat} {M : xMm} {q : Nat} {z : Int} (hI : IR M) (hq : xTt q) (hz : inR z) : xC l b D cy yX8_has cX8_has 2 (some .boolean) ({ frames := 0, cells := 0, slots := 0, locals := 0 }) [xr q, xi z] 209 M (RS tt) (xPi 209 (RS tt) (fun r M' => M' = M ∧ ((0 ≤ z ∧ z < M q 1) ∧ r = 1 ∨ ¬ (0 ≤ z ∧ z < M q 1) ∧ r = 0))) := by
  refine x_met (by decide) (Nat.le_of_ble_eq_true rfl) (fun g hg hr he => ?_)
  have hc := hI.1 q hq
  refine x_canon (ls' := [(0, _), (1, _)]) rfl ?_
  refine x_iload_n hg dX8_has_0 rfl ?_
  refine x_if_lt (tgt := 16) hg dX8_has_1 (by decide) (by omega) (fun c1 => ?_) (fun c1 => ?_)
  · skip
    refine x_iconst hg dX8_has_16 ?_
    refine x_iret hg hr (Or.inr ⟨rfl, by first | exact Or.inl rfl | exact Or.inr rfl | omega⟩) dX8_has_17 (Nat.le_refl _) (Nat.le_refl _) ?_
    exact ⟨rfl, rfl, _, rfl, rfl, by omega⟩
  · skip
    refine x_iload_n hg dX8_has_4 rfl ?_
    refine x_aload_n hg dX8_has_5 rfl ?_
    refine x_getI hg dX8_has_6 fl_X8_18 (oO_tt hq) rfl ?_
    refine x_icmp_ge (tgt := 16) hg dX8_has_9 (by decide) (by omega) (by omega) (fun c9 => ?_) (fun c9 => ?_)
    · skip
      refine x_iconst hg dX8_has_16 ?_
      refine x_iret hg hr (Or.inr ⟨rfl, by first | exact Or.inl rfl | exact Or.inr rfl | omega⟩) dX8_has_17 (Nat.le_refl _) (Nat.le_refl _) ?_
      exact ⟨rfl, rfl, _, rfl, rfl, by omega⟩
    · skip
      refine x_iconst hg dX8_has_12 ?_
      refine x_goto (tgt := 17) hg dX8_has_13 (by decide) ?_
      refine x_iret hg hr (Or.inr ⟨rfl, by first | exact Or.inl rfl | exact Or.inr rfl | omega⟩) dX8_has_17 (Nat.le_refl _) (Nat.le_refl _) ?_
      exact ⟨rfl, rfl, _, rfl, rfl, by omega⟩

theorem dX8_hasName_0 : decode cX8_hasName 0 = .ok (.iconst 0, 1) := by decide +kernel
theorem dX8_hasName_1 : decode cX8_hasName 1 = .ok (.istore_n 3, 1) := by decide +kernel
theorem dX8_hasName_2 : decode cX8_hasName 2 = .ok (.iload_n 3, 1) := by decide +kernel
theorem dX8_hasName_3 : decode cX8_hasName 3 = .ok (.aload_n 0, 1) := by decide +kernel
theorem dX8_hasName_4 : decode cX8_hasName 4 = .ok (.getfield 18, 3) := by decide +kernel
theorem dX8_hasName_7 : decode cX8_hasName 7 = .ok (.if_icmp .ge 25, 3) := by decide +kernel
theorem dX8_hasName_10 : decode cX8_hasName 10 = .ok (.aload_n 0, 1) := by decide +kernel
theorem dX8_hasName_11 : decode cX8_hasName 11 = .ok (.getfield 11, 3) := by decide +kernel
theorem dX8_hasName_14 : decode cX8_hasName 14 = .ok (.iload_n 3, 1) := by decide +kernel
theorem dX8_hasName_15 : decode cX8_hasName 15 = .ok (.aaload, 1) := by decide +kernel
theorem dX8_hasName_16 : decode cX8_hasName 16 = .ok (.getfield 22, 3) := by decide +kernel
theorem dX8_hasName_19 : decode cX8_hasName 19 = .ok (.lload_n 1, 1) := by decide +kernel
theorem dX8_hasName_20 : decode cX8_hasName 20 = .ok (.lcmp, 1) := by decide +kernel
theorem dX8_hasName_21 : decode cX8_hasName 21 = .ok (.ifCond .ne 5, 3) := by decide +kernel
theorem dX8_hasName_24 : decode cX8_hasName 24 = .ok (.iconst 1, 1) := by decide +kernel
theorem dX8_hasName_25 : decode cX8_hasName 25 = .ok (.ireturn, 1) := by decide +kernel
theorem dX8_hasName_26 : decode cX8_hasName 26 = .ok (.iinc 3 1, 3) := by decide +kernel
theorem dX8_hasName_29 : decode cX8_hasName 29 = .ok (.goto (-27), 3) := by decide +kernel
theorem dX8_hasName_32 : decode cX8_hasName 32 = .ok (.iconst 0, 1) := by decide +kernel
theorem dX8_hasName_33 : decode cX8_hasName 33 = .ok (.ireturn, 1) := by decide +kernel
set_option maxHeartbeats 4000000 in
set_option maxRecDepth 20000 in
theorem c_X8_hasName (l : Launch) (b : Nat) (D : va_G) (cy : Nat → ClassId) {tt : Nat} {M : xMm} {q : Nat} {z : Int} (hI : IR M) (hq : xTt q) (hz : inL z) : xC l b D cy yX8_hasName cX8_hasName 4 (some .boolean) ({ frames := 0, cells := 0, slots := 0, locals := 0 }) [xr q, xl z] 209 M (RS tt) (xPi 209 (RS tt) (fun r M' => M' = M ∧ (r = 0 ∨ r = 1))) := by
  refine x_met (by decide) (Nat.le_of_ble_eq_true rfl) (fun g hg hr he => ?_)
  have hc := hI.1 q hq
  refine x_canon (ls' := [(0, _), (1, _)]) rfl ?_
  have loop : ∀ (c : Nat) (j : Int), 0 ≤ j → j ≤ M q 1 → M q 1 - j < c → xW g 209 M (RS tt) 0 0 2 [(0, xr q), (1, xl z), (3, xi j)] [] := by
    intro c
    induction c with
    | zero => intro j h1 h2 h3; exact absurd h3 (by omega)
    | succ c ih =>
      intro j hj1 hj2 hj3
      refine x_iload_n hg dX8_hasName_2 rfl ?_
      refine x_aload_n hg dX8_hasName_3 rfl ?_
      refine x_getI hg dX8_hasName_4 fl_X8_18 (oO_tt hq) rfl ?_
      refine x_icmp_ge (tgt := 32) hg dX8_hasName_7 (by decide) (by omega) (by omega) (fun c7 => ?_) (fun c7 => ?_)
      · skip
        refine x_iconst hg dX8_hasName_32 ?_
        refine x_iret hg hr (Or.inr ⟨rfl, by first | exact Or.inl rfl | exact Or.inr rfl | omega⟩) dX8_hasName_33 (Nat.le_refl _) (Nat.le_refl _) ?_
        exact ⟨rfl, rfl, _, rfl, rfl, by omega⟩
      · skip
        refine x_aload_n hg dX8_hasName_10 rfl ?_
        refine x_getR hg dX8_hasName_11 fl_X8_11 (oO_tt hq) rfl (RS_tt hq) (by omega) ?_
        refine x_iload_n hg dX8_hasName_14 rfl ?_
        refine x_aaload (len := 8) (et := 4) hg dX8_hasName_15 (oA_tt hq) (by decide) (by omega) (RS_trn hq _) (by omega) ?_
        refine x_getL hg dX8_hasName_16 fl_X8_22 (oO_train (xTr_of hq (by omega))) rfl ?_
        refine x_lload_n hg dX8_hasName_19 rfl ?_
        refine x_lcmp hg dX8_hasName_20 (by exact ((hI.2 _ (xTr_of hq (by omega))).1).2.2.2) (by omega) ?_
        refine x_if_ne (tgt := 26) hg dX8_hasName_21 (by decide) (by split <;> (try split) <;> omega) (fun c21 => ?_) (fun c21 => ?_)
        · skip
          refine x_iinc (ls' := [(0, _), (1, _), (3, _)]) hg dX8_hasName_26 rfl (by decide) rfl ?_
          refine x_goto (tgt := 2) hg dX8_hasName_29 (by decide) ?_
          exact ih _ (by omega) (by omega) (by omega)
        · skip
          refine x_iconst hg dX8_hasName_24 ?_
          refine x_iret hg hr (Or.inr ⟨rfl, by first | exact Or.inl rfl | exact Or.inr rfl | omega⟩) dX8_hasName_25 (Nat.le_refl _) (Nat.le_refl _) ?_
          exact ⟨rfl, rfl, _, rfl, rfl, by omega⟩
  refine x_iconst hg dX8_hasName_0 ?_
  refine x_istore_n (ls' := [(0, _), (1, _), (3, _)]) hg dX8_hasName_1 rfl (by decide) rfl ?_
  exact loop 9 0 (by omega) (by omega) (by omega)

theorem dX11_stopOf_0 : decode cX11_stopOf 0 = .ok (.iload_n 1, 1) := by decide +kernel
theorem dX11_stopOf_1 : decode cX11_stopOf 1 = .ok (.bipush 10, 2) := by decide +kernel
theorem dX11_stopOf_3 : decode cX11_stopOf 3 = .ok (.if_icmp .lt 23, 3) := by decide +kernel
theorem dX11_stopOf_6 : decode cX11_stopOf 6 = .ok (.iload_n 1, 1) := by decide +kernel
theorem dX11_stopOf_7 : decode cX11_stopOf 7 = .ok (.bipush 10, 2) := by decide +kernel
theorem dX11_stopOf_9 : decode cX11_stopOf 9 = .ok (.aload_n 0, 1) := by decide +kernel
theorem dX11_stopOf_10 : decode cX11_stopOf 10 = .ok (.getfield 129, 3) := by decide +kernel
theorem dX11_stopOf_13 : decode cX11_stopOf 13 = .ok (.iadd, 1) := by decide +kernel
theorem dX11_stopOf_14 : decode cX11_stopOf 14 = .ok (.if_icmp .ge 12, 3) := by decide +kernel
theorem dX11_stopOf_17 : decode cX11_stopOf 17 = .ok (.aload_n 0, 1) := by decide +kernel
theorem dX11_stopOf_18 : decode cX11_stopOf 18 = .ok (.iload_n 1, 1) := by decide +kernel
theorem dX11_stopOf_19 : decode cX11_stopOf 19 = .ok (.bipush 10, 2) := by decide +kernel
theorem dX11_stopOf_21 : decode cX11_stopOf 21 = .ok (.isub, 1) := by decide +kernel
theorem dX11_stopOf_22 : decode cX11_stopOf 22 = .ok (.invokevirtual 139, 3) := by decide +kernel
theorem dX11_stopOf_25 : decode cX11_stopOf 25 = .ok (.ireturn, 1) := by decide +kernel
theorem dX11_stopOf_26 : decode cX11_stopOf 26 = .ok (.iload_n 1, 1) := by decide +kernel
theorem dX11_stopOf_27 : decode cX11_stopOf 27 = .ok (.bipush 20, 2) := by decide +kernel
theorem dX11_stopOf_29 : decode cX11_stopOf 29 = .ok (.if_icmp .lt 23, 3) := by decide +kernel
theorem dX11_stopOf_32 : decode cX11_stopOf 32 = .ok (.iload_n 1, 1) := by decide +kernel
theorem dX11_stopOf_33 : decode cX11_stopOf 33 = .ok (.bipush 20, 2) := by decide +kernel
theorem dX11_stopOf_35 : decode cX11_stopOf 35 = .ok (.aload_n 0, 1) := by decide +kernel
theorem dX11_stopOf_36 : decode cX11_stopOf 36 = .ok (.getfield 129, 3) := by decide +kernel
theorem dX11_stopOf_39 : decode cX11_stopOf 39 = .ok (.iadd, 1) := by decide +kernel
theorem dX11_stopOf_40 : decode cX11_stopOf 40 = .ok (.if_icmp .ge 12, 3) := by decide +kernel
theorem dX11_stopOf_43 : decode cX11_stopOf 43 = .ok (.aload_n 0, 1) := by decide +kernel
theorem dX11_stopOf_44 : decode cX11_stopOf 44 = .ok (.iload_n 1, 1) := by decide +kernel
theorem dX11_stopOf_45 : decode cX11_stopOf 45 = .ok (.bipush 20, 2) := by decide +kernel
theorem dX11_stopOf_47 : decode cX11_stopOf 47 = .ok (.isub, 1) := by decide +kernel
theorem dX11_stopOf_48 : decode cX11_stopOf 48 = .ok (.invokevirtual 143, 3) := by decide +kernel
theorem dX11_stopOf_51 : decode cX11_stopOf 51 = .ok (.ireturn, 1) := by decide +kernel
theorem dX11_stopOf_52 : decode cX11_stopOf 52 = .ok (.iconst (-1), 1) := by decide +kernel
theorem dX11_stopOf_53 : decode cX11_stopOf 53 = .ok (.ireturn, 1) := by decide +kernel
set_option maxHeartbeats 4000000 in
set_option maxRecDepth 20000 in
theorem c_X11_stopOf (l : Launch) (b : Nat) (D : va_G) (cy : Nat → ClassId) {tt : Nat} {M : xMm} {i : Nat} {z : Int} (hI : IR M) (hi : xTr i) (hz : inR z) : xC l b D cy yX11_stopOf cX11_stopOf 2 (some .int) ({ frames := 1, cells := 0, slots := 0, locals := 21 }) [xr i, xi z] 209 M (RS tt) (xPi 209 (RS tt) (fun r M' => M' = M)) := by
  refine x_met (by decide) (Nat.le_of_ble_eq_true rfl) (fun g hg hr he => ?_)
  obtain ⟨hn, hst⟩ := hI.2 i hi
  refine x_canon (ls' := [(0, _), (1, _)]) rfl ?_
  refine x_iload_n hg dX11_stopOf_0 rfl ?_
  refine x_bipush hg dX11_stopOf_1 (by decide) ?_
  refine x_icmp_lt (tgt := 26) hg dX11_stopOf_3 (by decide) (by omega) (by omega) (fun c3 => ?_) (fun c3 => ?_)
  · skip
    refine x_iload_n hg dX11_stopOf_26 rfl ?_
    refine x_bipush hg dX11_stopOf_27 (by decide) ?_
    refine x_icmp_lt (tgt := 52) hg dX11_stopOf_29 (by decide) (by omega) (by omega) (fun c29 => ?_) (fun c29 => ?_)
    · skip
      refine x_iconst hg dX11_stopOf_52 ?_
      refine x_iret hg hr (Or.inl rfl) dX11_stopOf_53 (Nat.le_refl _) (Nat.le_refl _) ?_
      exact ⟨rfl, rfl, _, rfl, rfl⟩
    · skip
      refine x_iload_n hg dX11_stopOf_32 rfl ?_
      refine x_bipush hg dX11_stopOf_33 (by decide) ?_
      refine x_aload_n hg dX11_stopOf_35 rfl ?_
      refine x_getI hg dX11_stopOf_36 fl_X11_129 (oO_train hi) rfl ?_
      refine x_iadd hg dX11_stopOf_39 ?_
      refine x_icmp_ge (tgt := 52) hg dX11_stopOf_40 (by decide) (by omega) (by omega) (fun c40 => ?_) (fun c40 => ?_)
      · skip
        refine x_iconst hg dX11_stopOf_52 ?_
        refine x_iret hg hr (Or.inl rfl) dX11_stopOf_53 (Nat.le_refl _) (Nat.le_refl _) ?_
        exact ⟨rfl, rfl, _, rfl, rfl⟩
      · skip
        refine x_aload_n hg dX11_stopOf_43 rfl ?_
        refine x_iload_n hg dX11_stopOf_44 rfl ?_
        refine x_bipush hg dX11_stopOf_45 (by decide) ?_
        refine x_isub hg dX11_stopOf_47 ?_
        refine x_cVi hg he [_] [] dX11_stopOf_48 mv_X11_143 (c_X9_minuteOf l b D cy hI hi (by omega)) (oO_train hi) rfl rfl (Nat.le_of_ble_eq_true rfl) (by decide) (by decide) (fun r48 M48 q48 => ?_)
        obtain ⟨h48, e48⟩ := q48
        replace h48 := h48.symm
        subst h48
        refine x_iret hg hr (Or.inl rfl) dX11_stopOf_51 (Nat.le_refl _) (Nat.le_refl _) ?_
        exact ⟨rfl, rfl, _, rfl, rfl⟩
  · skip
    refine x_iload_n hg dX11_stopOf_6 rfl ?_
    refine x_bipush hg dX11_stopOf_7 (by decide) ?_
    refine x_aload_n hg dX11_stopOf_9 rfl ?_
    refine x_getI hg dX11_stopOf_10 fl_X11_129 (oO_train hi) rfl ?_
    refine x_iadd hg dX11_stopOf_13 ?_
    refine x_icmp_ge (tgt := 26) hg dX11_stopOf_14 (by decide) (by omega) (by omega) (fun c14 => ?_) (fun c14 => ?_)
    · skip
      refine x_iload_n hg dX11_stopOf_26 rfl ?_
      refine x_bipush hg dX11_stopOf_27 (by decide) ?_
      refine x_icmp_lt (tgt := 52) hg dX11_stopOf_29 (by decide) (by omega) (by omega) (fun c29 => ?_) (fun c29 => ?_)
      · skip
        refine x_iconst hg dX11_stopOf_52 ?_
        refine x_iret hg hr (Or.inl rfl) dX11_stopOf_53 (Nat.le_refl _) (Nat.le_refl _) ?_
        exact ⟨rfl, rfl, _, rfl, rfl⟩
      · skip
        refine x_iload_n hg dX11_stopOf_32 rfl ?_
        refine x_bipush hg dX11_stopOf_33 (by decide) ?_
        refine x_aload_n hg dX11_stopOf_35 rfl ?_
        refine x_getI hg dX11_stopOf_36 fl_X11_129 (oO_train hi) rfl ?_
        refine x_iadd hg dX11_stopOf_39 ?_
        refine x_icmp_ge (tgt := 52) hg dX11_stopOf_40 (by decide) (by omega) (by omega) (fun c40 => ?_) (fun c40 => ?_)
        · skip
          refine x_iconst hg dX11_stopOf_52 ?_
          refine x_iret hg hr (Or.inl rfl) dX11_stopOf_53 (Nat.le_refl _) (Nat.le_refl _) ?_
          exact ⟨rfl, rfl, _, rfl, rfl⟩
        · skip
          refine x_aload_n hg dX11_stopOf_43 rfl ?_
          refine x_iload_n hg dX11_stopOf_44 rfl ?_
          refine x_bipush hg dX11_stopOf_45 (by decide) ?_
          refine x_isub hg dX11_stopOf_47 ?_
          refine x_cVi hg he [_] [] dX11_stopOf_48 mv_X11_143 (c_X9_minuteOf l b D cy hI hi (by omega)) (oO_train hi) rfl rfl (Nat.le_of_ble_eq_true rfl) (by decide) (by decide) (fun r48 M48 q48 => ?_)
          obtain ⟨h48, e48⟩ := q48
          replace h48 := h48.symm
          subst h48
          refine x_iret hg hr (Or.inl rfl) dX11_stopOf_51 (Nat.le_refl _) (Nat.le_refl _) ?_
          exact ⟨rfl, rfl, _, rfl, rfl⟩
    · skip
      refine x_aload_n hg dX11_stopOf_17 rfl ?_
      refine x_iload_n hg dX11_stopOf_18 rfl ?_
      refine x_bipush hg dX11_stopOf_19 (by decide) ?_
      refine x_isub hg dX11_stopOf_21 ?_
      refine x_cVi hg he [_] [] dX11_stopOf_22 mv_X11_139 (c_X9_stationOf l b D cy hI hi (by omega)) (oO_train hi) rfl rfl (Nat.le_of_ble_eq_true rfl) (by decide) (by decide) (fun r22 M22 q22 => ?_)
      obtain ⟨h22, e22⟩ := q22
      replace h22 := h22.symm
      subst h22
      refine x_iret hg hr (Or.inl rfl) dX11_stopOf_25 (Nat.le_refl _) (Nat.le_refl _) ?_
      exact ⟨rfl, rfl, _, rfl, rfl⟩

theorem dX11_train_0 : decode cX11_train 0 = .ok (.aload_n 0, 1) := by decide +kernel
theorem dX11_train_1 : decode cX11_train 1 = .ok (.getfield 28, 3) := by decide +kernel
theorem dX11_train_4 : decode cX11_train 4 = .ok (.iload_n 1, 1) := by decide +kernel
theorem dX11_train_5 : decode cX11_train 5 = .ok (.invokevirtual 116, 3) := by decide +kernel
theorem dX11_train_8 : decode cX11_train 8 = .ok (.ifCond .ne 5, 3) := by decide +kernel
theorem dX11_train_11 : decode cX11_train 11 = .ok (.iconst (-1), 1) := by decide +kernel
theorem dX11_train_12 : decode cX11_train 12 = .ok (.ireturn, 1) := by decide +kernel
theorem dX11_train_13 : decode cX11_train 13 = .ok (.aload_n 0, 1) := by decide +kernel
theorem dX11_train_14 : decode cX11_train 14 = .ok (.getfield 28, 3) := by decide +kernel
theorem dX11_train_17 : decode cX11_train 17 = .ok (.getfield 120, 3) := by decide +kernel
theorem dX11_train_20 : decode cX11_train 20 = .ok (.iload_n 1, 1) := by decide +kernel
theorem dX11_train_21 : decode cX11_train 21 = .ok (.aaload, 1) := by decide +kernel
theorem dX11_train_22 : decode cX11_train 22 = .ok (.astore_n 3, 1) := by decide +kernel
theorem dX11_train_23 : decode cX11_train 23 = .ok (.iload_n 2, 1) := by decide +kernel
theorem dX11_train_24 : decode cX11_train 24 = .ok (.tableswitch 43 0 2 #[28, 33, 38], 28) := by decide +kernel
theorem dX11_train_52 : decode cX11_train 52 = .ok (.aload_n 3, 1) := by decide +kernel
theorem dX11_train_53 : decode cX11_train 53 = .ok (.getfield 124, 3) := by decide +kernel
theorem dX11_train_56 : decode cX11_train 56 = .ok (.ireturn, 1) := by decide +kernel
theorem dX11_train_57 : decode cX11_train 57 = .ok (.aload_n 3, 1) := by decide +kernel
theorem dX11_train_58 : decode cX11_train 58 = .ok (.getfield 129, 3) := by decide +kernel
theorem dX11_train_61 : decode cX11_train 61 = .ok (.ireturn, 1) := by decide +kernel
theorem dX11_train_62 : decode cX11_train 62 = .ok (.aload_n 3, 1) := by decide +kernel
theorem dX11_train_63 : decode cX11_train 63 = .ok (.getfield 132, 3) := by decide +kernel
theorem dX11_train_66 : decode cX11_train 66 = .ok (.ireturn, 1) := by decide +kernel
theorem dX11_train_67 : decode cX11_train 67 = .ok (.aload_n 3, 1) := by decide +kernel
theorem dX11_train_68 : decode cX11_train 68 = .ok (.iload_n 2, 1) := by decide +kernel
theorem dX11_train_69 : decode cX11_train 69 = .ok (.invokestatic 135, 3) := by decide +kernel
theorem dX11_train_72 : decode cX11_train 72 = .ok (.ireturn, 1) := by decide +kernel
set_option maxHeartbeats 4000000 in
set_option maxRecDepth 20000 in
theorem c_X11_train (l : Launch) (b : Nat) (D : va_G) (cy : Nat → ClassId) {tt : Nat} {M : xMm} {z y : Int} (hI : IR M) (htt : xTt tt) (hz : inR z) (hy : inR y) : xC l b D cy yX11_train cX11_train 4 (some .int) ({ frames := 2, cells := 0, slots := 0, locals := 42 }) [xr 1, xi z, xi y] 209 M (RS tt) (xPi 209 (RS tt) (fun r M' => M' = M)) := by
  refine x_met (by decide) (Nat.le_of_ble_eq_true rfl) (fun g hg hr he => ?_)
  have htt2 : xTt tt := htt
  have hc := hI.1 tt htt
  refine x_canon (ls' := [(0, _), (1, _), (2, _)]) rfl ?_
  refine x_aload_n hg dX11_train_0 rfl ?_
  refine x_getR (j9 := tt) hg dX11_train_1 fl_X11_28 (by decide) rfl rfl (by omega) ?_
  refine x_iload_n hg dX11_train_4 rfl ?_
  refine x_cVi hg he [_] [] dX11_train_5 mv_X11_116 (c_X8_has l b D cy hI htt (by omega)) (oO_tt htt) rfl rfl (Nat.le_of_ble_eq_true rfl) (by decide) (by decide) (fun r5 M5 q5 => ?_)
  obtain ⟨h5, e5⟩ := q5
  replace h5 := h5.symm
  subst h5
  refine x_if_ne (tgt := 13) hg dX11_train_8 (by decide) (by omega) (fun c8 => ?_) (fun c8 => ?_)
  · skip
    refine x_aload_n hg dX11_train_13 rfl ?_
    refine x_getR (j9 := tt) hg dX11_train_14 fl_X11_28 (by decide) rfl rfl (by omega) ?_
    refine x_getR hg dX11_train_17 fl_X11_120 (oO_tt htt) rfl (RS_tt htt) (by omega) ?_
    refine x_iload_n hg dX11_train_20 rfl ?_
    refine x_aaload (len := 8) (et := 4) hg dX11_train_21 (oA_tt htt) (by decide) (by omega) (RS_trn htt _) (by omega) ?_
    refine x_astore_n (ls' := [(0, _), (1, _), (2, _), (3, _)]) hg dX11_train_22 rfl (by decide) rfl ?_
    refine x_iload_n hg dX11_train_23 rfl ?_
    refine x_int_cases 0 2 (fun hsw24 => ?_) (fun h1sw24 h2sw24 => ?_)
    · refine x_tableOut (tgt := 67) hg dX11_train_24 (by omega) hsw24 (by decide) ?_
      refine x_aload_n hg dX11_train_67 rfl ?_
      refine x_iload_n hg dX11_train_68 rfl ?_
      refine x_cSi hg he [_, _] [] dX11_train_69 ms_X11_135 (c_X11_stopOf l b D cy hI (xTr_of htt (by omega)) (by omega)) rfl rfl (Nat.le_of_ble_eq_true rfl) (by decide) (by decide) (fun r69 M69 q69 => ?_)
      refine x_iret hg hr (Or.inl rfl) dX11_train_72 (Nat.le_refl _) (Nat.le_refl _) ?_
      exact ⟨rfl, rfl, _, rfl, q69⟩
    · refine x_sw3 h1sw24 h2sw24 (fun e24 => ?_) (fun e24 => ?_) (fun e24 => ?_)
      · refine x_tableIn (off := 28) (tgt := 52) hg dX11_train_24 (by omega) h1sw24 h2sw24 (by rw [e24]; rfl) (by decide) ?_
        refine x_aload_n hg dX11_train_52 rfl ?_
        refine x_getI hg dX11_train_53 fl_X11_124 (oO_train (xTr_of htt (by omega))) rfl ?_
        refine x_iret hg hr (Or.inl rfl) dX11_train_56 (Nat.le_refl _) (Nat.le_refl _) ?_
        exact ⟨rfl, rfl, _, rfl, rfl⟩
      · refine x_tableIn (off := 33) (tgt := 57) hg dX11_train_24 (by omega) h1sw24 h2sw24 (by rw [e24]; rfl) (by decide) ?_
        refine x_aload_n hg dX11_train_57 rfl ?_
        refine x_getI hg dX11_train_58 fl_X11_129 (oO_train (xTr_of htt (by omega))) rfl ?_
        refine x_iret hg hr (Or.inl rfl) dX11_train_61 (Nat.le_refl _) (Nat.le_refl _) ?_
        exact ⟨rfl, rfl, _, rfl, rfl⟩
      · refine x_tableIn (off := 38) (tgt := 62) hg dX11_train_24 (by omega) h1sw24 h2sw24 (by rw [e24]; rfl) (by decide) ?_
        refine x_aload_n hg dX11_train_62 rfl ?_
        refine x_getI hg dX11_train_63 fl_X11_132 (oO_train (xTr_of htt (by omega))) rfl ?_
        refine x_iret hg hr (Or.inl rfl) dX11_train_66 (Nat.le_refl _) (Nat.le_refl _) ?_
        exact ⟨rfl, rfl, _, rfl, rfl⟩
  · skip
    refine x_iconst hg dX11_train_11 ?_
    refine x_iret hg hr (Or.inl rfl) dX11_train_12 (Nat.le_refl _) (Nat.le_refl _) ?_
    exact ⟨rfl, rfl, _, rfl, rfl⟩

theorem dX11_delay_0 : decode cX11_delay 0 = .ok (.aload_n 0, 1) := by decide +kernel
theorem dX11_delay_1 : decode cX11_delay 1 = .ok (.getfield 28, 3) := by decide +kernel
theorem dX11_delay_4 : decode cX11_delay 4 = .ok (.iload_n 1, 1) := by decide +kernel
theorem dX11_delay_5 : decode cX11_delay 5 = .ok (.invokevirtual 116, 3) := by decide +kernel
theorem dX11_delay_8 : decode cX11_delay 8 = .ok (.ifCond .eq 14, 3) := by decide +kernel
theorem dX11_delay_11 : decode cX11_delay 11 = .ok (.iload_n 2, 1) := by decide +kernel
theorem dX11_delay_12 : decode cX11_delay 12 = .ok (.ifCond .lt 10, 3) := by decide +kernel
theorem dX11_delay_15 : decode cX11_delay 15 = .ok (.iload_n 2, 1) := by decide +kernel
theorem dX11_delay_16 : decode cX11_delay 16 = .ok (.sipush 300, 3) := by decide +kernel
theorem dX11_delay_19 : decode cX11_delay 19 = .ok (.if_icmp .le 5, 3) := by decide +kernel
theorem dX11_delay_22 : decode cX11_delay 22 = .ok (.iconst 0, 1) := by decide +kernel
theorem dX11_delay_23 : decode cX11_delay 23 = .ok (.ireturn, 1) := by decide +kernel
theorem dX11_delay_24 : decode cX11_delay 24 = .ok (.aload_n 0, 1) := by decide +kernel
theorem dX11_delay_25 : decode cX11_delay 25 = .ok (.getfield 28, 3) := by decide +kernel
theorem dX11_delay_28 : decode cX11_delay 28 = .ok (.getfield 120, 3) := by decide +kernel
theorem dX11_delay_31 : decode cX11_delay 31 = .ok (.iload_n 1, 1) := by decide +kernel
theorem dX11_delay_32 : decode cX11_delay 32 = .ok (.aaload, 1) := by decide +kernel
theorem dX11_delay_33 : decode cX11_delay 33 = .ok (.iload_n 2, 1) := by decide +kernel
theorem dX11_delay_34 : decode cX11_delay 34 = .ok (.putfield 132, 3) := by decide +kernel
theorem dX11_delay_37 : decode cX11_delay 37 = .ok (.aload_n 0, 1) := by decide +kernel
theorem dX11_delay_38 : decode cX11_delay 38 = .ok (.iconst 1, 1) := by decide +kernel
theorem dX11_delay_39 : decode cX11_delay 39 = .ok (.putfield 60, 3) := by decide +kernel
theorem dX11_delay_42 : decode cX11_delay 42 = .ok (.iconst 1, 1) := by decide +kernel
theorem dX11_delay_43 : decode cX11_delay 43 = .ok (.ireturn, 1) := by decide +kernel
set_option maxHeartbeats 4000000 in
set_option maxRecDepth 20000 in
theorem c_X11_delay (l : Launch) (b : Nat) (D : va_G) (cy : Nat → ClassId) {tt : Nat} {M : xMm} {z y : Int} (hI : IR M) (htt : xTt tt) (hz : inR z) (hy : inR y) : xC l b D cy yX11_delay cX11_delay 3 (some .boolean) ({ frames := 1, cells := 0, slots := 0, locals := 21 }) [xr 1, xi z, xi y] 209 M (RS tt) (xPi 209 (RS tt) (fun r M' => IR M' ∧ (∀ a, a ≠ 1 → (a < 5 ∨ 56 < a) → M' a = M a) ∧ (M' 1 = M 1 ∨ M' 1 = mu M 1 7 1 1))) := by
  refine x_met (by decide) (Nat.le_of_ble_eq_true rfl) (fun g hg hr he => ?_)
  have htt2 : xTt tt := htt
  have hc := hI.1 tt htt
  refine x_canon (ls' := [(0, _), (1, _), (2, _)]) rfl ?_
  refine x_aload_n hg dX11_delay_0 rfl ?_
  refine x_getR (j9 := tt) hg dX11_delay_1 fl_X11_28 (by decide) rfl rfl (by omega) ?_
  refine x_iload_n hg dX11_delay_4 rfl ?_
  refine x_cVi hg he [_] [] dX11_delay_5 mv_X11_116 (c_X8_has l b D cy hI htt (by omega)) (oO_tt htt) rfl rfl (Nat.le_of_ble_eq_true rfl) (by decide) (by decide) (fun r5 M5 q5 => ?_)
  obtain ⟨h5, e5⟩ := q5
  replace h5 := h5.symm
  subst h5
  refine x_if_eq (tgt := 22) hg dX11_delay_8 (by decide) (by omega) (fun c8 => ?_) (fun c8 => ?_)
  · skip
    refine x_iconst hg dX11_delay_22 ?_
    refine x_iret hg hr (Or.inr ⟨rfl, by first | exact Or.inl rfl | exact Or.inr rfl | omega⟩) dX11_delay_23 (Nat.le_refl _) (Nat.le_refl _) ?_
    exact ⟨rfl, rfl, _, rfl, hI, fun a _ _ => rfl, Or.inl rfl⟩
  · skip
    refine x_iload_n hg dX11_delay_11 rfl ?_
    refine x_if_lt (tgt := 22) hg dX11_delay_12 (by decide) (by omega) (fun c12 => ?_) (fun c12 => ?_)
    · skip
      refine x_iconst hg dX11_delay_22 ?_
      refine x_iret hg hr (Or.inr ⟨rfl, by first | exact Or.inl rfl | exact Or.inr rfl | omega⟩) dX11_delay_23 (Nat.le_refl _) (Nat.le_refl _) ?_
      exact ⟨rfl, rfl, _, rfl, hI, fun a _ _ => rfl, Or.inl rfl⟩
    · skip
      refine x_iload_n hg dX11_delay_15 rfl ?_
      refine x_sipush hg dX11_delay_16 (by decide) ?_
      refine x_icmp_le (tgt := 24) hg dX11_delay_19 (by decide) (by omega) (by omega) (fun c19 => ?_) (fun c19 => ?_)
      · skip
        refine x_aload_n hg dX11_delay_24 rfl ?_
        refine x_getR (j9 := tt) hg dX11_delay_25 fl_X11_28 (by decide) rfl rfl (by omega) ?_
        refine x_getR hg dX11_delay_28 fl_X11_120 (oO_tt htt) rfl (RS_tt htt) (by omega) ?_
        refine x_iload_n hg dX11_delay_31 rfl ?_
        refine x_aaload (len := 8) (et := 4) hg dX11_delay_32 (oA_tt htt) (by decide) (by omega) (RS_trn htt _) (by omega) ?_
        refine x_iload_n hg dX11_delay_33 rfl ?_
        refine x_putI hg dX11_delay_34 fl_X11_132 ft_9_2 (oO_train (xTr_of htt (by omega))) rfl ?_
        refine x_aload_n hg dX11_delay_37 rfl ?_
        refine x_iconst hg dX11_delay_38 ?_
        refine x_putZ hg dX11_delay_39 fl_X11_60 ft_11_7 (by decide) rfl (by first | exact Or.inl rfl | exact Or.inr rfl | omega) ?_
        refine x_iconst hg dX11_delay_42 ?_
        refine x_iret hg hr (Or.inr ⟨rfl, by first | exact Or.inl rfl | exact Or.inr rfl | omega⟩) dX11_delay_43 (Nat.le_refl _) (Nat.le_refl _) ?_
        refine ⟨rfl, rfl, _, rfl, IR_congr (M := mu M (tt + 2 + 3 * z.toNat) 2 y) (IR_tr hI (xTr_of htt (show z.toNat < 8 by omega)) (Or.inr (Or.inl ⟨rfl, by omega⟩))) (fun a h1 h2 => ?_), fun a h1 h2 => ?_, Or.inr ?_⟩
        · funext c; exact mu_nc (by omega)
        · funext c; rw [mu_nc h1, mu_nc (by omega)]
        · funext c
          by_cases e : c = 7
          · subst e; rw [mu_s, mu_s]
          · rw [mu_nf e, mu_nf e, mu_nc (by omega)]
      · skip
        refine x_iconst hg dX11_delay_22 ?_
        refine x_iret hg hr (Or.inr ⟨rfl, by first | exact Or.inl rfl | exact Or.inr rfl | omega⟩) dX11_delay_23 (Nat.le_refl _) (Nat.le_refl _) ?_
        exact ⟨rfl, rfl, _, rfl, hI, fun a _ _ => rfl, Or.inl rfl⟩
end
section
/-! ===== the ways' own cells ===== -/
def IW (M : xMm) : Prop := ((0 ≤ M 63 5 ∧ M 63 5 ≤ 64) ∧ inR (M 63 6) ∧ inR (M 63 7) ∧ inR (M 63 8)) ∧ ∀ j, j < 64 → (-1 ≤ M 64 j ∧ M 64 j ≤ 9) ∧ (0 ≤ M 65 j ∧ M 65 j ≤ 1739) ∧ inR (M 66 j) ∧ (0 ≤ M 67 j ∧ M 67 j ≤ 63)
theorem IW_f {M : xMm} (h : IW M) {f : Nat} {z : Int} (hz : f = 5 ∧ (0 ≤ z ∧ z ≤ 64) ∨ (f = 6 ∨ f = 7 ∨ f = 8) ∧ inR z) : IW (mu M 63 f z) := by
  obtain ⟨h1, h2⟩ := h
  refine ⟨?_, fun j hj => ?_⟩
  · rcases hz with ⟨rfl, hz⟩ | ⟨rfl | rfl | rfl, hz⟩ <;> simp only [mu_s, mu_nf (show (5 : Nat) ≠ 6 by decide), mu_nf (show (5 : Nat) ≠ 7 by decide), mu_nf (show (5 : Nat) ≠ 8 by decide), mu_nf (show (6 : Nat) ≠ 5 by decide), mu_nf (show (6 : Nat) ≠ 7 by decide), mu_nf (show (6 : Nat) ≠ 8 by decide), mu_nf (show (7 : Nat) ≠ 5 by decide), mu_nf (show (7 : Nat) ≠ 6 by decide), mu_nf (show (7 : Nat) ≠ 8 by decide), mu_nf (show (8 : Nat) ≠ 5 by decide), mu_nf (show (8 : Nat) ≠ 6 by decide), mu_nf (show (8 : Nat) ≠ 7 by decide)] <;> omega
  · rw [mu_nc (by decide), mu_nc (by decide), mu_nc (by decide), mu_nc (by decide)]
    exact h2 j hj
theorem IW_a {M : xMm} (h : IW M) {a i : Nat} {z : Int} (hz : a = 64 ∧ (-1 ≤ z ∧ z ≤ 9) ∨ a = 65 ∧ (0 ≤ z ∧ z ≤ 1739) ∨ a = 66 ∧ inR z ∨ a = 67 ∧ (0 ≤ z ∧ z ≤ 63)) : IW (mu M a i z) := by
  obtain ⟨h1, h2⟩ := h
  refine ⟨?_, fun j hj => ?_⟩
  · rw [mu_nc (by omega), mu_nc (by omega), mu_nc (by omega), mu_nc (by omega)]
    exact h1
  · have h3 := h2 j hj
    by_cases e : j = i
    · subst e
      rcases hz with ⟨rfl, hz⟩ | ⟨rfl, hz⟩ | ⟨rfl, hz⟩ | ⟨rfl, hz⟩ <;> simp only [mu_s, mu_nc (show (64 : Nat) ≠ 65 by decide), mu_nc (show (64 : Nat) ≠ 66 by decide), mu_nc (show (64 : Nat) ≠ 67 by decide), mu_nc (show (65 : Nat) ≠ 64 by decide), mu_nc (show (65 : Nat) ≠ 66 by decide), mu_nc (show (65 : Nat) ≠ 67 by decide), mu_nc (show (66 : Nat) ≠ 64 by decide), mu_nc (show (66 : Nat) ≠ 65 by decide), mu_nc (show (66 : Nat) ≠ 67 by decide), mu_nc (show (67 : Nat) ≠ 64 by decide), mu_nc (show (67 : Nat) ≠ 65 by decide), mu_nc (show (67 : Nat) ≠ 66 by decide)] <;> omega
    · rw [mu_nf e, mu_nf e, mu_nf e, mu_nf e]
      exact h3
/-- outside of the ways' cells nothing changed -/
abbrev frW (M' M : xMm) : Prop := ∀ a, a < 63 ∨ 67 < a → M' a = M a
theorem frW_mu {M' M : xMm} (h : frW M' M) {a k : Nat} {z : Int} (ha : 63 ≤ a ∧ a ≤ 67) : frW (mu M' a k z) M := fun c hc => by
  rw [← h c hc]
  funext j
  exact mu_nc (by omega)
theorem IC_W {M' M : xMm} (h : frW M' M) (hI : IC M) : IC M' := IC_congr hI (fun a h1 h2 => h a (by omega))
theorem IR_W {M' M : xMm} (h : frW M' M) (hI : IR M) : IR M' := IR_congr hI (fun a h1 h2 => h a (by omega))
/-- a churn's cell: where it waits, from when -/
abbrev pCh (M : xMm) (c : Nat) : Prop := xO 209 c 1 ∧ (0 ≤ M c 1 ∧ M c 1 ≤ 9) ∧ (0 ≤ M c 2 ∧ M c 2 ≤ 1439)
theorem pCh_W {M' M : xMm} {c : Nat} (h : frW M' M) (hc : c < 63 ∨ 67 < c) (hI : pCh M c) : pCh M' c := by
  rw [pCh, h c hc]
  exact hI

theorem dX10_direct_0 : decode cX10_direct 0 = .ok (.aload_n 2, 1) := by decide +kernel
theorem dX10_direct_1 : decode cX10_direct 1 = .ok (.aload_n 1, 1) := by decide +kernel
theorem dX10_direct_2 : decode cX10_direct 2 = .ok (.getfield 28, 3) := by decide +kernel
theorem dX10_direct_5 : decode cX10_direct 5 = .ok (.invokevirtual 34, 3) := by decide +kernel
theorem dX10_direct_8 : decode cX10_direct 8 = .ok (.istore_n 3, 1) := by decide +kernel
theorem dX10_direct_9 : decode cX10_direct 9 = .ok (.aload_n 2, 1) := by decide +kernel
theorem dX10_direct_10 : decode cX10_direct 10 = .ok (.iconst 0, 1) := by decide +kernel
theorem dX10_direct_11 : decode cX10_direct 11 = .ok (.invokevirtual 34, 3) := by decide +kernel
theorem dX10_direct_14 : decode cX10_direct 14 = .ok (.istore 4, 2) := by decide +kernel
theorem dX10_direct_16 : decode cX10_direct 16 = .ok (.iload_n 3, 1) := by decide +kernel
theorem dX10_direct_17 : decode cX10_direct 17 = .ok (.iconst (-1), 1) := by decide +kernel
theorem dX10_direct_18 : decode cX10_direct 18 = .ok (.if_icmp .eq 21, 3) := by decide +kernel
theorem dX10_direct_21 : decode cX10_direct 21 = .ok (.iload 4, 2) := by decide +kernel
theorem dX10_direct_23 : decode cX10_direct 23 = .ok (.iload_n 3, 1) := by decide +kernel
theorem dX10_direct_24 : decode cX10_direct 24 = .ok (.if_icmp .le 15, 3) := by decide +kernel
theorem dX10_direct_27 : decode cX10_direct 27 = .ok (.aload_n 2, 1) := by decide +kernel
theorem dX10_direct_28 : decode cX10_direct 28 = .ok (.iload_n 3, 1) := by decide +kernel
theorem dX10_direct_29 : decode cX10_direct 29 = .ok (.invokevirtual 40, 3) := by decide +kernel
theorem dX10_direct_32 : decode cX10_direct 32 = .ok (.aload_n 1, 1) := by decide +kernel
theorem dX10_direct_33 : decode cX10_direct 33 = .ok (.getfield 43, 3) := by decide +kernel
theorem dX10_direct_36 : decode cX10_direct 36 = .ok (.if_icmp .ge 5, 3) := by decide +kernel
theorem dX10_direct_39 : decode cX10_direct 39 = .ok (.iconst (-1), 1) := by decide +kernel
theorem dX10_direct_40 : decode cX10_direct 40 = .ok (.ireturn, 1) := by decide +kernel
theorem dX10_direct_41 : decode cX10_direct 41 = .ok (.aload_n 2, 1) := by decide +kernel
theorem dX10_direct_42 : decode cX10_direct 42 = .ok (.iload_n 3, 1) := by decide +kernel
theorem dX10_direct_43 : decode cX10_direct 43 = .ok (.invokevirtual 40, 3) := by decide +kernel
theorem dX10_direct_46 : decode cX10_direct 46 = .ok (.istore 5, 2) := by decide +kernel
theorem dX10_direct_48 : decode cX10_direct 48 = .ok (.aload_n 0, 1) := by decide +kernel
theorem dX10_direct_49 : decode cX10_direct 49 = .ok (.getfield 24, 3) := by decide +kernel
theorem dX10_direct_52 : decode cX10_direct 52 = .ok (.aload_n 1, 1) := by decide +kernel
theorem dX10_direct_53 : decode cX10_direct 53 = .ok (.getfield 43, 3) := by decide +kernel
theorem dX10_direct_56 : decode cX10_direct 56 = .ok (.iload 5, 2) := by decide +kernel
theorem dX10_direct_58 : decode cX10_direct 58 = .ok (.aload_n 1, 1) := by decide +kernel
theorem dX10_direct_59 : decode cX10_direct 59 = .ok (.getfield 28, 3) := by decide +kernel
theorem dX10_direct_62 : decode cX10_direct 62 = .ok (.invokevirtual 46, 3) := by decide +kernel
theorem dX10_direct_65 : decode cX10_direct 65 = .ok (.aload_n 0, 1) := by decide +kernel
theorem dX10_direct_66 : decode cX10_direct 66 = .ok (.getfield 24, 3) := by decide +kernel
theorem dX10_direct_69 : decode cX10_direct 69 = .ok (.iload 5, 2) := by decide +kernel
theorem dX10_direct_71 : decode cX10_direct 71 = .ok (.aload_n 2, 1) := by decide +kernel
theorem dX10_direct_72 : decode cX10_direct 72 = .ok (.iload 4, 2) := by decide +kernel
theorem dX10_direct_74 : decode cX10_direct 74 = .ok (.invokevirtual 40, 3) := by decide +kernel
theorem dX10_direct_77 : decode cX10_direct 77 = .ok (.iconst (-1), 1) := by decide +kernel
theorem dX10_direct_78 : decode cX10_direct 78 = .ok (.invokevirtual 46, 3) := by decide +kernel
theorem dX10_direct_81 : decode cX10_direct 81 = .ok (.iadd, 1) := by decide +kernel
theorem dX10_direct_82 : decode cX10_direct 82 = .ok (.ireturn, 1) := by decide +kernel
set_option maxHeartbeats 4000000 in
set_option maxRecDepth 20000 in
theorem c_X10_direct (l : Launch) (b : Nat) (D : va_G) (cy : Nat → ClassId) {tt : Nat} {M : xMm} {c i : Nat} (hC : IC M) (hI : IR M) (hc : pCh M c) (hi : xTr i) : xC l b D cy yX10_direct cX10_direct 6 (some .int) ({ frames := 2, cells := 0, slots := 0, locals := 48 }) [xr 63, xr c, xr i] 209 M (RS tt) (xPi 209 (RS tt) (fun r M' => M' = M ∧ inR r)) := by
  refine x_met (by decide) (Nat.le_of_ble_eq_true rfl) (fun g hg hr he => ?_)
  have hst := hI.2 i hi
  obtain ⟨-, hc1, hc2⟩ := id hc
  refine x_canon (ls' := [(0, _), (1, _), (2, _)]) rfl ?_
  refine x_aload_n hg dX10_direct_0 rfl ?_
  refine x_aload_n hg dX10_direct_1 rfl ?_
  refine x_getI hg dX10_direct_2 fl_X10_28 hc.1 rfl ?_
  refine x_cVi hg he [_] [] dX10_direct_5 mv_X10_34 (c_X9_stopAt l b D cy hI hi (by omega)) (oO_train hi) rfl rfl (Nat.le_of_ble_eq_true rfl) (by decide) (by decide) (fun r5 M5 q5 => ?_)
  obtain ⟨h5, e5⟩ := q5
  replace h5 := h5.symm
  subst h5
  refine x_istore_n (ls' := [(0, _), (1, _), (2, _), (3, _)]) hg dX10_direct_8 rfl (by decide) rfl ?_
  refine x_aload_n hg dX10_direct_9 rfl ?_
  refine x_iconst hg dX10_direct_10 ?_
  refine x_cVi hg he [_] [] dX10_direct_11 mv_X10_34 (c_X9_stopAt l b D cy hI hi (by omega)) (oO_train hi) rfl rfl (Nat.le_of_ble_eq_true rfl) (by decide) (by decide) (fun r11 M11 q11 => ?_)
  obtain ⟨h11, e11⟩ := q11
  replace h11 := h11.symm
  subst h11
  refine x_istore (ls' := [(0, _), (1, _), (2, _), (3, _), (4, _)]) hg dX10_direct_14 (by decide) rfl ?_
  refine x_iload_n hg dX10_direct_16 rfl ?_
  refine x_iconst hg dX10_direct_17 ?_
  refine x_icmp_eq (tgt := 39) hg dX10_direct_18 (by decide) (by omega) (by omega) (fun c18 => ?_) (fun c18 => ?_)
  · skip
    refine x_iconst hg dX10_direct_39 ?_
    refine x_iret hg hr (Or.inl rfl) dX10_direct_40 (Nat.le_refl _) (Nat.le_refl _) ?_
    exact ⟨rfl, rfl, _, rfl, rfl, by omega⟩
  · skip
    refine x_iload hg dX10_direct_21 rfl ?_
    refine x_iload_n hg dX10_direct_23 rfl ?_
    refine x_icmp_le (tgt := 39) hg dX10_direct_24 (by decide) (by omega) (by omega) (fun c24 => ?_) (fun c24 => ?_)
    · skip
      refine x_iconst hg dX10_direct_39 ?_
      refine x_iret hg hr (Or.inl rfl) dX10_direct_40 (Nat.le_refl _) (Nat.le_refl _) ?_
      exact ⟨rfl, rfl, _, rfl, rfl, by omega⟩
    · skip
      refine x_aload_n hg dX10_direct_27 rfl ?_
      refine x_iload_n hg dX10_direct_28 rfl ?_
      refine x_cVi hg he [_] [] dX10_direct_29 mv_X10_40 (c_X9_minuteOf l b D cy hI hi (by omega)) (oO_train hi) rfl rfl (Nat.le_of_ble_eq_true rfl) (by decide) (by decide) (fun r29 M29 q29 => ?_)
      obtain ⟨h29, e29⟩ := q29
      replace h29 := h29.symm
      subst h29
      refine x_aload_n hg dX10_direct_32 rfl ?_
      refine x_getI hg dX10_direct_33 fl_X10_43 hc.1 rfl ?_
      refine x_icmp_ge (tgt := 41) hg dX10_direct_36 (by decide) (by omega) (by omega) (fun c36 => ?_) (fun c36 => ?_)
      · skip
        refine x_aload_n hg dX10_direct_41 rfl ?_
        refine x_iload_n hg dX10_direct_42 rfl ?_
        refine x_cVi hg he [_] [] dX10_direct_43 mv_X10_40 (c_X9_minuteOf l b D cy hI hi (by omega)) (oO_train hi) rfl rfl (Nat.le_of_ble_eq_true rfl) (by decide) (by decide) (fun r43 M43 q43 => ?_)
        obtain ⟨h43, e43⟩ := q43
        replace h43 := h43.symm
        subst h43
        refine x_istore (ls' := [(0, _), (1, _), (2, _), (3, _), (4, _), (5, _)]) hg dX10_direct_46 (by decide) rfl ?_
        refine x_aload_n hg dX10_direct_48 rfl ?_
        refine x_getR (j9 := 57) hg dX10_direct_49 fl_X10_24 (by decide) rfl rfl (by decide) ?_
        refine x_aload_n hg dX10_direct_52 rfl ?_
        refine x_getI hg dX10_direct_53 fl_X10_43 hc.1 rfl ?_
        refine x_iload hg dX10_direct_56 rfl ?_
        refine x_aload_n hg dX10_direct_58 rfl ?_
        refine x_getI hg dX10_direct_59 fl_X10_28 hc.1 rfl ?_
        refine x_cVi hg he [_, _, _] [] dX10_direct_62 mv_X10_46 (c_X2_between l b D cy hC (by omega) (by omega) (by omega)) (by decide) rfl rfl (Nat.le_of_ble_eq_true rfl) (by decide) (by decide) (fun r62 M62 q62 => ?_)
        obtain ⟨h62, e62⟩ := q62
        replace h62 := h62.symm
        subst h62
        refine x_aload_n hg dX10_direct_65 rfl ?_
        refine x_getR (j9 := 57) hg dX10_direct_66 fl_X10_24 (by decide) rfl rfl (by decide) ?_
        refine x_iload hg dX10_direct_69 rfl ?_
        refine x_aload_n hg dX10_direct_71 rfl ?_
        refine x_iload hg dX10_direct_72 rfl ?_
        refine x_cVi hg he [_] [_, _, _] dX10_direct_74 mv_X10_40 (c_X9_minuteOf l b D cy hI hi (by omega)) (oO_train hi) rfl rfl (Nat.le_of_ble_eq_true rfl) (by decide) (by decide) (fun r74 M74 q74 => ?_)
        obtain ⟨h74, e74⟩ := q74
        replace h74 := h74.symm
        subst h74
        refine x_iconst hg dX10_direct_77 ?_
        refine x_cVi hg he [_, _, _] [_] dX10_direct_78 mv_X10_46 (c_X2_between l b D cy hC (by omega) (by omega) (by omega)) (by decide) rfl rfl (Nat.le_of_ble_eq_true rfl) (by decide) (by decide) (fun r78 M78 q78 => ?_)
        obtain ⟨h78, e78⟩ := q78
        replace h78 := h78.symm
        subst h78
        refine x_iadd hg dX10_direct_81 ?_
        refine x_iret hg hr (Or.inl rfl) dX10_direct_82 (Nat.le_refl _) (Nat.le_refl _) ?_
        exact ⟨rfl, rfl, _, rfl, rfl, by omega⟩
      · skip
        refine x_iconst hg dX10_direct_39 ?_
        refine x_iret hg hr (Or.inl rfl) dX10_direct_40 (Nat.le_refl _) (Nat.le_refl _) ?_
        exact ⟨rfl, rfl, _, rfl, rfl, by omega⟩

theorem dX10_insertByMinute_0 : decode cX10_insertByMinute 0 = .ok (.aload_n 0, 1) := by decide +kernel
theorem dX10_insertByMinute_1 : decode cX10_insertByMinute 1 = .ok (.getfield 65, 3) := by decide +kernel
theorem dX10_insertByMinute_4 : decode cX10_insertByMinute 4 = .ok (.bipush 64, 2) := by decide +kernel
theorem dX10_insertByMinute_6 : decode cX10_insertByMinute 6 = .ok (.if_icmp .lt 4, 3) := by decide +kernel
theorem dX10_insertByMinute_9 : decode cX10_insertByMinute 9 = .ok (.return_, 1) := by decide +kernel
theorem dX10_insertByMinute_10 : decode cX10_insertByMinute 10 = .ok (.aload_n 0, 1) := by decide +kernel
theorem dX10_insertByMinute_11 : decode cX10_insertByMinute 11 = .ok (.getfield 65, 3) := by decide +kernel
theorem dX10_insertByMinute_14 : decode cX10_insertByMinute 14 = .ok (.istore_n 2, 1) := by decide +kernel
theorem dX10_insertByMinute_15 : decode cX10_insertByMinute 15 = .ok (.iload_n 2, 1) := by decide +kernel
theorem dX10_insertByMinute_16 : decode cX10_insertByMinute 16 = .ok (.ifCond .le 45, 3) := by decide +kernel
theorem dX10_insertByMinute_19 : decode cX10_insertByMinute 19 = .ok (.aload_n 0, 1) := by decide +kernel
theorem dX10_insertByMinute_20 : decode cX10_insertByMinute 20 = .ok (.getfield 15, 3) := by decide +kernel
theorem dX10_insertByMinute_23 : decode cX10_insertByMinute 23 = .ok (.aload_n 0, 1) := by decide +kernel
theorem dX10_insertByMinute_24 : decode cX10_insertByMinute 24 = .ok (.getfield 21, 3) := by decide +kernel
theorem dX10_insertByMinute_27 : decode cX10_insertByMinute 27 = .ok (.iload_n 2, 1) := by decide +kernel
theorem dX10_insertByMinute_28 : decode cX10_insertByMinute 28 = .ok (.iconst 1, 1) := by decide +kernel
theorem dX10_insertByMinute_29 : decode cX10_insertByMinute 29 = .ok (.isub, 1) := by decide +kernel
theorem dX10_insertByMinute_30 : decode cX10_insertByMinute 30 = .ok (.iaload, 1) := by decide +kernel
theorem dX10_insertByMinute_31 : decode cX10_insertByMinute 31 = .ok (.iaload, 1) := by decide +kernel
theorem dX10_insertByMinute_32 : decode cX10_insertByMinute 32 = .ok (.aload_n 0, 1) := by decide +kernel
theorem dX10_insertByMinute_33 : decode cX10_insertByMinute 33 = .ok (.getfield 15, 3) := by decide +kernel
theorem dX10_insertByMinute_36 : decode cX10_insertByMinute 36 = .ok (.iload_n 1, 1) := by decide +kernel
theorem dX10_insertByMinute_37 : decode cX10_insertByMinute 37 = .ok (.iaload, 1) := by decide +kernel
theorem dX10_insertByMinute_38 : decode cX10_insertByMinute 38 = .ok (.if_icmp .le 23, 3) := by decide +kernel
theorem dX10_insertByMinute_41 : decode cX10_insertByMinute 41 = .ok (.aload_n 0, 1) := by decide +kernel
theorem dX10_insertByMinute_42 : decode cX10_insertByMinute 42 = .ok (.getfield 21, 3) := by decide +kernel
theorem dX10_insertByMinute_45 : decode cX10_insertByMinute 45 = .ok (.iload_n 2, 1) := by decide +kernel
theorem dX10_insertByMinute_46 : decode cX10_insertByMinute 46 = .ok (.aload_n 0, 1) := by decide +kernel
theorem dX10_insertByMinute_47 : decode cX10_insertByMinute 47 = .ok (.getfield 21, 3) := by decide +kernel
theorem dX10_insertByMinute_50 : decode cX10_insertByMinute 50 = .ok (.iload_n 2, 1) := by decide +kernel
theorem dX10_insertByMinute_51 : decode cX10_insertByMinute 51 = .ok (.iconst 1, 1) := by decide +kernel
theorem dX10_insertByMinute_52 : decode cX10_insertByMinute 52 = .ok (.isub, 1) := by decide +kernel
theorem dX10_insertByMinute_53 : decode cX10_insertByMinute 53 = .ok (.iaload, 1) := by decide +kernel
theorem dX10_insertByMinute_54 : decode cX10_insertByMinute 54 = .ok (.iastore, 1) := by decide +kernel
theorem dX10_insertByMinute_55 : decode cX10_insertByMinute 55 = .ok (.iinc 2 (-1), 3) := by decide +kernel
theorem dX10_insertByMinute_58 : decode cX10_insertByMinute 58 = .ok (.goto (-43), 3) := by decide +kernel
theorem dX10_insertByMinute_61 : decode cX10_insertByMinute 61 = .ok (.aload_n 0, 1) := by decide +kernel
theorem dX10_insertByMinute_62 : decode cX10_insertByMinute 62 = .ok (.getfield 21, 3) := by decide +kernel
theorem dX10_insertByMinute_65 : decode cX10_insertByMinute 65 = .ok (.iload_n 2, 1) := by decide +kernel
theorem dX10_insertByMinute_66 : decode cX10_insertByMinute 66 = .ok (.iload_n 1, 1) := by decide +kernel
theorem dX10_insertByMinute_67 : decode cX10_insertByMinute 67 = .ok (.iastore, 1) := by decide +kernel
theorem dX10_insertByMinute_68 : decode cX10_insertByMinute 68 = .ok (.aload_n 0, 1) := by decide +kernel
theorem dX10_insertByMinute_69 : decode cX10_insertByMinute 69 = .ok (.dup, 1) := by decide +kernel
theorem dX10_insertByMinute_70 : decode cX10_insertByMinute 70 = .ok (.getfield 65, 3) := by decide +kernel
theorem dX10_insertByMinute_73 : decode cX10_insertByMinute 73 = .ok (.iconst 1, 1) := by decide +kernel
theorem dX10_insertByMinute_74 : decode cX10_insertByMinute 74 = .ok (.iadd, 1) := by decide +kernel
theorem dX10_insertByMinute_75 : decode cX10_insertByMinute 75 = .ok (.putfield 65, 3) := by decide +kernel
theorem dX10_insertByMinute_78 : decode cX10_insertByMinute 78 = .ok (.return_, 1) := by decide +kernel
set_option maxHeartbeats 4000000 in
set_option maxRecDepth 20000 in
theorem c_X10_insertByMinute (l : Launch) (b : Nat) (D : va_G) (cy : Nat → ClassId) {tt : Nat} {M0 : xMm} {z : Int} (hW : IW M0) (hz : 0 ≤ z ∧ z ≤ 63) : xC l b D cy yX10_insertByMinute cX10_insertByMinute 3 none ({ frames := 0, cells := 0, slots := 0, locals := 0 }) [xr 63, xi z] 209 M0 (RS tt) (xPv 209 (RS tt) (fun M' => IW M' ∧ frW M' M0)) := by
  refine x_met (by decide) (Nat.le_of_ble_eq_true rfl) (fun g hg hr he => ?_)
  obtain ⟨hv1, hv2⟩ := id hW
  refine x_canon (ls' := [(0, _), (1, _)]) rfl ?_
  have loop : ∀ (n1 : Nat) (M : xMm) (j : Int), 0 ≤ j → j < 64 → j < n1 → IW M → frW M M0 → M 63 5 < 64 → xW g 209 M (RS tt) 0 0 15 [(0, xr 63), (1, xi z), (2, xi j)] [] := by
    intro n1
    induction n1 with
    | zero => intro M j h1 h2 h3; exact absurd h3 (by omega)
    | succ n1 ih =>
      intro M j hj1 hj2 hj3 hW hf h5
      obtain ⟨hw1, hw2⟩ := id hW
      have hz2 := hw2 z.toNat (by omega)
      refine x_iload_n hg dX10_insertByMinute_15 rfl ?_
      refine x_if_le (tgt := 61) hg dX10_insertByMinute_16 (by decide) (by omega) (fun c16 => ?_) (fun c16 => ?_)
      · skip
        refine x_aload_n hg dX10_insertByMinute_61 rfl ?_
        refine x_getR (j9 := 67) hg dX10_insertByMinute_62 fl_X10_21 (by decide) rfl rfl (by decide) ?_
        refine x_iload_n hg dX10_insertByMinute_65 rfl ?_
        refine x_iload_n hg dX10_insertByMinute_66 rfl ?_
        refine x_iastore (len := 64) hg dX10_insertByMinute_67 (by decide) (by omega)  ?_
        refine x_aload_n hg dX10_insertByMinute_68 rfl ?_
        refine x_dup hg dX10_insertByMinute_69 rfl ?_
        refine x_getI hg dX10_insertByMinute_70 fl_X10_65 (by decide) rfl ?_
        try simp (disch := omega) only [mu_s, mu_nf, mu_nc]
        refine x_iconst hg dX10_insertByMinute_73 ?_
        refine x_iadd hg dX10_insertByMinute_74 ?_
        refine x_putI hg dX10_insertByMinute_75 fl_X10_65 ft_10_5 (by decide) rfl ?_
        refine x_vret hg hr dX10_insertByMinute_78 (Nat.le_refl _) (Nat.le_refl _) ?_
        refine ⟨rfl, rfl, rfl, IW_f (IW_a hW (Or.inr (Or.inr (Or.inr ⟨rfl, by omega⟩)))) (Or.inl ⟨rfl, by omega⟩), frW_mu (frW_mu hf (by decide)) (by decide)⟩
      · skip
        refine x_aload_n hg dX10_insertByMinute_19 rfl ?_
        refine x_getR (j9 := 65) hg dX10_insertByMinute_20 fl_X10_15 (by decide) rfl rfl (by decide) ?_
        refine x_aload_n hg dX10_insertByMinute_23 rfl ?_
        refine x_getR (j9 := 67) hg dX10_insertByMinute_24 fl_X10_21 (by decide) rfl rfl (by decide) ?_
        refine x_iload_n hg dX10_insertByMinute_27 rfl ?_
        refine x_iconst hg dX10_insertByMinute_28 ?_
        refine x_isub hg dX10_insertByMinute_29 ?_
        refine x_iaload (len := 64) hg dX10_insertByMinute_30 (by decide) (by omega) ?_
        refine x_iaload (len := 64) hg dX10_insertByMinute_31 (by decide) (by have h1 := hw2 (j - 1).toNat (by omega); omega) ?_
        refine x_aload_n hg dX10_insertByMinute_32 rfl ?_
        refine x_getR (j9 := 65) hg dX10_insertByMinute_33 fl_X10_15 (by decide) rfl rfl (by decide) ?_
        refine x_iload_n hg dX10_insertByMinute_36 rfl ?_
        refine x_iaload (len := 64) hg dX10_insertByMinute_37 (by decide) (by omega) ?_
        refine x_icmp_le (tgt := 61) hg dX10_insertByMinute_38 (by decide) (by have h1 := hw2 (j - 1).toNat (by omega); have h2 := hw2 (M 67 (j - 1).toNat).toNat (by omega); omega) (by omega) (fun c38 => ?_) (fun c38 => ?_)
        · skip
          refine x_aload_n hg dX10_insertByMinute_61 rfl ?_
          refine x_getR (j9 := 67) hg dX10_insertByMinute_62 fl_X10_21 (by decide) rfl rfl (by decide) ?_
          refine x_iload_n hg dX10_insertByMinute_65 rfl ?_
          refine x_iload_n hg dX10_insertByMinute_66 rfl ?_
          refine x_iastore (len := 64) hg dX10_insertByMinute_67 (by decide) (by omega)  ?_
          refine x_aload_n hg dX10_insertByMinute_68 rfl ?_
          refine x_dup hg dX10_insertByMinute_69 rfl ?_
          refine x_getI hg dX10_insertByMinute_70 fl_X10_65 (by decide) rfl ?_
          try simp (disch := omega) only [mu_s, mu_nf, mu_nc]
          refine x_iconst hg dX10_insertByMinute_73 ?_
          refine x_iadd hg dX10_insertByMinute_74 ?_
          refine x_putI hg dX10_insertByMinute_75 fl_X10_65 ft_10_5 (by decide) rfl ?_
          refine x_vret hg hr dX10_insertByMinute_78 (Nat.le_refl _) (Nat.le_refl _) ?_
          refine ⟨rfl, rfl, rfl, IW_f (IW_a hW (Or.inr (Or.inr (Or.inr ⟨rfl, by omega⟩)))) (Or.inl ⟨rfl, by omega⟩), frW_mu (frW_mu hf (by decide)) (by decide)⟩
        · skip
          refine x_aload_n hg dX10_insertByMinute_41 rfl ?_
          refine x_getR (j9 := 67) hg dX10_insertByMinute_42 fl_X10_21 (by decide) rfl rfl (by decide) ?_
          refine x_iload_n hg dX10_insertByMinute_45 rfl ?_
          refine x_aload_n hg dX10_insertByMinute_46 rfl ?_
          refine x_getR (j9 := 67) hg dX10_insertByMinute_47 fl_X10_21 (by decide) rfl rfl (by decide) ?_
          refine x_iload_n hg dX10_insertByMinute_50 rfl ?_
          refine x_iconst hg dX10_insertByMinute_51 ?_
          refine x_isub hg dX10_insertByMinute_52 ?_
          refine x_iaload (len := 64) hg dX10_insertByMinute_53 (by decide) (by omega) ?_
          refine x_iastore (len := 64) hg dX10_insertByMinute_54 (by decide) (by omega)  ?_
          refine x_iinc (ls' := [(0, _), (1, _), (2, _)]) hg dX10_insertByMinute_55 rfl (by decide) rfl ?_
          refine x_goto (tgt := 15) hg dX10_insertByMinute_58 (by decide) ?_
          have h1 := hw2 (j - 1).toNat (by omega)
          exact ih _ _ (by omega) (by omega) (by omega) (IW_a hW (Or.inr (Or.inr (Or.inr ⟨rfl, by omega⟩)))) (frW_mu hf (by decide)) (by rw [mu_nc (by decide)]; exact h5)
  refine x_aload_n hg dX10_insertByMinute_0 rfl ?_
  refine x_getI hg dX10_insertByMinute_1 fl_X10_65 (by decide) rfl ?_
  refine x_bipush hg dX10_insertByMinute_4 (by decide) ?_
  refine x_icmp_lt (tgt := 10) hg dX10_insertByMinute_6 (by decide) (by omega) (by omega) (fun c6 => ?_) (fun c6 => ?_)
  · skip
    refine x_aload_n hg dX10_insertByMinute_10 rfl ?_
    refine x_getI hg dX10_insertByMinute_11 fl_X10_65 (by decide) rfl ?_
    refine x_istore_n (ls' := [(0, _), (1, _), (2, _)]) hg dX10_insertByMinute_14 rfl (by decide) rfl ?_
    exact loop 65 M0 _ (by omega) (by omega) (by omega) hW (fun a _ => rfl) (by omega)
  · skip
    refine x_vret hg hr dX10_insertByMinute_9 (Nat.le_refl _) (Nat.le_refl _) ?_
    exact ⟨rfl, rfl, rfl, hW, fun a _ => rfl⟩

theorem dX10_gatherStops_0 : decode cX10_gatherStops 0 = .ok (.aload_n 0, 1) := by decide +kernel
theorem dX10_gatherStops_1 : decode cX10_gatherStops 1 = .ok (.iconst 0, 1) := by decide +kernel
theorem dX10_gatherStops_2 : decode cX10_gatherStops 2 = .ok (.putfield 65, 3) := by decide +kernel
theorem dX10_gatherStops_5 : decode cX10_gatherStops 5 = .ok (.iconst 0, 1) := by decide +kernel
theorem dX10_gatherStops_6 : decode cX10_gatherStops 6 = .ok (.istore_n 2, 1) := by decide +kernel
theorem dX10_gatherStops_7 : decode cX10_gatherStops 7 = .ok (.iload_n 2, 1) := by decide +kernel
theorem dX10_gatherStops_8 : decode cX10_gatherStops 8 = .ok (.aload_n 1, 1) := by decide +kernel
theorem dX10_gatherStops_9 : decode cX10_gatherStops 9 = .ok (.getfield 77, 3) := by decide +kernel
theorem dX10_gatherStops_12 : decode cX10_gatherStops 12 = .ok (.if_icmp .ge 75, 3) := by decide +kernel
theorem dX10_gatherStops_15 : decode cX10_gatherStops 15 = .ok (.aload_n 1, 1) := by decide +kernel
theorem dX10_gatherStops_16 : decode cX10_gatherStops 16 = .ok (.getfield 80, 3) := by decide +kernel
theorem dX10_gatherStops_19 : decode cX10_gatherStops 19 = .ok (.iload_n 2, 1) := by decide +kernel
theorem dX10_gatherStops_20 : decode cX10_gatherStops 20 = .ok (.aaload, 1) := by decide +kernel
theorem dX10_gatherStops_21 : decode cX10_gatherStops 21 = .ok (.astore_n 3, 1) := by decide +kernel
theorem dX10_gatherStops_22 : decode cX10_gatherStops 22 = .ok (.iconst 0, 1) := by decide +kernel
theorem dX10_gatherStops_23 : decode cX10_gatherStops 23 = .ok (.istore 4, 2) := by decide +kernel
theorem dX10_gatherStops_25 : decode cX10_gatherStops 25 = .ok (.iload 4, 2) := by decide +kernel
theorem dX10_gatherStops_27 : decode cX10_gatherStops 27 = .ok (.aload_n 3, 1) := by decide +kernel
theorem dX10_gatherStops_28 : decode cX10_gatherStops 28 = .ok (.getfield 84, 3) := by decide +kernel
theorem dX10_gatherStops_31 : decode cX10_gatherStops 31 = .ok (.if_icmp .ge 50, 3) := by decide +kernel
theorem dX10_gatherStops_34 : decode cX10_gatherStops 34 = .ok (.iload_n 2, 1) := by decide +kernel
theorem dX10_gatherStops_35 : decode cX10_gatherStops 35 = .ok (.bipush 8, 2) := by decide +kernel
theorem dX10_gatherStops_37 : decode cX10_gatherStops 37 = .ok (.imul, 1) := by decide +kernel
theorem dX10_gatherStops_38 : decode cX10_gatherStops 38 = .ok (.iload 4, 2) := by decide +kernel
theorem dX10_gatherStops_40 : decode cX10_gatherStops 40 = .ok (.iadd, 1) := by decide +kernel
theorem dX10_gatherStops_41 : decode cX10_gatherStops 41 = .ok (.istore 5, 2) := by decide +kernel
theorem dX10_gatherStops_43 : decode cX10_gatherStops 43 = .ok (.aload_n 0, 1) := by decide +kernel
theorem dX10_gatherStops_44 : decode cX10_gatherStops 44 = .ok (.getfield 11, 3) := by decide +kernel
theorem dX10_gatherStops_47 : decode cX10_gatherStops 47 = .ok (.iload 5, 2) := by decide +kernel
theorem dX10_gatherStops_49 : decode cX10_gatherStops 49 = .ok (.aload_n 3, 1) := by decide +kernel
theorem dX10_gatherStops_50 : decode cX10_gatherStops 50 = .ok (.iload 4, 2) := by decide +kernel
theorem dX10_gatherStops_52 : decode cX10_gatherStops 52 = .ok (.invokevirtual 87, 3) := by decide +kernel
theorem dX10_gatherStops_55 : decode cX10_gatherStops 55 = .ok (.iastore, 1) := by decide +kernel
theorem dX10_gatherStops_56 : decode cX10_gatherStops 56 = .ok (.aload_n 0, 1) := by decide +kernel
theorem dX10_gatherStops_57 : decode cX10_gatherStops 57 = .ok (.getfield 15, 3) := by decide +kernel
theorem dX10_gatherStops_60 : decode cX10_gatherStops 60 = .ok (.iload 5, 2) := by decide +kernel
theorem dX10_gatherStops_62 : decode cX10_gatherStops 62 = .ok (.aload_n 3, 1) := by decide +kernel
theorem dX10_gatherStops_63 : decode cX10_gatherStops 63 = .ok (.iload 4, 2) := by decide +kernel
theorem dX10_gatherStops_65 : decode cX10_gatherStops 65 = .ok (.invokevirtual 40, 3) := by decide +kernel
theorem dX10_gatherStops_68 : decode cX10_gatherStops 68 = .ok (.iastore, 1) := by decide +kernel
theorem dX10_gatherStops_69 : decode cX10_gatherStops 69 = .ok (.aload_n 0, 1) := by decide +kernel
theorem dX10_gatherStops_70 : decode cX10_gatherStops 70 = .ok (.iload 5, 2) := by decide +kernel
theorem dX10_gatherStops_72 : decode cX10_gatherStops 72 = .ok (.invokevirtual 90, 3) := by decide +kernel
theorem dX10_gatherStops_75 : decode cX10_gatherStops 75 = .ok (.iinc 4 1, 3) := by decide +kernel
theorem dX10_gatherStops_78 : decode cX10_gatherStops 78 = .ok (.goto (-53), 3) := by decide +kernel
theorem dX10_gatherStops_81 : decode cX10_gatherStops 81 = .ok (.iinc 2 1, 3) := by decide +kernel
theorem dX10_gatherStops_84 : decode cX10_gatherStops 84 = .ok (.goto (-77), 3) := by decide +kernel
theorem dX10_gatherStops_87 : decode cX10_gatherStops 87 = .ok (.return_, 1) := by decide +kernel
set_option maxHeartbeats 4000000 in
set_option maxRecDepth 20000 in
theorem c_X10_gatherStops (l : Launch) (b : Nat) (D : va_G) (cy : Nat → ClassId) {tt : Nat} {M0 : xMm} {q : Nat} (hW : IW M0) (hI : IR M0) (hq : xTt q) : xC l b D cy yX10_gatherStops cX10_gatherStops 6 none ({ frames := 1, cells := 0, slots := 0, locals := 22 }) [xr 63, xr q] 209 M0 (RS tt) (xPv 209 (RS tt) (fun M' => IW M' ∧ frW M' M0)) := by
  refine x_met (by decide) (Nat.le_of_ble_eq_true rfl) (fun g hg hr he => ?_)
  have hq1 := hI.1 q hq
  refine x_canon (ls' := [(0, _), (1, _)]) rfl ?_
  have inner : ∀ (t : Nat) (ht : xTr t) (j : Int) (hj : 0 ≤ j ∧ j < 8) (cont : ∀ M, IW M → frW M M0 → xW g 209 M (RS tt) 0 0 81 [(0, xr 63), (1, xr q), (2, xi j)] []) (n1 : Nat) (M : xMm) (i : Int), 0 ≤ i → i ≤ M0 t 3 → M0 t 3 - i < n1 → IW M → frW M M0 → xW g 209 M (RS tt) 0 0 25 [(0, xr 63), (1, xr q), (2, xi j), (3, xr t), (4, xi i)] [] := by
    intro t ht j hj cont n1
    induction n1 with
    | zero => intro M i h1 h2 h3; exact absurd h3 (by omega)
    | succ n1 ih =>
      intro M i hi1 hi2 hi3 hW hf
      have hI1 : IR M := IR_W hf hI
      have ht3 := ((hI.2 t ht).1).2.2.1
      have et : M t = M0 t := hf t (by omega)
      have et3 : M t 3 = M0 t 3 := by rw [et]
      refine x_iload hg dX10_gatherStops_25 rfl ?_
      refine x_aload_n hg dX10_gatherStops_27 rfl ?_
      refine x_getI hg dX10_gatherStops_28 fl_X10_84 (oO_train ht) rfl ?_
      refine x_icmp_ge (tgt := 81) hg dX10_gatherStops_31 (by decide) (by omega) (by omega) (fun c31 => ?_) (fun c31 => ?_)
      · skip
        refine x_canon (ls' := [(0, _), (1, _), (2, _)]) rfl ?_
        exact cont M hW hf
      · skip
        refine x_iload_n hg dX10_gatherStops_34 rfl ?_
        refine x_bipush hg dX10_gatherStops_35 (by decide) ?_
        refine x_imul hg dX10_gatherStops_37 ?_
        refine x_iload hg dX10_gatherStops_38 rfl ?_
        refine x_iadd hg dX10_gatherStops_40 ?_
        refine x_istore (ls' := [(0, _), (1, _), (2, _), (3, _), (4, _), (5, _)]) hg dX10_gatherStops_41 (by decide) rfl ?_
        refine x_aload_n hg dX10_gatherStops_43 rfl ?_
        refine x_getR (j9 := 64) hg dX10_gatherStops_44 fl_X10_11 (by decide) rfl rfl (by decide) ?_
        refine x_iload hg dX10_gatherStops_47 rfl ?_
        refine x_aload_n hg dX10_gatherStops_49 rfl ?_
        refine x_iload hg dX10_gatherStops_50 rfl ?_
        refine x_cVi hg he [_] [_, _] dX10_gatherStops_52 mv_X10_87 (c_X9_stationOf l b D cy hI1 ht (by omega)) (oO_train ht) rfl rfl (Nat.le_of_ble_eq_true rfl) (by decide) (by decide) (fun r52 M52 q52 => ?_)
        obtain ⟨h52, e52⟩ := q52
        replace h52 := h52.symm
        subst h52
        refine x_iastore (len := 64) hg dX10_gatherStops_55 (by decide) (by omega)  ?_
        refine x_aload_n hg dX10_gatherStops_56 rfl ?_
        refine x_getR (j9 := 65) hg dX10_gatherStops_57 fl_X10_15 (by decide) rfl rfl (by decide) ?_
        refine x_iload hg dX10_gatherStops_60 rfl ?_
        refine x_aload_n hg dX10_gatherStops_62 rfl ?_
        refine x_iload hg dX10_gatherStops_63 rfl ?_
        refine x_cVi hg he [_] [_, _] dX10_gatherStops_65 mv_X10_40 (c_X9_minuteOf l b D cy (IR_W (frW_mu hf (by decide)) hI) ht (by omega)) (oO_train ht) rfl rfl (Nat.le_of_ble_eq_true rfl) (by decide) (by decide) (fun r65 M65 q65 => ?_)
        obtain ⟨h65, e65⟩ := q65
        replace h65 := h65.symm
        subst h65
        rw [mu_nc (show t ≠ 64 by omega)] at e65
        refine x_iastore (len := 64) hg dX10_gatherStops_68 (by decide) (by omega)  ?_
        refine x_aload_n hg dX10_gatherStops_69 rfl ?_
        refine x_iload hg dX10_gatherStops_70 rfl ?_
        refine x_cVv hg he [_] [] dX10_gatherStops_72 mv_X10_90 (c_X10_insertByMinute l b D cy (IW_a (IW_a hW (Or.inl ⟨rfl, by omega⟩)) (Or.inr (Or.inl ⟨rfl, by omega⟩))) (by omega)) (by decide) rfl rfl (Nat.le_of_ble_eq_true rfl) (by decide) (by decide) (fun M72 q72 => ?_)
        obtain ⟨hW72, hf72⟩ := q72
        refine x_iinc (ls' := [(0, _), (1, _), (2, _), (3, _), (4, _), (5, _)]) hg dX10_gatherStops_75 rfl (by decide) rfl ?_
        refine x_goto (tgt := 25) hg dX10_gatherStops_78 (by decide) ?_
        refine x_canon (ls' := [(0, _), (1, _), (2, _), (3, _), (4, _)]) rfl ?_
        exact ih M72 (i + 1) (by omega) (by omega) (by omega) hW72 (fun a ha => by rw [hf72 a ha]; exact frW_mu (frW_mu hf (by decide)) (by decide) a ha)
  have outer : ∀ (n1 : Nat) (M : xMm) (j : Int), 0 ≤ j → j ≤ M0 q 1 → M0 q 1 - j < n1 → IW M → frW M M0 → xW g 209 M (RS tt) 0 0 7 [(0, xr 63), (1, xr q), (2, xi j)] [] := by
    intro n1
    induction n1 with
    | zero => intro M j h1 h2 h3; exact absurd h3 (by omega)
    | succ n1 ih =>
      intro M j hj1 hj2 hj3 hW hf
      have eq1 : M q 1 = M0 q 1 := by rw [hf q (by omega)]
      refine x_iload_n hg dX10_gatherStops_7 rfl ?_
      refine x_aload_n hg dX10_gatherStops_8 rfl ?_
      refine x_getI hg dX10_gatherStops_9 fl_X10_77 (oO_tt hq) rfl ?_
      refine x_icmp_ge (tgt := 87) hg dX10_gatherStops_12 (by decide) (by omega) (by omega) (fun c12 => ?_) (fun c12 => ?_)
      · skip
        refine x_vret hg hr dX10_gatherStops_87 (Nat.le_refl _) (Nat.le_refl _) ?_
        exact ⟨rfl, rfl, rfl, hW, hf⟩
      · skip
        refine x_aload_n hg dX10_gatherStops_15 rfl ?_
        refine x_getR hg dX10_gatherStops_16 fl_X10_80 (oO_tt hq) rfl (RS_tt hq) (by omega) ?_
        refine x_iload_n hg dX10_gatherStops_19 rfl ?_
        refine x_aaload (len := 8) (et := 4) hg dX10_gatherStops_20 (oA_tt hq) (by decide) (by omega) (RS_trn hq _) (by omega) ?_
        refine x_astore_n (ls' := [(0, _), (1, _), (2, _), (3, _)]) hg dX10_gatherStops_21 rfl (by decide) rfl ?_
        refine x_iconst hg dX10_gatherStops_22 ?_
        refine x_istore (ls' := [(0, _), (1, _), (2, _), (3, _), (4, _)]) hg dX10_gatherStops_23 (by decide) rfl ?_
        refine inner (q + 2 + 3 * j.toNat) (xTr_of hq (by omega)) j (by omega) (fun M1 hW1 hf1 => ?_) 9 M 0 (by omega) ((hI.2 _ (xTr_of hq (by omega))).1.2.2.1.1) (by have h8 := (hI.2 _ (xTr_of hq (show j.toNat < 8 by omega))).1.2.2.1; omega) hW hf
        refine x_iinc (ls' := [(0, _), (1, _), (2, _)]) hg dX10_gatherStops_81 rfl (by decide) rfl ?_
        refine x_goto (tgt := 7) hg dX10_gatherStops_84 (by decide) ?_
        exact ih _ _ (by omega) (by omega) (by omega) hW1 hf1
  refine x_aload_n hg dX10_gatherStops_0 rfl ?_
  refine x_iconst hg dX10_gatherStops_1 ?_
  refine x_putI hg dX10_gatherStops_2 fl_X10_65 ft_10_5 (by decide) rfl ?_
  refine x_iconst hg dX10_gatherStops_5 ?_
  refine x_istore_n (ls' := [(0, _), (1, _), (2, _)]) hg dX10_gatherStops_6 rfl (by decide) rfl ?_
  exact outer 9 _ 0 (by omega) (by omega) (by omega) (IW_f hW (Or.inl ⟨rfl, by decide, by decide⟩)) (frW_mu (fun a _ => rfl) (by decide))
end
section
theorem dX10_boardingCost_0 : decode cX10_boardingCost 0 = .ok (.aload_n 0, 1) := by decide +kernel
theorem dX10_boardingCost_1 : decode cX10_boardingCost 1 = .ok (.getfield 15, 3) := by decide +kernel
theorem dX10_boardingCost_4 : decode cX10_boardingCost 4 = .ok (.iload_n 1, 1) := by decide +kernel
theorem dX10_boardingCost_5 : decode cX10_boardingCost 5 = .ok (.iaload, 1) := by decide +kernel
theorem dX10_boardingCost_6 : decode cX10_boardingCost 6 = .ok (.istore 4, 2) := by decide +kernel
theorem dX10_boardingCost_8 : decode cX10_boardingCost 8 = .ok (.aload_n 0, 1) := by decide +kernel
theorem dX10_boardingCost_9 : decode cX10_boardingCost 9 = .ok (.getfield 11, 3) := by decide +kernel
theorem dX10_boardingCost_12 : decode cX10_boardingCost 12 = .ok (.iload_n 1, 1) := by decide +kernel
theorem dX10_boardingCost_13 : decode cX10_boardingCost 13 = .ok (.iaload, 1) := by decide +kernel
theorem dX10_boardingCost_14 : decode cX10_boardingCost 14 = .ok (.istore 5, 2) := by decide +kernel
theorem dX10_boardingCost_16 : decode cX10_boardingCost 16 = .ok (.aload_n 0, 1) := by decide +kernel
theorem dX10_boardingCost_17 : decode cX10_boardingCost 17 = .ok (.getfield 18, 3) := by decide +kernel
theorem dX10_boardingCost_20 : decode cX10_boardingCost 20 = .ok (.iload_n 1, 1) := by decide +kernel
theorem dX10_boardingCost_21 : decode cX10_boardingCost 21 = .ok (.iaload, 1) := by decide +kernel
theorem dX10_boardingCost_22 : decode cX10_boardingCost 22 = .ok (.istore 6, 2) := by decide +kernel
theorem dX10_boardingCost_24 : decode cX10_boardingCost 24 = .ok (.iload 5, 2) := by decide +kernel
theorem dX10_boardingCost_26 : decode cX10_boardingCost 26 = .ok (.aload_n 3, 1) := by decide +kernel
theorem dX10_boardingCost_27 : decode cX10_boardingCost 27 = .ok (.getfield 28, 3) := by decide +kernel
theorem dX10_boardingCost_30 : decode cX10_boardingCost 30 = .ok (.if_icmp .ne 43, 3) := by decide +kernel
theorem dX10_boardingCost_33 : decode cX10_boardingCost 33 = .ok (.iload 4, 2) := by decide +kernel
theorem dX10_boardingCost_35 : decode cX10_boardingCost 35 = .ok (.aload_n 3, 1) := by decide +kernel
theorem dX10_boardingCost_36 : decode cX10_boardingCost 36 = .ok (.getfield 43, 3) := by decide +kernel
theorem dX10_boardingCost_39 : decode cX10_boardingCost 39 = .ok (.if_icmp .lt 34, 3) := by decide +kernel
theorem dX10_boardingCost_42 : decode cX10_boardingCost 42 = .ok (.aload_n 0, 1) := by decide +kernel
theorem dX10_boardingCost_43 : decode cX10_boardingCost 43 = .ok (.getfield 24, 3) := by decide +kernel
theorem dX10_boardingCost_46 : decode cX10_boardingCost 46 = .ok (.aload_n 3, 1) := by decide +kernel
theorem dX10_boardingCost_47 : decode cX10_boardingCost 47 = .ok (.getfield 43, 3) := by decide +kernel
theorem dX10_boardingCost_50 : decode cX10_boardingCost 50 = .ok (.iload 4, 2) := by decide +kernel
theorem dX10_boardingCost_52 : decode cX10_boardingCost 52 = .ok (.iload 5, 2) := by decide +kernel
theorem dX10_boardingCost_54 : decode cX10_boardingCost 54 = .ok (.invokevirtual 46, 3) := by decide +kernel
theorem dX10_boardingCost_57 : decode cX10_boardingCost 57 = .ok (.istore 7, 2) := by decide +kernel
theorem dX10_boardingCost_59 : decode cX10_boardingCost 59 = .ok (.iload 6, 2) := by decide +kernel
theorem dX10_boardingCost_61 : decode cX10_boardingCost 61 = .ok (.bipush 100, 2) := by decide +kernel
theorem dX10_boardingCost_63 : decode cX10_boardingCost 63 = .ok (.iload 7, 2) := by decide +kernel
theorem dX10_boardingCost_65 : decode cX10_boardingCost 65 = .ok (.imul, 1) := by decide +kernel
theorem dX10_boardingCost_66 : decode cX10_boardingCost 66 = .ok (.iconst 1, 1) := by decide +kernel
theorem dX10_boardingCost_67 : decode cX10_boardingCost 67 = .ok (.iadd, 1) := by decide +kernel
theorem dX10_boardingCost_68 : decode cX10_boardingCost 68 = .ok (.invokestatic 97, 3) := by decide +kernel
theorem dX10_boardingCost_71 : decode cX10_boardingCost 71 = .ok (.istore 6, 2) := by decide +kernel
theorem dX10_boardingCost_73 : decode cX10_boardingCost 73 = .ok (.iconst 0, 1) := by decide +kernel
theorem dX10_boardingCost_74 : decode cX10_boardingCost 74 = .ok (.istore 7, 2) := by decide +kernel
theorem dX10_boardingCost_76 : decode cX10_boardingCost 76 = .ok (.iload 7, 2) := by decide +kernel
theorem dX10_boardingCost_78 : decode cX10_boardingCost 78 = .ok (.iload_n 2, 1) := by decide +kernel
theorem dX10_boardingCost_79 : decode cX10_boardingCost 79 = .ok (.if_icmp .ge 108, 3) := by decide +kernel
theorem dX10_boardingCost_82 : decode cX10_boardingCost 82 = .ok (.aload_n 0, 1) := by decide +kernel
theorem dX10_boardingCost_83 : decode cX10_boardingCost 83 = .ok (.getfield 21, 3) := by decide +kernel
theorem dX10_boardingCost_86 : decode cX10_boardingCost 86 = .ok (.iload 7, 2) := by decide +kernel
theorem dX10_boardingCost_88 : decode cX10_boardingCost 88 = .ok (.iaload, 1) := by decide +kernel
theorem dX10_boardingCost_89 : decode cX10_boardingCost 89 = .ok (.istore 8, 2) := by decide +kernel
theorem dX10_boardingCost_91 : decode cX10_boardingCost 91 = .ok (.aload_n 0, 1) := by decide +kernel
theorem dX10_boardingCost_92 : decode cX10_boardingCost 92 = .ok (.getfield 11, 3) := by decide +kernel
theorem dX10_boardingCost_95 : decode cX10_boardingCost 95 = .ok (.iload 8, 2) := by decide +kernel
theorem dX10_boardingCost_97 : decode cX10_boardingCost 97 = .ok (.iaload, 1) := by decide +kernel
theorem dX10_boardingCost_98 : decode cX10_boardingCost 98 = .ok (.iload 5, 2) := by decide +kernel
theorem dX10_boardingCost_100 : decode cX10_boardingCost 100 = .ok (.if_icmp .ne 19, 3) := by decide +kernel
theorem dX10_boardingCost_103 : decode cX10_boardingCost 103 = .ok (.aload_n 0, 1) := by decide +kernel
theorem dX10_boardingCost_104 : decode cX10_boardingCost 104 = .ok (.getfield 15, 3) := by decide +kernel
theorem dX10_boardingCost_107 : decode cX10_boardingCost 107 = .ok (.iload 8, 2) := by decide +kernel
theorem dX10_boardingCost_109 : decode cX10_boardingCost 109 = .ok (.iaload, 1) := by decide +kernel
theorem dX10_boardingCost_110 : decode cX10_boardingCost 110 = .ok (.iload 4, 2) := by decide +kernel
theorem dX10_boardingCost_112 : decode cX10_boardingCost 112 = .ok (.if_icmp .gt 7, 3) := by decide +kernel
theorem dX10_boardingCost_115 : decode cX10_boardingCost 115 = .ok (.iconst 1, 1) := by decide +kernel
theorem dX10_boardingCost_116 : decode cX10_boardingCost 116 = .ok (.goto 4, 3) := by decide +kernel
theorem dX10_boardingCost_119 : decode cX10_boardingCost 119 = .ok (.iconst 0, 1) := by decide +kernel
theorem dX10_boardingCost_120 : decode cX10_boardingCost 120 = .ok (.istore 9, 2) := by decide +kernel
theorem dX10_boardingCost_122 : decode cX10_boardingCost 122 = .ok (.iload 9, 2) := by decide +kernel
theorem dX10_boardingCost_124 : decode cX10_boardingCost 124 = .ok (.ifCond .eq 57, 3) := by decide +kernel
theorem dX10_boardingCost_127 : decode cX10_boardingCost 127 = .ok (.aload_n 0, 1) := by decide +kernel
theorem dX10_boardingCost_128 : decode cX10_boardingCost 128 = .ok (.getfield 18, 3) := by decide +kernel
theorem dX10_boardingCost_131 : decode cX10_boardingCost 131 = .ok (.iload 8, 2) := by decide +kernel
theorem dX10_boardingCost_133 : decode cX10_boardingCost 133 = .ok (.iaload, 1) := by decide +kernel
theorem dX10_boardingCost_134 : decode cX10_boardingCost 134 = .ok (.ldc 72, 2) := by decide +kernel
theorem dX10_boardingCost_136 : decode cX10_boardingCost 136 = .ok (.if_icmp .eq 45, 3) := by decide +kernel
theorem dX10_boardingCost_139 : decode cX10_boardingCost 139 = .ok (.aload_n 0, 1) := by decide +kernel
theorem dX10_boardingCost_140 : decode cX10_boardingCost 140 = .ok (.getfield 24, 3) := by decide +kernel
theorem dX10_boardingCost_143 : decode cX10_boardingCost 143 = .ok (.aload_n 0, 1) := by decide +kernel
theorem dX10_boardingCost_144 : decode cX10_boardingCost 144 = .ok (.getfield 15, 3) := by decide +kernel
theorem dX10_boardingCost_147 : decode cX10_boardingCost 147 = .ok (.iload 8, 2) := by decide +kernel
theorem dX10_boardingCost_149 : decode cX10_boardingCost 149 = .ok (.iaload, 1) := by decide +kernel
theorem dX10_boardingCost_150 : decode cX10_boardingCost 150 = .ok (.iload 4, 2) := by decide +kernel
theorem dX10_boardingCost_152 : decode cX10_boardingCost 152 = .ok (.iload 5, 2) := by decide +kernel
theorem dX10_boardingCost_154 : decode cX10_boardingCost 154 = .ok (.invokevirtual 46, 3) := by decide +kernel
theorem dX10_boardingCost_157 : decode cX10_boardingCost 157 = .ok (.istore 10, 2) := by decide +kernel
theorem dX10_boardingCost_159 : decode cX10_boardingCost 159 = .ok (.iload 6, 2) := by decide +kernel
theorem dX10_boardingCost_161 : decode cX10_boardingCost 161 = .ok (.aload_n 0, 1) := by decide +kernel
theorem dX10_boardingCost_162 : decode cX10_boardingCost 162 = .ok (.getfield 18, 3) := by decide +kernel
theorem dX10_boardingCost_165 : decode cX10_boardingCost 165 = .ok (.iload 8, 2) := by decide +kernel
theorem dX10_boardingCost_167 : decode cX10_boardingCost 167 = .ok (.iaload, 1) := by decide +kernel
theorem dX10_boardingCost_168 : decode cX10_boardingCost 168 = .ok (.bipush 100, 2) := by decide +kernel
theorem dX10_boardingCost_170 : decode cX10_boardingCost 170 = .ok (.iload 10, 2) := by decide +kernel
theorem dX10_boardingCost_172 : decode cX10_boardingCost 172 = .ok (.imul, 1) := by decide +kernel
theorem dX10_boardingCost_173 : decode cX10_boardingCost 173 = .ok (.iadd, 1) := by decide +kernel
theorem dX10_boardingCost_174 : decode cX10_boardingCost 174 = .ok (.iconst 1, 1) := by decide +kernel
theorem dX10_boardingCost_175 : decode cX10_boardingCost 175 = .ok (.iadd, 1) := by decide +kernel
theorem dX10_boardingCost_176 : decode cX10_boardingCost 176 = .ok (.invokestatic 97, 3) := by decide +kernel
theorem dX10_boardingCost_179 : decode cX10_boardingCost 179 = .ok (.istore 6, 2) := by decide +kernel
theorem dX10_boardingCost_181 : decode cX10_boardingCost 181 = .ok (.iinc 7 1, 3) := by decide +kernel
theorem dX10_boardingCost_184 : decode cX10_boardingCost 184 = .ok (.goto (-108), 3) := by decide +kernel
theorem dX10_boardingCost_187 : decode cX10_boardingCost 187 = .ok (.iload 6, 2) := by decide +kernel
theorem dX10_boardingCost_189 : decode cX10_boardingCost 189 = .ok (.ireturn, 1) := by decide +kernel
set_option maxHeartbeats 4000000 in
set_option maxRecDepth 20000 in
theorem c_X10_boardingCost (l : Launch) (b : Nat) (D : va_G) (cy : Nat → ClassId) {tt : Nat} {M : xMm} {z y : Int} {c : Nat} (hW : IW M) (hC : IC M) (hc : pCh M c) (hz : 0 ≤ z ∧ z ≤ 63) (hy : 0 ≤ y ∧ y ≤ 64) : xC l b D cy yX10_boardingCost cX10_boardingCost 11 (some .int) ({ frames := 2, cells := 0, slots := 0, locals := 48 }) [xr 63, xi z, xi y, xr c] 209 M (RS tt) (xPi 209 (RS tt) (fun r M' => M' = M ∧ inR r)) := by
  refine x_met (by decide) (Nat.le_of_ble_eq_true rfl) (fun g hg hr he => ?_)
  obtain ⟨hw1, hw2⟩ := id hW
  obtain ⟨-, hc1, hc2⟩ := id hc
  refine x_canon (ls' := [(0, _), (1, _), (2, _), (3, _)]) rfl ?_
  have loop : ∀ (n1 : Nat) (i a mi sa : Int), 0 ≤ i → i ≤ y → y - i < n1 → inR a → (0 ≤ mi ∧ mi ≤ 1739) → (-1 ≤ sa ∧ sa ≤ 9) → xW g 209 M (RS tt) 0 0 76 [(0, xr 63), (1, xi z), (2, xi y), (3, xr c), (4, xi mi), (5, xi sa), (6, xi a), (7, xi i)] [] := by
    intro n1
    induction n1 with
    | zero => intro i a mi sa h1 h2 h3; exact absurd h3 (by omega)
    | succ n1 ih =>
      intro i a mi sa hi1 hi2 hi3 ha hmi hsa
      have next : i < y → ∀ a2 : Int, inR a2 → xW g 209 M (RS tt) 0 0 181 [(0, xr 63), (1, xi z), (2, xi y), (3, xr c), (4, xi mi), (5, xi sa), (6, xi a2), (7, xi i)] [] := by
        intro hiy a2 ha2
        refine x_iinc (ls' := [(0, _), (1, _), (2, _), (3, _), (4, _), (5, _), (6, _), (7, _)]) hg dX10_boardingCost_181 rfl (by decide) rfl ?_
        refine x_goto (tgt := 76) hg dX10_boardingCost_184 (by decide) ?_
        exact ih _ _ _ _ (by omega) (by omega) (by omega) ha2 hmi hsa
      have j120 : i < y → ∀ p : Int, inR p → xW g 209 M (RS tt) 0 0 120 [(0, xr 63), (1, xi z), (2, xi y), (3, xr c), (4, xi mi), (5, xi sa), (6, xi a), (7, xi i), (8, xi (M 67 i.toNat))] [xi p] := by
        intro hiy p hp
        have h67 := hw2 i.toNat (by omega)
        have ho := hw2 (M 67 i.toNat).toNat (by omega)
        refine x_istore (ls' := [(0, _), (1, _), (2, _), (3, _), (4, _), (5, _), (6, _), (7, _), (8, _), (9, _)]) hg dX10_boardingCost_120 (by decide) rfl ?_
        refine x_iload hg dX10_boardingCost_122 rfl ?_
        refine x_if_eq (tgt := 181) hg dX10_boardingCost_124 (by decide) (by omega) (fun c124 => ?_) (fun c124 => ?_)
        · skip
          refine x_canon (ls' := [(0, _), (1, _), (2, _), (3, _), (4, _), (5, _), (6, _), (7, _)]) rfl ?_
          exact next hiy _ (by omega)
        · skip
          refine x_aload_n hg dX10_boardingCost_127 rfl ?_
          refine x_getR (j9 := 66) hg dX10_boardingCost_128 fl_X10_18 (by decide) rfl rfl (by decide) ?_
          refine x_iload hg dX10_boardingCost_131 rfl ?_
          refine x_iaload (len := 64) hg dX10_boardingCost_133 (by decide) (by omega) ?_
          refine x_ldc hg 2147483647 dX10_boardingCost_134 (List.mem_of_getElem? (i := 643) (by decide +kernel)) ?_
          refine x_icmp_eq (tgt := 181) hg dX10_boardingCost_136 (by decide) (by omega) (by omega) (fun c136 => ?_) (fun c136 => ?_)
          · skip
            refine x_canon (ls' := [(0, _), (1, _), (2, _), (3, _), (4, _), (5, _), (6, _), (7, _)]) rfl ?_
            exact next hiy _ (by omega)
          · skip
            refine x_aload_n hg dX10_boardingCost_139 rfl ?_
            refine x_getR (j9 := 57) hg dX10_boardingCost_140 fl_X10_24 (by decide) rfl rfl (by decide) ?_
            refine x_aload_n hg dX10_boardingCost_143 rfl ?_
            refine x_getR (j9 := 65) hg dX10_boardingCost_144 fl_X10_15 (by decide) rfl rfl (by decide) ?_
            refine x_iload hg dX10_boardingCost_147 rfl ?_
            refine x_iaload (len := 64) hg dX10_boardingCost_149 (by decide) (by omega) ?_
            refine x_iload hg dX10_boardingCost_150 rfl ?_
            refine x_iload hg dX10_boardingCost_152 rfl ?_
            refine x_cVi hg he [_, _, _] [] dX10_boardingCost_154 mv_X10_46 (c_X2_between l b D cy hC (by omega) (by omega) (by omega)) (by decide) rfl rfl (Nat.le_of_ble_eq_true rfl) (by decide) (by decide) (fun r154 M154 q154 => ?_)
            obtain ⟨h154, e154⟩ := q154
            replace h154 := h154.symm
            subst h154
            refine x_istore (ls' := [(0, _), (1, _), (2, _), (3, _), (4, _), (5, _), (6, _), (7, _), (8, _), (9, _), (10, _)]) hg dX10_boardingCost_157 (by decide) rfl ?_
            refine x_iload hg dX10_boardingCost_159 rfl ?_
            refine x_aload_n hg dX10_boardingCost_161 rfl ?_
            refine x_getR (j9 := 66) hg dX10_boardingCost_162 fl_X10_18 (by decide) rfl rfl (by decide) ?_
            refine x_iload hg dX10_boardingCost_165 rfl ?_
            refine x_iaload (len := 64) hg dX10_boardingCost_167 (by decide) (by omega) ?_
            refine x_bipush hg dX10_boardingCost_168 (by decide) ?_
            refine x_iload hg dX10_boardingCost_170 rfl ?_
            refine x_imul hg dX10_boardingCost_172 ?_
            refine x_iadd hg dX10_boardingCost_173 ?_
            refine x_iconst hg dX10_boardingCost_174 ?_
            refine x_iadd hg dX10_boardingCost_175 ?_
            refine x_wrap (fun a175 h175 => ?_)
            refine x_min hg dX10_boardingCost_176 (List.mem_of_getElem? (i := 656) (by decide +kernel)) (by omega) (by omega) ⟨by decide, Nat.le_of_ble_eq_true rfl⟩ (by decide) ?_
            refine x_any (P := inR) (by split <;> omega) (fun a176 h176 => ?_)
            refine x_istore (ls' := [(0, _), (1, _), (2, _), (3, _), (4, _), (5, _), (6, _), (7, _), (8, _), (9, _), (10, _)]) hg dX10_boardingCost_179 (by decide) rfl ?_
            refine x_canon (ls' := [(0, _), (1, _), (2, _), (3, _), (4, _), (5, _), (6, _), (7, _)]) rfl ?_
            exact next hiy _ (by omega)
      by_cases hiy : i < y
      · have h67 := hw2 i.toNat (by omega)
        have ho := hw2 (M 67 i.toNat).toNat (by omega)
        refine x_iload hg dX10_boardingCost_76 rfl ?_
        refine x_iload_n hg dX10_boardingCost_78 rfl ?_
        refine x_icmp_ge (tgt := 187) hg dX10_boardingCost_79 (by decide) (by omega) (by omega) (fun c79 => ?_) (fun c79 => ?_)
        · skip
          exact absurd hiy (by omega)
        · skip
          refine x_aload_n hg dX10_boardingCost_82 rfl ?_
          refine x_getR (j9 := 67) hg dX10_boardingCost_83 fl_X10_21 (by decide) rfl rfl (by decide) ?_
          refine x_iload hg dX10_boardingCost_86 rfl ?_
          refine x_iaload (len := 64) hg dX10_boardingCost_88 (by decide) (by omega) ?_
          refine x_istore (ls' := [(0, _), (1, _), (2, _), (3, _), (4, _), (5, _), (6, _), (7, _), (8, _)]) hg dX10_boardingCost_89 (by decide) rfl ?_
          refine x_aload_n hg dX10_boardingCost_91 rfl ?_
          refine x_getR (j9 := 64) hg dX10_boardingCost_92 fl_X10_11 (by decide) rfl rfl (by decide) ?_
          refine x_iload hg dX10_boardingCost_95 rfl ?_
          refine x_iaload (len := 64) hg dX10_boardingCost_97 (by decide) (by omega) ?_
          refine x_iload hg dX10_boardingCost_98 rfl ?_
          refine x_icmp_ne (tgt := 119) hg dX10_boardingCost_100 (by decide) (by omega) (by omega) (fun c100 => ?_) (fun c100 => ?_)
          · skip
            refine x_iconst hg dX10_boardingCost_119 ?_
            exact j120 hiy _ (by omega)
          · skip
            refine x_aload_n hg dX10_boardingCost_103 rfl ?_
            refine x_getR (j9 := 65) hg dX10_boardingCost_104 fl_X10_15 (by decide) rfl rfl (by decide) ?_
            refine x_iload hg dX10_boardingCost_107 rfl ?_
            refine x_iaload (len := 64) hg dX10_boardingCost_109 (by decide) (by omega) ?_
            refine x_iload hg dX10_boardingCost_110 rfl ?_
            refine x_icmp_gt (tgt := 119) hg dX10_boardingCost_112 (by decide) (by omega) (by omega) (fun c112 => ?_) (fun c112 => ?_)
            · skip
              refine x_iconst hg dX10_boardingCost_119 ?_
              exact j120 hiy _ (by omega)
            · skip
              refine x_iconst hg dX10_boardingCost_115 ?_
              refine x_goto (tgt := 120) hg dX10_boardingCost_116 (by decide) ?_
              exact j120 hiy _ (by omega)
      · skip
        refine x_iload hg dX10_boardingCost_76 rfl ?_
        refine x_iload_n hg dX10_boardingCost_78 rfl ?_
        refine x_icmp_ge (tgt := 187) hg dX10_boardingCost_79 (by decide) (by omega) (by omega) (fun c79 => ?_) (fun c79 => ?_)
        · skip
          refine x_iload hg dX10_boardingCost_187 rfl ?_
          refine x_iret hg hr (Or.inl rfl) dX10_boardingCost_189 (Nat.le_refl _) (Nat.le_refl _) ?_
          exact ⟨rfl, rfl, _, rfl, rfl, by omega⟩
        · skip
          exact absurd hiy (by omega)
  have hz2 := hw2 z.toNat (by omega)
  have j73 : ∀ a : Int, inR a → xW g 209 M (RS tt) 0 0 73 [(0, xr 63), (1, xi z), (2, xi y), (3, xr c), (4, xi (M 65 z.toNat)), (5, xi (M 64 z.toNat)), (6, xi a)] [] := by
    intro a ha
    refine x_iconst hg dX10_boardingCost_73 ?_
    refine x_istore (ls' := [(0, _), (1, _), (2, _), (3, _), (4, _), (5, _), (6, _), (7, _)]) hg dX10_boardingCost_74 (by decide) rfl ?_
    exact loop 65 0 _ _ _ (by omega) (by omega) (by omega) ha (by omega) (by omega)
  refine x_aload_n hg dX10_boardingCost_0 rfl ?_
  refine x_getR (j9 := 65) hg dX10_boardingCost_1 fl_X10_15 (by decide) rfl rfl (by decide) ?_
  refine x_iload_n hg dX10_boardingCost_4 rfl ?_
  refine x_iaload (len := 64) hg dX10_boardingCost_5 (by decide) (by omega) ?_
  refine x_istore (ls' := [(0, _), (1, _), (2, _), (3, _), (4, _)]) hg dX10_boardingCost_6 (by decide) rfl ?_
  refine x_aload_n hg dX10_boardingCost_8 rfl ?_
  refine x_getR (j9 := 64) hg dX10_boardingCost_9 fl_X10_11 (by decide) rfl rfl (by decide) ?_
  refine x_iload_n hg dX10_boardingCost_12 rfl ?_
  refine x_iaload (len := 64) hg dX10_boardingCost_13 (by decide) (by omega) ?_
  refine x_istore (ls' := [(0, _), (1, _), (2, _), (3, _), (4, _), (5, _)]) hg dX10_boardingCost_14 (by decide) rfl ?_
  refine x_aload_n hg dX10_boardingCost_16 rfl ?_
  refine x_getR (j9 := 66) hg dX10_boardingCost_17 fl_X10_18 (by decide) rfl rfl (by decide) ?_
  refine x_iload_n hg dX10_boardingCost_20 rfl ?_
  refine x_iaload (len := 64) hg dX10_boardingCost_21 (by decide) (by omega) ?_
  refine x_istore (ls' := [(0, _), (1, _), (2, _), (3, _), (4, _), (5, _), (6, _)]) hg dX10_boardingCost_22 (by decide) rfl ?_
  refine x_iload hg dX10_boardingCost_24 rfl ?_
  refine x_aload_n hg dX10_boardingCost_26 rfl ?_
  refine x_getI hg dX10_boardingCost_27 fl_X10_28 hc.1 rfl ?_
  refine x_icmp_ne (tgt := 73) hg dX10_boardingCost_30 (by decide) (by omega) (by omega) (fun c30 => ?_) (fun c30 => ?_)
  · skip
    refine x_canon (ls' := [(0, _), (1, _), (2, _), (3, _), (4, _), (5, _), (6, _)]) rfl ?_
    exact j73 _ (by omega)
  · skip
    refine x_iload hg dX10_boardingCost_33 rfl ?_
    refine x_aload_n hg dX10_boardingCost_35 rfl ?_
    refine x_getI hg dX10_boardingCost_36 fl_X10_43 hc.1 rfl ?_
    refine x_icmp_lt (tgt := 73) hg dX10_boardingCost_39 (by decide) (by omega) (by omega) (fun c39 => ?_) (fun c39 => ?_)
    · skip
      refine x_canon (ls' := [(0, _), (1, _), (2, _), (3, _), (4, _), (5, _), (6, _)]) rfl ?_
      exact j73 _ (by omega)
    · skip
      refine x_aload_n hg dX10_boardingCost_42 rfl ?_
      refine x_getR (j9 := 57) hg dX10_boardingCost_43 fl_X10_24 (by decide) rfl rfl (by decide) ?_
      refine x_aload_n hg dX10_boardingCost_46 rfl ?_
      refine x_getI hg dX10_boardingCost_47 fl_X10_43 hc.1 rfl ?_
      refine x_iload hg dX10_boardingCost_50 rfl ?_
      refine x_iload hg dX10_boardingCost_52 rfl ?_
      refine x_cVi hg he [_, _, _] [] dX10_boardingCost_54 mv_X10_46 (c_X2_between l b D cy hC (by omega) (by omega) (by omega)) (by decide) rfl rfl (Nat.le_of_ble_eq_true rfl) (by decide) (by decide) (fun r54 M54 q54 => ?_)
      obtain ⟨h54, e54⟩ := q54
      replace h54 := h54.symm
      subst h54
      refine x_istore (ls' := [(0, _), (1, _), (2, _), (3, _), (4, _), (5, _), (6, _), (7, _)]) hg dX10_boardingCost_57 (by decide) rfl ?_
      refine x_iload hg dX10_boardingCost_59 rfl ?_
      refine x_bipush hg dX10_boardingCost_61 (by decide) ?_
      refine x_iload hg dX10_boardingCost_63 rfl ?_
      refine x_imul hg dX10_boardingCost_65 ?_
      refine x_iconst hg dX10_boardingCost_66 ?_
      refine x_iadd hg dX10_boardingCost_67 ?_
      refine x_min hg dX10_boardingCost_68 (List.mem_of_getElem? (i := 656) (by decide +kernel)) (by omega) (by omega) ⟨by decide, Nat.le_of_ble_eq_true rfl⟩ (by decide) ?_
      refine x_any (P := inR) (by split <;> omega) (fun a68 h68 => ?_)
      refine x_istore (ls' := [(0, _), (1, _), (2, _), (3, _), (4, _), (5, _), (6, _), (7, _)]) hg dX10_boardingCost_71 (by decide) rfl ?_
      refine x_canon (ls' := [(0, _), (1, _), (2, _), (3, _), (4, _), (5, _), (6, _)]) rfl ?_
      exact j73 _ (by omega)

theorem dX10_costAt_0 : decode cX10_costAt 0 = .ok (.iload_n 1, 1) := by decide +kernel
theorem dX10_costAt_1 : decode cX10_costAt 1 = .ok (.bipush 8, 2) := by decide +kernel
theorem dX10_costAt_3 : decode cX10_costAt 3 = .ok (.irem, 1) := by decide +kernel
theorem dX10_costAt_4 : decode cX10_costAt 4 = .ok (.ifCond .ne 6, 3) := by decide +kernel
theorem dX10_costAt_7 : decode cX10_costAt 7 = .ok (.ldc 72, 2) := by decide +kernel
theorem dX10_costAt_9 : decode cX10_costAt 9 = .ok (.ireturn, 1) := by decide +kernel
theorem dX10_costAt_10 : decode cX10_costAt 10 = .ok (.iload_n 1, 1) := by decide +kernel
theorem dX10_costAt_11 : decode cX10_costAt 11 = .ok (.iconst 1, 1) := by decide +kernel
theorem dX10_costAt_12 : decode cX10_costAt 12 = .ok (.isub, 1) := by decide +kernel
theorem dX10_costAt_13 : decode cX10_costAt 13 = .ok (.istore 4, 2) := by decide +kernel
theorem dX10_costAt_15 : decode cX10_costAt 15 = .ok (.aload_n 0, 1) := by decide +kernel
theorem dX10_costAt_16 : decode cX10_costAt 16 = .ok (.iload 4, 2) := by decide +kernel
theorem dX10_costAt_18 : decode cX10_costAt 18 = .ok (.iload_n 2, 1) := by decide +kernel
theorem dX10_costAt_19 : decode cX10_costAt 19 = .ok (.aload_n 3, 1) := by decide +kernel
theorem dX10_costAt_20 : decode cX10_costAt 20 = .ok (.invokevirtual 94, 3) := by decide +kernel
theorem dX10_costAt_23 : decode cX10_costAt 23 = .ok (.istore 5, 2) := by decide +kernel
theorem dX10_costAt_25 : decode cX10_costAt 25 = .ok (.iload 5, 2) := by decide +kernel
theorem dX10_costAt_27 : decode cX10_costAt 27 = .ok (.ldc 72, 2) := by decide +kernel
theorem dX10_costAt_29 : decode cX10_costAt 29 = .ok (.if_icmp .ne 6, 3) := by decide +kernel
theorem dX10_costAt_32 : decode cX10_costAt 32 = .ok (.ldc 72, 2) := by decide +kernel
theorem dX10_costAt_34 : decode cX10_costAt 34 = .ok (.ireturn, 1) := by decide +kernel
theorem dX10_costAt_35 : decode cX10_costAt 35 = .ok (.iload 5, 2) := by decide +kernel
theorem dX10_costAt_37 : decode cX10_costAt 37 = .ok (.bipush 100, 2) := by decide +kernel
theorem dX10_costAt_39 : decode cX10_costAt 39 = .ok (.aload_n 0, 1) := by decide +kernel
theorem dX10_costAt_40 : decode cX10_costAt 40 = .ok (.getfield 24, 3) := by decide +kernel
theorem dX10_costAt_43 : decode cX10_costAt 43 = .ok (.aload_n 0, 1) := by decide +kernel
theorem dX10_costAt_44 : decode cX10_costAt 44 = .ok (.getfield 15, 3) := by decide +kernel
theorem dX10_costAt_47 : decode cX10_costAt 47 = .ok (.iload 4, 2) := by decide +kernel
theorem dX10_costAt_49 : decode cX10_costAt 49 = .ok (.iaload, 1) := by decide +kernel
theorem dX10_costAt_50 : decode cX10_costAt 50 = .ok (.aload_n 0, 1) := by decide +kernel
theorem dX10_costAt_51 : decode cX10_costAt 51 = .ok (.getfield 15, 3) := by decide +kernel
theorem dX10_costAt_54 : decode cX10_costAt 54 = .ok (.iload_n 1, 1) := by decide +kernel
theorem dX10_costAt_55 : decode cX10_costAt 55 = .ok (.iaload, 1) := by decide +kernel
theorem dX10_costAt_56 : decode cX10_costAt 56 = .ok (.iconst (-1), 1) := by decide +kernel
theorem dX10_costAt_57 : decode cX10_costAt 57 = .ok (.invokevirtual 46, 3) := by decide +kernel
theorem dX10_costAt_60 : decode cX10_costAt 60 = .ok (.imul, 1) := by decide +kernel
theorem dX10_costAt_61 : decode cX10_costAt 61 = .ok (.iadd, 1) := by decide +kernel
theorem dX10_costAt_62 : decode cX10_costAt 62 = .ok (.ireturn, 1) := by decide +kernel
set_option maxHeartbeats 4000000 in
set_option maxRecDepth 20000 in
theorem c_X10_costAt (l : Launch) (b : Nat) (D : va_G) (cy : Nat → ClassId) {tt : Nat} {M : xMm} {z y : Int} {c : Nat} (hW : IW M) (hC : IC M) (hc : pCh M c) (hz : 0 ≤ z ∧ z ≤ 63) (hy : 0 ≤ y ∧ y ≤ 64) : xC l b D cy yX10_costAt cX10_costAt 6 (some .int) ({ frames := 3, cells := 0, slots := 0, locals := 78 }) [xr 63, xi z, xi y, xr c] 209 M (RS tt) (xPi 209 (RS tt) (fun r M' => M' = M ∧ inR r)) := by
  refine x_met (by decide) (Nat.le_of_ble_eq_true rfl) (fun g hg hr he => ?_)
  obtain ⟨hw1, hw2⟩ := id hW
  obtain ⟨-, hc1, hc2⟩ := id hc
  have hz2 := hw2 z.toNat (by omega)
  refine x_canon (ls' := [(0, _), (1, _), (2, _), (3, _)]) rfl ?_
  refine x_iload_n hg dX10_costAt_0 rfl ?_
  refine x_bipush hg dX10_costAt_1 (by decide) ?_
  refine x_irem hg dX10_costAt_3 (by omega) (by omega) ?_
  refine x_if_ne (tgt := 10) hg dX10_costAt_4 (by decide) (by omega) (fun c4 => ?_) (fun c4 => ?_)
  · skip
    refine x_iload_n hg dX10_costAt_10 rfl ?_
    refine x_iconst hg dX10_costAt_11 ?_
    refine x_isub hg dX10_costAt_12 ?_
    refine x_istore (ls' := [(0, _), (1, _), (2, _), (3, _), (4, _)]) hg dX10_costAt_13 (by decide) rfl ?_
    refine x_aload_n hg dX10_costAt_15 rfl ?_
    refine x_iload hg dX10_costAt_16 rfl ?_
    refine x_iload_n hg dX10_costAt_18 rfl ?_
    refine x_aload_n hg dX10_costAt_19 rfl ?_
    refine x_cVi hg he [_, _, _] [] dX10_costAt_20 mv_X10_94 (c_X10_boardingCost l b D cy hW hC hc (by omega) (by omega)) (by decide) rfl rfl (Nat.le_of_ble_eq_true rfl) (by decide) (by decide) (fun r20 M20 q20 => ?_)
    obtain ⟨h20, e20⟩ := q20
    replace h20 := h20.symm
    subst h20
    refine x_istore (ls' := [(0, _), (1, _), (2, _), (3, _), (4, _), (5, _)]) hg dX10_costAt_23 (by decide) rfl ?_
    refine x_iload hg dX10_costAt_25 rfl ?_
    refine x_ldc hg 2147483647 dX10_costAt_27 (List.mem_of_getElem? (i := 643) (by decide +kernel)) ?_
    refine x_icmp_ne (tgt := 35) hg dX10_costAt_29 (by decide) (by omega) (by omega) (fun c29 => ?_) (fun c29 => ?_)
    · skip
      refine x_iload hg dX10_costAt_35 rfl ?_
      refine x_bipush hg dX10_costAt_37 (by decide) ?_
      refine x_aload_n hg dX10_costAt_39 rfl ?_
      refine x_getR (j9 := 57) hg dX10_costAt_40 fl_X10_24 (by decide) rfl rfl (by decide) ?_
      refine x_aload_n hg dX10_costAt_43 rfl ?_
      refine x_getR (j9 := 65) hg dX10_costAt_44 fl_X10_15 (by decide) rfl rfl (by decide) ?_
      refine x_iload hg dX10_costAt_47 rfl ?_
      refine x_iaload (len := 64) hg dX10_costAt_49 (by decide) (by omega) ?_
      refine x_aload_n hg dX10_costAt_50 rfl ?_
      refine x_getR (j9 := 65) hg dX10_costAt_51 fl_X10_15 (by decide) rfl rfl (by decide) ?_
      refine x_iload_n hg dX10_costAt_54 rfl ?_
      refine x_iaload (len := 64) hg dX10_costAt_55 (by decide) (by omega) ?_
      refine x_iconst hg dX10_costAt_56 ?_
      refine x_cVi hg he [_, _, _] [_, _] dX10_costAt_57 mv_X10_46 (c_X2_between l b D cy hC (by have h1 := hw2 (z - 1).toNat (by omega); omega) (by omega) (by omega)) (by decide) rfl rfl (Nat.le_of_ble_eq_true rfl) (by decide) (by decide) (fun r57 M57 q57 => ?_)
      obtain ⟨h57, e57⟩ := q57
      replace h57 := h57.symm
      subst h57
      refine x_imul hg dX10_costAt_60 ?_
      refine x_iadd hg dX10_costAt_61 ?_
      refine x_wrap (fun a61 h61 => ?_)
      refine x_iret hg hr (Or.inl rfl) dX10_costAt_62 (Nat.le_refl _) (Nat.le_refl _) ?_
      exact ⟨rfl, rfl, _, rfl, rfl, by omega⟩
    · skip
      refine x_ldc hg 2147483647 dX10_costAt_32 (List.mem_of_getElem? (i := 643) (by decide +kernel)) ?_
      refine x_iret hg hr (Or.inl rfl) dX10_costAt_34 (Nat.le_refl _) (Nat.le_refl _) ?_
      exact ⟨rfl, rfl, _, rfl, rfl, by omega⟩
  · skip
    refine x_ldc hg 2147483647 dX10_costAt_7 (List.mem_of_getElem? (i := 643) (by decide +kernel)) ?_
    refine x_iret hg hr (Or.inl rfl) dX10_costAt_9 (Nat.le_refl _) (Nat.le_refl _) ?_
    exact ⟨rfl, rfl, _, rfl, rfl, by omega⟩

theorem dX10_keepBetter_0 : decode cX10_keepBetter 0 = .ok (.iload_n 1, 1) := by decide +kernel
theorem dX10_keepBetter_1 : decode cX10_keepBetter 1 = .ok (.bipush 100, 2) := by decide +kernel
theorem dX10_keepBetter_3 : decode cX10_keepBetter 3 = .ok (.idiv, 1) := by decide +kernel
theorem dX10_keepBetter_4 : decode cX10_keepBetter 4 = .ok (.istore_n 3, 1) := by decide +kernel
theorem dX10_keepBetter_5 : decode cX10_keepBetter 5 = .ok (.iload_n 1, 1) := by decide +kernel
theorem dX10_keepBetter_6 : decode cX10_keepBetter 6 = .ok (.bipush 100, 2) := by decide +kernel
theorem dX10_keepBetter_8 : decode cX10_keepBetter 8 = .ok (.irem, 1) := by decide +kernel
theorem dX10_keepBetter_9 : decode cX10_keepBetter 9 = .ok (.istore 4, 2) := by decide +kernel
theorem dX10_keepBetter_11 : decode cX10_keepBetter 11 = .ok (.aload_n 0, 1) := by decide +kernel
theorem dX10_keepBetter_12 : decode cX10_keepBetter 12 = .ok (.getfield 56, 3) := by decide +kernel
theorem dX10_keepBetter_15 : decode cX10_keepBetter 15 = .ok (.iconst (-1), 1) := by decide +kernel
theorem dX10_keepBetter_16 : decode cX10_keepBetter 16 = .ok (.if_icmp .eq 11, 3) := by decide +kernel
theorem dX10_keepBetter_19 : decode cX10_keepBetter 19 = .ok (.iload_n 3, 1) := by decide +kernel
theorem dX10_keepBetter_20 : decode cX10_keepBetter 20 = .ok (.aload_n 0, 1) := by decide +kernel
theorem dX10_keepBetter_21 : decode cX10_keepBetter 21 = .ok (.getfield 56, 3) := by decide +kernel
theorem dX10_keepBetter_24 : decode cX10_keepBetter 24 = .ok (.if_icmp .ge 7, 3) := by decide +kernel
theorem dX10_keepBetter_27 : decode cX10_keepBetter 27 = .ok (.iconst 1, 1) := by decide +kernel
theorem dX10_keepBetter_28 : decode cX10_keepBetter 28 = .ok (.goto 4, 3) := by decide +kernel
theorem dX10_keepBetter_31 : decode cX10_keepBetter 31 = .ok (.iconst 0, 1) := by decide +kernel
theorem dX10_keepBetter_32 : decode cX10_keepBetter 32 = .ok (.istore 5, 2) := by decide +kernel
theorem dX10_keepBetter_34 : decode cX10_keepBetter 34 = .ok (.iload 5, 2) := by decide +kernel
theorem dX10_keepBetter_36 : decode cX10_keepBetter 36 = .ok (.ifCond .ne 43, 3) := by decide +kernel
theorem dX10_keepBetter_39 : decode cX10_keepBetter 39 = .ok (.iload_n 3, 1) := by decide +kernel
theorem dX10_keepBetter_40 : decode cX10_keepBetter 40 = .ok (.aload_n 0, 1) := by decide +kernel
theorem dX10_keepBetter_41 : decode cX10_keepBetter 41 = .ok (.getfield 56, 3) := by decide +kernel
theorem dX10_keepBetter_44 : decode cX10_keepBetter 44 = .ok (.if_icmp .ne 35, 3) := by decide +kernel
theorem dX10_keepBetter_47 : decode cX10_keepBetter 47 = .ok (.iload_n 2, 1) := by decide +kernel
theorem dX10_keepBetter_48 : decode cX10_keepBetter 48 = .ok (.aload_n 0, 1) := by decide +kernel
theorem dX10_keepBetter_49 : decode cX10_keepBetter 49 = .ok (.getfield 59, 3) := by decide +kernel
theorem dX10_keepBetter_52 : decode cX10_keepBetter 52 = .ok (.if_icmp .lt 20, 3) := by decide +kernel
theorem dX10_keepBetter_55 : decode cX10_keepBetter 55 = .ok (.iload_n 2, 1) := by decide +kernel
theorem dX10_keepBetter_56 : decode cX10_keepBetter 56 = .ok (.aload_n 0, 1) := by decide +kernel
theorem dX10_keepBetter_57 : decode cX10_keepBetter 57 = .ok (.getfield 59, 3) := by decide +kernel
theorem dX10_keepBetter_60 : decode cX10_keepBetter 60 = .ok (.if_icmp .ne 16, 3) := by decide +kernel
theorem dX10_keepBetter_63 : decode cX10_keepBetter 63 = .ok (.iload 4, 2) := by decide +kernel
theorem dX10_keepBetter_65 : decode cX10_keepBetter 65 = .ok (.aload_n 0, 1) := by decide +kernel
theorem dX10_keepBetter_66 : decode cX10_keepBetter 66 = .ok (.getfield 62, 3) := by decide +kernel
theorem dX10_keepBetter_69 : decode cX10_keepBetter 69 = .ok (.if_icmp .ge 7, 3) := by decide +kernel
theorem dX10_keepBetter_72 : decode cX10_keepBetter 72 = .ok (.iconst 1, 1) := by decide +kernel
theorem dX10_keepBetter_73 : decode cX10_keepBetter 73 = .ok (.goto 4, 3) := by decide +kernel
theorem dX10_keepBetter_76 : decode cX10_keepBetter 76 = .ok (.iconst 0, 1) := by decide +kernel
theorem dX10_keepBetter_77 : decode cX10_keepBetter 77 = .ok (.istore 5, 2) := by decide +kernel
theorem dX10_keepBetter_79 : decode cX10_keepBetter 79 = .ok (.iload 5, 2) := by decide +kernel
theorem dX10_keepBetter_81 : decode cX10_keepBetter 81 = .ok (.ifCond .eq 19, 3) := by decide +kernel
theorem dX10_keepBetter_84 : decode cX10_keepBetter 84 = .ok (.aload_n 0, 1) := by decide +kernel
theorem dX10_keepBetter_85 : decode cX10_keepBetter 85 = .ok (.iload_n 3, 1) := by decide +kernel
theorem dX10_keepBetter_86 : decode cX10_keepBetter 86 = .ok (.putfield 56, 3) := by decide +kernel
theorem dX10_keepBetter_89 : decode cX10_keepBetter 89 = .ok (.aload_n 0, 1) := by decide +kernel
theorem dX10_keepBetter_90 : decode cX10_keepBetter 90 = .ok (.iload_n 2, 1) := by decide +kernel
theorem dX10_keepBetter_91 : decode cX10_keepBetter 91 = .ok (.putfield 59, 3) := by decide +kernel
theorem dX10_keepBetter_94 : decode cX10_keepBetter 94 = .ok (.aload_n 0, 1) := by decide +kernel
theorem dX10_keepBetter_95 : decode cX10_keepBetter 95 = .ok (.iload 4, 2) := by decide +kernel
theorem dX10_keepBetter_97 : decode cX10_keepBetter 97 = .ok (.putfield 62, 3) := by decide +kernel
theorem dX10_keepBetter_100 : decode cX10_keepBetter 100 = .ok (.return_, 1) := by decide +kernel
set_option maxHeartbeats 4000000 in
set_option maxRecDepth 20000 in
theorem c_X10_keepBetter (l : Launch) (b : Nat) (D : va_G) (cy : Nat → ClassId) {tt : Nat} {M : xMm} {x y : Int} (hW : IW M) (hx : inR x) (hy : inR y) : xC l b D cy yX10_keepBetter cX10_keepBetter 6 none ({ frames := 0, cells := 0, slots := 0, locals := 0 }) [xr 63, xi x, xi y] 209 M (RS tt) (xPv 209 (RS tt) (fun M' => IW M' ∧ frW M' M)) := by
  refine x_met (by decide) (Nat.le_of_ble_eq_true rfl) (fun g hg hr he => ?_)
  obtain ⟨hw1, hw2⟩ := id hW
  refine x_canon (ls' := [(0, _), (1, _), (2, _)]) rfl ?_
  have j79 : ∀ a c p : Int, inR a → inR c → inR p → xW g 209 M (RS tt) 0 0 79 [(0, xr 63), (1, xi x), (2, xi y), (3, xi a), (4, xi c), (5, xi p)] [] := by
    intro a c p ha hc hp
    refine x_iload hg dX10_keepBetter_79 rfl ?_
    refine x_if_eq (tgt := 100) hg dX10_keepBetter_81 (by decide) (by omega) (fun c81 => ?_) (fun c81 => ?_)
    · skip
      refine x_vret hg hr dX10_keepBetter_100 (Nat.le_refl _) (Nat.le_refl _) ?_
      first | exact ⟨rfl, rfl, rfl, hW, fun a _ => rfl⟩ | exact ⟨rfl, rfl, rfl, IW_f (IW_f (IW_f hW (Or.inr ⟨by omega, by omega⟩)) (Or.inr ⟨by omega, by omega⟩)) (Or.inr ⟨by omega, by omega⟩), frW_mu (frW_mu (frW_mu (fun a _ => rfl) (by decide)) (by decide)) (by decide)⟩
    · skip
      refine x_aload_n hg dX10_keepBetter_84 rfl ?_
      refine x_iload_n hg dX10_keepBetter_85 rfl ?_
      refine x_putI hg dX10_keepBetter_86 fl_X10_56 ft_10_6 (by decide) rfl ?_
      refine x_aload_n hg dX10_keepBetter_89 rfl ?_
      refine x_iload_n hg dX10_keepBetter_90 rfl ?_
      refine x_putI hg dX10_keepBetter_91 fl_X10_59 ft_10_7 (by decide) rfl ?_
      refine x_aload_n hg dX10_keepBetter_94 rfl ?_
      refine x_iload hg dX10_keepBetter_95 rfl ?_
      refine x_putI hg dX10_keepBetter_97 fl_X10_62 ft_10_8 (by decide) rfl ?_
      refine x_vret hg hr dX10_keepBetter_100 (Nat.le_refl _) (Nat.le_refl _) ?_
      first | exact ⟨rfl, rfl, rfl, hW, fun a _ => rfl⟩ | exact ⟨rfl, rfl, rfl, IW_f (IW_f (IW_f hW (Or.inr ⟨by omega, by omega⟩)) (Or.inr ⟨by omega, by omega⟩)) (Or.inr ⟨by omega, by omega⟩), frW_mu (frW_mu (frW_mu (fun a _ => rfl) (by decide)) (by decide)) (by decide)⟩
  have j77 : ∀ a c q p : Int, inR a → inR c → inR p → xW g 209 M (RS tt) 0 0 77 [(0, xr 63), (1, xi x), (2, xi y), (3, xi a), (4, xi c), (5, xi q)] [xi p] := by
    intro a c q p ha hc hp
    refine x_istore (ls' := [(0, _), (1, _), (2, _), (3, _), (4, _), (5, _)]) hg dX10_keepBetter_77 (by decide) rfl ?_
    exact j79 _ _ _ ha hc hp
  have j32 : ∀ a c p : Int, inR a → inR c → inR p → xW g 209 M (RS tt) 0 0 32 [(0, xr 63), (1, xi x), (2, xi y), (3, xi a), (4, xi c)] [xi p] := by
    intro a c p ha hc hp
    refine x_istore (ls' := [(0, _), (1, _), (2, _), (3, _), (4, _), (5, _)]) hg dX10_keepBetter_32 (by decide) rfl ?_
    refine x_iload hg dX10_keepBetter_34 rfl ?_
    refine x_if_ne (tgt := 79) hg dX10_keepBetter_36 (by decide) (by omega) (fun c36 => ?_) (fun c36 => ?_)
    · skip
      exact j79 _ _ _ ha hc hp
    · skip
      refine x_iload_n hg dX10_keepBetter_39 rfl ?_
      refine x_aload_n hg dX10_keepBetter_40 rfl ?_
      refine x_getI hg dX10_keepBetter_41 fl_X10_56 (by decide) rfl ?_
      refine x_icmp_ne (tgt := 79) hg dX10_keepBetter_44 (by decide) (by omega) (by omega) (fun c44 => ?_) (fun c44 => ?_)
      · skip
        exact j79 _ _ _ ha hc hp
      · skip
        refine x_iload_n hg dX10_keepBetter_47 rfl ?_
        refine x_aload_n hg dX10_keepBetter_48 rfl ?_
        refine x_getI hg dX10_keepBetter_49 fl_X10_59 (by decide) rfl ?_
        refine x_icmp_lt (tgt := 72) hg dX10_keepBetter_52 (by decide) (by omega) (by omega) (fun c52 => ?_) (fun c52 => ?_)
        · skip
          refine x_iconst hg dX10_keepBetter_72 ?_
          refine x_goto (tgt := 77) hg dX10_keepBetter_73 (by decide) ?_
          exact j77 _ _ _ _ ha hc (by omega)
        · skip
          refine x_iload_n hg dX10_keepBetter_55 rfl ?_
          refine x_aload_n hg dX10_keepBetter_56 rfl ?_
          refine x_getI hg dX10_keepBetter_57 fl_X10_59 (by decide) rfl ?_
          refine x_icmp_ne (tgt := 76) hg dX10_keepBetter_60 (by decide) (by omega) (by omega) (fun c60 => ?_) (fun c60 => ?_)
          · skip
            refine x_iconst hg dX10_keepBetter_76 ?_
            exact j77 _ _ _ _ ha hc (by omega)
          · skip
            refine x_iload hg dX10_keepBetter_63 rfl ?_
            refine x_aload_n hg dX10_keepBetter_65 rfl ?_
            refine x_getI hg dX10_keepBetter_66 fl_X10_62 (by decide) rfl ?_
            refine x_icmp_ge (tgt := 76) hg dX10_keepBetter_69 (by decide) (by omega) (by omega) (fun c69 => ?_) (fun c69 => ?_)
            · skip
              refine x_iconst hg dX10_keepBetter_76 ?_
              exact j77 _ _ _ _ ha hc (by omega)
            · skip
              refine x_iconst hg dX10_keepBetter_72 ?_
              refine x_goto (tgt := 77) hg dX10_keepBetter_73 (by decide) ?_
              exact j77 _ _ _ _ ha hc (by omega)
  refine x_iload_n hg dX10_keepBetter_0 rfl ?_
  refine x_bipush hg dX10_keepBetter_1 (by decide) ?_
  refine x_idivW hg dX10_keepBetter_3 (by omega) (fun a3 h3 => ?_)
  refine x_istore_n (ls' := [(0, _), (1, _), (2, _), (3, _)]) hg dX10_keepBetter_4 rfl (by decide) rfl ?_
  refine x_iload_n hg dX10_keepBetter_5 rfl ?_
  refine x_bipush hg dX10_keepBetter_6 (by decide) ?_
  refine x_iremW hg dX10_keepBetter_8 (by omega) (fun a8 h8 => ?_)
  refine x_istore (ls' := [(0, _), (1, _), (2, _), (3, _), (4, _)]) hg dX10_keepBetter_9 (by decide) rfl ?_
  refine x_aload_n hg dX10_keepBetter_11 rfl ?_
  refine x_getI hg dX10_keepBetter_12 fl_X10_56 (by decide) rfl ?_
  refine x_iconst hg dX10_keepBetter_15 ?_
  refine x_icmp_eq (tgt := 27) hg dX10_keepBetter_16 (by decide) (by omega) (by omega) (fun c16 => ?_) (fun c16 => ?_)
  · skip
    refine x_iconst hg dX10_keepBetter_27 ?_
    refine x_goto (tgt := 32) hg dX10_keepBetter_28 (by decide) ?_
    exact j32 _ _ _ (by omega) (by omega) (by omega)
  · skip
    refine x_iload_n hg dX10_keepBetter_19 rfl ?_
    refine x_aload_n hg dX10_keepBetter_20 rfl ?_
    refine x_getI hg dX10_keepBetter_21 fl_X10_56 (by decide) rfl ?_
    refine x_icmp_ge (tgt := 31) hg dX10_keepBetter_24 (by decide) (by omega) (by omega) (fun c24 => ?_) (fun c24 => ?_)
    · skip
      refine x_iconst hg dX10_keepBetter_31 ?_
      exact j32 _ _ _ (by omega) (by omega) (by omega)
    · skip
      refine x_iconst hg dX10_keepBetter_27 ?_
      refine x_goto (tgt := 32) hg dX10_keepBetter_28 (by decide) ?_
      exact j32 _ _ _ (by omega) (by omega) (by omega)

theorem dX10_seek_0 : decode cX10_seek 0 = .ok (.aload_n 0, 1) := by decide +kernel
theorem dX10_seek_1 : decode cX10_seek 1 = .ok (.aload_n 2, 1) := by decide +kernel
theorem dX10_seek_2 : decode cX10_seek 2 = .ok (.invokevirtual 52, 3) := by decide +kernel
theorem dX10_seek_5 : decode cX10_seek 5 = .ok (.aload_n 0, 1) := by decide +kernel
theorem dX10_seek_6 : decode cX10_seek 6 = .ok (.iconst (-1), 1) := by decide +kernel
theorem dX10_seek_7 : decode cX10_seek 7 = .ok (.putfield 56, 3) := by decide +kernel
theorem dX10_seek_10 : decode cX10_seek 10 = .ok (.aload_n 0, 1) := by decide +kernel
theorem dX10_seek_11 : decode cX10_seek 11 = .ok (.iconst (-1), 1) := by decide +kernel
theorem dX10_seek_12 : decode cX10_seek 12 = .ok (.putfield 59, 3) := by decide +kernel
theorem dX10_seek_15 : decode cX10_seek 15 = .ok (.aload_n 0, 1) := by decide +kernel
theorem dX10_seek_16 : decode cX10_seek 16 = .ok (.iconst (-1), 1) := by decide +kernel
theorem dX10_seek_17 : decode cX10_seek 17 = .ok (.putfield 62, 3) := by decide +kernel
theorem dX10_seek_20 : decode cX10_seek 20 = .ok (.iconst 0, 1) := by decide +kernel
theorem dX10_seek_21 : decode cX10_seek 21 = .ok (.istore_n 3, 1) := by decide +kernel
theorem dX10_seek_22 : decode cX10_seek 22 = .ok (.iload_n 3, 1) := by decide +kernel
theorem dX10_seek_23 : decode cX10_seek 23 = .ok (.aload_n 0, 1) := by decide +kernel
theorem dX10_seek_24 : decode cX10_seek 24 = .ok (.getfield 65, 3) := by decide +kernel
theorem dX10_seek_27 : decode cX10_seek 27 = .ok (.if_icmp .ge 72, 3) := by decide +kernel
theorem dX10_seek_30 : decode cX10_seek 30 = .ok (.aload_n 0, 1) := by decide +kernel
theorem dX10_seek_31 : decode cX10_seek 31 = .ok (.getfield 21, 3) := by decide +kernel
theorem dX10_seek_34 : decode cX10_seek 34 = .ok (.iload_n 3, 1) := by decide +kernel
theorem dX10_seek_35 : decode cX10_seek 35 = .ok (.iaload, 1) := by decide +kernel
theorem dX10_seek_36 : decode cX10_seek 36 = .ok (.istore 4, 2) := by decide +kernel
theorem dX10_seek_38 : decode cX10_seek 38 = .ok (.aload_n 0, 1) := by decide +kernel
theorem dX10_seek_39 : decode cX10_seek 39 = .ok (.getfield 18, 3) := by decide +kernel
theorem dX10_seek_42 : decode cX10_seek 42 = .ok (.iload 4, 2) := by decide +kernel
theorem dX10_seek_44 : decode cX10_seek 44 = .ok (.aload_n 0, 1) := by decide +kernel
theorem dX10_seek_45 : decode cX10_seek 45 = .ok (.iload 4, 2) := by decide +kernel
theorem dX10_seek_47 : decode cX10_seek 47 = .ok (.iload_n 3, 1) := by decide +kernel
theorem dX10_seek_48 : decode cX10_seek 48 = .ok (.aload_n 1, 1) := by decide +kernel
theorem dX10_seek_49 : decode cX10_seek 49 = .ok (.invokevirtual 68, 3) := by decide +kernel
theorem dX10_seek_52 : decode cX10_seek 52 = .ok (.iastore, 1) := by decide +kernel
theorem dX10_seek_53 : decode cX10_seek 53 = .ok (.aload_n 0, 1) := by decide +kernel
theorem dX10_seek_54 : decode cX10_seek 54 = .ok (.getfield 11, 3) := by decide +kernel
theorem dX10_seek_57 : decode cX10_seek 57 = .ok (.iload 4, 2) := by decide +kernel
theorem dX10_seek_59 : decode cX10_seek 59 = .ok (.iaload, 1) := by decide +kernel
theorem dX10_seek_60 : decode cX10_seek 60 = .ok (.ifCond .ne 33, 3) := by decide +kernel
theorem dX10_seek_63 : decode cX10_seek 63 = .ok (.aload_n 0, 1) := by decide +kernel
theorem dX10_seek_64 : decode cX10_seek 64 = .ok (.getfield 18, 3) := by decide +kernel
theorem dX10_seek_67 : decode cX10_seek 67 = .ok (.iload 4, 2) := by decide +kernel
theorem dX10_seek_69 : decode cX10_seek 69 = .ok (.iaload, 1) := by decide +kernel
theorem dX10_seek_70 : decode cX10_seek 70 = .ok (.ldc 72, 2) := by decide +kernel
theorem dX10_seek_72 : decode cX10_seek 72 = .ok (.if_icmp .eq 21, 3) := by decide +kernel
theorem dX10_seek_75 : decode cX10_seek 75 = .ok (.aload_n 0, 1) := by decide +kernel
theorem dX10_seek_76 : decode cX10_seek 76 = .ok (.aload_n 0, 1) := by decide +kernel
theorem dX10_seek_77 : decode cX10_seek 77 = .ok (.getfield 18, 3) := by decide +kernel
theorem dX10_seek_80 : decode cX10_seek 80 = .ok (.iload 4, 2) := by decide +kernel
theorem dX10_seek_82 : decode cX10_seek 82 = .ok (.iaload, 1) := by decide +kernel
theorem dX10_seek_83 : decode cX10_seek 83 = .ok (.aload_n 0, 1) := by decide +kernel
theorem dX10_seek_84 : decode cX10_seek 84 = .ok (.getfield 15, 3) := by decide +kernel
theorem dX10_seek_87 : decode cX10_seek 87 = .ok (.iload 4, 2) := by decide +kernel
theorem dX10_seek_89 : decode cX10_seek 89 = .ok (.iaload, 1) := by decide +kernel
theorem dX10_seek_90 : decode cX10_seek 90 = .ok (.invokevirtual 73, 3) := by decide +kernel
theorem dX10_seek_93 : decode cX10_seek 93 = .ok (.iinc 3 1, 3) := by decide +kernel
theorem dX10_seek_96 : decode cX10_seek 96 = .ok (.goto (-74), 3) := by decide +kernel
theorem dX10_seek_99 : decode cX10_seek 99 = .ok (.return_, 1) := by decide +kernel
set_option maxHeartbeats 4000000 in
set_option maxRecDepth 20000 in
theorem c_X10_seek (l : Launch) (b : Nat) (D : va_G) (cy : Nat → ClassId) {tt : Nat} {M0 : xMm} {c q : Nat} (hW : IW M0) (hC : IC M0) (hI : IR M0) (hc : pCh M0 c) (hcc : c < 63 ∨ 67 < c) (hq : xTt q) : xC l b D cy yX10_seek cX10_seek 5 none ({ frames := 4, cells := 0, slots := 0, locals := 103 }) [xr 63, xr c, xr q] 209 M0 (RS tt) (xPv 209 (RS tt) (fun M' => IW M' ∧ frW M' M0)) := by
  refine x_met (by decide) (Nat.le_of_ble_eq_true rfl) (fun g hg hr he => ?_)
  refine x_canon (ls' := [(0, _), (1, _), (2, _)]) rfl ?_
  have loop : ∀ (n1 : Nat) (M : xMm) (i : Int), 0 ≤ i → i ≤ 64 → 64 - i < n1 → IW M → frW M M0 → xW g 209 M (RS tt) 0 0 22 [(0, xr 63), (1, xr c), (2, xr q), (3, xi i)] [] := by
    intro n1
    induction n1 with
    | zero => intro M i h1 h2 h3; exact absurd h3 (by omega)
    | succ n1 ih =>
      intro M i hi1 hi2 hi3 hW hf
      obtain ⟨hw1, hw2⟩ := id hW
      have next : i < 64 → ∀ M1, IW M1 → frW M1 M0 → xW g 209 M1 (RS tt) 0 0 93 [(0, xr 63), (1, xr c), (2, xr q), (3, xi i)] [] := by
        intro hi6 M1 hW1 hf1
        refine x_iinc (ls' := [(0, _), (1, _), (2, _), (3, _)]) hg dX10_seek_93 rfl (by decide) rfl ?_
        refine x_goto (tgt := 22) hg dX10_seek_96 (by decide) ?_
        exact ih _ _ (by omega) (by omega) (by omega) hW1 hf1
      refine x_iload_n hg dX10_seek_22 rfl ?_
      refine x_aload_n hg dX10_seek_23 rfl ?_
      refine x_getI hg dX10_seek_24 fl_X10_65 (by decide) rfl ?_
      refine x_icmp_ge (tgt := 99) hg dX10_seek_27 (by decide) (by omega) (by omega) (fun c27 => ?_) (fun c27 => ?_)
      · skip
        refine x_vret hg hr dX10_seek_99 (Nat.le_refl _) (Nat.le_refl _) ?_
        exact ⟨rfl, rfl, rfl, hW, hf⟩
      · skip
        refine x_aload_n hg dX10_seek_30 rfl ?_
        refine x_getR (j9 := 67) hg dX10_seek_31 fl_X10_21 (by decide) rfl rfl (by decide) ?_
        refine x_iload_n hg dX10_seek_34 rfl ?_
        refine x_iaload (len := 64) hg dX10_seek_35 (by decide) (by omega) ?_
        refine x_istore (ls' := [(0, _), (1, _), (2, _), (3, _), (4, _)]) hg dX10_seek_36 (by decide) rfl ?_
        refine x_aload_n hg dX10_seek_38 rfl ?_
        refine x_getR (j9 := 66) hg dX10_seek_39 fl_X10_18 (by decide) rfl rfl (by decide) ?_
        refine x_iload hg dX10_seek_42 rfl ?_
        refine x_aload_n hg dX10_seek_44 rfl ?_
        refine x_iload hg dX10_seek_45 rfl ?_
        refine x_iload_n hg dX10_seek_47 rfl ?_
        refine x_aload_n hg dX10_seek_48 rfl ?_
        refine x_cVi hg he [_, _, _] [_, _] dX10_seek_49 mv_X10_68 (c_X10_costAt l b D cy hW (IC_W hf hC) (pCh_W hf hcc hc) (by have h1 := hw2 i.toNat (by omega); omega) (by omega)) (by decide) rfl rfl (Nat.le_of_ble_eq_true rfl) (by decide) (by decide) (fun r49 M49 q49 => ?_)
        obtain ⟨h49, e49⟩ := q49
        replace h49 := h49.symm
        subst h49
        refine x_iastore (len := 64) hg dX10_seek_52 (by decide) (by have h1 := hw2 i.toNat (by omega); omega)  ?_
        refine x_aload_n hg dX10_seek_53 rfl ?_
        refine x_getR (j9 := 64) hg dX10_seek_54 fl_X10_11 (by decide) rfl rfl (by decide) ?_
        refine x_iload hg dX10_seek_57 rfl ?_
        refine x_iaload (len := 64) hg dX10_seek_59 (by decide) (by have h1 := hw2 i.toNat (by omega); omega) ?_
        try simp (disch := omega) only [mu_s, mu_nf, mu_nc]
        refine x_if_ne (tgt := 93) hg dX10_seek_60 (by decide) (by have h1 := hw2 i.toNat (by omega); have h2 := hw2 (M 67 i.toNat).toNat (by omega); omega) (fun c60 => ?_) (fun c60 => ?_)
        · skip
          refine x_canon (ls' := [(0, _), (1, _), (2, _), (3, _)]) rfl ?_
          first | exact next (by omega) M90 hW90 (fun a ha => by rw [hf90 a ha]; exact frW_mu hf (by decide) a ha) | exact next (by omega) _ (IW_a hW (Or.inr (Or.inr (Or.inl ⟨rfl, e49⟩)))) (frW_mu hf (by decide))
        · skip
          refine x_aload_n hg dX10_seek_63 rfl ?_
          refine x_getR (j9 := 66) hg dX10_seek_64 fl_X10_18 (by decide) rfl rfl (by decide) ?_
          refine x_iload hg dX10_seek_67 rfl ?_
          refine x_iaload (len := 64) hg dX10_seek_69 (by decide) (by have h1 := hw2 i.toNat (by omega); omega) ?_
          try simp (disch := omega) only [mu_s, mu_nf, mu_nc]
          refine x_ldc hg 2147483647 dX10_seek_70 (List.mem_of_getElem? (i := 643) (by decide +kernel)) ?_
          refine x_icmp_eq (tgt := 93) hg dX10_seek_72 (by decide) (by omega) (by omega) (fun c72 => ?_) (fun c72 => ?_)
          · skip
            refine x_canon (ls' := [(0, _), (1, _), (2, _), (3, _)]) rfl ?_
            first | exact next (by omega) M90 hW90 (fun a ha => by rw [hf90 a ha]; exact frW_mu hf (by decide) a ha) | exact next (by omega) _ (IW_a hW (Or.inr (Or.inr (Or.inl ⟨rfl, e49⟩)))) (frW_mu hf (by decide))
          · skip
            refine x_aload_n hg dX10_seek_75 rfl ?_
            refine x_aload_n hg dX10_seek_76 rfl ?_
            refine x_getR (j9 := 66) hg dX10_seek_77 fl_X10_18 (by decide) rfl rfl (by decide) ?_
            refine x_iload hg dX10_seek_80 rfl ?_
            refine x_iaload (len := 64) hg dX10_seek_82 (by decide) (by have h1 := hw2 i.toNat (by omega); omega) ?_
            try simp (disch := omega) only [mu_s, mu_nf, mu_nc]
            refine x_aload_n hg dX10_seek_83 rfl ?_
            refine x_getR (j9 := 65) hg dX10_seek_84 fl_X10_15 (by decide) rfl rfl (by decide) ?_
            refine x_iload hg dX10_seek_87 rfl ?_
            refine x_iaload (len := 64) hg dX10_seek_89 (by decide) (by have h1 := hw2 i.toNat (by omega); omega) ?_
            try simp (disch := omega) only [mu_s, mu_nf, mu_nc]
            refine x_cVv hg he [_, _] [] dX10_seek_90 mv_X10_73 (c_X10_keepBetter l b D cy (IW_a hW (Or.inr (Or.inr (Or.inl ⟨rfl, e49⟩)))) (by omega) (by have h1 := hw2 i.toNat (by omega); have h2 := hw2 (M 67 i.toNat).toNat (by omega); omega)) (by decide) rfl rfl (Nat.le_of_ble_eq_true rfl) (by decide) (by decide) (fun M90 q90 => ?_)
            obtain ⟨hW90, hf90⟩ := q90
            refine x_canon (ls' := [(0, _), (1, _), (2, _), (3, _)]) rfl ?_
            first | exact next (by omega) M90 hW90 (fun a ha => by rw [hf90 a ha]; exact frW_mu hf (by decide) a ha) | exact next (by omega) _ (IW_a hW (Or.inr (Or.inr (Or.inl ⟨rfl, e49⟩)))) (frW_mu hf (by decide))
  refine x_aload_n hg dX10_seek_0 rfl ?_
  refine x_aload_n hg dX10_seek_1 rfl ?_
  refine x_cVv hg he [_] [] dX10_seek_2 mv_X10_52 (c_X10_gatherStops l b D cy hW hI hq) (by decide) rfl rfl (Nat.le_of_ble_eq_true rfl) (by decide) (by decide) (fun M2 q2 => ?_)
  obtain ⟨hW2, hf2⟩ := q2
  refine x_aload_n hg dX10_seek_5 rfl ?_
  refine x_iconst hg dX10_seek_6 ?_
  refine x_putI hg dX10_seek_7 fl_X10_56 ft_10_6 (by decide) rfl ?_
  refine x_aload_n hg dX10_seek_10 rfl ?_
  refine x_iconst hg dX10_seek_11 ?_
  refine x_putI hg dX10_seek_12 fl_X10_59 ft_10_7 (by decide) rfl ?_
  refine x_aload_n hg dX10_seek_15 rfl ?_
  refine x_iconst hg dX10_seek_16 ?_
  refine x_putI hg dX10_seek_17 fl_X10_62 ft_10_8 (by decide) rfl ?_
  refine x_iconst hg dX10_seek_20 ?_
  refine x_istore_n (ls' := [(0, _), (1, _), (2, _), (3, _)]) hg dX10_seek_21 rfl (by decide) rfl ?_
  exact loop 65 _ 0 (by omega) (by omega) (by omega) (IW_f (IW_f (IW_f hW2 (Or.inr ⟨by omega, by omega⟩)) (Or.inr ⟨by omega, by omega⟩)) (Or.inr ⟨by omega, by omega⟩)) (frW_mu (frW_mu (frW_mu hf2 (by decide)) (by decide)) (by decide))

theorem dX11_by_0 : decode cX11_by 0 = .ok (.aload_n 0, 1) := by decide +kernel
theorem dX11_by_1 : decode cX11_by 1 = .ok (.iload_n 1, 1) := by decide +kernel
theorem dX11_by_2 : decode cX11_by 2 = .ok (.invokevirtual 177, 3) := by decide +kernel
theorem dX11_by_5 : decode cX11_by 5 = .ok (.ifCond .eq 14, 3) := by decide +kernel
theorem dX11_by_8 : decode cX11_by 8 = .ok (.aload_n 0, 1) := by decide +kernel
theorem dX11_by_9 : decode cX11_by 9 = .ok (.getfield 28, 3) := by decide +kernel
theorem dX11_by_12 : decode cX11_by 12 = .ok (.iload_n 2, 1) := by decide +kernel
theorem dX11_by_13 : decode cX11_by 13 = .ok (.invokevirtual 116, 3) := by decide +kernel
theorem dX11_by_16 : decode cX11_by 16 = .ok (.ifCond .ne 5, 3) := by decide +kernel
theorem dX11_by_19 : decode cX11_by 19 = .ok (.iconst (-1), 1) := by decide +kernel
theorem dX11_by_20 : decode cX11_by 20 = .ok (.ireturn, 1) := by decide +kernel
theorem dX11_by_21 : decode cX11_by 21 = .ok (.aload_n 0, 1) := by decide +kernel
theorem dX11_by_22 : decode cX11_by 22 = .ok (.getfield 47, 3) := by decide +kernel
theorem dX11_by_25 : decode cX11_by 25 = .ok (.aload_n 0, 1) := by decide +kernel
theorem dX11_by_26 : decode cX11_by 26 = .ok (.getfield 70, 3) := by decide +kernel
theorem dX11_by_29 : decode cX11_by 29 = .ok (.iload_n 1, 1) := by decide +kernel
theorem dX11_by_30 : decode cX11_by 30 = .ok (.aaload, 1) := by decide +kernel
theorem dX11_by_31 : decode cX11_by 31 = .ok (.aload_n 0, 1) := by decide +kernel
theorem dX11_by_32 : decode cX11_by 32 = .ok (.getfield 28, 3) := by decide +kernel
theorem dX11_by_35 : decode cX11_by 35 = .ok (.getfield 120, 3) := by decide +kernel
theorem dX11_by_38 : decode cX11_by 38 = .ok (.iload_n 2, 1) := by decide +kernel
theorem dX11_by_39 : decode cX11_by 39 = .ok (.aaload, 1) := by decide +kernel
theorem dX11_by_40 : decode cX11_by 40 = .ok (.invokevirtual 196, 3) := by decide +kernel
theorem dX11_by_43 : decode cX11_by 43 = .ok (.ireturn, 1) := by decide +kernel
set_option maxHeartbeats 4000000 in
set_option maxRecDepth 20000 in
theorem c_X11_by (l : Launch) (b : Nat) (D : va_G) (cy : Nat → ClassId) {tt : Nat} {M : xMm} {z y : Int} (hI : IO M) (hIC : IC M) (hIR : IR M) (htt : xTt tt) (hz : inR z) (hy : inR y) : xC l b D cy yX11_by cX11_by 3 (some .int) ({ frames := 3, cells := 0, slots := 0, locals := 73 }) [xr 1, xi z, xi y] 209 M (RS tt) (xPi 209 (RS tt) (fun r M' => M' = M)) := by
  refine x_met (by decide) (Nat.le_of_ble_eq_true rfl) (fun g hg hr he => ?_)
  have hI0 := hI
  obtain ⟨hn10, hn13, hn15, hn16, hn8, hn7, hC, hT, hB, hF⟩ := hI
  have htq := hIR.1 tt htt
  refine x_canon (ls' := [(0, _), (1, _), (2, _)]) rfl ?_
  refine x_aload_n hg dX11_by_0 rfl ?_
  refine x_iload_n hg dX11_by_1 rfl ?_
  refine x_cVi hg he [_] [] dX11_by_2 mv_X11_177 (c_X11_isChurn l b D cy (by omega) (by omega)) (by decide) rfl rfl (Nat.le_of_ble_eq_true rfl) (by decide) (by decide) (fun r2 M2 q2 => ?_)
  obtain ⟨h2, e2⟩ := q2
  replace h2 := h2.symm
  subst h2
  refine x_if_eq (tgt := 19) hg dX11_by_5 (by decide) (by omega) (fun c5 => ?_) (fun c5 => ?_)
  · skip
    refine x_iconst hg dX11_by_19 ?_
    refine x_iret hg hr (Or.inl rfl) dX11_by_20 (Nat.le_refl _) (Nat.le_refl _) ?_
    exact ⟨rfl, rfl, _, rfl, rfl⟩
  · skip
    refine x_aload_n hg dX11_by_8 rfl ?_
    refine x_getR (j9 := tt) hg dX11_by_9 fl_X11_28 (by decide) rfl rfl (by omega) ?_
    refine x_iload_n hg dX11_by_12 rfl ?_
    refine x_cVi hg he [_] [] dX11_by_13 mv_X11_116 (c_X8_has l b D cy hIR htt (by omega)) (oO_tt htt) rfl rfl (Nat.le_of_ble_eq_true rfl) (by decide) (by decide) (fun r13 M13 q13 => ?_)
    obtain ⟨h13, e13⟩ := q13
    replace h13 := h13.symm
    subst h13
    refine x_if_ne (tgt := 21) hg dX11_by_16 (by decide) (by omega) (fun c16 => ?_) (fun c16 => ?_)
    · skip
      refine x_aload_n hg dX11_by_21 rfl ?_
      refine x_getR (j9 := 63) hg dX11_by_22 fl_X11_47 (by decide) rfl rfl (by decide) ?_
      refine x_aload_n hg dX11_by_25 rfl ?_
      refine x_getR (j9 := 84) hg dX11_by_26 fl_X11_70 (by decide) rfl rfl (by decide) ?_
      refine x_iload_n hg dX11_by_29 rfl ?_
      refine x_aaload (len := 10) (et := 5) hg dX11_by_30 (by decide) (by decide) (by omega) (RS_churn _ _) (by omega) ?_
      refine x_aload_n hg dX11_by_31 rfl ?_
      refine x_getR (j9 := tt) hg dX11_by_32 fl_X11_28 (by decide) rfl rfl (by omega) ?_
      refine x_getR hg dX11_by_35 fl_X11_120 (oO_tt htt) rfl (RS_tt htt) (by omega) ?_
      refine x_iload_n hg dX11_by_38 rfl ?_
      refine x_aaload (len := 8) (et := 4) hg dX11_by_39 (oA_tt htt) (by decide) (by omega) (RS_trn htt _) (by omega) ?_
      refine x_cVi hg he [_, _] [] dX11_by_40 mv_X11_196 (c_X10_direct l b D cy hIC hIR ⟨oO_churn (by omega), by have h1 := hC z.toNat (by omega); omega, by have h1 := hC z.toNat (by omega); omega⟩ (xTr_of htt (by omega))) (by decide) rfl rfl (Nat.le_of_ble_eq_true rfl) (by decide) (by decide) (fun r40 M40 q40 => ?_)
      obtain ⟨h40, e40⟩ := q40
      replace h40 := h40.symm
      subst h40
      refine x_iret hg hr (Or.inl rfl) dX11_by_43 (Nat.le_refl _) (Nat.le_refl _) ?_
      exact ⟨rfl, rfl, _, rfl, rfl⟩
    · skip
      refine x_iconst hg dX11_by_19 ?_
      refine x_iret hg hr (Or.inl rfl) dX11_by_20 (Nat.le_refl _) (Nat.le_refl _) ?_
      exact ⟨rfl, rfl, _, rfl, rfl⟩

theorem dX11_alone_0 : decode cX11_alone 0 = .ok (.aload_n 0, 1) := by decide +kernel
theorem dX11_alone_1 : decode cX11_alone 1 = .ok (.iload_n 1, 1) := by decide +kernel
theorem dX11_alone_2 : decode cX11_alone 2 = .ok (.invokevirtual 177, 3) := by decide +kernel
theorem dX11_alone_5 : decode cX11_alone 5 = .ok (.ifCond .ne 5, 3) := by decide +kernel
theorem dX11_alone_8 : decode cX11_alone 8 = .ok (.iconst (-1), 1) := by decide +kernel
theorem dX11_alone_9 : decode cX11_alone 9 = .ok (.ireturn, 1) := by decide +kernel
theorem dX11_alone_10 : decode cX11_alone 10 = .ok (.aload_n 0, 1) := by decide +kernel
theorem dX11_alone_11 : decode cX11_alone 11 = .ok (.getfield 47, 3) := by decide +kernel
theorem dX11_alone_14 : decode cX11_alone 14 = .ok (.aload_n 0, 1) := by decide +kernel
theorem dX11_alone_15 : decode cX11_alone 15 = .ok (.getfield 70, 3) := by decide +kernel
theorem dX11_alone_18 : decode cX11_alone 18 = .ok (.iload_n 1, 1) := by decide +kernel
theorem dX11_alone_19 : decode cX11_alone 19 = .ok (.aaload, 1) := by decide +kernel
theorem dX11_alone_20 : decode cX11_alone 20 = .ok (.aload_n 0, 1) := by decide +kernel
theorem dX11_alone_21 : decode cX11_alone 21 = .ok (.getfield 28, 3) := by decide +kernel
theorem dX11_alone_24 : decode cX11_alone 24 = .ok (.invokevirtual 183, 3) := by decide +kernel
theorem dX11_alone_27 : decode cX11_alone 27 = .ok (.aload_n 0, 1) := by decide +kernel
theorem dX11_alone_28 : decode cX11_alone 28 = .ok (.getfield 47, 3) := by decide +kernel
theorem dX11_alone_31 : decode cX11_alone 31 = .ok (.getfield 187, 3) := by decide +kernel
theorem dX11_alone_34 : decode cX11_alone 34 = .ok (.ireturn, 1) := by decide +kernel
set_option maxHeartbeats 4000000 in
set_option maxRecDepth 20000 in
theorem c_X11_alone (l : Launch) (b : Nat) (D : va_G) (cy : Nat → ClassId) {tt : Nat} {M : xMm} {z : Int} (hI : IO M) (hIC : IC M) (hIR : IR M) (hIW : IW M) (htt : xTt tt) (hz : inR z) : xC l b D cy yX11_alone cX11_alone 2 (some .int) ({ frames := 5, cells := 0, slots := 0, locals := 127 }) [xr 1, xi z] 209 M (RS tt) (xPi 209 (RS tt) (fun r M' => IW M' ∧ frW M' M)) := by
  refine x_met (by decide) (Nat.le_of_ble_eq_true rfl) (fun g hg hr he => ?_)
  have hI0 := hI
  obtain ⟨hn10, hn13, hn15, hn16, hn8, hn7, hC, hT, hB, hF⟩ := hI
  refine x_canon (ls' := [(0, _), (1, _)]) rfl ?_
  refine x_aload_n hg dX11_alone_0 rfl ?_
  refine x_iload_n hg dX11_alone_1 rfl ?_
  refine x_cVi hg he [_] [] dX11_alone_2 mv_X11_177 (c_X11_isChurn l b D cy (by omega) (by omega)) (by decide) rfl rfl (Nat.le_of_ble_eq_true rfl) (by decide) (by decide) (fun r2 M2 q2 => ?_)
  obtain ⟨h2, e2⟩ := q2
  replace h2 := h2.symm
  subst h2
  refine x_if_ne (tgt := 10) hg dX11_alone_5 (by decide) (by omega) (fun c5 => ?_) (fun c5 => ?_)
  · skip
    refine x_aload_n hg dX11_alone_10 rfl ?_
    refine x_getR (j9 := 63) hg dX11_alone_11 fl_X11_47 (by decide) rfl rfl (by decide) ?_
    refine x_aload_n hg dX11_alone_14 rfl ?_
    refine x_getR (j9 := 84) hg dX11_alone_15 fl_X11_70 (by decide) rfl rfl (by decide) ?_
    refine x_iload_n hg dX11_alone_18 rfl ?_
    refine x_aaload (len := 10) (et := 5) hg dX11_alone_19 (by decide) (by decide) (by omega) (RS_churn _ _) (by omega) ?_
    refine x_aload_n hg dX11_alone_20 rfl ?_
    refine x_getR (j9 := tt) hg dX11_alone_21 fl_X11_28 (by decide) rfl rfl (by omega) ?_
    refine x_cVv hg he [_, _] [] dX11_alone_24 mv_X11_183 (c_X10_seek l b D cy hIW hIC hIR ⟨oO_churn (by omega), by have h1 := hC z.toNat (by omega); omega, by have h1 := hC z.toNat (by omega); omega⟩ (by omega) htt) (by decide) rfl rfl (Nat.le_of_ble_eq_true rfl) (by decide) (by decide) (fun M24 q24 => ?_)
    obtain ⟨hW24, hf24⟩ := q24
    refine x_aload_n hg dX11_alone_27 rfl ?_
    refine x_getR (j9 := 63) hg dX11_alone_28 fl_X11_47 (by decide) rfl rfl (by decide) ?_
    refine x_getI hg dX11_alone_31 fl_X11_187 (by decide) rfl ?_
    refine x_iret hg hr (Or.inl rfl) dX11_alone_34 (Nat.le_refl _) (Nat.le_refl _) ?_
    first | exact ⟨rfl, rfl, _, rfl, hW24, hf24⟩ | exact ⟨rfl, rfl, _, rfl, hIW, fun a _ => rfl⟩
  · skip
    refine x_iconst hg dX11_alone_8 ?_
    refine x_iret hg hr (Or.inl rfl) dX11_alone_9 (Nat.le_refl _) (Nat.le_refl _) ?_
    first | exact ⟨rfl, rfl, _, rfl, hW24, hf24⟩ | exact ⟨rfl, rfl, _, rfl, hIW, fun a _ => rfl⟩

theorem dX11_way_0 : decode cX11_way 0 = .ok (.aload_n 0, 1) := by decide +kernel
theorem dX11_way_1 : decode cX11_way 1 = .ok (.iload_n 1, 1) := by decide +kernel
theorem dX11_way_2 : decode cX11_way 2 = .ok (.invokevirtual 177, 3) := by decide +kernel
theorem dX11_way_5 : decode cX11_way 5 = .ok (.ifCond .eq 12, 3) := by decide +kernel
theorem dX11_way_8 : decode cX11_way 8 = .ok (.iload_n 2, 1) := by decide +kernel
theorem dX11_way_9 : decode cX11_way 9 = .ok (.ifCond .lt 8, 3) := by decide +kernel
theorem dX11_way_12 : decode cX11_way 12 = .ok (.iload_n 2, 1) := by decide +kernel
theorem dX11_way_13 : decode cX11_way 13 = .ok (.iconst 1, 1) := by decide +kernel
theorem dX11_way_14 : decode cX11_way 14 = .ok (.if_icmp .le 5, 3) := by decide +kernel
theorem dX11_way_17 : decode cX11_way 17 = .ok (.iconst (-1), 1) := by decide +kernel
theorem dX11_way_18 : decode cX11_way 18 = .ok (.ireturn, 1) := by decide +kernel
theorem dX11_way_19 : decode cX11_way 19 = .ok (.aload_n 0, 1) := by decide +kernel
theorem dX11_way_20 : decode cX11_way 20 = .ok (.getfield 47, 3) := by decide +kernel
theorem dX11_way_23 : decode cX11_way 23 = .ok (.aload_n 0, 1) := by decide +kernel
theorem dX11_way_24 : decode cX11_way 24 = .ok (.getfield 70, 3) := by decide +kernel
theorem dX11_way_27 : decode cX11_way 27 = .ok (.iload_n 1, 1) := by decide +kernel
theorem dX11_way_28 : decode cX11_way 28 = .ok (.aaload, 1) := by decide +kernel
theorem dX11_way_29 : decode cX11_way 29 = .ok (.aload_n 0, 1) := by decide +kernel
theorem dX11_way_30 : decode cX11_way 30 = .ok (.getfield 28, 3) := by decide +kernel
theorem dX11_way_33 : decode cX11_way 33 = .ok (.invokevirtual 183, 3) := by decide +kernel
theorem dX11_way_36 : decode cX11_way 36 = .ok (.iload_n 2, 1) := by decide +kernel
theorem dX11_way_37 : decode cX11_way 37 = .ok (.ifCond .ne 13, 3) := by decide +kernel
theorem dX11_way_40 : decode cX11_way 40 = .ok (.aload_n 0, 1) := by decide +kernel
theorem dX11_way_41 : decode cX11_way 41 = .ok (.getfield 47, 3) := by decide +kernel
theorem dX11_way_44 : decode cX11_way 44 = .ok (.getfield 190, 3) := by decide +kernel
theorem dX11_way_47 : decode cX11_way 47 = .ok (.goto 10, 3) := by decide +kernel
theorem dX11_way_50 : decode cX11_way 50 = .ok (.aload_n 0, 1) := by decide +kernel
theorem dX11_way_51 : decode cX11_way 51 = .ok (.getfield 47, 3) := by decide +kernel
theorem dX11_way_54 : decode cX11_way 54 = .ok (.getfield 193, 3) := by decide +kernel
theorem dX11_way_57 : decode cX11_way 57 = .ok (.ireturn, 1) := by decide +kernel
set_option maxHeartbeats 4000000 in
set_option maxRecDepth 20000 in
theorem c_X11_way (l : Launch) (b : Nat) (D : va_G) (cy : Nat → ClassId) {tt : Nat} {M : xMm} {z y : Int} (hI : IO M) (hIC : IC M) (hIR : IR M) (hIW : IW M) (htt : xTt tt) (hz : inR z) (hy : inR y) : xC l b D cy yX11_way cX11_way 3 (some .int) ({ frames := 5, cells := 0, slots := 0, locals := 127 }) [xr 1, xi z, xi y] 209 M (RS tt) (xPi 209 (RS tt) (fun r M' => IW M' ∧ frW M' M)) := by
  refine x_met (by decide) (Nat.le_of_ble_eq_true rfl) (fun g hg hr he => ?_)
  have hI0 := hI
  obtain ⟨hn10, hn13, hn15, hn16, hn8, hn7, hC, hT, hB, hF⟩ := hI
  refine x_canon (ls' := [(0, _), (1, _), (2, _)]) rfl ?_
  refine x_aload_n hg dX11_way_0 rfl ?_
  refine x_iload_n hg dX11_way_1 rfl ?_
  refine x_cVi hg he [_] [] dX11_way_2 mv_X11_177 (c_X11_isChurn l b D cy (by omega) (by omega)) (by decide) rfl rfl (Nat.le_of_ble_eq_true rfl) (by decide) (by decide) (fun r2 M2 q2 => ?_)
  obtain ⟨h2, e2⟩ := q2
  replace h2 := h2.symm
  subst h2
  refine x_if_eq (tgt := 17) hg dX11_way_5 (by decide) (by omega) (fun c5 => ?_) (fun c5 => ?_)
  · skip
    refine x_iconst hg dX11_way_17 ?_
    refine x_iret hg hr (Or.inl rfl) dX11_way_18 (Nat.le_refl _) (Nat.le_refl _) ?_
    first | exact ⟨rfl, rfl, _, rfl, hW33, hf33⟩ | exact ⟨rfl, rfl, _, rfl, hIW, fun a _ => rfl⟩
  · skip
    refine x_iload_n hg dX11_way_8 rfl ?_
    refine x_if_lt (tgt := 17) hg dX11_way_9 (by decide) (by omega) (fun c9 => ?_) (fun c9 => ?_)
    · skip
      refine x_iconst hg dX11_way_17 ?_
      refine x_iret hg hr (Or.inl rfl) dX11_way_18 (Nat.le_refl _) (Nat.le_refl _) ?_
      first | exact ⟨rfl, rfl, _, rfl, hW33, hf33⟩ | exact ⟨rfl, rfl, _, rfl, hIW, fun a _ => rfl⟩
    · skip
      refine x_iload_n hg dX11_way_12 rfl ?_
      refine x_iconst hg dX11_way_13 ?_
      refine x_icmp_le (tgt := 19) hg dX11_way_14 (by decide) (by omega) (by omega) (fun c14 => ?_) (fun c14 => ?_)
      · skip
        refine x_aload_n hg dX11_way_19 rfl ?_
        refine x_getR (j9 := 63) hg dX11_way_20 fl_X11_47 (by decide) rfl rfl (by decide) ?_
        refine x_aload_n hg dX11_way_23 rfl ?_
        refine x_getR (j9 := 84) hg dX11_way_24 fl_X11_70 (by decide) rfl rfl (by decide) ?_
        refine x_iload_n hg dX11_way_27 rfl ?_
        refine x_aaload (len := 10) (et := 5) hg dX11_way_28 (by decide) (by decide) (by omega) (RS_churn _ _) (by omega) ?_
        refine x_aload_n hg dX11_way_29 rfl ?_
        refine x_getR (j9 := tt) hg dX11_way_30 fl_X11_28 (by decide) rfl rfl (by omega) ?_
        refine x_cVv hg he [_, _] [] dX11_way_33 mv_X11_183 (c_X10_seek l b D cy hIW hIC hIR ⟨oO_churn (by omega), by have h1 := hC z.toNat (by omega); omega, by have h1 := hC z.toNat (by omega); omega⟩ (by omega) htt) (by decide) rfl rfl (Nat.le_of_ble_eq_true rfl) (by decide) (by decide) (fun M33 q33 => ?_)
        obtain ⟨hW33, hf33⟩ := q33
        refine x_iload_n hg dX11_way_36 rfl ?_
        refine x_if_ne (tgt := 50) hg dX11_way_37 (by decide) (by omega) (fun c37 => ?_) (fun c37 => ?_)
        · skip
          refine x_aload_n hg dX11_way_50 rfl ?_
          refine x_getR (j9 := 63) hg dX11_way_51 fl_X11_47 (by decide) rfl rfl (by decide) ?_
          refine x_getI hg dX11_way_54 fl_X11_193 (by decide) rfl ?_
          refine x_iret hg hr (Or.inl rfl) dX11_way_57 (Nat.le_refl _) (Nat.le_refl _) ?_
          first | exact ⟨rfl, rfl, _, rfl, hW33, hf33⟩ | exact ⟨rfl, rfl, _, rfl, hIW, fun a _ => rfl⟩
        · skip
          refine x_aload_n hg dX11_way_40 rfl ?_
          refine x_getR (j9 := 63) hg dX11_way_41 fl_X11_47 (by decide) rfl rfl (by decide) ?_
          refine x_getI hg dX11_way_44 fl_X11_190 (by decide) rfl ?_
          refine x_goto (tgt := 57) hg dX11_way_47 (by decide) ?_
          refine x_iret hg hr (Or.inl rfl) dX11_way_57 (Nat.le_refl _) (Nat.le_refl _) ?_
          first | exact ⟨rfl, rfl, _, rfl, hW33, hf33⟩ | exact ⟨rfl, rfl, _, rfl, hIW, fun a _ => rfl⟩
      · skip
        refine x_iconst hg dX11_way_17 ?_
        refine x_iret hg hr (Or.inl rfl) dX11_way_18 (Nat.le_refl _) (Nat.le_refl _) ?_
        first | exact ⟨rfl, rfl, _, rfl, hW33, hf33⟩ | exact ⟨rfl, rfl, _, rfl, hIW, fun a _ => rfl⟩
end
section
/-! ===== the loading's own cells ===== -/
def IL (M : xMm) : Prop := ((0 ≤ M 68 6 ∧ M 68 6 ≤ 10) ∧ inR (M 68 7) ∧ inR (M 68 8)) ∧ (∀ c, c < 10 → 0 ≤ M 80 c ∧ M 80 c ≤ 8) ∧ (∀ t, t < 9 → inR (M 81 t) ∧ inL (M 82 t) ∧ (0 ≤ M 83 t ∧ M 83 t ≤ 9)) ∧ ∀ c, c < 10 → ∀ t, t < 9 → inL (M (70 + c) t)
theorem IL_f {M : xMm} (h : IL M) {f : Nat} {z : Int} (hz : f = 6 ∧ (0 ≤ z ∧ z ≤ 10) ∨ (f = 7 ∨ f = 8) ∧ inR z) : IL (mu M 68 f z) := by
  obtain ⟨h1, h2, h3, h4⟩ := h
  refine ⟨?_, fun c hc => by rw [mu_nc (by decide)]; exact h2 c hc, fun t ht => by rw [mu_nc (by decide), mu_nc (by decide), mu_nc (by decide)]; exact h3 t ht, fun c hc t ht => by rw [mu_nc (by omega)]; exact h4 c hc t ht⟩
  rcases hz with ⟨rfl, hz⟩ | ⟨rfl | rfl, hz⟩ <;> simp only [mu_s, mu_nf (show (6 : Nat) ≠ 7 by decide), mu_nf (show (6 : Nat) ≠ 8 by decide), mu_nf (show (7 : Nat) ≠ 6 by decide), mu_nf (show (7 : Nat) ≠ 8 by decide), mu_nf (show (8 : Nat) ≠ 6 by decide), mu_nf (show (8 : Nat) ≠ 7 by decide)] <;> omega
theorem IL_ch {M : xMm} (h : IL M) {i : Nat} {z : Int} (hz : 0 ≤ z ∧ z ≤ 8) : IL (mu M 80 i z) := by
  obtain ⟨h1, h2, h3, h4⟩ := h
  refine ⟨by rw [mu_nc (by decide), mu_nc (by decide), mu_nc (by decide)]; exact h1, fun c hc => ?_, fun t ht => by rw [mu_nc (by decide), mu_nc (by decide), mu_nc (by decide)]; exact h3 t ht, fun c hc t ht => by rw [mu_nc (by omega)]; exact h4 c hc t ht⟩
  by_cases e : c = i
  · subst e; rw [mu_s]; exact hz
  · rw [mu_nf e]; exact h2 c hc
theorem IL_t {M : xMm} (h : IL M) {a i : Nat} {z : Int} (hz : a = 81 ∧ inR z ∨ a = 82 ∧ inL z ∨ a = 83 ∧ (0 ≤ z ∧ z ≤ 9)) : IL (mu M a i z) := by
  obtain ⟨h1, h2, h3, h4⟩ := h
  refine ⟨by rw [mu_nc (by omega), mu_nc (by omega), mu_nc (by omega)]; exact h1, fun c hc => by rw [mu_nc (by omega)]; exact h2 c hc, fun t ht => ?_, fun c hc t ht => by rw [mu_nc (by omega)]; exact h4 c hc t ht⟩
  have h5 := h3 t ht
  by_cases e : t = i
  · subst e
    rcases hz with ⟨rfl, hz⟩ | ⟨rfl, hz⟩ | ⟨rfl, hz⟩ <;> simp only [mu_s, mu_nc (show (81 : Nat) ≠ 82 by decide), mu_nc (show (81 : Nat) ≠ 83 by decide), mu_nc (show (82 : Nat) ≠ 81 by decide), mu_nc (show (82 : Nat) ≠ 83 by decide), mu_nc (show (83 : Nat) ≠ 81 by decide), mu_nc (show (83 : Nat) ≠ 82 by decide)] <;> omega
  · rw [mu_nf e, mu_nf e, mu_nf e]; exact h5
theorem IL_row {M : xMm} (h : IL M) {k i : Nat} {z : Int} (hk : k < 10) (hz : inL z) : IL (mu M (70 + k) i z) := by
  obtain ⟨h1, h2, h3, h4⟩ := h
  refine ⟨by rw [mu_nc (by omega), mu_nc (by omega), mu_nc (by omega)]; exact h1, fun c hc => by rw [mu_nc (by omega)]; exact h2 c hc, fun t ht => by rw [mu_nc (by omega), mu_nc (by omega), mu_nc (by omega)]; exact h3 t ht, fun c hc t ht => ?_⟩
  by_cases e : 70 + c = 70 + k ∧ t = i
  · obtain ⟨e1, rfl⟩ := e
    rw [e1, mu_s]; exact hz
  · rw [mu_n e]; exact h4 c hc t ht
abbrev frL (M' M : xMm) : Prop := ∀ a, a < 68 ∨ 83 < a → M' a = M a
theorem frL_mu {M' M : xMm} (h : frL M' M) {a k : Nat} {z : Int} (ha : 68 ≤ a ∧ a ≤ 83) : frL (mu M' a k z) M := fun c hc => by
  rw [← h c hc]
  funext j
  exact mu_nc (by omega)
theorem frL_tr {M2 M1 M : xMm} (h1 : frL M2 M1) (h : frL M1 M) : frL M2 M := fun a ha => by rw [h1 a ha, h a ha]
theorem IC_L {M' M : xMm} (h : frL M' M) (hI : IC M) : IC M' := IC_congr hI (fun a h1 h2 => h a (by omega))
theorem IR_L {M' M : xMm} (h : frL M' M) (hI : IR M) : IR M' := IR_congr hI (fun a h1 h2 => h a (by omega))
/-- the churns -/
def pChs (M : xMm) : Prop := ∀ c, c < 10 → pCh M (85 + c) ∧ inR (M (85 + c) 3)
theorem pChs_L {M' M : xMm} (h : frL M' M) (hI : pChs M) : pChs M' := fun c hc => by
  have h1 := hI c hc
  rw [pCh, h (85 + c) (by omega)]
  exact h1

theorem dX4_trainOf_0 : decode cX4_trainOf 0 = .ok (.iload_n 1, 1) := by decide +kernel
theorem dX4_trainOf_1 : decode cX4_trainOf 1 = .ok (.ifCond .lt 22, 3) := by decide +kernel
theorem dX4_trainOf_4 : decode cX4_trainOf 4 = .ok (.iload_n 1, 1) := by decide +kernel
theorem dX4_trainOf_5 : decode cX4_trainOf 5 = .ok (.aload_n 0, 1) := by decide +kernel
theorem dX4_trainOf_6 : decode cX4_trainOf 6 = .ok (.getfield 34, 3) := by decide +kernel
theorem dX4_trainOf_9 : decode cX4_trainOf 9 = .ok (.if_icmp .ge 14, 3) := by decide +kernel
theorem dX4_trainOf_12 : decode cX4_trainOf 12 = .ok (.aload_n 0, 1) := by decide +kernel
theorem dX4_trainOf_13 : decode cX4_trainOf 13 = .ok (.getfield 16, 3) := by decide +kernel
theorem dX4_trainOf_16 : decode cX4_trainOf 16 = .ok (.iload_n 1, 1) := by decide +kernel
theorem dX4_trainOf_17 : decode cX4_trainOf 17 = .ok (.iaload, 1) := by decide +kernel
theorem dX4_trainOf_18 : decode cX4_trainOf 18 = .ok (.bipush 8, 2) := by decide +kernel
theorem dX4_trainOf_20 : decode cX4_trainOf 20 = .ok (.if_icmp .ne 5, 3) := by decide +kernel
theorem dX4_trainOf_23 : decode cX4_trainOf 23 = .ok (.iconst (-1), 1) := by decide +kernel
theorem dX4_trainOf_24 : decode cX4_trainOf 24 = .ok (.ireturn, 1) := by decide +kernel
theorem dX4_trainOf_25 : decode cX4_trainOf 25 = .ok (.aload_n 0, 1) := by decide +kernel
theorem dX4_trainOf_26 : decode cX4_trainOf 26 = .ok (.getfield 16, 3) := by decide +kernel
theorem dX4_trainOf_29 : decode cX4_trainOf 29 = .ok (.iload_n 1, 1) := by decide +kernel
theorem dX4_trainOf_30 : decode cX4_trainOf 30 = .ok (.iaload, 1) := by decide +kernel
theorem dX4_trainOf_31 : decode cX4_trainOf 31 = .ok (.ireturn, 1) := by decide +kernel
set_option maxHeartbeats 4000000 in
set_option maxRecDepth 20000 in
theorem c_X4_trainOf (l : Launch) (b : Nat) (D : va_G) (cy : Nat → ClassId) {tt : Nat} {M : xMm} {z : Int} (hL : IL M) (hz : inR z) : xC l b D cy yX4_trainOf cX4_trainOf 2 (some .int) ({ frames := 0, cells := 0, slots := 0, locals := 0 }) [xr 68, xi z] 209 M (RS tt) (xPi 209 (RS tt) (fun r M' => M' = M)) := by
  refine x_met (by decide) (Nat.le_of_ble_eq_true rfl) (fun g hg hr he => ?_)
  obtain ⟨hl1, hl2, hl3, hl4⟩ := id hL
  refine x_canon (ls' := [(0, _), (1, _)]) rfl ?_
  refine x_iload_n hg dX4_trainOf_0 rfl ?_
  refine x_if_lt (tgt := 23) hg dX4_trainOf_1 (by decide) (by omega) (fun c1 => ?_) (fun c1 => ?_)
  · skip
    refine x_iconst hg dX4_trainOf_23 ?_
    refine x_iret hg hr (Or.inl rfl) dX4_trainOf_24 (Nat.le_refl _) (Nat.le_refl _) ?_
    exact ⟨rfl, rfl, _, rfl, rfl⟩
  · skip
    refine x_iload_n hg dX4_trainOf_4 rfl ?_
    refine x_aload_n hg dX4_trainOf_5 rfl ?_
    refine x_getI hg dX4_trainOf_6 fl_X4_34 (by decide) rfl ?_
    refine x_icmp_ge (tgt := 23) hg dX4_trainOf_9 (by decide) (by omega) (by omega) (fun c9 => ?_) (fun c9 => ?_)
    · skip
      refine x_iconst hg dX4_trainOf_23 ?_
      refine x_iret hg hr (Or.inl rfl) dX4_trainOf_24 (Nat.le_refl _) (Nat.le_refl _) ?_
      exact ⟨rfl, rfl, _, rfl, rfl⟩
    · skip
      refine x_aload_n hg dX4_trainOf_12 rfl ?_
      refine x_getR (j9 := 80) hg dX4_trainOf_13 fl_X4_16 (by decide) rfl rfl (by decide) ?_
      refine x_iload_n hg dX4_trainOf_16 rfl ?_
      refine x_iaload (len := 10) hg dX4_trainOf_17 (by decide) (by omega) ?_
      refine x_bipush hg dX4_trainOf_18 (by decide) ?_
      refine x_icmp_ne (tgt := 25) hg dX4_trainOf_20 (by decide) (by have h1 := hl2 z.toNat (by omega); omega) (by omega) (fun c20 => ?_) (fun c20 => ?_)
      · skip
        refine x_aload_n hg dX4_trainOf_25 rfl ?_
        refine x_getR (j9 := 80) hg dX4_trainOf_26 fl_X4_16 (by decide) rfl rfl (by decide) ?_
        refine x_iload_n hg dX4_trainOf_29 rfl ?_
        refine x_iaload (len := 10) hg dX4_trainOf_30 (by decide) (by omega) ?_
        refine x_iret hg hr (Or.inl rfl) dX4_trainOf_31 (Nat.le_refl _) (Nat.le_refl _) ?_
        exact ⟨rfl, rfl, _, rfl, rfl⟩
      · skip
        refine x_iconst hg dX4_trainOf_23 ?_
        refine x_iret hg hr (Or.inl rfl) dX4_trainOf_24 (Nat.le_refl _) (Nat.le_refl _) ?_
        exact ⟨rfl, rfl, _, rfl, rfl⟩

theorem dX4_makeRoom_0 : decode cX4_makeRoom 0 = .ok (.iconst 0, 1) := by decide +kernel
theorem dX4_makeRoom_1 : decode cX4_makeRoom 1 = .ok (.istore_n 2, 1) := by decide +kernel
theorem dX4_makeRoom_2 : decode cX4_makeRoom 2 = .ok (.iload_n 2, 1) := by decide +kernel
theorem dX4_makeRoom_3 : decode cX4_makeRoom 3 = .ok (.bipush 8, 2) := by decide +kernel
theorem dX4_makeRoom_5 : decode cX4_makeRoom 5 = .ok (.if_icmp .ge 36, 3) := by decide +kernel
theorem dX4_makeRoom_8 : decode cX4_makeRoom 8 = .ok (.aload_n 0, 1) := by decide +kernel
theorem dX4_makeRoom_9 : decode cX4_makeRoom 9 = .ok (.getfield 20, 3) := by decide +kernel
theorem dX4_makeRoom_12 : decode cX4_makeRoom 12 = .ok (.iload_n 2, 1) := by decide +kernel
theorem dX4_makeRoom_13 : decode cX4_makeRoom 13 = .ok (.aload_n 1, 1) := by decide +kernel
theorem dX4_makeRoom_14 : decode cX4_makeRoom 14 = .ok (.iload_n 2, 1) := by decide +kernel
theorem dX4_makeRoom_15 : decode cX4_makeRoom 15 = .ok (.invokevirtual 71, 3) := by decide +kernel
theorem dX4_makeRoom_18 : decode cX4_makeRoom 18 = .ok (.ifCond .eq 15, 3) := by decide +kernel
theorem dX4_makeRoom_21 : decode cX4_makeRoom 21 = .ok (.aload_n 1, 1) := by decide +kernel
theorem dX4_makeRoom_22 : decode cX4_makeRoom 22 = .ok (.getfield 77, 3) := by decide +kernel
theorem dX4_makeRoom_25 : decode cX4_makeRoom 25 = .ok (.iload_n 2, 1) := by decide +kernel
theorem dX4_makeRoom_26 : decode cX4_makeRoom 26 = .ok (.aaload, 1) := by decide +kernel
theorem dX4_makeRoom_27 : decode cX4_makeRoom 27 = .ok (.getfield 81, 3) := by decide +kernel
theorem dX4_makeRoom_30 : decode cX4_makeRoom 30 = .ok (.goto 4, 3) := by decide +kernel
theorem dX4_makeRoom_33 : decode cX4_makeRoom 33 = .ok (.iconst 0, 1) := by decide +kernel
theorem dX4_makeRoom_34 : decode cX4_makeRoom 34 = .ok (.iastore, 1) := by decide +kernel
theorem dX4_makeRoom_35 : decode cX4_makeRoom 35 = .ok (.iinc 2 1, 3) := by decide +kernel
theorem dX4_makeRoom_38 : decode cX4_makeRoom 38 = .ok (.goto (-36), 3) := by decide +kernel
theorem dX4_makeRoom_41 : decode cX4_makeRoom 41 = .ok (.aload_n 0, 1) := by decide +kernel
theorem dX4_makeRoom_42 : decode cX4_makeRoom 42 = .ok (.getfield 20, 3) := by decide +kernel
theorem dX4_makeRoom_45 : decode cX4_makeRoom 45 = .ok (.bipush 8, 2) := by decide +kernel
theorem dX4_makeRoom_47 : decode cX4_makeRoom 47 = .ok (.bipush 10, 2) := by decide +kernel
theorem dX4_makeRoom_49 : decode cX4_makeRoom 49 = .ok (.iastore, 1) := by decide +kernel
theorem dX4_makeRoom_50 : decode cX4_makeRoom 50 = .ok (.return_, 1) := by decide +kernel
set_option maxHeartbeats 4000000 in
set_option maxRecDepth 20000 in
theorem c_X4_makeRoom (l : Launch) (b : Nat) (D : va_G) (cy : Nat → ClassId) {tt : Nat} {M0 : xMm} {q : Nat} (hL : IL M0) (hI : IR M0) (hq : xTt q) : xC l b D cy yX4_makeRoom cX4_makeRoom 3 none ({ frames := 1, cells := 0, slots := 0, locals := 21 }) [xr 68, xr q] 209 M0 (RS tt) (xPv 209 (RS tt) (fun M' => IL M' ∧ frL M' M0)) := by
  refine x_met (by decide) (Nat.le_of_ble_eq_true rfl) (fun g hg hr he => ?_)
  refine x_canon (ls' := [(0, _), (1, _)]) rfl ?_
  have loop : ∀ (n1 : Nat) (M : xMm) (i : Int), 0 ≤ i → i ≤ 8 → 8 - i < n1 → IL M → frL M M0 → xW g 209 M (RS tt) 0 0 2 [(0, xr 68), (1, xr q), (2, xi i)] [] := by
    intro n1
    induction n1 with
    | zero => intro M i hi1 hi2 hi3 hL hf; exfalso; omega
    | succ n1 ih =>
      intro M i hi1 hi2 hi3 hL hf
      obtain ⟨hl1, hl2, hl3, hl4⟩ := id hL
      have j34 : i < 8 → ∀ p : Int, inR p → xW g 209 M (RS tt) 0 0 34 [(0, xr 68), (1, xr q), (2, xi i)] [xi p, xi i, xr 81] := by
        intro hi8 p hp
        refine x_iastore (len := 9) hg dX4_makeRoom_34 (by decide) (by omega)  ?_
        refine x_iinc (ls' := [(0, _), (1, _), (2, _)]) hg dX4_makeRoom_35 rfl (by decide) rfl ?_
        refine x_goto (tgt := 2) hg dX4_makeRoom_38 (by decide) ?_
        exact ih _ _ (by omega) (by omega) (by omega) (IL_t hL (Or.inl ⟨rfl, hp⟩)) (frL_mu hf (by decide))
      have eq1 := (IR_L hf hI).1 q hq
      refine x_iload_n hg dX4_makeRoom_2 rfl ?_
      refine x_bipush hg dX4_makeRoom_3 (by decide) ?_
      refine x_icmp_ge (tgt := 41) hg dX4_makeRoom_5 (by decide) (by omega) (by omega) (fun c5 => ?_) (fun c5 => ?_)
      · skip
        refine x_aload_n hg dX4_makeRoom_41 rfl ?_
        refine x_getR (j9 := 81) hg dX4_makeRoom_42 fl_X4_20 (by decide) rfl rfl (by decide) ?_
        refine x_bipush hg dX4_makeRoom_45 (by decide) ?_
        refine x_bipush hg dX4_makeRoom_47 (by decide) ?_
        refine x_iastore (len := 9) hg dX4_makeRoom_49 (by decide) (by omega)  ?_
        refine x_vret hg hr dX4_makeRoom_50 (Nat.le_refl _) (Nat.le_refl _) ?_
        exact ⟨rfl, rfl, rfl, IL_t hL (Or.inl ⟨rfl, by decide⟩), frL_mu hf (by decide)⟩
      · skip
        refine x_aload_n hg dX4_makeRoom_8 rfl ?_
        refine x_getR (j9 := 81) hg dX4_makeRoom_9 fl_X4_20 (by decide) rfl rfl (by decide) ?_
        refine x_iload_n hg dX4_makeRoom_12 rfl ?_
        refine x_aload_n hg dX4_makeRoom_13 rfl ?_
        refine x_iload_n hg dX4_makeRoom_14 rfl ?_
        refine x_cVi hg he [_] [_, _] dX4_makeRoom_15 mv_X4_71 (c_X8_has l b D cy (IR_L hf hI) hq (by omega)) (oO_tt hq) rfl rfl (Nat.le_of_ble_eq_true rfl) (by decide) (by decide) (fun r15 M15 q15 => ?_)
        obtain ⟨h15, e15⟩ := q15
        replace h15 := h15.symm
        subst h15
        refine x_if_eq (tgt := 33) hg dX4_makeRoom_18 (by decide) (by omega) (fun c18 => ?_) (fun c18 => ?_)
        · skip
          refine x_iconst hg dX4_makeRoom_33 ?_
          exact j34 (by omega) _ (by omega)
        · skip
          refine x_aload_n hg dX4_makeRoom_21 rfl ?_
          refine x_getR hg dX4_makeRoom_22 fl_X4_77 (oO_tt hq) rfl (RS_tt hq) (by omega) ?_
          refine x_iload_n hg dX4_makeRoom_25 rfl ?_
          refine x_aaload (len := 8) (et := 4) hg dX4_makeRoom_26 (oA_tt hq) (by decide) (by omega) (RS_trn hq _) (by omega) ?_
          refine x_getI hg dX4_makeRoom_27 fl_X4_81 (oO_train (xTr_of hq (by omega))) rfl ?_
          have h27 := ((IR_L hf hI).2 _ (xTr_of hq (show i.toNat < 8 by omega))).1
          refine x_goto (tgt := 34) hg dX4_makeRoom_30 (by decide) ?_
          exact j34 (by omega) _ (by omega)
  refine x_iconst hg dX4_makeRoom_0 ?_
  refine x_istore_n (ls' := [(0, _), (1, _), (2, _)]) hg dX4_makeRoom_1 rfl (by decide) rfl ?_
  exact loop 9 M0 0 (by omega) (by omega) (by omega) hL (fun a _ => rfl)

theorem dX4_setCosts_0 : decode cX4_setCosts 0 = .ok (.iconst 0, 1) := by decide +kernel
theorem dX4_setCosts_1 : decode cX4_setCosts 1 = .ok (.istore 5, 2) := by decide +kernel
theorem dX4_setCosts_3 : decode cX4_setCosts 3 = .ok (.iload 5, 2) := by decide +kernel
theorem dX4_setCosts_5 : decode cX4_setCosts 5 = .ok (.bipush 8, 2) := by decide +kernel
theorem dX4_setCosts_7 : decode cX4_setCosts 7 = .ok (.if_icmp .ge 81, 3) := by decide +kernel
theorem dX4_setCosts_10 : decode cX4_setCosts 10 = .ok (.aload_n 3, 1) := by decide +kernel
theorem dX4_setCosts_11 : decode cX4_setCosts 11 = .ok (.iload 5, 2) := by decide +kernel
theorem dX4_setCosts_13 : decode cX4_setCosts 13 = .ok (.invokevirtual 71, 3) := by decide +kernel
theorem dX4_setCosts_16 : decode cX4_setCosts 16 = .ok (.ifCond .eq 21, 3) := by decide +kernel
theorem dX4_setCosts_19 : decode cX4_setCosts 19 = .ok (.aload_n 0, 1) := by decide +kernel
theorem dX4_setCosts_20 : decode cX4_setCosts 20 = .ok (.getfield 30, 3) := by decide +kernel
theorem dX4_setCosts_23 : decode cX4_setCosts 23 = .ok (.aload_n 2, 1) := by decide +kernel
theorem dX4_setCosts_24 : decode cX4_setCosts 24 = .ok (.aload_n 3, 1) := by decide +kernel
theorem dX4_setCosts_25 : decode cX4_setCosts 25 = .ok (.getfield 77, 3) := by decide +kernel
theorem dX4_setCosts_28 : decode cX4_setCosts 28 = .ok (.iload 5, 2) := by decide +kernel
theorem dX4_setCosts_30 : decode cX4_setCosts 30 = .ok (.aaload, 1) := by decide +kernel
theorem dX4_setCosts_31 : decode cX4_setCosts 31 = .ok (.invokevirtual 86, 3) := by decide +kernel
theorem dX4_setCosts_34 : decode cX4_setCosts 34 = .ok (.goto 4, 3) := by decide +kernel
theorem dX4_setCosts_37 : decode cX4_setCosts 37 = .ok (.iconst (-1), 1) := by decide +kernel
theorem dX4_setCosts_38 : decode cX4_setCosts 38 = .ok (.istore 6, 2) := by decide +kernel
theorem dX4_setCosts_40 : decode cX4_setCosts 40 = .ok (.iload 6, 2) := by decide +kernel
theorem dX4_setCosts_42 : decode cX4_setCosts 42 = .ok (.iconst (-1), 1) := by decide +kernel
theorem dX4_setCosts_43 : decode cX4_setCosts 43 = .ok (.if_icmp .eq 14, 3) := by decide +kernel
theorem dX4_setCosts_46 : decode cX4_setCosts 46 = .ok (.iload 6, 2) := by decide +kernel
theorem dX4_setCosts_48 : decode cX4_setCosts 48 = .ok (.iload 4, 2) := by decide +kernel
theorem dX4_setCosts_50 : decode cX4_setCosts 50 = .ok (.if_icmp .ge 7, 3) := by decide +kernel
theorem dX4_setCosts_53 : decode cX4_setCosts 53 = .ok (.iconst 1, 1) := by decide +kernel
theorem dX4_setCosts_54 : decode cX4_setCosts 54 = .ok (.goto 4, 3) := by decide +kernel
theorem dX4_setCosts_57 : decode cX4_setCosts 57 = .ok (.iconst 0, 1) := by decide +kernel
theorem dX4_setCosts_58 : decode cX4_setCosts 58 = .ok (.istore 7, 2) := by decide +kernel
theorem dX4_setCosts_60 : decode cX4_setCosts 60 = .ok (.aload_n 1, 1) := by decide +kernel
theorem dX4_setCosts_61 : decode cX4_setCosts 61 = .ok (.iload 5, 2) := by decide +kernel
theorem dX4_setCosts_63 : decode cX4_setCosts 63 = .ok (.iload 7, 2) := by decide +kernel
theorem dX4_setCosts_65 : decode cX4_setCosts 65 = .ok (.ifCond .eq 13, 3) := by decide +kernel
theorem dX4_setCosts_68 : decode cX4_setCosts 68 = .ok (.iload 6, 2) := by decide +kernel
theorem dX4_setCosts_70 : decode cX4_setCosts 70 = .ok (.i2l, 1) := by decide +kernel
theorem dX4_setCosts_71 : decode cX4_setCosts 71 = .ok (.ldc2_w 92, 3) := by decide +kernel
theorem dX4_setCosts_74 : decode cX4_setCosts 74 = .ok (.lmul, 1) := by decide +kernel
theorem dX4_setCosts_75 : decode cX4_setCosts 75 = .ok (.goto 6, 3) := by decide +kernel
theorem dX4_setCosts_78 : decode cX4_setCosts 78 = .ok (.ldc2_w 94, 3) := by decide +kernel
theorem dX4_setCosts_81 : decode cX4_setCosts 81 = .ok (.lastore, 1) := by decide +kernel
theorem dX4_setCosts_82 : decode cX4_setCosts 82 = .ok (.iinc 5 1, 3) := by decide +kernel
theorem dX4_setCosts_85 : decode cX4_setCosts 85 = .ok (.goto (-82), 3) := by decide +kernel
theorem dX4_setCosts_88 : decode cX4_setCosts 88 = .ok (.aload_n 1, 1) := by decide +kernel
theorem dX4_setCosts_89 : decode cX4_setCosts 89 = .ok (.bipush 8, 2) := by decide +kernel
theorem dX4_setCosts_91 : decode cX4_setCosts 91 = .ok (.aload_n 2, 1) := by decide +kernel
theorem dX4_setCosts_92 : decode cX4_setCosts 92 = .ok (.getfield 96, 3) := by decide +kernel
theorem dX4_setCosts_95 : decode cX4_setCosts 95 = .ok (.i2l, 1) := by decide +kernel
theorem dX4_setCosts_96 : decode cX4_setCosts 96 = .ok (.ldc2_w 101, 3) := by decide +kernel
theorem dX4_setCosts_99 : decode cX4_setCosts 99 = .ok (.lmul, 1) := by decide +kernel
theorem dX4_setCosts_100 : decode cX4_setCosts 100 = .ok (.lastore, 1) := by decide +kernel
theorem dX4_setCosts_101 : decode cX4_setCosts 101 = .ok (.return_, 1) := by decide +kernel
set_option maxHeartbeats 4000000 in
set_option maxRecDepth 20000 in
theorem c_X4_setCosts (l : Launch) (b : Nat) (D : va_G) (cy : Nat → ClassId) {tt : Nat} {M0 : xMm} {k c q : Nat} {y : Int} (hL : IL M0) (hC : IC M0) (hI : IR M0) (hk : k < 10) (hc : pCh M0 c) (hc3 : inR (M0 c 3)) (hcc : 83 < c) (hq : xTt q) (hy : inR y) : xC l b D cy yX4_setCosts cX4_setCosts 8 none ({ frames := 3, cells := 0, slots := 0, locals := 73 }) [xr 68, xr (70 + k), xr c, xr q, xi y] 209 M0 (RS tt) (xPv 209 (RS tt) (fun M' => IL M' ∧ frL M' M0)) := by
  refine x_met (by decide) (Nat.le_of_ble_eq_true rfl) (fun g hg hr he => ?_)
  refine x_canon (ls' := [(0, _), (1, _), (2, _), (3, _), (4, _)]) rfl ?_
  have loop : ∀ (n1 : Nat) (M : xMm) (i : Int), 0 ≤ i → i ≤ 8 → 8 - i < n1 → IL M → frL M M0 → xW g 209 M (RS tt) 0 0 3 [(0, xr 68), (1, xr (70 + k)), (2, xr c), (3, xr q), (4, xi y), (5, xi i)] [] := by
    intro n1
    induction n1 with
    | zero => intro M i hi1 hi2 hi3 hL hf; exfalso; omega
    | succ n1 ih =>
      intro M i hi1 hi2 hi3 hL hf
      obtain ⟨hl1, hl2, hl3, hl4⟩ := id hL
      have j81 : i < 8 → ∀ p a e : Int, inL p → xW g 209 M (RS tt) 0 0 81 [(0, xr 68), (1, xr (70 + k)), (2, xr c), (3, xr q), (4, xi y), (5, xi i), (6, xi a), (7, xi e)] [xl p, xi i, xr (70 + k)] := by
        intro hi8 p a e hp
        refine x_lastore (len := 9) hg dX4_setCosts_81 (oA_row hk) (by omega)  ?_
        refine x_iinc (ls' := [(0, _), (1, _), (2, _), (3, _), (4, _), (5, _), (6, _), (7, _)]) hg dX4_setCosts_82 rfl (by decide) rfl ?_
        refine x_goto (tgt := 3) hg dX4_setCosts_85 (by decide) ?_
        refine x_canon (ls' := [(0, _), (1, _), (2, _), (3, _), (4, _), (5, _)]) rfl ?_
        exact ih _ _ (by omega) (by omega) (by omega) (IL_row hL hk hp) (frL_mu hf (by omega))
      have j58 : i < 8 → ∀ a p : Int, inR a → inR p → xW g 209 M (RS tt) 0 0 58 [(0, xr 68), (1, xr (70 + k)), (2, xr c), (3, xr q), (4, xi y), (5, xi i), (6, xi a)] [xi p] := by
        intro hi8 a p ha hp
        refine x_istore (ls' := [(0, _), (1, _), (2, _), (3, _), (4, _), (5, _), (6, _), (7, _)]) hg dX4_setCosts_58 (by decide) rfl ?_
        refine x_aload_n hg dX4_setCosts_60 rfl ?_
        refine x_iload hg dX4_setCosts_61 rfl ?_
        refine x_iload hg dX4_setCosts_63 rfl ?_
        refine x_if_eq (tgt := 78) hg dX4_setCosts_65 (by decide) (by omega) (fun c65 => ?_) (fun c65 => ?_)
        · skip
          refine x_ldc2 hg 9223372036854775807 dX4_setCosts_78 (List.mem_of_getElem? (i := 699) (by decide +kernel)) ?_
          refine x_wrapl (fun a81 h81 => ?_)
          exact j81 hi8 _ _ _ h81
        · skip
          refine x_iload hg dX4_setCosts_68 rfl ?_
          refine x_i2l hg dX4_setCosts_70 (by omega) ?_
          refine x_ldc2 hg 3486784401 dX4_setCosts_71 (List.mem_of_getElem? (i := 698) (by decide +kernel)) ?_
          refine x_lmul hg dX4_setCosts_74 ?_
          refine x_goto (tgt := 81) hg dX4_setCosts_75 (by decide) ?_
          refine x_wrapl (fun a81 h81 => ?_)
          exact j81 hi8 _ _ _ h81
      have j38 : i < 8 → ∀ p : Int, inR p → xW g 209 M (RS tt) 0 0 38 [(0, xr 68), (1, xr (70 + k)), (2, xr c), (3, xr q), (4, xi y), (5, xi i)] [xi p] := by
        intro hi8 p hp
        refine x_istore (ls' := [(0, _), (1, _), (2, _), (3, _), (4, _), (5, _), (6, _)]) hg dX4_setCosts_38 (by decide) rfl ?_
        refine x_iload hg dX4_setCosts_40 rfl ?_
        refine x_iconst hg dX4_setCosts_42 ?_
        refine x_icmp_eq (tgt := 57) hg dX4_setCosts_43 (by decide) (by omega) (by omega) (fun c43 => ?_) (fun c43 => ?_)
        · skip
          refine x_iconst hg dX4_setCosts_57 ?_
          exact j58 hi8 _ _ (by omega) (by omega)
        · skip
          refine x_iload hg dX4_setCosts_46 rfl ?_
          refine x_iload hg dX4_setCosts_48 rfl ?_
          refine x_icmp_ge (tgt := 57) hg dX4_setCosts_50 (by decide) (by omega) (by omega) (fun c50 => ?_) (fun c50 => ?_)
          · skip
            refine x_iconst hg dX4_setCosts_57 ?_
            exact j58 hi8 _ _ (by omega) (by omega)
          · skip
            refine x_iconst hg dX4_setCosts_53 ?_
            refine x_goto (tgt := 58) hg dX4_setCosts_54 (by decide) ?_
            exact j58 hi8 _ _ (by omega) (by omega)
      have eq1 := (IR_L hf hI).1 q hq
      have hcM : pCh M c := by rw [pCh, hf c (by omega)]; exact hc
      have hc3M : inR (M c 3) := by rw [hf c (by omega)]; exact hc3
      refine x_iload hg dX4_setCosts_3 rfl ?_
      refine x_bipush hg dX4_setCosts_5 (by decide) ?_
      refine x_icmp_ge (tgt := 88) hg dX4_setCosts_7 (by decide) (by omega) (by omega) (fun c7 => ?_) (fun c7 => ?_)
      · skip
        refine x_aload_n hg dX4_setCosts_88 rfl ?_
        refine x_bipush hg dX4_setCosts_89 (by decide) ?_
        refine x_aload_n hg dX4_setCosts_91 rfl ?_
        refine x_getI hg dX4_setCosts_92 fl_X4_96 hcM.1 rfl ?_
        refine x_i2l hg dX4_setCosts_95 (by omega) ?_
        refine x_ldc2 hg 2425410716120001 dX4_setCosts_96 (List.mem_of_getElem? (i := 700) (by decide +kernel)) ?_
        refine x_lmul hg dX4_setCosts_99 ?_
        refine x_wrapl (fun a100 h100 => ?_)
        refine x_lastore (len := 9) hg dX4_setCosts_100 (oA_row hk) (by omega)  ?_
        refine x_vret hg hr dX4_setCosts_101 (Nat.le_refl _) (Nat.le_refl _) ?_
        exact ⟨rfl, rfl, rfl, IL_row hL hk h100, frL_mu hf (by omega)⟩
      · skip
        refine x_aload_n hg dX4_setCosts_10 rfl ?_
        refine x_iload hg dX4_setCosts_11 rfl ?_
        refine x_cVi hg he [_] [] dX4_setCosts_13 mv_X4_71 (c_X8_has l b D cy (IR_L hf hI) hq (by omega)) (oO_tt hq) rfl rfl (Nat.le_of_ble_eq_true rfl) (by decide) (by decide) (fun r13 M13 q13 => ?_)
        obtain ⟨h13, e13⟩ := q13
        replace h13 := h13.symm
        subst h13
        refine x_if_eq (tgt := 37) hg dX4_setCosts_16 (by decide) (by omega) (fun c16 => ?_) (fun c16 => ?_)
        · skip
          refine x_iconst hg dX4_setCosts_37 ?_
          exact j38 (by omega) _ (by omega)
        · skip
          refine x_aload_n hg dX4_setCosts_19 rfl ?_
          refine x_getR (j9 := 63) hg dX4_setCosts_20 fl_X4_30 (by decide) rfl rfl (by decide) ?_
          refine x_aload_n hg dX4_setCosts_23 rfl ?_
          refine x_aload_n hg dX4_setCosts_24 rfl ?_
          refine x_getR hg dX4_setCosts_25 fl_X4_77 (oO_tt hq) rfl (RS_tt hq) (by omega) ?_
          refine x_iload hg dX4_setCosts_28 rfl ?_
          refine x_aaload (len := 8) (et := 4) hg dX4_setCosts_30 (oA_tt hq) (by decide) (by omega) (RS_trn hq _) (by omega) ?_
          refine x_cVi hg he [_, _] [] dX4_setCosts_31 mv_X4_86 (c_X10_direct l b D cy (IC_L hf hC) (IR_L hf hI) hcM (xTr_of hq (by omega))) (by decide) rfl rfl (Nat.le_of_ble_eq_true rfl) (by decide) (by decide) (fun r31 M31 q31 => ?_)
          obtain ⟨h31, e31⟩ := q31
          replace h31 := h31.symm
          subst h31
          refine x_goto (tgt := 38) hg dX4_setCosts_34 (by decide) ?_
          exact j38 (by omega) _ (by omega)
  refine x_iconst hg dX4_setCosts_0 ?_
  refine x_istore (ls' := [(0, _), (1, _), (2, _), (3, _), (4, _), (5, _)]) hg dX4_setCosts_1 (by decide) rfl ?_
  exact loop 9 M0 0 (by omega) (by omega) (by omega) hL (fun a _ => rfl)

theorem dX4_addDigits_0 : decode cX4_addDigits 0 = .ok (.iconst 0, 1) := by decide +kernel
theorem dX4_addDigits_1 : decode cX4_addDigits 1 = .ok (.istore 4, 2) := by decide +kernel
theorem dX4_addDigits_3 : decode cX4_addDigits 3 = .ok (.iload 4, 2) := by decide +kernel
theorem dX4_addDigits_5 : decode cX4_addDigits 5 = .ok (.bipush 9, 2) := by decide +kernel
theorem dX4_addDigits_7 : decode cX4_addDigits 7 = .ok (.if_icmp .ge 32, 3) := by decide +kernel
theorem dX4_addDigits_10 : decode cX4_addDigits 10 = .ok (.aload_n 1, 1) := by decide +kernel
theorem dX4_addDigits_11 : decode cX4_addDigits 11 = .ok (.iload 4, 2) := by decide +kernel
theorem dX4_addDigits_13 : decode cX4_addDigits 13 = .ok (.laload, 1) := by decide +kernel
theorem dX4_addDigits_14 : decode cX4_addDigits 14 = .ok (.ldc2_w 94, 3) := by decide +kernel
theorem dX4_addDigits_17 : decode cX4_addDigits 17 = .ok (.lcmp, 1) := by decide +kernel
theorem dX4_addDigits_18 : decode cX4_addDigits 18 = .ok (.ifCond .eq 15, 3) := by decide +kernel
theorem dX4_addDigits_21 : decode cX4_addDigits 21 = .ok (.aload_n 1, 1) := by decide +kernel
theorem dX4_addDigits_22 : decode cX4_addDigits 22 = .ok (.iload 4, 2) := by decide +kernel
theorem dX4_addDigits_24 : decode cX4_addDigits 24 = .ok (.dup2, 1) := by decide +kernel
theorem dX4_addDigits_25 : decode cX4_addDigits 25 = .ok (.laload, 1) := by decide +kernel
theorem dX4_addDigits_26 : decode cX4_addDigits 26 = .ok (.iload 4, 2) := by decide +kernel
theorem dX4_addDigits_28 : decode cX4_addDigits 28 = .ok (.i2l, 1) := by decide +kernel
theorem dX4_addDigits_29 : decode cX4_addDigits 29 = .ok (.lload_n 2, 1) := by decide +kernel
theorem dX4_addDigits_30 : decode cX4_addDigits 30 = .ok (.lmul, 1) := by decide +kernel
theorem dX4_addDigits_31 : decode cX4_addDigits 31 = .ok (.ladd, 1) := by decide +kernel
theorem dX4_addDigits_32 : decode cX4_addDigits 32 = .ok (.lastore, 1) := by decide +kernel
theorem dX4_addDigits_33 : decode cX4_addDigits 33 = .ok (.iinc 4 1, 3) := by decide +kernel
theorem dX4_addDigits_36 : decode cX4_addDigits 36 = .ok (.goto (-33), 3) := by decide +kernel
theorem dX4_addDigits_39 : decode cX4_addDigits 39 = .ok (.return_, 1) := by decide +kernel
set_option maxHeartbeats 4000000 in
set_option maxRecDepth 20000 in
theorem c_X4_addDigits (l : Launch) (b : Nat) (D : va_G) (cy : Nat → ClassId) {tt : Nat} {M0 : xMm} {k : Nat} {z : Int} (hL : IL M0) (hk : k < 10) : xC l b D cy yX4_addDigits cX4_addDigits 5 none ({ frames := 0, cells := 0, slots := 0, locals := 0 }) [xr 68, xr (70 + k), xl z] 209 M0 (RS tt) (xPv 209 (RS tt) (fun M' => IL M' ∧ frL M' M0)) := by
  refine x_met (by decide) (Nat.le_of_ble_eq_true rfl) (fun g hg hr he => ?_)
  refine x_canon (ls' := [(0, _), (1, _), (2, _)]) rfl ?_
  have loop : ∀ (n1 : Nat) (M : xMm) (i : Int), 0 ≤ i → i ≤ 9 → 9 - i < n1 → IL M → frL M M0 → xW g 209 M (RS tt) 0 0 3 [(0, xr 68), (1, xr (70 + k)), (2, xl z), (4, xi i)] [] := by
    intro n1
    induction n1 with
    | zero => intro M i hi1 hi2 hi3 hL hf; exfalso; omega
    | succ n1 ih =>
      intro M i hi1 hi2 hi3 hL hf
      obtain ⟨hl1, hl2, hl3, hl4⟩ := id hL
      have j33 : i < 9 → ∀ M1, IL M1 → frL M1 M0 → xW g 209 M1 (RS tt) 0 0 33 [(0, xr 68), (1, xr (70 + k)), (2, xl z), (4, xi i)] [] := by
        intro hi9 M1 hL1 hf1
        refine x_iinc (ls' := [(0, _), (1, _), (2, _), (4, _)]) hg dX4_addDigits_33 rfl (by decide) rfl ?_
        refine x_goto (tgt := 3) hg dX4_addDigits_36 (by decide) ?_
        exact ih _ _ (by omega) (by omega) (by omega) hL1 hf1
      refine x_iload hg dX4_addDigits_3 rfl ?_
      refine x_bipush hg dX4_addDigits_5 (by decide) ?_
      refine x_icmp_ge (tgt := 39) hg dX4_addDigits_7 (by decide) (by omega) (by omega) (fun c7 => ?_) (fun c7 => ?_)
      · skip
        refine x_vret hg hr dX4_addDigits_39 (Nat.le_refl _) (Nat.le_refl _) ?_
        exact ⟨rfl, rfl, rfl, hL, hf⟩
      · skip
        refine x_aload_n hg dX4_addDigits_10 rfl ?_
        refine x_iload hg dX4_addDigits_11 rfl ?_
        refine x_laload (len := 9) hg dX4_addDigits_13 (oA_row hk) (by omega) ?_
        refine x_ldc2 hg 9223372036854775807 dX4_addDigits_14 (List.mem_of_getElem? (i := 699) (by decide +kernel)) ?_
        refine x_lcmp hg dX4_addDigits_17 (by exact hl4 k hk i.toNat (by omega)) (by decide) ?_
        refine x_if_eq (tgt := 33) hg dX4_addDigits_18 (by decide) (by split <;> (try split) <;> omega) (fun c18 => ?_) (fun c18 => ?_)
        · skip
          first | exact j33 (by omega) _ hL hf | exact j33 (by omega) _ (IL_row hL hk h32) (frL_mu hf (by omega))
        · skip
          refine x_aload_n hg dX4_addDigits_21 rfl ?_
          refine x_iload hg dX4_addDigits_22 rfl ?_
          refine x_dup2 hg dX4_addDigits_24 rfl rfl ?_
          refine x_laload (len := 9) hg dX4_addDigits_25 (oA_row hk) (by omega) ?_
          refine x_iload hg dX4_addDigits_26 rfl ?_
          refine x_i2l hg dX4_addDigits_28 (by omega) ?_
          refine x_lload_n hg dX4_addDigits_29 rfl ?_
          refine x_lmul hg dX4_addDigits_30 ?_
          refine x_ladd hg dX4_addDigits_31 ?_
          refine x_wrapl (fun a32 h32 => ?_)
          refine x_lastore (len := 9) hg dX4_addDigits_32 (oA_row hk) (by omega)  ?_
          first | exact j33 (by omega) _ hL hf | exact j33 (by omega) _ (IL_row hL hk h32) (frL_mu hf (by omega))
  refine x_iconst hg dX4_addDigits_0 ?_
  refine x_istore (ls' := [(0, _), (1, _), (2, _), (4, _)]) hg dX4_addDigits_1 (by decide) rfl ?_
  exact loop 10 M0 0 (by omega) (by omega) (by omega) hL (fun a _ => rfl)

theorem dX4_lengthenChains_0 : decode cX4_lengthenChains 0 = .ok (.aload_n 0, 1) := by decide +kernel
theorem dX4_lengthenChains_1 : decode cX4_lengthenChains 1 = .ok (.getfield 16, 3) := by decide +kernel
theorem dX4_lengthenChains_4 : decode cX4_lengthenChains 4 = .ok (.iload_n 1, 1) := by decide +kernel
theorem dX4_lengthenChains_5 : decode cX4_lengthenChains 5 = .ok (.iaload, 1) := by decide +kernel
theorem dX4_lengthenChains_6 : decode cX4_lengthenChains 6 = .ok (.istore_n 2, 1) := by decide +kernel
theorem dX4_lengthenChains_7 : decode cX4_lengthenChains 7 = .ok (.aload_n 0, 1) := by decide +kernel
theorem dX4_lengthenChains_8 : decode cX4_lengthenChains 8 = .ok (.getfield 23, 3) := by decide +kernel
theorem dX4_lengthenChains_11 : decode cX4_lengthenChains 11 = .ok (.iload_n 2, 1) := by decide +kernel
theorem dX4_lengthenChains_12 : decode cX4_lengthenChains 12 = .ok (.laload, 1) := by decide +kernel
theorem dX4_lengthenChains_13 : decode cX4_lengthenChains 13 = .ok (.ldc2_w 94, 3) := by decide +kernel
theorem dX4_lengthenChains_16 : decode cX4_lengthenChains 16 = .ok (.lcmp, 1) := by decide +kernel
theorem dX4_lengthenChains_17 : decode cX4_lengthenChains 17 = .ok (.ifCond .ne 5, 3) := by decide +kernel
theorem dX4_lengthenChains_20 : decode cX4_lengthenChains 20 = .ok (.iconst 0, 1) := by decide +kernel
theorem dX4_lengthenChains_21 : decode cX4_lengthenChains 21 = .ok (.ireturn, 1) := by decide +kernel
theorem dX4_lengthenChains_22 : decode cX4_lengthenChains 22 = .ok (.iconst 0, 1) := by decide +kernel
theorem dX4_lengthenChains_23 : decode cX4_lengthenChains 23 = .ok (.istore_n 3, 1) := by decide +kernel
theorem dX4_lengthenChains_24 : decode cX4_lengthenChains 24 = .ok (.aload_n 0, 1) := by decide +kernel
theorem dX4_lengthenChains_25 : decode cX4_lengthenChains 25 = .ok (.getfield 23, 3) := by decide +kernel
theorem dX4_lengthenChains_28 : decode cX4_lengthenChains 28 = .ok (.iload_n 2, 1) := by decide +kernel
theorem dX4_lengthenChains_29 : decode cX4_lengthenChains 29 = .ok (.laload, 1) := by decide +kernel
theorem dX4_lengthenChains_30 : decode cX4_lengthenChains 30 = .ok (.aload_n 0, 1) := by decide +kernel
theorem dX4_lengthenChains_31 : decode cX4_lengthenChains 31 = .ok (.getfield 13, 3) := by decide +kernel
theorem dX4_lengthenChains_34 : decode cX4_lengthenChains 34 = .ok (.iload_n 1, 1) := by decide +kernel
theorem dX4_lengthenChains_35 : decode cX4_lengthenChains 35 = .ok (.aaload, 1) := by decide +kernel
theorem dX4_lengthenChains_36 : decode cX4_lengthenChains 36 = .ok (.iload_n 2, 1) := by decide +kernel
theorem dX4_lengthenChains_37 : decode cX4_lengthenChains 37 = .ok (.laload, 1) := by decide +kernel
theorem dX4_lengthenChains_38 : decode cX4_lengthenChains 38 = .ok (.lsub, 1) := by decide +kernel
theorem dX4_lengthenChains_39 : decode cX4_lengthenChains 39 = .ok (.lstore 4, 2) := by decide +kernel
theorem dX4_lengthenChains_41 : decode cX4_lengthenChains 41 = .ok (.iconst 0, 1) := by decide +kernel
theorem dX4_lengthenChains_42 : decode cX4_lengthenChains 42 = .ok (.istore 6, 2) := by decide +kernel
theorem dX4_lengthenChains_44 : decode cX4_lengthenChains 44 = .ok (.iload 6, 2) := by decide +kernel
theorem dX4_lengthenChains_46 : decode cX4_lengthenChains 46 = .ok (.bipush 9, 2) := by decide +kernel
theorem dX4_lengthenChains_48 : decode cX4_lengthenChains 48 = .ok (.if_icmp .ge 95, 3) := by decide +kernel
theorem dX4_lengthenChains_51 : decode cX4_lengthenChains 51 = .ok (.iload 6, 2) := by decide +kernel
theorem dX4_lengthenChains_53 : decode cX4_lengthenChains 53 = .ok (.iload_n 2, 1) := by decide +kernel
theorem dX4_lengthenChains_54 : decode cX4_lengthenChains 54 = .ok (.if_icmp .eq 23, 3) := by decide +kernel
theorem dX4_lengthenChains_57 : decode cX4_lengthenChains 57 = .ok (.aload_n 0, 1) := by decide +kernel
theorem dX4_lengthenChains_58 : decode cX4_lengthenChains 58 = .ok (.getfield 13, 3) := by decide +kernel
theorem dX4_lengthenChains_61 : decode cX4_lengthenChains 61 = .ok (.iload_n 1, 1) := by decide +kernel
theorem dX4_lengthenChains_62 : decode cX4_lengthenChains 62 = .ok (.aaload, 1) := by decide +kernel
theorem dX4_lengthenChains_63 : decode cX4_lengthenChains 63 = .ok (.iload 6, 2) := by decide +kernel
theorem dX4_lengthenChains_65 : decode cX4_lengthenChains 65 = .ok (.laload, 1) := by decide +kernel
theorem dX4_lengthenChains_66 : decode cX4_lengthenChains 66 = .ok (.ldc2_w 94, 3) := by decide +kernel
theorem dX4_lengthenChains_69 : decode cX4_lengthenChains 69 = .ok (.lcmp, 1) := by decide +kernel
theorem dX4_lengthenChains_70 : decode cX4_lengthenChains 70 = .ok (.ifCond .eq 7, 3) := by decide +kernel
theorem dX4_lengthenChains_73 : decode cX4_lengthenChains 73 = .ok (.iconst 1, 1) := by decide +kernel
theorem dX4_lengthenChains_74 : decode cX4_lengthenChains 74 = .ok (.goto 4, 3) := by decide +kernel
theorem dX4_lengthenChains_77 : decode cX4_lengthenChains 77 = .ok (.iconst 0, 1) := by decide +kernel
theorem dX4_lengthenChains_78 : decode cX4_lengthenChains 78 = .ok (.istore 7, 2) := by decide +kernel
theorem dX4_lengthenChains_80 : decode cX4_lengthenChains 80 = .ok (.iload 7, 2) := by decide +kernel
theorem dX4_lengthenChains_82 : decode cX4_lengthenChains 82 = .ok (.ifCond .eq 55, 3) := by decide +kernel
theorem dX4_lengthenChains_85 : decode cX4_lengthenChains 85 = .ok (.lload 4, 2) := by decide +kernel
theorem dX4_lengthenChains_87 : decode cX4_lengthenChains 87 = .ok (.aload_n 0, 1) := by decide +kernel
theorem dX4_lengthenChains_88 : decode cX4_lengthenChains 88 = .ok (.getfield 13, 3) := by decide +kernel
theorem dX4_lengthenChains_91 : decode cX4_lengthenChains 91 = .ok (.iload_n 1, 1) := by decide +kernel
theorem dX4_lengthenChains_92 : decode cX4_lengthenChains 92 = .ok (.aaload, 1) := by decide +kernel
theorem dX4_lengthenChains_93 : decode cX4_lengthenChains 93 = .ok (.iload 6, 2) := by decide +kernel
theorem dX4_lengthenChains_95 : decode cX4_lengthenChains 95 = .ok (.laload, 1) := by decide +kernel
theorem dX4_lengthenChains_96 : decode cX4_lengthenChains 96 = .ok (.ladd, 1) := by decide +kernel
theorem dX4_lengthenChains_97 : decode cX4_lengthenChains 97 = .ok (.aload_n 0, 1) := by decide +kernel
theorem dX4_lengthenChains_98 : decode cX4_lengthenChains 98 = .ok (.getfield 23, 3) := by decide +kernel
theorem dX4_lengthenChains_101 : decode cX4_lengthenChains 101 = .ok (.iload 6, 2) := by decide +kernel
theorem dX4_lengthenChains_103 : decode cX4_lengthenChains 103 = .ok (.laload, 1) := by decide +kernel
theorem dX4_lengthenChains_104 : decode cX4_lengthenChains 104 = .ok (.lcmp, 1) := by decide +kernel
theorem dX4_lengthenChains_105 : decode cX4_lengthenChains 105 = .ok (.ifCond .ge 32, 3) := by decide +kernel
theorem dX4_lengthenChains_108 : decode cX4_lengthenChains 108 = .ok (.aload_n 0, 1) := by decide +kernel
theorem dX4_lengthenChains_109 : decode cX4_lengthenChains 109 = .ok (.getfield 23, 3) := by decide +kernel
theorem dX4_lengthenChains_112 : decode cX4_lengthenChains 112 = .ok (.iload 6, 2) := by decide +kernel
theorem dX4_lengthenChains_114 : decode cX4_lengthenChains 114 = .ok (.lload 4, 2) := by decide +kernel
theorem dX4_lengthenChains_116 : decode cX4_lengthenChains 116 = .ok (.aload_n 0, 1) := by decide +kernel
theorem dX4_lengthenChains_117 : decode cX4_lengthenChains 117 = .ok (.getfield 13, 3) := by decide +kernel
theorem dX4_lengthenChains_120 : decode cX4_lengthenChains 120 = .ok (.iload_n 1, 1) := by decide +kernel
theorem dX4_lengthenChains_121 : decode cX4_lengthenChains 121 = .ok (.aaload, 1) := by decide +kernel
theorem dX4_lengthenChains_122 : decode cX4_lengthenChains 122 = .ok (.iload 6, 2) := by decide +kernel
theorem dX4_lengthenChains_124 : decode cX4_lengthenChains 124 = .ok (.laload, 1) := by decide +kernel
theorem dX4_lengthenChains_125 : decode cX4_lengthenChains 125 = .ok (.ladd, 1) := by decide +kernel
theorem dX4_lengthenChains_126 : decode cX4_lengthenChains 126 = .ok (.lastore, 1) := by decide +kernel
theorem dX4_lengthenChains_127 : decode cX4_lengthenChains 127 = .ok (.aload_n 0, 1) := by decide +kernel
theorem dX4_lengthenChains_128 : decode cX4_lengthenChains 128 = .ok (.getfield 27, 3) := by decide +kernel
theorem dX4_lengthenChains_131 : decode cX4_lengthenChains 131 = .ok (.iload 6, 2) := by decide +kernel
theorem dX4_lengthenChains_133 : decode cX4_lengthenChains 133 = .ok (.iload_n 1, 1) := by decide +kernel
theorem dX4_lengthenChains_134 : decode cX4_lengthenChains 134 = .ok (.iastore, 1) := by decide +kernel
theorem dX4_lengthenChains_135 : decode cX4_lengthenChains 135 = .ok (.iconst 1, 1) := by decide +kernel
theorem dX4_lengthenChains_136 : decode cX4_lengthenChains 136 = .ok (.istore_n 3, 1) := by decide +kernel
theorem dX4_lengthenChains_137 : decode cX4_lengthenChains 137 = .ok (.iinc 6 1, 3) := by decide +kernel
theorem dX4_lengthenChains_140 : decode cX4_lengthenChains 140 = .ok (.goto (-96), 3) := by decide +kernel
theorem dX4_lengthenChains_143 : decode cX4_lengthenChains 143 = .ok (.iload_n 3, 1) := by decide +kernel
theorem dX4_lengthenChains_144 : decode cX4_lengthenChains 144 = .ok (.ireturn, 1) := by decide +kernel
set_option maxHeartbeats 4000000 in
set_option maxRecDepth 20000 in
theorem c_X4_lengthenChains (l : Launch) (b : Nat) (D : va_G) (cy : Nat → ClassId) {tt : Nat} {M0 : xMm} {z : Int} (hL : IL M0) (hz : 0 ≤ z ∧ z < 10) : xC l b D cy yX4_lengthenChains cX4_lengthenChains 8 (some .boolean) ({ frames := 0, cells := 0, slots := 0, locals := 0 }) [xr 68, xi z] 209 M0 (RS tt) (xPi 209 (RS tt) (fun r M' => (r = 0 ∨ r = 1) ∧ IL M' ∧ frL M' M0)) := by
  refine x_met (by decide) (Nat.le_of_ble_eq_true rfl) (fun g hg hr he => ?_)
  obtain ⟨hv1, hv2, hv3, hv4⟩ := id hL
  refine x_canon (ls' := [(0, _), (1, _)]) rfl ?_
  have loop : ∀ (n1 : Nat) (M : xMm) (i f e v : Int), 0 ≤ i → i ≤ 9 → 9 - i < n1 → (0 ≤ f ∧ f ≤ 8) → (e = 0 ∨ e = 1) → IL M → frL M M0 → xW g 209 M (RS tt) 0 0 44 [(0, xr 68), (1, xi z), (2, xi f), (3, xi e), (4, xl v), (6, xi i)] [] := by
    intro n1
    induction n1 with
    | zero => intro M i f e v hi1 hi2 hi3 hf8 he1 hL hf; exfalso; omega
    | succ n1 ih =>
      intro M i f e v hi1 hi2 hi3 hf8 he1 hL hf
      obtain ⟨hl1, hl2, hl3, hl4⟩ := id hL
      have j137 : i < 9 → ∀ M1 (e1 : Int), (e1 = 0 ∨ e1 = 1) → IL M1 → frL M1 M0 → xW g 209 M1 (RS tt) 0 0 137 [(0, xr 68), (1, xi z), (2, xi f), (3, xi e1), (4, xl v), (6, xi i)] [] := by
        intro hi9 M1 e1 he2 hL1 hf1
        refine x_iinc (ls' := [(0, _), (1, _), (2, _), (3, _), (4, _), (6, _)]) hg dX4_lengthenChains_137 rfl (by decide) rfl ?_
        refine x_goto (tgt := 44) hg dX4_lengthenChains_140 (by decide) ?_
        exact ih _ _ _ _ _ (by omega) (by omega) (by omega) hf8 he2 hL1 hf1
      have j78 : i < 9 → ∀ p : Int, inR p → xW g 209 M (RS tt) 0 0 78 [(0, xr 68), (1, xi z), (2, xi f), (3, xi e), (4, xl v), (6, xi i)] [xi p] := by
        intro hi9 p hp
        have h3i := hl3 i.toNat (by omega)
        refine x_istore (ls' := [(0, _), (1, _), (2, _), (3, _), (4, _), (6, _), (7, _)]) hg dX4_lengthenChains_78 (by decide) rfl ?_
        refine x_iload hg dX4_lengthenChains_80 rfl ?_
        refine x_if_eq (tgt := 137) hg dX4_lengthenChains_82 (by decide) (by omega) (fun c82 => ?_) (fun c82 => ?_)
        · skip
          refine x_canon (ls' := [(0, _), (1, _), (2, _), (3, _), (4, _), (6, _)]) rfl ?_
          first | exact j137 hi9 _ _ he1 hL hf | exact j137 hi9 _ _ (Or.inr rfl) (IL_t (IL_t hL (Or.inr (Or.inl ⟨rfl, h126⟩))) (Or.inr (Or.inr ⟨rfl, by omega⟩))) (frL_mu (frL_mu hf (by decide)) (by decide))
        · skip
          refine x_lload hg dX4_lengthenChains_85 rfl ?_
          refine x_aload_n hg dX4_lengthenChains_87 rfl ?_
          refine x_getR (j9 := 69) hg dX4_lengthenChains_88 fl_X4_13 (by decide) rfl rfl (by decide) ?_
          refine x_iload_n hg dX4_lengthenChains_91 rfl ?_
          refine x_aaload (len := 10) (et := 9) hg dX4_lengthenChains_92 (by decide) (by decide) (by omega) (RS_row _ _) (by omega) ?_
          refine x_iload hg dX4_lengthenChains_93 rfl ?_
          refine x_laload (len := 9) hg dX4_lengthenChains_95 (oA_row (by omega)) (by omega) ?_
          refine x_ladd hg dX4_lengthenChains_96 ?_
          refine x_wrapl (fun a97 h97 => ?_)
          refine x_aload_n hg dX4_lengthenChains_97 rfl ?_
          refine x_getR (j9 := 82) hg dX4_lengthenChains_98 fl_X4_23 (by decide) rfl rfl (by decide) ?_
          refine x_iload hg dX4_lengthenChains_101 rfl ?_
          refine x_laload (len := 9) hg dX4_lengthenChains_103 (by decide) (by omega) ?_
          refine x_lcmp hg dX4_lengthenChains_104 (by omega) (by omega) ?_
          refine x_if_ge (tgt := 137) hg dX4_lengthenChains_105 (by decide) (by split <;> (try split) <;> omega) (fun c105 => ?_) (fun c105 => ?_)
          · skip
            refine x_canon (ls' := [(0, _), (1, _), (2, _), (3, _), (4, _), (6, _)]) rfl ?_
            first | exact j137 hi9 _ _ he1 hL hf | exact j137 hi9 _ _ (Or.inr rfl) (IL_t (IL_t hL (Or.inr (Or.inl ⟨rfl, h126⟩))) (Or.inr (Or.inr ⟨rfl, by omega⟩))) (frL_mu (frL_mu hf (by decide)) (by decide))
          · skip
            refine x_aload_n hg dX4_lengthenChains_108 rfl ?_
            refine x_getR (j9 := 82) hg dX4_lengthenChains_109 fl_X4_23 (by decide) rfl rfl (by decide) ?_
            refine x_iload hg dX4_lengthenChains_112 rfl ?_
            refine x_lload hg dX4_lengthenChains_114 rfl ?_
            refine x_aload_n hg dX4_lengthenChains_116 rfl ?_
            refine x_getR (j9 := 69) hg dX4_lengthenChains_117 fl_X4_13 (by decide) rfl rfl (by decide) ?_
            refine x_iload_n hg dX4_lengthenChains_120 rfl ?_
            refine x_aaload (len := 10) (et := 9) hg dX4_lengthenChains_121 (by decide) (by decide) (by omega) (RS_row _ _) (by omega) ?_
            refine x_iload hg dX4_lengthenChains_122 rfl ?_
            refine x_laload (len := 9) hg dX4_lengthenChains_124 (oA_row (by omega)) (by omega) ?_
            refine x_ladd hg dX4_lengthenChains_125 ?_
            refine x_wrapl (fun a126 h126 => ?_)
            refine x_lastore (len := 9) hg dX4_lengthenChains_126 (by decide) (by omega)  ?_
            refine x_aload_n hg dX4_lengthenChains_127 rfl ?_
            refine x_getR (j9 := 83) hg dX4_lengthenChains_128 fl_X4_27 (by decide) rfl rfl (by decide) ?_
            refine x_iload hg dX4_lengthenChains_131 rfl ?_
            refine x_iload_n hg dX4_lengthenChains_133 rfl ?_
            refine x_iastore (len := 9) hg dX4_lengthenChains_134 (by decide) (by omega)  ?_
            refine x_iconst hg dX4_lengthenChains_135 ?_
            refine x_istore_n (ls' := [(0, _), (1, _), (2, _), (3, _), (4, _), (6, _), (7, _)]) hg dX4_lengthenChains_136 rfl (by decide) rfl ?_
            refine x_canon (ls' := [(0, _), (1, _), (2, _), (3, _), (4, _), (6, _)]) rfl ?_
            first | exact j137 hi9 _ _ he1 hL hf | exact j137 hi9 _ _ (Or.inr rfl) (IL_t (IL_t hL (Or.inr (Or.inl ⟨rfl, h126⟩))) (Or.inr (Or.inr ⟨rfl, by omega⟩))) (frL_mu (frL_mu hf (by decide)) (by decide))
      refine x_iload hg dX4_lengthenChains_44 rfl ?_
      refine x_bipush hg dX4_lengthenChains_46 (by decide) ?_
      refine x_icmp_ge (tgt := 143) hg dX4_lengthenChains_48 (by decide) (by omega) (by omega) (fun c48 => ?_) (fun c48 => ?_)
      · skip
        refine x_iload_n hg dX4_lengthenChains_143 rfl ?_
        refine x_iret hg hr (Or.inr ⟨rfl, (by exact he1)⟩) dX4_lengthenChains_144 (Nat.le_refl _) (Nat.le_refl _) ?_
        exact ⟨rfl, rfl, _, rfl, he1, hL, hf⟩
      · skip
        refine x_iload hg dX4_lengthenChains_51 rfl ?_
        refine x_iload_n hg dX4_lengthenChains_53 rfl ?_
        refine x_icmp_eq (tgt := 77) hg dX4_lengthenChains_54 (by decide) (by omega) (by omega) (fun c54 => ?_) (fun c54 => ?_)
        · skip
          refine x_iconst hg dX4_lengthenChains_77 ?_
          exact j78 (by omega) _ (by omega)
        · skip
          refine x_aload_n hg dX4_lengthenChains_57 rfl ?_
          refine x_getR (j9 := 69) hg dX4_lengthenChains_58 fl_X4_13 (by decide) rfl rfl (by decide) ?_
          refine x_iload_n hg dX4_lengthenChains_61 rfl ?_
          refine x_aaload (len := 10) (et := 9) hg dX4_lengthenChains_62 (by decide) (by decide) (by omega) (RS_row _ _) (by omega) ?_
          refine x_iload hg dX4_lengthenChains_63 rfl ?_
          refine x_laload (len := 9) hg dX4_lengthenChains_65 (oA_row (by omega)) (by omega) ?_
          refine x_ldc2 hg 9223372036854775807 dX4_lengthenChains_66 (List.mem_of_getElem? (i := 699) (by decide +kernel)) ?_
          refine x_lcmp hg dX4_lengthenChains_69 (by exact hl4 z.toNat (by omega) i.toNat (by omega)) (by decide) ?_
          refine x_if_eq (tgt := 77) hg dX4_lengthenChains_70 (by decide) (by split <;> (try split) <;> omega) (fun c70 => ?_) (fun c70 => ?_)
          · skip
            refine x_iconst hg dX4_lengthenChains_77 ?_
            exact j78 (by omega) _ (by omega)
          · skip
            refine x_iconst hg dX4_lengthenChains_73 ?_
            refine x_goto (tgt := 78) hg dX4_lengthenChains_74 (by decide) ?_
            exact j78 (by omega) _ (by omega)
  have hc := hv2 z.toNat (by omega)
  have h3c := hv3 (M0 80 z.toNat).toNat (by omega)
  refine x_aload_n hg dX4_lengthenChains_0 rfl ?_
  refine x_getR (j9 := 80) hg dX4_lengthenChains_1 fl_X4_16 (by decide) rfl rfl (by decide) ?_
  refine x_iload_n hg dX4_lengthenChains_4 rfl ?_
  refine x_iaload (len := 10) hg dX4_lengthenChains_5 (by decide) (by omega) ?_
  refine x_istore_n (ls' := [(0, _), (1, _), (2, _)]) hg dX4_lengthenChains_6 rfl (by decide) rfl ?_
  refine x_aload_n hg dX4_lengthenChains_7 rfl ?_
  refine x_getR (j9 := 82) hg dX4_lengthenChains_8 fl_X4_23 (by decide) rfl rfl (by decide) ?_
  refine x_iload_n hg dX4_lengthenChains_11 rfl ?_
  refine x_laload (len := 9) hg dX4_lengthenChains_12 (by decide) (by omega) ?_
  refine x_ldc2 hg 9223372036854775807 dX4_lengthenChains_13 (List.mem_of_getElem? (i := 699) (by decide +kernel)) ?_
  refine x_lcmp hg dX4_lengthenChains_16 (by omega) (by decide) ?_
  refine x_if_ne (tgt := 22) hg dX4_lengthenChains_17 (by decide) (by split <;> (try split) <;> omega) (fun c17 => ?_) (fun c17 => ?_)
  · skip
    refine x_iconst hg dX4_lengthenChains_22 ?_
    refine x_istore_n (ls' := [(0, _), (1, _), (2, _), (3, _)]) hg dX4_lengthenChains_23 rfl (by decide) rfl ?_
    refine x_aload_n hg dX4_lengthenChains_24 rfl ?_
    refine x_getR (j9 := 82) hg dX4_lengthenChains_25 fl_X4_23 (by decide) rfl rfl (by decide) ?_
    refine x_iload_n hg dX4_lengthenChains_28 rfl ?_
    refine x_laload (len := 9) hg dX4_lengthenChains_29 (by decide) (by omega) ?_
    refine x_aload_n hg dX4_lengthenChains_30 rfl ?_
    refine x_getR (j9 := 69) hg dX4_lengthenChains_31 fl_X4_13 (by decide) rfl rfl (by decide) ?_
    refine x_iload_n hg dX4_lengthenChains_34 rfl ?_
    refine x_aaload (len := 10) (et := 9) hg dX4_lengthenChains_35 (by decide) (by decide) (by omega) (RS_row _ _) (by omega) ?_
    refine x_iload_n hg dX4_lengthenChains_36 rfl ?_
    refine x_laload (len := 9) hg dX4_lengthenChains_37 (oA_row (by omega)) (by omega) ?_
    refine x_lsub hg dX4_lengthenChains_38 ?_
    refine x_wrapl (fun a39 h39 => ?_)
    refine x_lstore (ls' := [(0, _), (1, _), (2, _), (3, _), (4, _)]) hg dX4_lengthenChains_39 (by decide) rfl ?_
    refine x_iconst hg dX4_lengthenChains_41 ?_
    refine x_istore (ls' := [(0, _), (1, _), (2, _), (3, _), (4, _), (6, _)]) hg dX4_lengthenChains_42 (by decide) rfl ?_
    exact loop 10 M0 0 _ _ _ (by omega) (by omega) (by omega) (by omega) (Or.inl rfl) hL (fun a _ => rfl)
  · skip
    refine x_iconst hg dX4_lengthenChains_20 ?_
    refine x_iret hg hr (Or.inr ⟨rfl, by first | exact Or.inl rfl | exact Or.inr rfl | omega⟩) dX4_lengthenChains_21 (Nat.le_refl _) (Nat.le_refl _) ?_
    exact ⟨rfl, rfl, _, rfl, Or.inl rfl, hL, fun a _ => rfl⟩

theorem dX4_seekChains_0 : decode cX4_seekChains 0 = .ok (.iconst 0, 1) := by decide +kernel
theorem dX4_seekChains_1 : decode cX4_seekChains 1 = .ok (.istore_n 2, 1) := by decide +kernel
theorem dX4_seekChains_2 : decode cX4_seekChains 2 = .ok (.iload_n 2, 1) := by decide +kernel
theorem dX4_seekChains_3 : decode cX4_seekChains 3 = .ok (.bipush 9, 2) := by decide +kernel
theorem dX4_seekChains_5 : decode cX4_seekChains 5 = .ok (.if_icmp .ge 30, 3) := by decide +kernel
theorem dX4_seekChains_8 : decode cX4_seekChains 8 = .ok (.aload_n 0, 1) := by decide +kernel
theorem dX4_seekChains_9 : decode cX4_seekChains 9 = .ok (.getfield 23, 3) := by decide +kernel
theorem dX4_seekChains_12 : decode cX4_seekChains 12 = .ok (.iload_n 2, 1) := by decide +kernel
theorem dX4_seekChains_13 : decode cX4_seekChains 13 = .ok (.aload_n 0, 1) := by decide +kernel
theorem dX4_seekChains_14 : decode cX4_seekChains 14 = .ok (.getfield 13, 3) := by decide +kernel
theorem dX4_seekChains_17 : decode cX4_seekChains 17 = .ok (.iload_n 1, 1) := by decide +kernel
theorem dX4_seekChains_18 : decode cX4_seekChains 18 = .ok (.aaload, 1) := by decide +kernel
theorem dX4_seekChains_19 : decode cX4_seekChains 19 = .ok (.iload_n 2, 1) := by decide +kernel
theorem dX4_seekChains_20 : decode cX4_seekChains 20 = .ok (.laload, 1) := by decide +kernel
theorem dX4_seekChains_21 : decode cX4_seekChains 21 = .ok (.lastore, 1) := by decide +kernel
theorem dX4_seekChains_22 : decode cX4_seekChains 22 = .ok (.aload_n 0, 1) := by decide +kernel
theorem dX4_seekChains_23 : decode cX4_seekChains 23 = .ok (.getfield 27, 3) := by decide +kernel
theorem dX4_seekChains_26 : decode cX4_seekChains 26 = .ok (.iload_n 2, 1) := by decide +kernel
theorem dX4_seekChains_27 : decode cX4_seekChains 27 = .ok (.iload_n 1, 1) := by decide +kernel
theorem dX4_seekChains_28 : decode cX4_seekChains 28 = .ok (.iastore, 1) := by decide +kernel
theorem dX4_seekChains_29 : decode cX4_seekChains 29 = .ok (.iinc 2 1, 3) := by decide +kernel
theorem dX4_seekChains_32 : decode cX4_seekChains 32 = .ok (.goto (-30), 3) := by decide +kernel
theorem dX4_seekChains_35 : decode cX4_seekChains 35 = .ok (.iconst 1, 1) := by decide +kernel
theorem dX4_seekChains_36 : decode cX4_seekChains 36 = .ok (.istore_n 2, 1) := by decide +kernel
theorem dX4_seekChains_37 : decode cX4_seekChains 37 = .ok (.iconst 0, 1) := by decide +kernel
theorem dX4_seekChains_38 : decode cX4_seekChains 38 = .ok (.istore_n 3, 1) := by decide +kernel
theorem dX4_seekChains_39 : decode cX4_seekChains 39 = .ok (.iload_n 3, 1) := by decide +kernel
theorem dX4_seekChains_40 : decode cX4_seekChains 40 = .ok (.bipush 9, 2) := by decide +kernel
theorem dX4_seekChains_42 : decode cX4_seekChains 42 = .ok (.if_icmp .ge 39, 3) := by decide +kernel
theorem dX4_seekChains_45 : decode cX4_seekChains 45 = .ok (.iload_n 2, 1) := by decide +kernel
theorem dX4_seekChains_46 : decode cX4_seekChains 46 = .ok (.ifCond .eq 35, 3) := by decide +kernel
theorem dX4_seekChains_49 : decode cX4_seekChains 49 = .ok (.iconst 0, 1) := by decide +kernel
theorem dX4_seekChains_50 : decode cX4_seekChains 50 = .ok (.istore_n 2, 1) := by decide +kernel
theorem dX4_seekChains_51 : decode cX4_seekChains 51 = .ok (.iconst 0, 1) := by decide +kernel
theorem dX4_seekChains_52 : decode cX4_seekChains 52 = .ok (.istore 4, 2) := by decide +kernel
theorem dX4_seekChains_54 : decode cX4_seekChains 54 = .ok (.iload 4, 2) := by decide +kernel
theorem dX4_seekChains_56 : decode cX4_seekChains 56 = .ok (.iload_n 1, 1) := by decide +kernel
theorem dX4_seekChains_57 : decode cX4_seekChains 57 = .ok (.if_icmp .ge 18, 3) := by decide +kernel
theorem dX4_seekChains_60 : decode cX4_seekChains 60 = .ok (.iload_n 2, 1) := by decide +kernel
theorem dX4_seekChains_61 : decode cX4_seekChains 61 = .ok (.aload_n 0, 1) := by decide +kernel
theorem dX4_seekChains_62 : decode cX4_seekChains 62 = .ok (.iload 4, 2) := by decide +kernel
theorem dX4_seekChains_64 : decode cX4_seekChains 64 = .ok (.invokevirtual 103, 3) := by decide +kernel
theorem dX4_seekChains_67 : decode cX4_seekChains 67 = .ok (.ior, 1) := by decide +kernel
theorem dX4_seekChains_68 : decode cX4_seekChains 68 = .ok (.istore_n 2, 1) := by decide +kernel
theorem dX4_seekChains_69 : decode cX4_seekChains 69 = .ok (.iinc 4 1, 3) := by decide +kernel
theorem dX4_seekChains_72 : decode cX4_seekChains 72 = .ok (.goto (-18), 3) := by decide +kernel
theorem dX4_seekChains_75 : decode cX4_seekChains 75 = .ok (.iinc 3 1, 3) := by decide +kernel
theorem dX4_seekChains_78 : decode cX4_seekChains 78 = .ok (.goto (-39), 3) := by decide +kernel
theorem dX4_seekChains_81 : decode cX4_seekChains 81 = .ok (.return_, 1) := by decide +kernel
set_option maxHeartbeats 4000000 in
set_option maxRecDepth 20000 in
theorem c_X4_seekChains (l : Launch) (b : Nat) (D : va_G) (cy : Nat → ClassId) {tt : Nat} {M0 : xMm} {z : Int} (hL : IL M0) (hz : 0 ≤ z ∧ z < 10) : xC l b D cy yX4_seekChains cX4_seekChains 5 none ({ frames := 1, cells := 0, slots := 0, locals := 27 }) [xr 68, xi z] 209 M0 (RS tt) (xPv 209 (RS tt) (fun M' => IL M' ∧ frL M' M0)) := by
  refine x_met (by decide) (Nat.le_of_ble_eq_true rfl) (fun g hg hr he => ?_)
  refine x_canon (ls' := [(0, _), (1, _)]) rfl ?_
  have inner : ∀ (r : Int) (hr9 : 0 ≤ r ∧ r < 9) (cont : ∀ M p, inR p → IL M → frL M M0 → xW g 209 M (RS tt) 0 0 75 [(0, xr 68), (1, xi z), (2, xi p), (3, xi r)] []) (n1 : Nat) (M : xMm) (i p : Int), 0 ≤ i → i ≤ z → z - i < n1 → inR p → IL M → frL M M0 → xW g 209 M (RS tt) 0 0 54 [(0, xr 68), (1, xi z), (2, xi p), (3, xi r), (4, xi i)] [] := by
    intro r hr9 cont n1
    induction n1 with
    | zero => intro M i p h1 h2 h3; exfalso; omega
    | succ n1 ih =>
      intro M i p hi1 hi2 hi3 hp hL hf
      refine x_iload hg dX4_seekChains_54 rfl ?_
      refine x_iload_n hg dX4_seekChains_56 rfl ?_
      refine x_icmp_ge (tgt := 75) hg dX4_seekChains_57 (by decide) (by omega) (by omega) (fun c57 => ?_) (fun c57 => ?_)
      · skip
        refine x_canon (ls' := [(0, _), (1, _), (2, _), (3, _)]) rfl ?_
        exact cont _ _ hp hL hf
      · skip
        refine x_iload_n hg dX4_seekChains_60 rfl ?_
        refine x_aload_n hg dX4_seekChains_61 rfl ?_
        refine x_iload hg dX4_seekChains_62 rfl ?_
        refine x_cVi hg he [_] [_] dX4_seekChains_64 mv_X4_103 (c_X4_lengthenChains l b D cy hL (by omega)) (by decide) rfl rfl (Nat.le_of_ble_eq_true rfl) (by decide) (by decide) (fun r64 M64 q64 => ?_)
        obtain ⟨hb64, hL64, hf64⟩ := q64
        refine x_ior hg dX4_seekChains_67 ?_
        refine x_wrap (fun a68 h68 => ?_)
        refine x_istore_n (ls' := [(0, _), (1, _), (2, _), (3, _), (4, _)]) hg dX4_seekChains_68 rfl (by decide) rfl ?_
        refine x_iinc (ls' := [(0, _), (1, _), (2, _), (3, _), (4, _)]) hg dX4_seekChains_69 rfl (by decide) rfl ?_
        refine x_goto (tgt := 54) hg dX4_seekChains_72 (by decide) ?_
        exact ih _ _ _ (by omega) (by omega) (by omega) h68 hL64 (frL_tr hf64 hf)
  have outer : ∀ (n1 : Nat) (M : xMm) (r p : Int), 0 ≤ r → r ≤ 9 → 9 - r < n1 → inR p → IL M → frL M M0 → xW g 209 M (RS tt) 0 0 39 [(0, xr 68), (1, xi z), (2, xi p), (3, xi r)] [] := by
    intro n1
    induction n1 with
    | zero => intro M r p hr1 hr2 hr3 hp hL hf; exfalso; omega
    | succ n1 ih =>
      intro M r p hr1 hr2 hr3 hp hL hf
      obtain ⟨hl1, hl2, hl3, hl4⟩ := id hL
      refine x_iload_n hg dX4_seekChains_39 rfl ?_
      refine x_bipush hg dX4_seekChains_40 (by decide) ?_
      refine x_icmp_ge (tgt := 81) hg dX4_seekChains_42 (by decide) (by omega) (by omega) (fun c42 => ?_) (fun c42 => ?_)
      · skip
        refine x_vret hg hr dX4_seekChains_81 (Nat.le_refl _) (Nat.le_refl _) ?_
        exact ⟨rfl, rfl, rfl, hL, hf⟩
      · skip
        refine x_iload_n hg dX4_seekChains_45 rfl ?_
        refine x_if_eq (tgt := 81) hg dX4_seekChains_46 (by decide) (by omega) (fun c46 => ?_) (fun c46 => ?_)
        · skip
          refine x_vret hg hr dX4_seekChains_81 (Nat.le_refl _) (Nat.le_refl _) ?_
          exact ⟨rfl, rfl, rfl, hL, hf⟩
        · skip
          refine x_iconst hg dX4_seekChains_49 ?_
          refine x_istore_n (ls' := [(0, _), (1, _), (2, _), (3, _)]) hg dX4_seekChains_50 rfl (by decide) rfl ?_
          refine x_iconst hg dX4_seekChains_51 ?_
          refine x_istore (ls' := [(0, _), (1, _), (2, _), (3, _), (4, _)]) hg dX4_seekChains_52 (by decide) rfl ?_
          refine inner r (by omega) (fun M1 p1 hp1 hL1 hf1 => ?_) 11 M 0 0 (by omega) (by omega) (by omega) (by omega) hL hf
          refine x_iinc (ls' := [(0, _), (1, _), (2, _), (3, _)]) hg dX4_seekChains_75 rfl (by decide) rfl ?_
          refine x_goto (tgt := 39) hg dX4_seekChains_78 (by decide) ?_
          exact ih _ _ _ (by omega) (by omega) (by omega) hp1 hL1 hf1
  have loop : ∀ (n1 : Nat) (M : xMm) (i : Int), 0 ≤ i → i ≤ 9 → 9 - i < n1 → IL M → frL M M0 → xW g 209 M (RS tt) 0 0 2 [(0, xr 68), (1, xi z), (2, xi i)] [] := by
    intro n1
    induction n1 with
    | zero => intro M i hi1 hi2 hi3 hL hf; exfalso; omega
    | succ n1 ih =>
      intro M i hi1 hi2 hi3 hL hf
      obtain ⟨hl1, hl2, hl3, hl4⟩ := id hL
      refine x_iload_n hg dX4_seekChains_2 rfl ?_
      refine x_bipush hg dX4_seekChains_3 (by decide) ?_
      refine x_icmp_ge (tgt := 35) hg dX4_seekChains_5 (by decide) (by omega) (by omega) (fun c5 => ?_) (fun c5 => ?_)
      · skip
        refine x_iconst hg dX4_seekChains_35 ?_
        refine x_istore_n (ls' := [(0, _), (1, _), (2, _)]) hg dX4_seekChains_36 rfl (by decide) rfl ?_
        refine x_iconst hg dX4_seekChains_37 ?_
        refine x_istore_n (ls' := [(0, _), (1, _), (2, _), (3, _)]) hg dX4_seekChains_38 rfl (by decide) rfl ?_
        exact outer 10 M 0 1 (by omega) (by omega) (by omega) (by omega) hL hf
      · skip
        refine x_aload_n hg dX4_seekChains_8 rfl ?_
        refine x_getR (j9 := 82) hg dX4_seekChains_9 fl_X4_23 (by decide) rfl rfl (by decide) ?_
        refine x_iload_n hg dX4_seekChains_12 rfl ?_
        refine x_aload_n hg dX4_seekChains_13 rfl ?_
        refine x_getR (j9 := 69) hg dX4_seekChains_14 fl_X4_13 (by decide) rfl rfl (by decide) ?_
        refine x_iload_n hg dX4_seekChains_17 rfl ?_
        refine x_aaload (len := 10) (et := 9) hg dX4_seekChains_18 (by decide) (by decide) (by omega) (RS_row _ _) (by omega) ?_
        refine x_iload_n hg dX4_seekChains_19 rfl ?_
        refine x_laload (len := 9) hg dX4_seekChains_20 (oA_row (by omega)) (by omega) ?_
        refine x_lastore (len := 9) hg dX4_seekChains_21 (by decide) (by omega)  ?_
        refine x_aload_n hg dX4_seekChains_22 rfl ?_
        refine x_getR (j9 := 83) hg dX4_seekChains_23 fl_X4_27 (by decide) rfl rfl (by decide) ?_
        refine x_iload_n hg dX4_seekChains_26 rfl ?_
        refine x_iload_n hg dX4_seekChains_27 rfl ?_
        refine x_iastore (len := 9) hg dX4_seekChains_28 (by decide) (by omega)  ?_
        refine x_iinc (ls' := [(0, _), (1, _), (2, _)]) hg dX4_seekChains_29 rfl (by decide) rfl ?_
        refine x_goto (tgt := 2) hg dX4_seekChains_32 (by decide) ?_
        exact ih _ _ (by omega) (by omega) (by omega) (IL_t (IL_t hL (Or.inr (Or.inl ⟨rfl, hl4 z.toNat (by omega) i.toNat (by omega)⟩))) (Or.inr (Or.inr ⟨rfl, by omega⟩))) (frL_mu (frL_mu hf (by decide)) (by decide))
  refine x_iconst hg dX4_seekChains_0 ?_
  refine x_istore_n (ls' := [(0, _), (1, _), (2, _)]) hg dX4_seekChains_1 rfl (by decide) rfl ?_
  exact loop 10 M0 0 (by omega) (by omega) (by omega) hL (fun a _ => rfl)

theorem dX4_place_0 : decode cX4_place 0 = .ok (.bipush 8, 2) := by decide +kernel
theorem dX4_place_2 : decode cX4_place 2 = .ok (.istore_n 2, 1) := by decide +kernel
theorem dX4_place_3 : decode cX4_place 3 = .ok (.iconst 0, 1) := by decide +kernel
theorem dX4_place_4 : decode cX4_place 4 = .ok (.istore_n 3, 1) := by decide +kernel
theorem dX4_place_5 : decode cX4_place 5 = .ok (.iload_n 3, 1) := by decide +kernel
theorem dX4_place_6 : decode cX4_place 6 = .ok (.bipush 8, 2) := by decide +kernel
theorem dX4_place_8 : decode cX4_place 8 = .ok (.if_icmp .ge 36, 3) := by decide +kernel
theorem dX4_place_11 : decode cX4_place 11 = .ok (.aload_n 0, 1) := by decide +kernel
theorem dX4_place_12 : decode cX4_place 12 = .ok (.getfield 20, 3) := by decide +kernel
theorem dX4_place_15 : decode cX4_place 15 = .ok (.iload_n 3, 1) := by decide +kernel
theorem dX4_place_16 : decode cX4_place 16 = .ok (.iaload, 1) := by decide +kernel
theorem dX4_place_17 : decode cX4_place 17 = .ok (.ifCond .le 21, 3) := by decide +kernel
theorem dX4_place_20 : decode cX4_place 20 = .ok (.aload_n 0, 1) := by decide +kernel
theorem dX4_place_21 : decode cX4_place 21 = .ok (.getfield 23, 3) := by decide +kernel
theorem dX4_place_24 : decode cX4_place 24 = .ok (.iload_n 3, 1) := by decide +kernel
theorem dX4_place_25 : decode cX4_place 25 = .ok (.laload, 1) := by decide +kernel
theorem dX4_place_26 : decode cX4_place 26 = .ok (.aload_n 0, 1) := by decide +kernel
theorem dX4_place_27 : decode cX4_place 27 = .ok (.getfield 23, 3) := by decide +kernel
theorem dX4_place_30 : decode cX4_place 30 = .ok (.iload_n 2, 1) := by decide +kernel
theorem dX4_place_31 : decode cX4_place 31 = .ok (.laload, 1) := by decide +kernel
theorem dX4_place_32 : decode cX4_place 32 = .ok (.lcmp, 1) := by decide +kernel
theorem dX4_place_33 : decode cX4_place 33 = .ok (.ifCond .ge 5, 3) := by decide +kernel
theorem dX4_place_36 : decode cX4_place 36 = .ok (.iload_n 3, 1) := by decide +kernel
theorem dX4_place_37 : decode cX4_place 37 = .ok (.istore_n 2, 1) := by decide +kernel
theorem dX4_place_38 : decode cX4_place 38 = .ok (.iinc 3 1, 3) := by decide +kernel
theorem dX4_place_41 : decode cX4_place 41 = .ok (.goto (-36), 3) := by decide +kernel
theorem dX4_place_44 : decode cX4_place 44 = .ok (.aload_n 0, 1) := by decide +kernel
theorem dX4_place_45 : decode cX4_place 45 = .ok (.getfield 20, 3) := by decide +kernel
theorem dX4_place_48 : decode cX4_place 48 = .ok (.iload_n 2, 1) := by decide +kernel
theorem dX4_place_49 : decode cX4_place 49 = .ok (.dup2, 1) := by decide +kernel
theorem dX4_place_50 : decode cX4_place 50 = .ok (.iaload, 1) := by decide +kernel
theorem dX4_place_51 : decode cX4_place 51 = .ok (.iconst 1, 1) := by decide +kernel
theorem dX4_place_52 : decode cX4_place 52 = .ok (.isub, 1) := by decide +kernel
theorem dX4_place_53 : decode cX4_place 53 = .ok (.iastore, 1) := by decide +kernel
theorem dX4_place_54 : decode cX4_place 54 = .ok (.iconst 0, 1) := by decide +kernel
theorem dX4_place_55 : decode cX4_place 55 = .ok (.istore_n 3, 1) := by decide +kernel
theorem dX4_place_56 : decode cX4_place 56 = .ok (.iload_n 3, 1) := by decide +kernel
theorem dX4_place_57 : decode cX4_place 57 = .ok (.bipush 9, 2) := by decide +kernel
theorem dX4_place_59 : decode cX4_place 59 = .ok (.if_icmp .ge 47, 3) := by decide +kernel
theorem dX4_place_62 : decode cX4_place 62 = .ok (.aload_n 0, 1) := by decide +kernel
theorem dX4_place_63 : decode cX4_place 63 = .ok (.getfield 27, 3) := by decide +kernel
theorem dX4_place_66 : decode cX4_place 66 = .ok (.iload_n 2, 1) := by decide +kernel
theorem dX4_place_67 : decode cX4_place 67 = .ok (.iaload, 1) := by decide +kernel
theorem dX4_place_68 : decode cX4_place 68 = .ok (.iload_n 1, 1) := by decide +kernel
theorem dX4_place_69 : decode cX4_place 69 = .ok (.if_icmp .eq 37, 3) := by decide +kernel
theorem dX4_place_72 : decode cX4_place 72 = .ok (.aload_n 0, 1) := by decide +kernel
theorem dX4_place_73 : decode cX4_place 73 = .ok (.getfield 27, 3) := by decide +kernel
theorem dX4_place_76 : decode cX4_place 76 = .ok (.iload_n 2, 1) := by decide +kernel
theorem dX4_place_77 : decode cX4_place 77 = .ok (.iaload, 1) := by decide +kernel
theorem dX4_place_78 : decode cX4_place 78 = .ok (.istore 4, 2) := by decide +kernel
theorem dX4_place_80 : decode cX4_place 80 = .ok (.aload_n 0, 1) := by decide +kernel
theorem dX4_place_81 : decode cX4_place 81 = .ok (.getfield 16, 3) := by decide +kernel
theorem dX4_place_84 : decode cX4_place 84 = .ok (.iload 4, 2) := by decide +kernel
theorem dX4_place_86 : decode cX4_place 86 = .ok (.iaload, 1) := by decide +kernel
theorem dX4_place_87 : decode cX4_place 87 = .ok (.istore 5, 2) := by decide +kernel
theorem dX4_place_89 : decode cX4_place 89 = .ok (.aload_n 0, 1) := by decide +kernel
theorem dX4_place_90 : decode cX4_place 90 = .ok (.getfield 16, 3) := by decide +kernel
theorem dX4_place_93 : decode cX4_place 93 = .ok (.iload 4, 2) := by decide +kernel
theorem dX4_place_95 : decode cX4_place 95 = .ok (.iload_n 2, 1) := by decide +kernel
theorem dX4_place_96 : decode cX4_place 96 = .ok (.iastore, 1) := by decide +kernel
theorem dX4_place_97 : decode cX4_place 97 = .ok (.iload 5, 2) := by decide +kernel
theorem dX4_place_99 : decode cX4_place 99 = .ok (.istore_n 2, 1) := by decide +kernel
theorem dX4_place_100 : decode cX4_place 100 = .ok (.iinc 3 1, 3) := by decide +kernel
theorem dX4_place_103 : decode cX4_place 103 = .ok (.goto (-47), 3) := by decide +kernel
theorem dX4_place_106 : decode cX4_place 106 = .ok (.aload_n 0, 1) := by decide +kernel
theorem dX4_place_107 : decode cX4_place 107 = .ok (.getfield 16, 3) := by decide +kernel
theorem dX4_place_110 : decode cX4_place 110 = .ok (.iload_n 1, 1) := by decide +kernel
theorem dX4_place_111 : decode cX4_place 111 = .ok (.iload_n 2, 1) := by decide +kernel
theorem dX4_place_112 : decode cX4_place 112 = .ok (.iastore, 1) := by decide +kernel
theorem dX4_place_113 : decode cX4_place 113 = .ok (.return_, 1) := by decide +kernel
set_option maxHeartbeats 4000000 in
set_option maxRecDepth 20000 in
theorem c_X4_place (l : Launch) (b : Nat) (D : va_G) (cy : Nat → ClassId) {tt : Nat} {M0 : xMm} {z : Int} (hL : IL M0) (hz : 0 ≤ z ∧ z < 10) : xC l b D cy yX4_place cX4_place 6 none ({ frames := 0, cells := 0, slots := 0, locals := 0 }) [xr 68, xi z] 209 M0 (RS tt) (xPv 209 (RS tt) (fun M' => IL M' ∧ frL M' M0)) := by
  refine x_met (by decide) (Nat.le_of_ble_eq_true rfl) (fun g hg hr he => ?_)
  refine x_canon (ls' := [(0, _), (1, _)]) rfl ?_
  have loop2 : ∀ (n1 : Nat) (M : xMm) (i t : Int), 0 ≤ i → i ≤ 9 → 9 - i < n1 → (0 ≤ t ∧ t ≤ 8) → IL M → frL M M0 → xW g 209 M (RS tt) 0 0 56 [(0, xr 68), (1, xi z), (2, xi t), (3, xi i)] [] := by
    intro n1
    induction n1 with
    | zero => intro M i t hi1 hi2 hi3 ht hL hf; exfalso; omega
    | succ n1 ih =>
      intro M i t hi1 hi2 hi3 ht hL hf
      obtain ⟨hl1, hl2, hl3, hl4⟩ := id hL
      have h3 := hl3 t.toNat (by omega)
      have h2 := hl2 (M 83 t.toNat).toNat (by omega)
      refine x_iload_n hg dX4_place_56 rfl ?_
      refine x_bipush hg dX4_place_57 (by decide) ?_
      refine x_icmp_ge (tgt := 106) hg dX4_place_59 (by decide) (by omega) (by omega) (fun c59 => ?_) (fun c59 => ?_)
      · skip
        refine x_aload_n hg dX4_place_106 rfl ?_
        refine x_getR (j9 := 80) hg dX4_place_107 fl_X4_16 (by decide) rfl rfl (by decide) ?_
        refine x_iload_n hg dX4_place_110 rfl ?_
        refine x_iload_n hg dX4_place_111 rfl ?_
        refine x_iastore (len := 10) hg dX4_place_112 (by decide) (by omega)  ?_
        refine x_vret hg hr dX4_place_113 (Nat.le_refl _) (Nat.le_refl _) ?_
        exact ⟨rfl, rfl, rfl, IL_ch hL (by omega), frL_mu hf (by decide)⟩
      · skip
        refine x_aload_n hg dX4_place_62 rfl ?_
        refine x_getR (j9 := 83) hg dX4_place_63 fl_X4_27 (by decide) rfl rfl (by decide) ?_
        refine x_iload_n hg dX4_place_66 rfl ?_
        refine x_iaload (len := 9) hg dX4_place_67 (by decide) (by omega) ?_
        refine x_iload_n hg dX4_place_68 rfl ?_
        refine x_icmp_eq (tgt := 106) hg dX4_place_69 (by decide) (by omega) (by omega) (fun c69 => ?_) (fun c69 => ?_)
        · skip
          refine x_aload_n hg dX4_place_106 rfl ?_
          refine x_getR (j9 := 80) hg dX4_place_107 fl_X4_16 (by decide) rfl rfl (by decide) ?_
          refine x_iload_n hg dX4_place_110 rfl ?_
          refine x_iload_n hg dX4_place_111 rfl ?_
          refine x_iastore (len := 10) hg dX4_place_112 (by decide) (by omega)  ?_
          refine x_vret hg hr dX4_place_113 (Nat.le_refl _) (Nat.le_refl _) ?_
          exact ⟨rfl, rfl, rfl, IL_ch hL (by omega), frL_mu hf (by decide)⟩
        · skip
          refine x_aload_n hg dX4_place_72 rfl ?_
          refine x_getR (j9 := 83) hg dX4_place_73 fl_X4_27 (by decide) rfl rfl (by decide) ?_
          refine x_iload_n hg dX4_place_76 rfl ?_
          refine x_iaload (len := 9) hg dX4_place_77 (by decide) (by omega) ?_
          refine x_istore (ls' := [(0, _), (1, _), (2, _), (3, _), (4, _)]) hg dX4_place_78 (by decide) rfl ?_
          refine x_aload_n hg dX4_place_80 rfl ?_
          refine x_getR (j9 := 80) hg dX4_place_81 fl_X4_16 (by decide) rfl rfl (by decide) ?_
          refine x_iload hg dX4_place_84 rfl ?_
          refine x_iaload (len := 10) hg dX4_place_86 (by decide) (by omega) ?_
          refine x_istore (ls' := [(0, _), (1, _), (2, _), (3, _), (4, _), (5, _)]) hg dX4_place_87 (by decide) rfl ?_
          refine x_aload_n hg dX4_place_89 rfl ?_
          refine x_getR (j9 := 80) hg dX4_place_90 fl_X4_16 (by decide) rfl rfl (by decide) ?_
          refine x_iload hg dX4_place_93 rfl ?_
          refine x_iload_n hg dX4_place_95 rfl ?_
          refine x_iastore (len := 10) hg dX4_place_96 (by decide) (by omega)  ?_
          refine x_iload hg dX4_place_97 rfl ?_
          refine x_istore_n (ls' := [(0, _), (1, _), (2, _), (3, _), (4, _), (5, _)]) hg dX4_place_99 rfl (by decide) rfl ?_
          refine x_iinc (ls' := [(0, _), (1, _), (2, _), (3, _), (4, _), (5, _)]) hg dX4_place_100 rfl (by decide) rfl ?_
          refine x_goto (tgt := 56) hg dX4_place_103 (by decide) ?_
          refine x_canon (ls' := [(0, _), (1, _), (2, _), (3, _)]) rfl ?_
          exact ih _ _ _ (by omega) (by omega) (by omega) (by omega) (IL_ch hL (by omega)) (frL_mu hf (by decide))
  have loop1 : ∀ (n1 : Nat) (M : xMm) (i t : Int), 0 ≤ i → i ≤ 8 → 8 - i < n1 → (0 ≤ t ∧ t ≤ 8) → IL M → frL M M0 → xW g 209 M (RS tt) 0 0 5 [(0, xr 68), (1, xi z), (2, xi t), (3, xi i)] [] := by
    intro n1
    induction n1 with
    | zero => intro M i t hi1 hi2 hi3 ht hL hf; exfalso; omega
    | succ n1 ih =>
      intro M i t hi1 hi2 hi3 ht hL hf
      obtain ⟨hl1, hl2, hl3, hl4⟩ := id hL
      have h3t := hl3 t.toNat (by omega)
      refine x_iload_n hg dX4_place_5 rfl ?_
      refine x_bipush hg dX4_place_6 (by decide) ?_
      refine x_icmp_ge (tgt := 44) hg dX4_place_8 (by decide) (by omega) (by omega) (fun c8 => ?_) (fun c8 => ?_)
      · skip
        refine x_aload_n hg dX4_place_44 rfl ?_
        refine x_getR (j9 := 81) hg dX4_place_45 fl_X4_20 (by decide) rfl rfl (by decide) ?_
        refine x_iload_n hg dX4_place_48 rfl ?_
        refine x_dup2 hg dX4_place_49 rfl rfl ?_
        refine x_iaload (len := 9) hg dX4_place_50 (by decide) (by omega) ?_
        refine x_iconst hg dX4_place_51 ?_
        refine x_isub hg dX4_place_52 ?_
        refine x_wrap (fun a53 h53 => ?_)
        refine x_iastore (len := 9) hg dX4_place_53 (by decide) (by omega)  ?_
        refine x_iconst hg dX4_place_54 ?_
        refine x_istore_n (ls' := [(0, _), (1, _), (2, _), (3, _)]) hg dX4_place_55 rfl (by decide) rfl ?_
        exact loop2 10 _ 0 _ (by omega) (by omega) (by omega) (by omega) (IL_t hL (Or.inl ⟨rfl, h53⟩)) (frL_mu hf (by decide))
      · skip
        refine x_aload_n hg dX4_place_11 rfl ?_
        refine x_getR (j9 := 81) hg dX4_place_12 fl_X4_20 (by decide) rfl rfl (by decide) ?_
        refine x_iload_n hg dX4_place_15 rfl ?_
        refine x_iaload (len := 9) hg dX4_place_16 (by decide) (by omega) ?_
        refine x_if_le (tgt := 38) hg dX4_place_17 (by decide) (by have h1 := hl3 i.toNat (by omega); omega) (fun c17 => ?_) (fun c17 => ?_)
        · skip
          refine x_iinc (ls' := [(0, _), (1, _), (2, _), (3, _)]) hg dX4_place_38 rfl (by decide) rfl ?_
          refine x_goto (tgt := 5) hg dX4_place_41 (by decide) ?_
          exact ih _ _ _ (by omega) (by omega) (by omega) (by omega) hL hf
        · skip
          refine x_aload_n hg dX4_place_20 rfl ?_
          refine x_getR (j9 := 82) hg dX4_place_21 fl_X4_23 (by decide) rfl rfl (by decide) ?_
          refine x_iload_n hg dX4_place_24 rfl ?_
          refine x_laload (len := 9) hg dX4_place_25 (by decide) (by omega) ?_
          refine x_aload_n hg dX4_place_26 rfl ?_
          refine x_getR (j9 := 82) hg dX4_place_27 fl_X4_23 (by decide) rfl rfl (by decide) ?_
          refine x_iload_n hg dX4_place_30 rfl ?_
          refine x_laload (len := 9) hg dX4_place_31 (by decide) (by omega) ?_
          refine x_lcmp hg dX4_place_32 (by have h1 := hl3 i.toNat (by omega); omega) (by omega) ?_
          refine x_if_ge (tgt := 38) hg dX4_place_33 (by decide) (by split <;> (try split) <;> omega) (fun c33 => ?_) (fun c33 => ?_)
          · skip
            refine x_iinc (ls' := [(0, _), (1, _), (2, _), (3, _)]) hg dX4_place_38 rfl (by decide) rfl ?_
            refine x_goto (tgt := 5) hg dX4_place_41 (by decide) ?_
            exact ih _ _ _ (by omega) (by omega) (by omega) (by omega) hL hf
          · skip
            refine x_iload_n hg dX4_place_36 rfl ?_
            refine x_istore_n (ls' := [(0, _), (1, _), (2, _), (3, _)]) hg dX4_place_37 rfl (by decide) rfl ?_
            refine x_iinc (ls' := [(0, _), (1, _), (2, _), (3, _)]) hg dX4_place_38 rfl (by decide) rfl ?_
            refine x_goto (tgt := 5) hg dX4_place_41 (by decide) ?_
            exact ih _ _ _ (by omega) (by omega) (by omega) (by omega) hL hf
  refine x_bipush hg dX4_place_0 (by decide) ?_
  refine x_istore_n (ls' := [(0, _), (1, _), (2, _)]) hg dX4_place_2 rfl (by decide) rfl ?_
  refine x_iconst hg dX4_place_3 ?_
  refine x_istore_n (ls' := [(0, _), (1, _), (2, _), (3, _)]) hg dX4_place_4 rfl (by decide) rfl ?_
  exact loop1 9 M0 0 8 (by omega) (by omega) (by omega) (by omega) hL (fun a _ => rfl)

theorem dX4_sumUp_0 : decode cX4_sumUp 0 = .ok (.aload_n 0, 1) := by decide +kernel
theorem dX4_sumUp_1 : decode cX4_sumUp 1 = .ok (.iconst 0, 1) := by decide +kernel
theorem dX4_sumUp_2 : decode cX4_sumUp 2 = .ok (.putfield 106, 3) := by decide +kernel
theorem dX4_sumUp_5 : decode cX4_sumUp 5 = .ok (.aload_n 0, 1) := by decide +kernel
theorem dX4_sumUp_6 : decode cX4_sumUp 6 = .ok (.iconst 0, 1) := by decide +kernel
theorem dX4_sumUp_7 : decode cX4_sumUp 7 = .ok (.putfield 109, 3) := by decide +kernel
theorem dX4_sumUp_10 : decode cX4_sumUp 10 = .ok (.iconst 0, 1) := by decide +kernel
theorem dX4_sumUp_11 : decode cX4_sumUp 11 = .ok (.istore_n 3, 1) := by decide +kernel
theorem dX4_sumUp_12 : decode cX4_sumUp 12 = .ok (.iload_n 3, 1) := by decide +kernel
theorem dX4_sumUp_13 : decode cX4_sumUp 13 = .ok (.aload_n 0, 1) := by decide +kernel
theorem dX4_sumUp_14 : decode cX4_sumUp 14 = .ok (.getfield 34, 3) := by decide +kernel
theorem dX4_sumUp_17 : decode cX4_sumUp 17 = .ok (.if_icmp .ge 70, 3) := by decide +kernel
theorem dX4_sumUp_20 : decode cX4_sumUp 20 = .ok (.aload_n 2, 1) := by decide +kernel
theorem dX4_sumUp_21 : decode cX4_sumUp 21 = .ok (.aload_n 0, 1) := by decide +kernel
theorem dX4_sumUp_22 : decode cX4_sumUp 22 = .ok (.getfield 16, 3) := by decide +kernel
theorem dX4_sumUp_25 : decode cX4_sumUp 25 = .ok (.iload_n 3, 1) := by decide +kernel
theorem dX4_sumUp_26 : decode cX4_sumUp 26 = .ok (.iaload, 1) := by decide +kernel
theorem dX4_sumUp_27 : decode cX4_sumUp 27 = .ok (.invokevirtual 71, 3) := by decide +kernel
theorem dX4_sumUp_30 : decode cX4_sumUp 30 = .ok (.ifCond .eq 36, 3) := by decide +kernel
theorem dX4_sumUp_33 : decode cX4_sumUp 33 = .ok (.aload_n 0, 1) := by decide +kernel
theorem dX4_sumUp_34 : decode cX4_sumUp 34 = .ok (.dup, 1) := by decide +kernel
theorem dX4_sumUp_35 : decode cX4_sumUp 35 = .ok (.getfield 109, 3) := by decide +kernel
theorem dX4_sumUp_38 : decode cX4_sumUp 38 = .ok (.aload_n 0, 1) := by decide +kernel
theorem dX4_sumUp_39 : decode cX4_sumUp 39 = .ok (.getfield 30, 3) := by decide +kernel
theorem dX4_sumUp_42 : decode cX4_sumUp 42 = .ok (.aload_n 1, 1) := by decide +kernel
theorem dX4_sumUp_43 : decode cX4_sumUp 43 = .ok (.iload_n 3, 1) := by decide +kernel
theorem dX4_sumUp_44 : decode cX4_sumUp 44 = .ok (.aaload, 1) := by decide +kernel
theorem dX4_sumUp_45 : decode cX4_sumUp 45 = .ok (.aload_n 2, 1) := by decide +kernel
theorem dX4_sumUp_46 : decode cX4_sumUp 46 = .ok (.getfield 77, 3) := by decide +kernel
theorem dX4_sumUp_49 : decode cX4_sumUp 49 = .ok (.aload_n 0, 1) := by decide +kernel
theorem dX4_sumUp_50 : decode cX4_sumUp 50 = .ok (.getfield 16, 3) := by decide +kernel
theorem dX4_sumUp_53 : decode cX4_sumUp 53 = .ok (.iload_n 3, 1) := by decide +kernel
theorem dX4_sumUp_54 : decode cX4_sumUp 54 = .ok (.iaload, 1) := by decide +kernel
theorem dX4_sumUp_55 : decode cX4_sumUp 55 = .ok (.aaload, 1) := by decide +kernel
theorem dX4_sumUp_56 : decode cX4_sumUp 56 = .ok (.invokevirtual 86, 3) := by decide +kernel
theorem dX4_sumUp_59 : decode cX4_sumUp 59 = .ok (.iadd, 1) := by decide +kernel
theorem dX4_sumUp_60 : decode cX4_sumUp 60 = .ok (.putfield 109, 3) := by decide +kernel
theorem dX4_sumUp_63 : decode cX4_sumUp 63 = .ok (.goto 18, 3) := by decide +kernel
theorem dX4_sumUp_66 : decode cX4_sumUp 66 = .ok (.aload_n 0, 1) := by decide +kernel
theorem dX4_sumUp_67 : decode cX4_sumUp 67 = .ok (.dup, 1) := by decide +kernel
theorem dX4_sumUp_68 : decode cX4_sumUp 68 = .ok (.getfield 106, 3) := by decide +kernel
theorem dX4_sumUp_71 : decode cX4_sumUp 71 = .ok (.aload_n 1, 1) := by decide +kernel
theorem dX4_sumUp_72 : decode cX4_sumUp 72 = .ok (.iload_n 3, 1) := by decide +kernel
theorem dX4_sumUp_73 : decode cX4_sumUp 73 = .ok (.aaload, 1) := by decide +kernel
theorem dX4_sumUp_74 : decode cX4_sumUp 74 = .ok (.getfield 96, 3) := by decide +kernel
theorem dX4_sumUp_77 : decode cX4_sumUp 77 = .ok (.iadd, 1) := by decide +kernel
theorem dX4_sumUp_78 : decode cX4_sumUp 78 = .ok (.putfield 106, 3) := by decide +kernel
theorem dX4_sumUp_81 : decode cX4_sumUp 81 = .ok (.iinc 3 1, 3) := by decide +kernel
theorem dX4_sumUp_84 : decode cX4_sumUp 84 = .ok (.goto (-72), 3) := by decide +kernel
theorem dX4_sumUp_87 : decode cX4_sumUp 87 = .ok (.return_, 1) := by decide +kernel
set_option maxHeartbeats 4000000 in
set_option maxRecDepth 20000 in
theorem c_X4_sumUp (l : Launch) (b : Nat) (D : va_G) (cy : Nat → ClassId) {tt : Nat} {M0 : xMm} {q : Nat} (hL : IL M0) (hC : IC M0) (hI : IR M0) (hch : pChs M0) (hq : xTt q) : xC l b D cy yX4_sumUp cX4_sumUp 4 none ({ frames := 3, cells := 0, slots := 0, locals := 73 }) [xr 68, xr 84, xr q] 209 M0 (RS tt) (xPv 209 (RS tt) (fun M' => IL M' ∧ frL M' M0)) := by
  refine x_met (by decide) (Nat.le_of_ble_eq_true rfl) (fun g hg hr he => ?_)
  refine x_canon (ls' := [(0, _), (1, _), (2, _)]) rfl ?_
  have loop : ∀ (n1 : Nat) (M : xMm) (i : Int), 0 ≤ i → i ≤ 10 → 10 - i < n1 → IL M → frL M M0 → xW g 209 M (RS tt) 0 0 12 [(0, xr 68), (1, xr 84), (2, xr q), (3, xi i)] [] := by
    intro n1
    induction n1 with
    | zero => intro M i hi1 hi2 hi3 hL hf; exfalso; omega
    | succ n1 ih =>
      intro M i hi1 hi2 hi3 hL hf
      obtain ⟨hl1, hl2, hl3, hl4⟩ := id hL
      have j81 : i < 10 → ∀ M1, IL M1 → frL M1 M0 → xW g 209 M1 (RS tt) 0 0 81 [(0, xr 68), (1, xr 84), (2, xr q), (3, xi i)] [] := by
        intro hi9 M1 hL1 hf1
        refine x_iinc (ls' := [(0, _), (1, _), (2, _), (3, _)]) hg dX4_sumUp_81 rfl (by decide) rfl ?_
        refine x_goto (tgt := 12) hg dX4_sumUp_84 (by decide) ?_
        exact ih _ _ (by omega) (by omega) (by omega) hL1 hf1
      have eq1 := (IR_L hf hI).1 q hq
      refine x_iload_n hg dX4_sumUp_12 rfl ?_
      refine x_aload_n hg dX4_sumUp_13 rfl ?_
      refine x_getI hg dX4_sumUp_14 fl_X4_34 (by decide) rfl ?_
      refine x_icmp_ge (tgt := 87) hg dX4_sumUp_17 (by decide) (by omega) (by omega) (fun c17 => ?_) (fun c17 => ?_)
      · skip
        refine x_vret hg hr dX4_sumUp_87 (Nat.le_refl _) (Nat.le_refl _) ?_
        exact ⟨rfl, rfl, rfl, hL, hf⟩
      · skip
        refine x_aload_n hg dX4_sumUp_20 rfl ?_
        refine x_aload_n hg dX4_sumUp_21 rfl ?_
        refine x_getR (j9 := 80) hg dX4_sumUp_22 fl_X4_16 (by decide) rfl rfl (by decide) ?_
        refine x_iload_n hg dX4_sumUp_25 rfl ?_
        refine x_iaload (len := 10) hg dX4_sumUp_26 (by decide) (by omega) ?_
        refine x_cVi hg he [_] [] dX4_sumUp_27 mv_X4_71 (c_X8_has l b D cy (IR_L hf hI) hq (by have h1 := hl2 i.toNat (by omega); omega)) (oO_tt hq) rfl rfl (Nat.le_of_ble_eq_true rfl) (by decide) (by decide) (fun r27 M27 q27 => ?_)
        obtain ⟨h27, e27⟩ := q27
        replace h27 := h27.symm
        subst h27
        refine x_if_eq (tgt := 66) hg dX4_sumUp_30 (by decide) (by omega) (fun c30 => ?_) (fun c30 => ?_)
        · skip
          refine x_aload_n hg dX4_sumUp_66 rfl ?_
          refine x_dup hg dX4_sumUp_67 rfl ?_
          refine x_getI hg dX4_sumUp_68 fl_X4_106 (by decide) rfl ?_
          refine x_aload_n hg dX4_sumUp_71 rfl ?_
          refine x_iload_n hg dX4_sumUp_72 rfl ?_
          refine x_aaload (len := 10) (et := 5) hg dX4_sumUp_73 (by decide) (by decide) (by omega) (RS_churn _ _) (by omega) ?_
          refine x_getI hg dX4_sumUp_74 fl_X4_96 (oO_churn (by omega)) rfl ?_
          refine x_iadd hg dX4_sumUp_77 ?_
          refine x_wrap (fun a78 h78 => ?_)
          refine x_putI hg dX4_sumUp_78 fl_X4_106 ft_4_7 (by decide) rfl ?_
          first | exact j81 (by omega) _ (IL_f hL (Or.inr ⟨by omega, h60⟩)) (frL_mu hf (by decide)) | exact j81 (by omega) _ (IL_f hL (Or.inr ⟨by omega, h78⟩)) (frL_mu hf (by decide))
        · skip
          refine x_aload_n hg dX4_sumUp_33 rfl ?_
          refine x_dup hg dX4_sumUp_34 rfl ?_
          refine x_getI hg dX4_sumUp_35 fl_X4_109 (by decide) rfl ?_
          refine x_aload_n hg dX4_sumUp_38 rfl ?_
          refine x_getR (j9 := 63) hg dX4_sumUp_39 fl_X4_30 (by decide) rfl rfl (by decide) ?_
          refine x_aload_n hg dX4_sumUp_42 rfl ?_
          refine x_iload_n hg dX4_sumUp_43 rfl ?_
          refine x_aaload (len := 10) (et := 5) hg dX4_sumUp_44 (by decide) (by decide) (by omega) (RS_churn _ _) (by omega) ?_
          refine x_aload_n hg dX4_sumUp_45 rfl ?_
          refine x_getR hg dX4_sumUp_46 fl_X4_77 (oO_tt hq) rfl (RS_tt hq) (by omega) ?_
          refine x_aload_n hg dX4_sumUp_49 rfl ?_
          refine x_getR (j9 := 80) hg dX4_sumUp_50 fl_X4_16 (by decide) rfl rfl (by decide) ?_
          refine x_iload_n hg dX4_sumUp_53 rfl ?_
          refine x_iaload (len := 10) hg dX4_sumUp_54 (by decide) (by omega) ?_
          refine x_aaload (len := 8) (et := 4) hg dX4_sumUp_55 (oA_tt hq) (by decide) (by omega) (RS_trn hq _) (by omega) ?_
          refine x_cVi hg he [_, _] [_, _] dX4_sumUp_56 mv_X4_86 (c_X10_direct l b D cy (IC_L hf hC) (IR_L hf hI) ((pChs_L hf hch) i.toNat (by omega)).1 (xTr_of hq (by omega))) (by decide) rfl rfl (Nat.le_of_ble_eq_true rfl) (by decide) (by decide) (fun r56 M56 q56 => ?_)
          obtain ⟨h56, e56⟩ := q56
          replace h56 := h56.symm
          subst h56
          refine x_iadd hg dX4_sumUp_59 ?_
          refine x_wrap (fun a60 h60 => ?_)
          refine x_putI hg dX4_sumUp_60 fl_X4_109 ft_4_8 (by decide) rfl ?_
          refine x_goto (tgt := 81) hg dX4_sumUp_63 (by decide) ?_
          first | exact j81 (by omega) _ (IL_f hL (Or.inr ⟨by omega, h60⟩)) (frL_mu hf (by decide)) | exact j81 (by omega) _ (IL_f hL (Or.inr ⟨by omega, h78⟩)) (frL_mu hf (by decide))
  refine x_aload_n hg dX4_sumUp_0 rfl ?_
  refine x_iconst hg dX4_sumUp_1 ?_
  refine x_putI hg dX4_sumUp_2 fl_X4_106 ft_4_7 (by decide) rfl ?_
  refine x_aload_n hg dX4_sumUp_5 rfl ?_
  refine x_iconst hg dX4_sumUp_6 ?_
  refine x_putI hg dX4_sumUp_7 fl_X4_109 ft_4_8 (by decide) rfl ?_
  refine x_iconst hg dX4_sumUp_10 ?_
  refine x_istore_n (ls' := [(0, _), (1, _), (2, _), (3, _)]) hg dX4_sumUp_11 rfl (by decide) rfl ?_
  exact loop 11 _ 0 (by omega) (by omega) (by omega) (IL_f (IL_f hL (Or.inr ⟨by omega, by decide⟩)) (Or.inr ⟨by omega, by decide⟩)) (frL_mu (frL_mu (fun a _ => rfl) (by decide)) (by decide))

theorem dX4_settle_0 : decode cX4_settle 0 = .ok (.aload_n 0, 1) := by decide +kernel
theorem dX4_settle_1 : decode cX4_settle 1 = .ok (.aload_n 3, 1) := by decide +kernel
theorem dX4_settle_2 : decode cX4_settle 2 = .ok (.invokevirtual 38, 3) := by decide +kernel
theorem dX4_settle_5 : decode cX4_settle 5 = .ok (.aload_n 0, 1) := by decide +kernel
theorem dX4_settle_6 : decode cX4_settle 6 = .ok (.iload_n 2, 1) := by decide +kernel
theorem dX4_settle_7 : decode cX4_settle 7 = .ok (.bipush 10, 2) := by decide +kernel
theorem dX4_settle_9 : decode cX4_settle 9 = .ok (.invokestatic 42, 3) := by decide +kernel
theorem dX4_settle_12 : decode cX4_settle 12 = .ok (.putfield 34, 3) := by decide +kernel
theorem dX4_settle_15 : decode cX4_settle 15 = .ok (.ldc2_w 48, 3) := by decide +kernel
theorem dX4_settle_18 : decode cX4_settle 18 = .ok (.lstore 5, 2) := by decide +kernel
theorem dX4_settle_20 : decode cX4_settle 20 = .ok (.iconst 0, 1) := by decide +kernel
theorem dX4_settle_21 : decode cX4_settle 21 = .ok (.istore 7, 2) := by decide +kernel
theorem dX4_settle_23 : decode cX4_settle 23 = .ok (.iload 7, 2) := by decide +kernel
theorem dX4_settle_25 : decode cX4_settle 25 = .ok (.aload_n 0, 1) := by decide +kernel
theorem dX4_settle_26 : decode cX4_settle 26 = .ok (.getfield 34, 3) := by decide +kernel
theorem dX4_settle_29 : decode cX4_settle 29 = .ok (.if_icmp .ge 48, 3) := by decide +kernel
theorem dX4_settle_32 : decode cX4_settle 32 = .ok (.aload_n 0, 1) := by decide +kernel
theorem dX4_settle_33 : decode cX4_settle 33 = .ok (.aload_n 0, 1) := by decide +kernel
theorem dX4_settle_34 : decode cX4_settle 34 = .ok (.getfield 13, 3) := by decide +kernel
theorem dX4_settle_37 : decode cX4_settle 37 = .ok (.iload 7, 2) := by decide +kernel
theorem dX4_settle_39 : decode cX4_settle 39 = .ok (.aaload, 1) := by decide +kernel
theorem dX4_settle_40 : decode cX4_settle 40 = .ok (.aload_n 1, 1) := by decide +kernel
theorem dX4_settle_41 : decode cX4_settle 41 = .ok (.iload 7, 2) := by decide +kernel
theorem dX4_settle_43 : decode cX4_settle 43 = .ok (.aaload, 1) := by decide +kernel
theorem dX4_settle_44 : decode cX4_settle 44 = .ok (.aload_n 3, 1) := by decide +kernel
theorem dX4_settle_45 : decode cX4_settle 45 = .ok (.iload 4, 2) := by decide +kernel
theorem dX4_settle_47 : decode cX4_settle 47 = .ok (.invokevirtual 50, 3) := by decide +kernel
theorem dX4_settle_50 : decode cX4_settle 50 = .ok (.aload_n 0, 1) := by decide +kernel
theorem dX4_settle_51 : decode cX4_settle 51 = .ok (.aload_n 0, 1) := by decide +kernel
theorem dX4_settle_52 : decode cX4_settle 52 = .ok (.getfield 13, 3) := by decide +kernel
theorem dX4_settle_55 : decode cX4_settle 55 = .ok (.iload 7, 2) := by decide +kernel
theorem dX4_settle_57 : decode cX4_settle 57 = .ok (.aaload, 1) := by decide +kernel
theorem dX4_settle_58 : decode cX4_settle 58 = .ok (.lload 5, 2) := by decide +kernel
theorem dX4_settle_60 : decode cX4_settle 60 = .ok (.invokevirtual 54, 3) := by decide +kernel
theorem dX4_settle_63 : decode cX4_settle 63 = .ok (.lload 5, 2) := by decide +kernel
theorem dX4_settle_65 : decode cX4_settle 65 = .ok (.ldc2_w 58, 3) := by decide +kernel
theorem dX4_settle_68 : decode cX4_settle 68 = .ok (.ldiv, 1) := by decide +kernel
theorem dX4_settle_69 : decode cX4_settle 69 = .ok (.lstore 5, 2) := by decide +kernel
theorem dX4_settle_71 : decode cX4_settle 71 = .ok (.iinc 7 1, 3) := by decide +kernel
theorem dX4_settle_74 : decode cX4_settle 74 = .ok (.goto (-51), 3) := by decide +kernel
theorem dX4_settle_77 : decode cX4_settle 77 = .ok (.iconst 0, 1) := by decide +kernel
theorem dX4_settle_78 : decode cX4_settle 78 = .ok (.istore 7, 2) := by decide +kernel
theorem dX4_settle_80 : decode cX4_settle 80 = .ok (.iload 7, 2) := by decide +kernel
theorem dX4_settle_82 : decode cX4_settle 82 = .ok (.aload_n 0, 1) := by decide +kernel
theorem dX4_settle_83 : decode cX4_settle 83 = .ok (.getfield 34, 3) := by decide +kernel
theorem dX4_settle_86 : decode cX4_settle 86 = .ok (.if_icmp .ge 21, 3) := by decide +kernel
theorem dX4_settle_89 : decode cX4_settle 89 = .ok (.aload_n 0, 1) := by decide +kernel
theorem dX4_settle_90 : decode cX4_settle 90 = .ok (.iload 7, 2) := by decide +kernel
theorem dX4_settle_92 : decode cX4_settle 92 = .ok (.invokevirtual 60, 3) := by decide +kernel
theorem dX4_settle_95 : decode cX4_settle 95 = .ok (.aload_n 0, 1) := by decide +kernel
theorem dX4_settle_96 : decode cX4_settle 96 = .ok (.iload 7, 2) := by decide +kernel
theorem dX4_settle_98 : decode cX4_settle 98 = .ok (.invokevirtual 64, 3) := by decide +kernel
theorem dX4_settle_101 : decode cX4_settle 101 = .ok (.iinc 7 1, 3) := by decide +kernel
theorem dX4_settle_104 : decode cX4_settle 104 = .ok (.goto (-24), 3) := by decide +kernel
theorem dX4_settle_107 : decode cX4_settle 107 = .ok (.aload_n 0, 1) := by decide +kernel
theorem dX4_settle_108 : decode cX4_settle 108 = .ok (.aload_n 1, 1) := by decide +kernel
theorem dX4_settle_109 : decode cX4_settle 109 = .ok (.aload_n 3, 1) := by decide +kernel
theorem dX4_settle_110 : decode cX4_settle 110 = .ok (.invokevirtual 67, 3) := by decide +kernel
theorem dX4_settle_113 : decode cX4_settle 113 = .ok (.return_, 1) := by decide +kernel
set_option maxHeartbeats 4000000 in
set_option maxRecDepth 20000 in
theorem c_X4_settle (l : Launch) (b : Nat) (D : va_G) (cy : Nat → ClassId) {tt : Nat} {M0 : xMm} {q : Nat} {y v : Int} (hL : IL M0) (hC : IC M0) (hI : IR M0) (hch : pChs M0) (hq : xTt q) (hy : 0 ≤ y ∧ y ≤ 10) (hv : inR v) : xC l b D cy yX4_settle cX4_settle 8 none ({ frames := 4, cells := 0, slots := 0, locals := 100 }) [xr 68, xr 84, xi y, xr q, xi v] 209 M0 (RS tt) (xPv 209 (RS tt) (fun M' => IL M' ∧ frL M' M0)) := by
  refine x_met (by decide) (Nat.le_of_ble_eq_true rfl) (fun g hg hr he => ?_)
  refine x_canon (ls' := [(0, _), (1, _), (2, _), (3, _), (4, _)]) rfl ?_
  have loop2 : ∀ (n1 : Nat) (M : xMm) (i d : Int), 0 ≤ i → i ≤ 10 → 10 - i < n1 → IL M → frL M M0 → xW g 209 M (RS tt) 0 0 80 [(0, xr 68), (1, xr 84), (2, xi y), (3, xr q), (4, xi v), (5, xl d), (7, xi i)] [] := by
    intro n1
    induction n1 with
    | zero => intro M i d hi1 hi2 hi3 hL hf; exfalso; omega
    | succ n1 ih =>
      intro M i d hi1 hi2 hi3 hL hf
      obtain ⟨hl1, hl2, hl3, hl4⟩ := id hL
      refine x_iload hg dX4_settle_80 rfl ?_
      refine x_aload_n hg dX4_settle_82 rfl ?_
      refine x_getI hg dX4_settle_83 fl_X4_34 (by decide) rfl ?_
      refine x_icmp_ge (tgt := 107) hg dX4_settle_86 (by decide) (by omega) (by omega) (fun c86 => ?_) (fun c86 => ?_)
      · skip
        refine x_aload_n hg dX4_settle_107 rfl ?_
        refine x_aload_n hg dX4_settle_108 rfl ?_
        refine x_aload_n hg dX4_settle_109 rfl ?_
        refine x_cVv hg he [_, _] [] dX4_settle_110 mv_X4_67 (c_X4_sumUp l b D cy hL (IC_L hf hC) (IR_L hf hI) (pChs_L hf hch) hq) (by decide) rfl rfl (Nat.le_of_ble_eq_true rfl) (by decide) (by decide) (fun M110 q110 => ?_)
        obtain ⟨hL110, hf110⟩ := q110
        refine x_vret hg hr dX4_settle_113 (Nat.le_refl _) (Nat.le_refl _) ?_
        exact ⟨rfl, rfl, rfl, hL110, frL_tr hf110 hf⟩
      · skip
        refine x_aload_n hg dX4_settle_89 rfl ?_
        refine x_iload hg dX4_settle_90 rfl ?_
        refine x_cVv hg he [_] [] dX4_settle_92 mv_X4_60 (c_X4_seekChains l b D cy hL (by omega)) (by decide) rfl rfl (Nat.le_of_ble_eq_true rfl) (by decide) (by decide) (fun M92 q92 => ?_)
        obtain ⟨hL92, hf92⟩ := q92
        refine x_aload_n hg dX4_settle_95 rfl ?_
        refine x_iload hg dX4_settle_96 rfl ?_
        refine x_cVv hg he [_] [] dX4_settle_98 mv_X4_64 (c_X4_place l b D cy hL92 (by omega)) (by decide) rfl rfl (Nat.le_of_ble_eq_true rfl) (by decide) (by decide) (fun M98 q98 => ?_)
        obtain ⟨hL98, hf98⟩ := q98
        refine x_iinc (ls' := [(0, _), (1, _), (2, _), (3, _), (4, _), (5, _), (7, _)]) hg dX4_settle_101 rfl (by decide) rfl ?_
        refine x_goto (tgt := 80) hg dX4_settle_104 (by decide) ?_
        exact ih _ _ _ (by omega) (by omega) (by omega) hL98 (frL_tr hf98 (frL_tr hf92 hf))
  have loop1 : ∀ (n1 : Nat) (M : xMm) (i d : Int), 0 ≤ i → i ≤ 10 → 10 - i < n1 → IL M → frL M M0 → xW g 209 M (RS tt) 0 0 23 [(0, xr 68), (1, xr 84), (2, xi y), (3, xr q), (4, xi v), (5, xl d), (7, xi i)] [] := by
    intro n1
    induction n1 with
    | zero => intro M i d hi1 hi2 hi3 hL hf; exfalso; omega
    | succ n1 ih =>
      intro M i d hi1 hi2 hi3 hL hf
      obtain ⟨hl1, hl2, hl3, hl4⟩ := id hL
      refine x_iload hg dX4_settle_23 rfl ?_
      refine x_aload_n hg dX4_settle_25 rfl ?_
      refine x_getI hg dX4_settle_26 fl_X4_34 (by decide) rfl ?_
      refine x_icmp_ge (tgt := 77) hg dX4_settle_29 (by decide) (by omega) (by omega) (fun c29 => ?_) (fun c29 => ?_)
      · skip
        refine x_iconst hg dX4_settle_77 ?_
        refine x_istore (ls' := [(0, _), (1, _), (2, _), (3, _), (4, _), (5, _), (7, _)]) hg dX4_settle_78 (by decide) rfl ?_
        exact loop2 11 M 0 _ (by omega) (by omega) (by omega) hL hf
      · skip
        refine x_aload_n hg dX4_settle_32 rfl ?_
        refine x_aload_n hg dX4_settle_33 rfl ?_
        refine x_getR (j9 := 69) hg dX4_settle_34 fl_X4_13 (by decide) rfl rfl (by decide) ?_
        refine x_iload hg dX4_settle_37 rfl ?_
        refine x_aaload (len := 10) (et := 9) hg dX4_settle_39 (by decide) (by decide) (by omega) (RS_row _ _) (by omega) ?_
        refine x_aload_n hg dX4_settle_40 rfl ?_
        refine x_iload hg dX4_settle_41 rfl ?_
        refine x_aaload (len := 10) (et := 5) hg dX4_settle_43 (by decide) (by decide) (by omega) (RS_churn _ _) (by omega) ?_
        refine x_aload_n hg dX4_settle_44 rfl ?_
        refine x_iload hg dX4_settle_45 rfl ?_
        refine x_cVv hg he [_, _, _, _] [] dX4_settle_47 mv_X4_50 (c_X4_setCosts l b D cy hL (IC_L hf hC) (IR_L hf hI) (by omega) ((pChs_L hf hch) i.toNat (by omega)).1 ((pChs_L hf hch) i.toNat (by omega)).2 (by omega) hq (by omega)) (by decide) rfl rfl (Nat.le_of_ble_eq_true rfl) (by decide) (by decide) (fun M47 q47 => ?_)
        obtain ⟨hL47, hf47⟩ := q47
        refine x_aload_n hg dX4_settle_50 rfl ?_
        refine x_aload_n hg dX4_settle_51 rfl ?_
        refine x_getR (j9 := 69) hg dX4_settle_52 fl_X4_13 (by decide) rfl rfl (by decide) ?_
        refine x_iload hg dX4_settle_55 rfl ?_
        refine x_aaload (len := 10) (et := 9) hg dX4_settle_57 (by decide) (by decide) (by omega) (RS_row _ _) (by omega) ?_
        refine x_lload hg dX4_settle_58 rfl ?_
        refine x_cVv hg he [_, _] [] dX4_settle_60 mv_X4_54 (c_X4_addDigits l b D cy hL47 (by omega)) (by decide) rfl rfl (Nat.le_of_ble_eq_true rfl) (by decide) (by decide) (fun M60 q60 => ?_)
        obtain ⟨hL60, hf60⟩ := q60
        refine x_lload hg dX4_settle_63 rfl ?_
        refine x_ldc2 hg 9 dX4_settle_65 (List.mem_of_getElem? (i := 705) (by decide +kernel)) ?_
        refine x_ldivW hg dX4_settle_68 (by omega) (fun a68 h68 => ?_)
        refine x_lstore (ls' := [(0, _), (1, _), (2, _), (3, _), (4, _), (5, _), (7, _)]) hg dX4_settle_69 (by decide) rfl ?_
        refine x_iinc (ls' := [(0, _), (1, _), (2, _), (3, _), (4, _), (5, _), (7, _)]) hg dX4_settle_71 rfl (by decide) rfl ?_
        refine x_goto (tgt := 23) hg dX4_settle_74 (by decide) ?_
        exact ih _ _ _ (by omega) (by omega) (by omega) hL60 (frL_tr hf60 (frL_tr hf47 hf))
  refine x_aload_n hg dX4_settle_0 rfl ?_
  refine x_aload_n hg dX4_settle_1 rfl ?_
  refine x_cVv hg he [_] [] dX4_settle_2 mv_X4_38 (c_X4_makeRoom l b D cy hL hI hq) (by decide) rfl rfl (Nat.le_of_ble_eq_true rfl) (by decide) (by decide) (fun M2 q2 => ?_)
  obtain ⟨hL2, hf2⟩ := q2
  refine x_aload_n hg dX4_settle_5 rfl ?_
  refine x_iload_n hg dX4_settle_6 rfl ?_
  refine x_bipush hg dX4_settle_7 (by decide) ?_
  refine x_min hg dX4_settle_9 (List.mem_of_getElem? (i := 691) (by decide +kernel)) (by omega) (by omega) ⟨by decide, Nat.le_of_ble_eq_true rfl⟩ (by decide) ?_
  refine x_putI hg dX4_settle_12 fl_X4_34 ft_4_6 (by decide) rfl ?_
  refine x_ldc2 hg 387420489 dX4_settle_15 (List.mem_of_getElem? (i := 692) (by decide +kernel)) ?_
  refine x_lstore (ls' := [(0, _), (1, _), (2, _), (3, _), (4, _), (5, _)]) hg dX4_settle_18 (by decide) rfl ?_
  refine x_iconst hg dX4_settle_20 ?_
  refine x_istore (ls' := [(0, _), (1, _), (2, _), (3, _), (4, _), (5, _), (7, _)]) hg dX4_settle_21 (by decide) rfl ?_
  exact loop1 11 _ 0 _ (by omega) (by omega) (by omega) (IL_f hL2 (Or.inl ⟨rfl, by split <;> omega⟩)) (frL_mu hf2 (by decide))
end
section
theorem IO_chs {M : xMm} (h : IO M) : pChs M := fun c hc => by
  obtain ⟨-, -, -, -, -, -, hC, -⟩ := h
  have h1 := hC c hc
  exact ⟨⟨oO_churn hc, by omega, by omega⟩, by omega⟩
/-- what may change when the best loading is sought anew -/
abbrev frB (M' M : xMm) : Prop := (∀ a, a ≠ 1 → (a < 68 ∨ 83 < a) → M' a = M a) ∧ (M' 1 = M 1 ∨ M' 1 = mu M 1 7 0 1)

theorem dX11_renewBest_0 : decode cX11_renewBest 0 = .ok (.aload_n 0, 1) := by decide +kernel
theorem dX11_renewBest_1 : decode cX11_renewBest 1 = .ok (.getfield 60, 3) := by decide +kernel
theorem dX11_renewBest_4 : decode cX11_renewBest 4 = .ok (.ifCond .eq 31, 3) := by decide +kernel
theorem dX11_renewBest_7 : decode cX11_renewBest 7 = .ok (.aload_n 0, 1) := by decide +kernel
theorem dX11_renewBest_8 : decode cX11_renewBest 8 = .ok (.getfield 56, 3) := by decide +kernel
theorem dX11_renewBest_11 : decode cX11_renewBest 11 = .ok (.aload_n 0, 1) := by decide +kernel
theorem dX11_renewBest_12 : decode cX11_renewBest 12 = .ok (.getfield 70, 3) := by decide +kernel
theorem dX11_renewBest_15 : decode cX11_renewBest 15 = .ok (.aload_n 0, 1) := by decide +kernel
theorem dX11_renewBest_16 : decode cX11_renewBest 16 = .ok (.getfield 162, 3) := by decide +kernel
theorem dX11_renewBest_19 : decode cX11_renewBest 19 = .ok (.aload_n 0, 1) := by decide +kernel
theorem dX11_renewBest_20 : decode cX11_renewBest 20 = .ok (.getfield 28, 3) := by decide +kernel
theorem dX11_renewBest_23 : decode cX11_renewBest 23 = .ok (.aload_n 0, 1) := by decide +kernel
theorem dX11_renewBest_24 : decode cX11_renewBest 24 = .ok (.getfield 64, 3) := by decide +kernel
theorem dX11_renewBest_27 : decode cX11_renewBest 27 = .ok (.invokevirtual 269, 3) := by decide +kernel
theorem dX11_renewBest_30 : decode cX11_renewBest 30 = .ok (.aload_n 0, 1) := by decide +kernel
theorem dX11_renewBest_31 : decode cX11_renewBest 31 = .ok (.iconst 0, 1) := by decide +kernel
theorem dX11_renewBest_32 : decode cX11_renewBest 32 = .ok (.putfield 60, 3) := by decide +kernel
theorem dX11_renewBest_35 : decode cX11_renewBest 35 = .ok (.return_, 1) := by decide +kernel
set_option maxHeartbeats 4000000 in
set_option maxRecDepth 20000 in
theorem c_X11_renewBest (l : Launch) (b : Nat) (D : va_G) (cy : Nat → ClassId) {tt : Nat} {M : xMm}  (hI : IO M) (hIC : IC M) (hIR : IR M) (hIL : IL M) (htt : xTt tt) : xC l b D cy yX11_renewBest cX11_renewBest 1 none ({ frames := 5, cells := 0, slots := 0, locals := 127 }) [xr 1] 209 M (RS tt) (xPv 209 (RS tt) (fun M' => IL M' ∧ frB M' M)) := by
  refine x_met (by decide) (Nat.le_of_ble_eq_true rfl) (fun g hg hr he => ?_)
  have hI0 := hI
  obtain ⟨hn10, hn13, hn15, hn16, hn8, hn7, hC, hT, hB, hF⟩ := hI
  refine x_canon (ls' := [(0, _)]) rfl ?_
  refine x_aload_n hg dX11_renewBest_0 rfl ?_
  refine x_getI hg dX11_renewBest_1 fl_X11_60 (by decide) rfl ?_
  refine x_if_eq (tgt := 35) hg dX11_renewBest_4 (by decide) (by omega) (fun c4 => ?_) (fun c4 => ?_)
  · skip
    refine x_vret hg hr dX11_renewBest_35 (Nat.le_refl _) (Nat.le_refl _) ?_
    first
      | exact ⟨rfl, rfl, rfl, hIL, fun a _ _ => rfl, Or.inl rfl⟩
      | (refine ⟨rfl, rfl, rfl, ?_, fun a h1 h2 => ?_, Or.inr ?_⟩
         · obtain ⟨h1, h2, h3, h4⟩ := hL27
           refine ⟨by rw [mu_nc (by decide), mu_nc (by decide), mu_nc (by decide)]; exact h1, fun c hc => by rw [mu_nc (by decide)]; exact h2 c hc, fun t ht => by rw [mu_nc (by decide), mu_nc (by decide), mu_nc (by decide)]; exact h3 t ht, fun c hc t ht => by rw [mu_nc (by omega)]; exact h4 c hc t ht⟩
         · rw [← hf27 a h2]; funext c; exact mu_nc h1
         · funext c
           by_cases e : c = 7
           · subst e; rw [mu_s, mu_s]
           · rw [mu_nf e, mu_nf e, hf27 1 (by omega)])
  · skip
    refine x_aload_n hg dX11_renewBest_7 rfl ?_
    refine x_getR (j9 := 68) hg dX11_renewBest_8 fl_X11_56 (by decide) rfl rfl (by decide) ?_
    refine x_aload_n hg dX11_renewBest_11 rfl ?_
    refine x_getR (j9 := 84) hg dX11_renewBest_12 fl_X11_70 (by decide) rfl rfl (by decide) ?_
    refine x_aload_n hg dX11_renewBest_15 rfl ?_
    refine x_getI hg dX11_renewBest_16 fl_X11_162 (by decide) rfl ?_
    refine x_aload_n hg dX11_renewBest_19 rfl ?_
    refine x_getR (j9 := tt) hg dX11_renewBest_20 fl_X11_28 (by decide) rfl rfl (by omega) ?_
    refine x_aload_n hg dX11_renewBest_23 rfl ?_
    refine x_getI hg dX11_renewBest_24 fl_X11_64 (by decide) rfl ?_
    refine x_cVv hg he [_, _, _, _] [] dX11_renewBest_27 mv_X11_269 (c_X4_settle l b D cy hIL hIC hIR (IO_chs hI0) htt (by omega) (by omega)) (by decide) rfl rfl (Nat.le_of_ble_eq_true rfl) (by decide) (by decide) (fun M27 q27 => ?_)
    obtain ⟨hL27, hf27⟩ := q27
    refine x_aload_n hg dX11_renewBest_30 rfl ?_
    refine x_iconst hg dX11_renewBest_31 ?_
    refine x_putZ hg dX11_renewBest_32 fl_X11_60 ft_11_7 (by decide) rfl (by first | exact Or.inl rfl | exact Or.inr rfl | omega) ?_
    refine x_vret hg hr dX11_renewBest_35 (Nat.le_refl _) (Nat.le_refl _) ?_
    first
      | exact ⟨rfl, rfl, rfl, hIL, fun a _ _ => rfl, Or.inl rfl⟩
      | (refine ⟨rfl, rfl, rfl, ?_, fun a h1 h2 => ?_, Or.inr ?_⟩
         · obtain ⟨h1, h2, h3, h4⟩ := hL27
           refine ⟨by rw [mu_nc (by decide), mu_nc (by decide), mu_nc (by decide)]; exact h1, fun c hc => by rw [mu_nc (by decide)]; exact h2 c hc, fun t ht => by rw [mu_nc (by decide), mu_nc (by decide), mu_nc (by decide)]; exact h3 t ht, fun c hc t ht => by rw [mu_nc (by omega)]; exact h4 c hc t ht⟩
         · rw [← hf27 a h2]; funext c; exact mu_nc h1
         · funext c
           by_cases e : c = 7
           · subst e; rw [mu_s, mu_s]
           · rw [mu_nf e, mu_nf e, hf27 1 (by omega)])

theorem dX11_lost_0 : decode cX11_lost 0 = .ok (.aload_n 0, 1) := by decide +kernel
theorem dX11_lost_1 : decode cX11_lost 1 = .ok (.invokevirtual 200, 3) := by decide +kernel
theorem dX11_lost_4 : decode cX11_lost 4 = .ok (.aload_n 0, 1) := by decide +kernel
theorem dX11_lost_5 : decode cX11_lost 5 = .ok (.getfield 56, 3) := by decide +kernel
theorem dX11_lost_8 : decode cX11_lost 8 = .ok (.getfield 203, 3) := by decide +kernel
theorem dX11_lost_11 : decode cX11_lost 11 = .ok (.ireturn, 1) := by decide +kernel
set_option maxHeartbeats 4000000 in
set_option maxRecDepth 20000 in
theorem c_X11_lost (l : Launch) (b : Nat) (D : va_G) (cy : Nat → ClassId) {tt : Nat} {M : xMm}  (hI : IO M) (hIC : IC M) (hIR : IR M) (hIL : IL M) (htt : xTt tt) : xC l b D cy yX11_lost cX11_lost 1 (some .int) ({ frames := 6, cells := 0, slots := 0, locals := 147 }) [xr 1] 209 M (RS tt) (xPi 209 (RS tt) (fun r M' => IL M' ∧ frB M' M)) := by
  refine x_met (by decide) (Nat.le_of_ble_eq_true rfl) (fun g hg hr he => ?_)
  refine x_canon (ls' := [(0, _)]) rfl ?_
  refine x_aload_n hg dX11_lost_0 rfl ?_
  refine x_cVv hg he [] [] dX11_lost_1 mv_X11_200 (c_X11_renewBest l b D cy hI hIC hIR hIL htt) (by decide) rfl rfl (Nat.le_of_ble_eq_true rfl) (by decide) (by decide) (fun M1 q1 => ?_)
  obtain ⟨hL1, hf1⟩ := q1
  refine x_aload_n hg dX11_lost_4 rfl ?_
  refine x_getR (j9 := 68) hg dX11_lost_5 fl_X11_56 (by decide) rfl rfl (by decide) ?_
  refine x_getI hg dX11_lost_8 fl_X11_203 (by decide) rfl ?_
  refine x_iret hg hr (Or.inl rfl) dX11_lost_11 (Nat.le_refl _) (Nat.le_refl _) ?_
  exact ⟨rfl, rfl, _, rfl, hL1, hf1⟩

theorem dX11_souring_0 : decode cX11_souring 0 = .ok (.aload_n 0, 1) := by decide +kernel
theorem dX11_souring_1 : decode cX11_souring 1 = .ok (.invokevirtual 200, 3) := by decide +kernel
theorem dX11_souring_4 : decode cX11_souring 4 = .ok (.aload_n 0, 1) := by decide +kernel
theorem dX11_souring_5 : decode cX11_souring 5 = .ok (.getfield 56, 3) := by decide +kernel
theorem dX11_souring_8 : decode cX11_souring 8 = .ok (.getfield 206, 3) := by decide +kernel
theorem dX11_souring_11 : decode cX11_souring 11 = .ok (.ireturn, 1) := by decide +kernel
set_option maxHeartbeats 4000000 in
set_option maxRecDepth 20000 in
theorem c_X11_souring (l : Launch) (b : Nat) (D : va_G) (cy : Nat → ClassId) {tt : Nat} {M : xMm}  (hI : IO M) (hIC : IC M) (hIR : IR M) (hIL : IL M) (htt : xTt tt) : xC l b D cy yX11_souring cX11_souring 1 (some .int) ({ frames := 6, cells := 0, slots := 0, locals := 147 }) [xr 1] 209 M (RS tt) (xPi 209 (RS tt) (fun r M' => IL M' ∧ frB M' M)) := by
  refine x_met (by decide) (Nat.le_of_ble_eq_true rfl) (fun g hg hr he => ?_)
  refine x_canon (ls' := [(0, _)]) rfl ?_
  refine x_aload_n hg dX11_souring_0 rfl ?_
  refine x_cVv hg he [] [] dX11_souring_1 mv_X11_200 (c_X11_renewBest l b D cy hI hIC hIR hIL htt) (by decide) rfl rfl (Nat.le_of_ble_eq_true rfl) (by decide) (by decide) (fun M1 q1 => ?_)
  obtain ⟨hL1, hf1⟩ := q1
  refine x_aload_n hg dX11_souring_4 rfl ?_
  refine x_getR (j9 := 68) hg dX11_souring_5 fl_X11_56 (by decide) rfl rfl (by decide) ?_
  refine x_getI hg dX11_souring_8 fl_X11_206 (by decide) rfl ?_
  refine x_iret hg hr (Or.inl rfl) dX11_souring_11 (Nat.le_refl _) (Nat.le_refl _) ?_
  exact ⟨rfl, rfl, _, rfl, hL1, hf1⟩

theorem dX11_load_0 : decode cX11_load 0 = .ok (.aload_n 0, 1) := by decide +kernel
theorem dX11_load_1 : decode cX11_load 1 = .ok (.iload_n 1, 1) := by decide +kernel
theorem dX11_load_2 : decode cX11_load 2 = .ok (.invokevirtual 177, 3) := by decide +kernel
theorem dX11_load_5 : decode cX11_load 5 = .ok (.ifCond .ne 5, 3) := by decide +kernel
theorem dX11_load_8 : decode cX11_load 8 = .ok (.iconst (-1), 1) := by decide +kernel
theorem dX11_load_9 : decode cX11_load 9 = .ok (.ireturn, 1) := by decide +kernel
theorem dX11_load_10 : decode cX11_load 10 = .ok (.aload_n 0, 1) := by decide +kernel
theorem dX11_load_11 : decode cX11_load 11 = .ok (.invokevirtual 200, 3) := by decide +kernel
theorem dX11_load_14 : decode cX11_load 14 = .ok (.aload_n 0, 1) := by decide +kernel
theorem dX11_load_15 : decode cX11_load 15 = .ok (.getfield 56, 3) := by decide +kernel
theorem dX11_load_18 : decode cX11_load 18 = .ok (.iload_n 1, 1) := by decide +kernel
theorem dX11_load_19 : decode cX11_load 19 = .ok (.invokevirtual 209, 3) := by decide +kernel
theorem dX11_load_22 : decode cX11_load 22 = .ok (.ireturn, 1) := by decide +kernel
set_option maxHeartbeats 4000000 in
set_option maxRecDepth 20000 in
theorem c_X11_load (l : Launch) (b : Nat) (D : va_G) (cy : Nat → ClassId) {tt : Nat} {M : xMm} {z : Int} (hI : IO M) (hIC : IC M) (hIR : IR M) (hIL : IL M) (htt : xTt tt) (hz : inR z) : xC l b D cy yX11_load cX11_load 2 (some .int) ({ frames := 6, cells := 0, slots := 0, locals := 147 }) [xr 1, xi z] 209 M (RS tt) (xPi 209 (RS tt) (fun r M' => IL M' ∧ frB M' M)) := by
  refine x_met (by decide) (Nat.le_of_ble_eq_true rfl) (fun g hg hr he => ?_)
  have hn10 := hI.1
  refine x_canon (ls' := [(0, _), (1, _)]) rfl ?_
  refine x_aload_n hg dX11_load_0 rfl ?_
  refine x_iload_n hg dX11_load_1 rfl ?_
  refine x_cVi hg he [_] [] dX11_load_2 mv_X11_177 (c_X11_isChurn l b D cy (by omega) (by omega)) (by decide) rfl rfl (Nat.le_of_ble_eq_true rfl) (by decide) (by decide) (fun r2 M2 q2 => ?_)
  obtain ⟨h2, e2⟩ := q2
  replace h2 := h2.symm
  subst h2
  refine x_if_ne (tgt := 10) hg dX11_load_5 (by decide) (by omega) (fun c5 => ?_) (fun c5 => ?_)
  · skip
    refine x_aload_n hg dX11_load_10 rfl ?_
    refine x_cVv hg he [] [] dX11_load_11 mv_X11_200 (c_X11_renewBest l b D cy hI hIC hIR hIL htt) (by decide) rfl rfl (Nat.le_of_ble_eq_true rfl) (by decide) (by decide) (fun M11 q11 => ?_)
    obtain ⟨hL11, hf11⟩ := q11
    refine x_aload_n hg dX11_load_14 rfl ?_
    refine x_getR (j9 := 68) hg dX11_load_15 fl_X11_56 (by decide) rfl rfl (by decide) ?_
    refine x_iload_n hg dX11_load_18 rfl ?_
    refine x_cVi hg he [_] [] dX11_load_19 mv_X11_209 (c_X4_trainOf l b D cy hL11 (by omega)) (by decide) rfl rfl (Nat.le_of_ble_eq_true rfl) (by decide) (by decide) (fun r19 M19 q19 => ?_)
    refine x_iret hg hr (Or.inl rfl) dX11_load_22 (Nat.le_refl _) (Nat.le_refl _) ?_
    subst q19
    exact ⟨rfl, rfl, _, rfl, hL11, hf11⟩
  · skip
    refine x_iconst hg dX11_load_8 ?_
    refine x_iret hg hr (Or.inl rfl) dX11_load_9 (Nat.le_refl _) (Nat.le_refl _) ?_
    exact ⟨rfl, rfl, _, rfl, hIL, fun a _ _ => rfl, Or.inl rfl⟩
end
section
/-! ===== the reader's own cell ===== -/
section XQ
variable {g : xGT} {n : Nat} {M : xMm} {R : xRm} {k w pc : Nat} {ls : List (Nat × xV)} {st : List xV}
theorem x_wq {P : Int → Prop} {z : Int} (h1 : inR z → P z) (h2 : ¬ inR z → ∀ a, inR a → P a) (t : ∀ a, P a → xW g n M R k w pc ls (xi a :: st)) : xW g n M R k w pc ls (xi z :: st) := by
  by_cases h : inR z
  · exact t z (h1 h)
  · exact x_wrap (fun a ha => t a (h2 h a ha))
end XQ
/-- the reader, behind an advance -/
def JD (M : xMm) : Prop := IT M ∧ (0 ≤ M 4 1 ∧ M 4 1 ≤ M 2 1) ∧ (0 ≤ M 4 2 ∧ M 4 2 ≤ M 2 1) ∧ inR (M 4 3) ∧ inL (M 4 4) ∧ inR (M 4 5) ∧ (M 4 3 = 3 → 0 ≤ M 4 5 ∧ M 4 5 ≤ 9999)
/-- the reader, ahead of one -/
def JB (M : xMm) : Prop := IT M ∧ (0 ≤ M 4 1 ∧ M 4 1 ≤ M 2 1) ∧ inL (M 4 4) ∧ inR (M 4 5)
theorem JD_B {M : xMm} (h : JD M) : JB M := ⟨h.1, h.2.1, h.2.2.2.2.1, h.2.2.2.2.2.1⟩
theorem IT_congr {M M' : xMm} (h : IT M) (e2 : M' 2 = M 2) (e3 : M' 3 = M 3) : IT M' := by
  rw [IT, e2, e3]
  exact h
theorem JD_congr {M M' : xMm} (h : JD M) (e : ∀ a, a < 5 → M' a = M a) : JD M' := by
  obtain ⟨h1, h2⟩ := h
  refine ⟨IT_congr h1 (e 2 (by omega)) (e 3 (by omega)), ?_⟩
  rw [e 2 (by omega), e 4 (by omega)]
  exact h2
abbrev frD (M' M : xMm) : Prop := ∀ a, a ≠ 4 → M' a = M a
theorem frD_mu {M' M : xMm} (h : frD M' M) {k : Nat} {z : Int} : frD (mu M' 4 k z) M := fun c hc => by
  rw [← h c hc]
  funext j
  exact mu_nc hc
theorem frD_tr {M2 M1 M : xMm} (h1 : frD M2 M1) (h : frD M1 M) : frD M2 M := fun a ha => by rw [h1 a ha, h a ha]
theorem IT_D {M' M : xMm} (h : frD M' M) (hI : IT M) : IT M' := IT_congr hI (h 2 (by decide)) (h 3 (by decide))
theorem IR_D {M' M : xMm} (h : frD M' M) (hI : IR M) : IR M' := IR_congr hI (fun a h1 h2 => h a (by omega))
abbrev frT (M' M : xMm) : Prop := ∀ a, a < 4 ∨ 56 < a ∨ a = 5 ∨ a = 31 → M' a = M a
theorem frT_D {M' M : xMm} (h : frD M' M) : frT M' M := fun a ha => h a (by omega)
theorem frT_tr {M2 M1 M : xMm} (h1 : frT M2 M1) (h : frT M1 M) : frT M2 M := fun a ha => by rw [h1 a ha, h a ha]
theorem frT_mu {M' M : xMm} (h : frT M' M) {a k : Nat} {z : Int} (ha : 4 ≤ a ∧ a ≤ 56 ∧ a ≠ 5 ∧ a ≠ 31) : frT (mu M' a k z) M := fun c hc => by
  rw [← h c hc]
  funext j
  exact mu_nc (by omega)
theorem frT_rf (M : xMm) : frT M M := fun _ _ => rfl
abbrev frR (M' M : xMm) : Prop := ∀ a, a < 4 ∨ 56 < a → M' a = M a
theorem frR_mu {M' M : xMm} (h : frR M' M) {a k : Nat} {z : Int} (ha : 4 ≤ a ∧ a ≤ 56) : frR (mu M' a k z) M := fun c hc => by
  rw [← h c hc]
  funext j
  exact mu_nc (by omega)
theorem frR_T {M2 M1 M : xMm} (h1 : frT M2 M1) (h : frR M1 M) : frR M2 M := fun a ha => by rw [h1 a (by omega), h a ha]
/-- the reader between two readings -/
def JG (M : xMm) : Prop := IT M ∧ inL (M 4 4) ∧ inR (M 4 5)
theorem JD_G {M : xMm} (h : JD M) : JG M := ⟨h.1, h.2.2.2.2.1, h.2.2.2.2.2.1⟩
theorem RS_swap2 {tt : Nat} (h : xTt tt) : ru (ru (RS tt) 1 2 (36 - tt)) 1 3 tt = RS (36 - tt) := by
  rw [RS_swap]
  funext a c
  by_cases e : a = 1 ∧ c = 3
  · obtain ⟨rfl, rfl⟩ := e
    simp only [and_self, if_true]
    rcases h with rfl | rfl <;> rfl
  · rw [if_neg e]

theorem dX5_isBlank_0 : decode cX5_isBlank 0 = .ok (.iload_n 0, 1) := by decide +kernel
theorem dX5_isBlank_1 : decode cX5_isBlank 1 = .ok (.bipush 32, 2) := by decide +kernel
theorem dX5_isBlank_3 : decode cX5_isBlank 3 = .ok (.if_icmp .eq 9, 3) := by decide +kernel
theorem dX5_isBlank_6 : decode cX5_isBlank 6 = .ok (.iload_n 0, 1) := by decide +kernel
theorem dX5_isBlank_7 : decode cX5_isBlank 7 = .ok (.bipush 10, 2) := by decide +kernel
theorem dX5_isBlank_9 : decode cX5_isBlank 9 = .ok (.if_icmp .ne 7, 3) := by decide +kernel
theorem dX5_isBlank_12 : decode cX5_isBlank 12 = .ok (.iconst 1, 1) := by decide +kernel
theorem dX5_isBlank_13 : decode cX5_isBlank 13 = .ok (.goto 4, 3) := by decide +kernel
theorem dX5_isBlank_16 : decode cX5_isBlank 16 = .ok (.iconst 0, 1) := by decide +kernel
theorem dX5_isBlank_17 : decode cX5_isBlank 17 = .ok (.ireturn, 1) := by decide +kernel
set_option maxHeartbeats 4000000 in
set_option maxRecDepth 20000 in
theorem c_X5_isBlank (l : Launch) (b : Nat) (D : va_G) (cy : Nat → ClassId) {tt : Nat} {M : xMm} {z : Int} (hz : inR z) : xC l b D cy yX5_isBlank cX5_isBlank 1 (some .boolean) ({ frames := 0, cells := 0, slots := 0, locals := 0 }) [xi z] 209 M (RS tt) (xPi 209 (RS tt) (fun r M' => M' = M ∧ ((z = 32 ∨ z = 10) ∧ r = 1 ∨ ¬ (z = 32 ∨ z = 10) ∧ r = 0))) := by
  refine x_met (by decide) (Nat.le_of_ble_eq_true rfl) (fun g hg hr he => ?_)
  refine x_canon (ls' := [(0, _)]) rfl ?_
  refine x_iload_n hg dX5_isBlank_0 rfl ?_
  refine x_bipush hg dX5_isBlank_1 (by decide) ?_
  refine x_icmp_eq (tgt := 12) hg dX5_isBlank_3 (by decide) (by omega) (by omega) (fun c3 => ?_) (fun c3 => ?_)
  · skip
    refine x_iconst hg dX5_isBlank_12 ?_
    refine x_goto (tgt := 17) hg dX5_isBlank_13 (by decide) ?_
    refine x_iret hg hr (Or.inr ⟨rfl, by first | exact Or.inl rfl | exact Or.inr rfl | omega⟩) dX5_isBlank_17 (Nat.le_refl _) (Nat.le_refl _) ?_
    exact ⟨rfl, rfl, _, rfl, rfl, by omega⟩
  · skip
    refine x_iload_n hg dX5_isBlank_6 rfl ?_
    refine x_bipush hg dX5_isBlank_7 (by decide) ?_
    refine x_icmp_ne (tgt := 16) hg dX5_isBlank_9 (by decide) (by omega) (by omega) (fun c9 => ?_) (fun c9 => ?_)
    · skip
      refine x_iconst hg dX5_isBlank_16 ?_
      refine x_iret hg hr (Or.inr ⟨rfl, by first | exact Or.inl rfl | exact Or.inr rfl | omega⟩) dX5_isBlank_17 (Nat.le_refl _) (Nat.le_refl _) ?_
      exact ⟨rfl, rfl, _, rfl, rfl, by omega⟩
    · skip
      refine x_iconst hg dX5_isBlank_12 ?_
      refine x_goto (tgt := 17) hg dX5_isBlank_13 (by decide) ?_
      refine x_iret hg hr (Or.inr ⟨rfl, by first | exact Or.inl rfl | exact Or.inr rfl | omega⟩) dX5_isBlank_17 (Nat.le_refl _) (Nat.le_refl _) ?_
      exact ⟨rfl, rfl, _, rfl, rfl, by omega⟩

theorem dX5_isLetter_0 : decode cX5_isLetter 0 = .ok (.iload_n 0, 1) := by decide +kernel
theorem dX5_isLetter_1 : decode cX5_isLetter 1 = .ok (.bipush 97, 2) := by decide +kernel
theorem dX5_isLetter_3 : decode cX5_isLetter 3 = .ok (.if_icmp .lt 13, 3) := by decide +kernel
theorem dX5_isLetter_6 : decode cX5_isLetter 6 = .ok (.iload_n 0, 1) := by decide +kernel
theorem dX5_isLetter_7 : decode cX5_isLetter 7 = .ok (.bipush 122, 2) := by decide +kernel
theorem dX5_isLetter_9 : decode cX5_isLetter 9 = .ok (.if_icmp .gt 7, 3) := by decide +kernel
theorem dX5_isLetter_12 : decode cX5_isLetter 12 = .ok (.iconst 1, 1) := by decide +kernel
theorem dX5_isLetter_13 : decode cX5_isLetter 13 = .ok (.goto 4, 3) := by decide +kernel
theorem dX5_isLetter_16 : decode cX5_isLetter 16 = .ok (.iconst 0, 1) := by decide +kernel
theorem dX5_isLetter_17 : decode cX5_isLetter 17 = .ok (.ireturn, 1) := by decide +kernel
set_option maxHeartbeats 4000000 in
set_option maxRecDepth 20000 in
theorem c_X5_isLetter (l : Launch) (b : Nat) (D : va_G) (cy : Nat → ClassId) {tt : Nat} {M : xMm} {z : Int} (hz : inR z) : xC l b D cy yX5_isLetter cX5_isLetter 1 (some .boolean) ({ frames := 0, cells := 0, slots := 0, locals := 0 }) [xi z] 209 M (RS tt) (xPi 209 (RS tt) (fun r M' => M' = M ∧ ((97 ≤ z ∧ z ≤ 122) ∧ r = 1 ∨ ¬ (97 ≤ z ∧ z ≤ 122) ∧ r = 0))) := by
  refine x_met (by decide) (Nat.le_of_ble_eq_true rfl) (fun g hg hr he => ?_)
  refine x_canon (ls' := [(0, _)]) rfl ?_
  refine x_iload_n hg dX5_isLetter_0 rfl ?_
  refine x_bipush hg dX5_isLetter_1 (by decide) ?_
  refine x_icmp_lt (tgt := 16) hg dX5_isLetter_3 (by decide) (by omega) (by omega) (fun c3 => ?_) (fun c3 => ?_)
  · skip
    refine x_iconst hg dX5_isLetter_16 ?_
    refine x_iret hg hr (Or.inr ⟨rfl, by first | exact Or.inl rfl | exact Or.inr rfl | omega⟩) dX5_isLetter_17 (Nat.le_refl _) (Nat.le_refl _) ?_
    exact ⟨rfl, rfl, _, rfl, rfl, by omega⟩
  · skip
    refine x_iload_n hg dX5_isLetter_6 rfl ?_
    refine x_bipush hg dX5_isLetter_7 (by decide) ?_
    refine x_icmp_gt (tgt := 16) hg dX5_isLetter_9 (by decide) (by omega) (by omega) (fun c9 => ?_) (fun c9 => ?_)
    · skip
      refine x_iconst hg dX5_isLetter_16 ?_
      refine x_iret hg hr (Or.inr ⟨rfl, by first | exact Or.inl rfl | exact Or.inr rfl | omega⟩) dX5_isLetter_17 (Nat.le_refl _) (Nat.le_refl _) ?_
      exact ⟨rfl, rfl, _, rfl, rfl, by omega⟩
    · skip
      refine x_iconst hg dX5_isLetter_12 ?_
      refine x_goto (tgt := 17) hg dX5_isLetter_13 (by decide) ?_
      refine x_iret hg hr (Or.inr ⟨rfl, by first | exact Or.inl rfl | exact Or.inr rfl | omega⟩) dX5_isLetter_17 (Nat.le_refl _) (Nat.le_refl _) ?_
      exact ⟨rfl, rfl, _, rfl, rfl, by omega⟩

theorem dX5_isDigit_0 : decode cX5_isDigit 0 = .ok (.iload_n 0, 1) := by decide +kernel
theorem dX5_isDigit_1 : decode cX5_isDigit 1 = .ok (.bipush 48, 2) := by decide +kernel
theorem dX5_isDigit_3 : decode cX5_isDigit 3 = .ok (.if_icmp .lt 13, 3) := by decide +kernel
theorem dX5_isDigit_6 : decode cX5_isDigit 6 = .ok (.iload_n 0, 1) := by decide +kernel
theorem dX5_isDigit_7 : decode cX5_isDigit 7 = .ok (.bipush 57, 2) := by decide +kernel
theorem dX5_isDigit_9 : decode cX5_isDigit 9 = .ok (.if_icmp .gt 7, 3) := by decide +kernel
theorem dX5_isDigit_12 : decode cX5_isDigit 12 = .ok (.iconst 1, 1) := by decide +kernel
theorem dX5_isDigit_13 : decode cX5_isDigit 13 = .ok (.goto 4, 3) := by decide +kernel
theorem dX5_isDigit_16 : decode cX5_isDigit 16 = .ok (.iconst 0, 1) := by decide +kernel
theorem dX5_isDigit_17 : decode cX5_isDigit 17 = .ok (.ireturn, 1) := by decide +kernel
set_option maxHeartbeats 4000000 in
set_option maxRecDepth 20000 in
theorem c_X5_isDigit (l : Launch) (b : Nat) (D : va_G) (cy : Nat → ClassId) {tt : Nat} {M : xMm} {z : Int} (hz : inR z) : xC l b D cy yX5_isDigit cX5_isDigit 1 (some .boolean) ({ frames := 0, cells := 0, slots := 0, locals := 0 }) [xi z] 209 M (RS tt) (xPi 209 (RS tt) (fun r M' => M' = M ∧ ((48 ≤ z ∧ z ≤ 57) ∧ r = 1 ∨ ¬ (48 ≤ z ∧ z ≤ 57) ∧ r = 0))) := by
  refine x_met (by decide) (Nat.le_of_ble_eq_true rfl) (fun g hg hr he => ?_)
  refine x_canon (ls' := [(0, _)]) rfl ?_
  refine x_iload_n hg dX5_isDigit_0 rfl ?_
  refine x_bipush hg dX5_isDigit_1 (by decide) ?_
  refine x_icmp_lt (tgt := 16) hg dX5_isDigit_3 (by decide) (by omega) (by omega) (fun c3 => ?_) (fun c3 => ?_)
  · skip
    refine x_iconst hg dX5_isDigit_16 ?_
    refine x_iret hg hr (Or.inr ⟨rfl, by first | exact Or.inl rfl | exact Or.inr rfl | omega⟩) dX5_isDigit_17 (Nat.le_refl _) (Nat.le_refl _) ?_
    exact ⟨rfl, rfl, _, rfl, rfl, by omega⟩
  · skip
    refine x_iload_n hg dX5_isDigit_6 rfl ?_
    refine x_bipush hg dX5_isDigit_7 (by decide) ?_
    refine x_icmp_gt (tgt := 16) hg dX5_isDigit_9 (by decide) (by omega) (by omega) (fun c9 => ?_) (fun c9 => ?_)
    · skip
      refine x_iconst hg dX5_isDigit_16 ?_
      refine x_iret hg hr (Or.inr ⟨rfl, by first | exact Or.inl rfl | exact Or.inr rfl | omega⟩) dX5_isDigit_17 (Nat.le_refl _) (Nat.le_refl _) ?_
      exact ⟨rfl, rfl, _, rfl, rfl, by omega⟩
    · skip
      refine x_iconst hg dX5_isDigit_12 ?_
      refine x_goto (tgt := 17) hg dX5_isDigit_13 (by decide) ?_
      refine x_iret hg hr (Or.inr ⟨rfl, by first | exact Or.inl rfl | exact Or.inr rfl | omega⟩) dX5_isDigit_17 (Nat.le_refl _) (Nat.le_refl _) ?_
      exact ⟨rfl, rfl, _, rfl, rfl, by omega⟩

theorem dX5_scanWord_0 : decode cX5_scanWord 0 = .ok (.aload_n 0, 1) := by decide +kernel
theorem dX5_scanWord_1 : decode cX5_scanWord 1 = .ok (.lconst 0, 1) := by decide +kernel
theorem dX5_scanWord_2 : decode cX5_scanWord 2 = .ok (.putfield 79, 3) := by decide +kernel
theorem dX5_scanWord_5 : decode cX5_scanWord 5 = .ok (.aload_n 0, 1) := by decide +kernel
theorem dX5_scanWord_6 : decode cX5_scanWord 6 = .ok (.getfield 27, 3) := by decide +kernel
theorem dX5_scanWord_9 : decode cX5_scanWord 9 = .ok (.aload_n 0, 1) := by decide +kernel
theorem dX5_scanWord_10 : decode cX5_scanWord 10 = .ok (.getfield 9, 3) := by decide +kernel
theorem dX5_scanWord_13 : decode cX5_scanWord 13 = .ok (.getfield 118, 3) := by decide +kernel
theorem dX5_scanWord_16 : decode cX5_scanWord 16 = .ok (.if_icmp .ge 57, 3) := by decide +kernel
theorem dX5_scanWord_19 : decode cX5_scanWord 19 = .ok (.aload_n 0, 1) := by decide +kernel
theorem dX5_scanWord_20 : decode cX5_scanWord 20 = .ok (.getfield 9, 3) := by decide +kernel
theorem dX5_scanWord_23 : decode cX5_scanWord 23 = .ok (.aload_n 0, 1) := by decide +kernel
theorem dX5_scanWord_24 : decode cX5_scanWord 24 = .ok (.getfield 27, 3) := by decide +kernel
theorem dX5_scanWord_27 : decode cX5_scanWord 27 = .ok (.invokevirtual 123, 3) := by decide +kernel
theorem dX5_scanWord_30 : decode cX5_scanWord 30 = .ok (.invokestatic 129, 3) := by decide +kernel
theorem dX5_scanWord_33 : decode cX5_scanWord 33 = .ok (.ifCond .eq 40, 3) := by decide +kernel
theorem dX5_scanWord_36 : decode cX5_scanWord 36 = .ok (.aload_n 0, 1) := by decide +kernel
theorem dX5_scanWord_37 : decode cX5_scanWord 37 = .ok (.aload_n 0, 1) := by decide +kernel
theorem dX5_scanWord_38 : decode cX5_scanWord 38 = .ok (.getfield 79, 3) := by decide +kernel
theorem dX5_scanWord_41 : decode cX5_scanWord 41 = .ok (.bipush 8, 2) := by decide +kernel
theorem dX5_scanWord_43 : decode cX5_scanWord 43 = .ok (.lshl, 1) := by decide +kernel
theorem dX5_scanWord_44 : decode cX5_scanWord 44 = .ok (.aload_n 0, 1) := by decide +kernel
theorem dX5_scanWord_45 : decode cX5_scanWord 45 = .ok (.getfield 9, 3) := by decide +kernel
theorem dX5_scanWord_48 : decode cX5_scanWord 48 = .ok (.aload_n 0, 1) := by decide +kernel
theorem dX5_scanWord_49 : decode cX5_scanWord 49 = .ok (.getfield 27, 3) := by decide +kernel
theorem dX5_scanWord_52 : decode cX5_scanWord 52 = .ok (.invokevirtual 123, 3) := by decide +kernel
theorem dX5_scanWord_55 : decode cX5_scanWord 55 = .ok (.i2l, 1) := by decide +kernel
theorem dX5_scanWord_56 : decode cX5_scanWord 56 = .ok (.lor, 1) := by decide +kernel
theorem dX5_scanWord_57 : decode cX5_scanWord 57 = .ok (.putfield 79, 3) := by decide +kernel
theorem dX5_scanWord_60 : decode cX5_scanWord 60 = .ok (.aload_n 0, 1) := by decide +kernel
theorem dX5_scanWord_61 : decode cX5_scanWord 61 = .ok (.dup, 1) := by decide +kernel
theorem dX5_scanWord_62 : decode cX5_scanWord 62 = .ok (.getfield 27, 3) := by decide +kernel
theorem dX5_scanWord_65 : decode cX5_scanWord 65 = .ok (.iconst 1, 1) := by decide +kernel
theorem dX5_scanWord_66 : decode cX5_scanWord 66 = .ok (.iadd, 1) := by decide +kernel
theorem dX5_scanWord_67 : decode cX5_scanWord 67 = .ok (.putfield 27, 3) := by decide +kernel
theorem dX5_scanWord_70 : decode cX5_scanWord 70 = .ok (.goto (-65), 3) := by decide +kernel
theorem dX5_scanWord_73 : decode cX5_scanWord 73 = .ok (.aload_n 0, 1) := by decide +kernel
theorem dX5_scanWord_74 : decode cX5_scanWord 74 = .ok (.aload_n 0, 1) := by decide +kernel
theorem dX5_scanWord_75 : decode cX5_scanWord 75 = .ok (.getfield 27, 3) := by decide +kernel
theorem dX5_scanWord_78 : decode cX5_scanWord 78 = .ok (.aload_n 0, 1) := by decide +kernel
theorem dX5_scanWord_79 : decode cX5_scanWord 79 = .ok (.getfield 115, 3) := by decide +kernel
theorem dX5_scanWord_82 : decode cX5_scanWord 82 = .ok (.isub, 1) := by decide +kernel
theorem dX5_scanWord_83 : decode cX5_scanWord 83 = .ok (.bipush 8, 2) := by decide +kernel
theorem dX5_scanWord_85 : decode cX5_scanWord 85 = .ok (.if_icmp .gt 7, 3) := by decide +kernel
theorem dX5_scanWord_88 : decode cX5_scanWord 88 = .ok (.iconst 2, 1) := by decide +kernel
theorem dX5_scanWord_89 : decode cX5_scanWord 89 = .ok (.goto 4, 3) := by decide +kernel
theorem dX5_scanWord_92 : decode cX5_scanWord 92 = .ok (.iconst 1, 1) := by decide +kernel
theorem dX5_scanWord_93 : decode cX5_scanWord 93 = .ok (.putfield 33, 3) := by decide +kernel
theorem dX5_scanWord_96 : decode cX5_scanWord 96 = .ok (.return_, 1) := by decide +kernel
set_option maxHeartbeats 4000000 in
set_option maxRecDepth 20000 in
theorem c_X5_scanWord (l : Launch) (b : Nat) (D : va_G) (cy : Nat → ClassId) {tt : Nat} {M0 : xMm} (hIT0 : IT M0) (hb0 : 0 ≤ M0 4 1 ∧ M0 4 1 ≤ M0 2 1) (hp0 : 0 ≤ M0 4 2 ∧ M0 4 2 ≤ M0 2 1) (h50 : inR (M0 4 5)) : xC l b D cy yX5_scanWord cX5_scanWord 1 none ({ frames := 1, cells := 0, slots := 0, locals := 21 }) [xr 4] 209 M0 (RS tt) (xPv 209 (RS tt) (fun M' => JD M' ∧ frD M' M0)) := by
  refine x_met (by decide) (Nat.le_of_ble_eq_true rfl) (fun g hg hr he => ?_)
  refine x_canon (ls' := [(0, _)]) rfl ?_
  have loop : ∀ (n1 : Nat) (M : xMm), IT M → (0 ≤ M 4 1 ∧ M 4 1 ≤ M 2 1) → (0 ≤ M 4 2 ∧ M 4 2 ≤ M 2 1) → inL (M 4 4) → inR (M 4 5) → M 2 1 - M 4 1 < n1 → frD M M0 → xW g 209 M (RS tt) 0 0 5 [(0, xr 4)] [] := by
    intro n1
    induction n1 with
    | zero => intro M _ h1 h2 _ _ h3 _; exfalso; omega
    | succ n1 ih =>
      intro M hIT h1 h2 h4 h5 h3 hf
      have hlen := hIT.1
      refine x_aload_n hg dX5_scanWord_5 rfl ?_
      refine x_getI hg dX5_scanWord_6 fl_X5_27 (by decide) rfl ?_
      refine x_aload_n hg dX5_scanWord_9 rfl ?_
      refine x_getR (j9 := 2) hg dX5_scanWord_10 fl_X5_9 (by decide) rfl rfl (by decide) ?_
      refine x_getI hg dX5_scanWord_13 fl_X5_118 (by decide) rfl ?_
      refine x_icmp_ge (tgt := 73) hg dX5_scanWord_16 (by decide) (by omega) (by omega) (fun c16 => ?_) (fun c16 => ?_)
      · skip
        refine x_aload_n hg dX5_scanWord_73 rfl ?_
        refine x_aload_n hg dX5_scanWord_74 rfl ?_
        refine x_getI hg dX5_scanWord_75 fl_X5_27 (by decide) rfl ?_
        refine x_aload_n hg dX5_scanWord_78 rfl ?_
        refine x_getI hg dX5_scanWord_79 fl_X5_115 (by decide) rfl ?_
        refine x_isub hg dX5_scanWord_82 ?_
        refine x_bipush hg dX5_scanWord_83 (by decide) ?_
        refine x_icmp_gt (tgt := 92) hg dX5_scanWord_85 (by decide) (by omega) (by omega) (fun c85 => ?_) (fun c85 => ?_)
        · skip
          refine x_iconst hg dX5_scanWord_92 ?_
          refine x_putI hg dX5_scanWord_93 fl_X5_33 ft_5_3 (by decide) rfl ?_
          refine x_vret hg hr dX5_scanWord_96 (Nat.le_refl _) (Nat.le_refl _) ?_
          refine ⟨rfl, rfl, rfl, ⟨IT_D (frD_mu (fun a _ => rfl)) hIT, ?_⟩, frD_mu hf⟩
          simp (disch := omega) only [mu_s, mu_nf, mu_nc]
          exact ⟨by omega, by omega, by omega, h4, h5, by omega⟩
        · skip
          refine x_iconst hg dX5_scanWord_88 ?_
          refine x_goto (tgt := 93) hg dX5_scanWord_89 (by decide) ?_
          refine x_putI hg dX5_scanWord_93 fl_X5_33 ft_5_3 (by decide) rfl ?_
          refine x_vret hg hr dX5_scanWord_96 (Nat.le_refl _) (Nat.le_refl _) ?_
          refine ⟨rfl, rfl, rfl, ⟨IT_D (frD_mu (fun a _ => rfl)) hIT, ?_⟩, frD_mu hf⟩
          simp (disch := omega) only [mu_s, mu_nf, mu_nc]
          exact ⟨by omega, by omega, by omega, h4, h5, by omega⟩
      · skip
        refine x_aload_n hg dX5_scanWord_19 rfl ?_
        refine x_getR (j9 := 2) hg dX5_scanWord_20 fl_X5_9 (by decide) rfl rfl (by decide) ?_
        refine x_aload_n hg dX5_scanWord_23 rfl ?_
        refine x_getI hg dX5_scanWord_24 fl_X5_27 (by decide) rfl ?_
        refine x_cVi hg he [_] [] dX5_scanWord_27 mv_X5_123 (c_X7_byteAt l b D cy hIT (by omega)) (by decide) rfl rfl (Nat.le_of_ble_eq_true rfl) (by decide) (by decide) (fun r27 M27 q27 => ?_)
        obtain ⟨h27, e27⟩ := q27
        replace h27 := h27.symm
        subst h27
        have hby27 : inR r27 := by rcases e27 with ⟨-, e⟩ | ⟨-, e⟩; (have := hIT.2 (M 4 1).toNat; omega); omega
        refine x_cSi hg he [_] [] dX5_scanWord_30 ms_X5_129 (c_X5_isLetter l b D cy hby27) rfl rfl (Nat.le_of_ble_eq_true rfl) (by decide) (by decide) (fun r30 M30 q30 => ?_)
        obtain ⟨h30, e30⟩ := q30
        replace h30 := h30.symm
        subst h30
        refine x_if_eq (tgt := 73) hg dX5_scanWord_33 (by decide) (by omega) (fun c33 => ?_) (fun c33 => ?_)
        · skip
          refine x_aload_n hg dX5_scanWord_73 rfl ?_
          refine x_aload_n hg dX5_scanWord_74 rfl ?_
          refine x_getI hg dX5_scanWord_75 fl_X5_27 (by decide) rfl ?_
          refine x_aload_n hg dX5_scanWord_78 rfl ?_
          refine x_getI hg dX5_scanWord_79 fl_X5_115 (by decide) rfl ?_
          refine x_isub hg dX5_scanWord_82 ?_
          refine x_bipush hg dX5_scanWord_83 (by decide) ?_
          refine x_icmp_gt (tgt := 92) hg dX5_scanWord_85 (by decide) (by omega) (by omega) (fun c85 => ?_) (fun c85 => ?_)
          · skip
            refine x_iconst hg dX5_scanWord_92 ?_
            refine x_putI hg dX5_scanWord_93 fl_X5_33 ft_5_3 (by decide) rfl ?_
            refine x_vret hg hr dX5_scanWord_96 (Nat.le_refl _) (Nat.le_refl _) ?_
            refine ⟨rfl, rfl, rfl, ⟨IT_D (frD_mu (fun a _ => rfl)) hIT, ?_⟩, frD_mu hf⟩
            simp (disch := omega) only [mu_s, mu_nf, mu_nc]
            exact ⟨by omega, by omega, by omega, h4, h5, by omega⟩
          · skip
            refine x_iconst hg dX5_scanWord_88 ?_
            refine x_goto (tgt := 93) hg dX5_scanWord_89 (by decide) ?_
            refine x_putI hg dX5_scanWord_93 fl_X5_33 ft_5_3 (by decide) rfl ?_
            refine x_vret hg hr dX5_scanWord_96 (Nat.le_refl _) (Nat.le_refl _) ?_
            refine ⟨rfl, rfl, rfl, ⟨IT_D (frD_mu (fun a _ => rfl)) hIT, ?_⟩, frD_mu hf⟩
            simp (disch := omega) only [mu_s, mu_nf, mu_nc]
            exact ⟨by omega, by omega, by omega, h4, h5, by omega⟩
        · skip
          refine x_aload_n hg dX5_scanWord_36 rfl ?_
          refine x_aload_n hg dX5_scanWord_37 rfl ?_
          refine x_getL hg dX5_scanWord_38 fl_X5_79 (by decide) rfl ?_
          refine x_bipush hg dX5_scanWord_41 (by decide) ?_
          refine x_lshl hg dX5_scanWord_43 ?_
          refine x_aload_n hg dX5_scanWord_44 rfl ?_
          refine x_getR (j9 := 2) hg dX5_scanWord_45 fl_X5_9 (by decide) rfl rfl (by decide) ?_
          refine x_aload_n hg dX5_scanWord_48 rfl ?_
          refine x_getI hg dX5_scanWord_49 fl_X5_27 (by decide) rfl ?_
          refine x_cVi hg he [_] [_, _] dX5_scanWord_52 mv_X5_123 (c_X7_byteAt l b D cy hIT (by omega)) (by decide) rfl rfl (Nat.le_of_ble_eq_true rfl) (by decide) (by decide) (fun r52 M52 q52 => ?_)
          obtain ⟨h52, e52⟩ := q52
          replace h52 := h52.symm
          subst h52
          have hby52 : inR r52 := by rcases e52 with ⟨-, e⟩ | ⟨-, e⟩; (have := hIT.2 (M 4 1).toNat; omega); omega
          refine x_i2l hg dX5_scanWord_55 (by omega) ?_
          refine x_lor hg dX5_scanWord_56 ?_
          refine x_wrapl (fun a57 h57 => ?_)
          refine x_putL hg dX5_scanWord_57 fl_X5_79 ft_5_4 (by decide) rfl ?_
          refine x_aload_n hg dX5_scanWord_60 rfl ?_
          refine x_dup hg dX5_scanWord_61 rfl ?_
          refine x_getI hg dX5_scanWord_62 fl_X5_27 (by decide) rfl ?_
          try simp (disch := omega) only [mu_s, mu_nf, mu_nc]
          refine x_iconst hg dX5_scanWord_65 ?_
          refine x_iadd hg dX5_scanWord_66 ?_
          refine x_putI hg dX5_scanWord_67 fl_X5_27 ft_5_1 (by decide) rfl ?_
          refine x_goto (tgt := 5) hg dX5_scanWord_70 (by decide) ?_
          exact ih _ (IT_D (frD_mu (frD_mu (fun a _ => rfl))) hIT) (by simp (disch := omega) only [mu_s, mu_nf, mu_nc]; omega) (by simp (disch := omega) only [mu_s, mu_nf, mu_nc]; omega) (by simp (disch := omega) only [mu_s, mu_nf, mu_nc]; exact h57) (by simp (disch := omega) only [mu_s, mu_nf, mu_nc]; exact h5) (by simp (disch := omega) only [mu_s, mu_nf, mu_nc]; omega) (frD_mu (frD_mu hf))
  refine x_aload_n hg dX5_scanWord_0 rfl ?_
  refine x_lconst (z := 0) hg dX5_scanWord_1 rfl ?_
  refine x_putL hg dX5_scanWord_2 fl_X5_79 ft_5_4 (by decide) rfl ?_
  exact loop 1001 _ (IT_D (frD_mu (fun a _ => rfl)) hIT0) (by simp (disch := omega) only [mu_s, mu_nf, mu_nc]; omega) (by simp (disch := omega) only [mu_s, mu_nf, mu_nc]; omega) (by simp (disch := omega) only [mu_s, mu_nf, mu_nc]; decide) (by simp (disch := omega) only [mu_s, mu_nf, mu_nc]; omega) (by simp (disch := omega) only [mu_s, mu_nf, mu_nc]; have := hIT0.1; omega) (frD_mu (fun a _ => rfl))

theorem dX5_scanNumber_0 : decode cX5_scanNumber 0 = .ok (.aload_n 0, 1) := by decide +kernel
theorem dX5_scanNumber_1 : decode cX5_scanNumber 1 = .ok (.iconst 0, 1) := by decide +kernel
theorem dX5_scanNumber_2 : decode cX5_scanNumber 2 = .ok (.putfield 95, 3) := by decide +kernel
theorem dX5_scanNumber_5 : decode cX5_scanNumber 5 = .ok (.aload_n 0, 1) := by decide +kernel
theorem dX5_scanNumber_6 : decode cX5_scanNumber 6 = .ok (.getfield 27, 3) := by decide +kernel
theorem dX5_scanNumber_9 : decode cX5_scanNumber 9 = .ok (.aload_n 0, 1) := by decide +kernel
theorem dX5_scanNumber_10 : decode cX5_scanNumber 10 = .ok (.getfield 9, 3) := by decide +kernel
theorem dX5_scanNumber_13 : decode cX5_scanNumber 13 = .ok (.getfield 118, 3) := by decide +kernel
theorem dX5_scanNumber_16 : decode cX5_scanNumber 16 = .ok (.if_icmp .ge 59, 3) := by decide +kernel
theorem dX5_scanNumber_19 : decode cX5_scanNumber 19 = .ok (.aload_n 0, 1) := by decide +kernel
theorem dX5_scanNumber_20 : decode cX5_scanNumber 20 = .ok (.getfield 9, 3) := by decide +kernel
theorem dX5_scanNumber_23 : decode cX5_scanNumber 23 = .ok (.aload_n 0, 1) := by decide +kernel
theorem dX5_scanNumber_24 : decode cX5_scanNumber 24 = .ok (.getfield 27, 3) := by decide +kernel
theorem dX5_scanNumber_27 : decode cX5_scanNumber 27 = .ok (.invokevirtual 123, 3) := by decide +kernel
theorem dX5_scanNumber_30 : decode cX5_scanNumber 30 = .ok (.invokestatic 135, 3) := by decide +kernel
theorem dX5_scanNumber_33 : decode cX5_scanNumber 33 = .ok (.ifCond .eq 42, 3) := by decide +kernel
theorem dX5_scanNumber_36 : decode cX5_scanNumber 36 = .ok (.aload_n 0, 1) := by decide +kernel
theorem dX5_scanNumber_37 : decode cX5_scanNumber 37 = .ok (.aload_n 0, 1) := by decide +kernel
theorem dX5_scanNumber_38 : decode cX5_scanNumber 38 = .ok (.getfield 95, 3) := by decide +kernel
theorem dX5_scanNumber_41 : decode cX5_scanNumber 41 = .ok (.bipush 10, 2) := by decide +kernel
theorem dX5_scanNumber_43 : decode cX5_scanNumber 43 = .ok (.imul, 1) := by decide +kernel
theorem dX5_scanNumber_44 : decode cX5_scanNumber 44 = .ok (.aload_n 0, 1) := by decide +kernel
theorem dX5_scanNumber_45 : decode cX5_scanNumber 45 = .ok (.getfield 9, 3) := by decide +kernel
theorem dX5_scanNumber_48 : decode cX5_scanNumber 48 = .ok (.aload_n 0, 1) := by decide +kernel
theorem dX5_scanNumber_49 : decode cX5_scanNumber 49 = .ok (.getfield 27, 3) := by decide +kernel
theorem dX5_scanNumber_52 : decode cX5_scanNumber 52 = .ok (.invokevirtual 123, 3) := by decide +kernel
theorem dX5_scanNumber_55 : decode cX5_scanNumber 55 = .ok (.bipush 48, 2) := by decide +kernel
theorem dX5_scanNumber_57 : decode cX5_scanNumber 57 = .ok (.isub, 1) := by decide +kernel
theorem dX5_scanNumber_58 : decode cX5_scanNumber 58 = .ok (.iadd, 1) := by decide +kernel
theorem dX5_scanNumber_59 : decode cX5_scanNumber 59 = .ok (.putfield 95, 3) := by decide +kernel
theorem dX5_scanNumber_62 : decode cX5_scanNumber 62 = .ok (.aload_n 0, 1) := by decide +kernel
theorem dX5_scanNumber_63 : decode cX5_scanNumber 63 = .ok (.dup, 1) := by decide +kernel
theorem dX5_scanNumber_64 : decode cX5_scanNumber 64 = .ok (.getfield 27, 3) := by decide +kernel
theorem dX5_scanNumber_67 : decode cX5_scanNumber 67 = .ok (.iconst 1, 1) := by decide +kernel
theorem dX5_scanNumber_68 : decode cX5_scanNumber 68 = .ok (.iadd, 1) := by decide +kernel
theorem dX5_scanNumber_69 : decode cX5_scanNumber 69 = .ok (.putfield 27, 3) := by decide +kernel
theorem dX5_scanNumber_72 : decode cX5_scanNumber 72 = .ok (.goto (-67), 3) := by decide +kernel
theorem dX5_scanNumber_75 : decode cX5_scanNumber 75 = .ok (.aload_n 0, 1) := by decide +kernel
theorem dX5_scanNumber_76 : decode cX5_scanNumber 76 = .ok (.getfield 27, 3) := by decide +kernel
theorem dX5_scanNumber_79 : decode cX5_scanNumber 79 = .ok (.aload_n 0, 1) := by decide +kernel
theorem dX5_scanNumber_80 : decode cX5_scanNumber 80 = .ok (.getfield 115, 3) := by decide +kernel
theorem dX5_scanNumber_83 : decode cX5_scanNumber 83 = .ok (.isub, 1) := by decide +kernel
theorem dX5_scanNumber_84 : decode cX5_scanNumber 84 = .ok (.iconst 4, 1) := by decide +kernel
theorem dX5_scanNumber_85 : decode cX5_scanNumber 85 = .ok (.if_icmp .gt 24, 3) := by decide +kernel
theorem dX5_scanNumber_88 : decode cX5_scanNumber 88 = .ok (.aload_n 0, 1) := by decide +kernel
theorem dX5_scanNumber_89 : decode cX5_scanNumber 89 = .ok (.getfield 9, 3) := by decide +kernel
theorem dX5_scanNumber_92 : decode cX5_scanNumber 92 = .ok (.aload_n 0, 1) := by decide +kernel
theorem dX5_scanNumber_93 : decode cX5_scanNumber 93 = .ok (.getfield 27, 3) := by decide +kernel
theorem dX5_scanNumber_96 : decode cX5_scanNumber 96 = .ok (.invokevirtual 123, 3) := by decide +kernel
theorem dX5_scanNumber_99 : decode cX5_scanNumber 99 = .ok (.invokestatic 129, 3) := by decide +kernel
theorem dX5_scanNumber_102 : decode cX5_scanNumber 102 = .ok (.ifCond .ne 7, 3) := by decide +kernel
theorem dX5_scanNumber_105 : decode cX5_scanNumber 105 = .ok (.iconst 1, 1) := by decide +kernel
theorem dX5_scanNumber_106 : decode cX5_scanNumber 106 = .ok (.goto 4, 3) := by decide +kernel
theorem dX5_scanNumber_109 : decode cX5_scanNumber 109 = .ok (.iconst 0, 1) := by decide +kernel
theorem dX5_scanNumber_110 : decode cX5_scanNumber 110 = .ok (.istore_n 1, 1) := by decide +kernel
theorem dX5_scanNumber_111 : decode cX5_scanNumber 111 = .ok (.aload_n 0, 1) := by decide +kernel
theorem dX5_scanNumber_112 : decode cX5_scanNumber 112 = .ok (.iload_n 1, 1) := by decide +kernel
theorem dX5_scanNumber_113 : decode cX5_scanNumber 113 = .ok (.ifCond .eq 7, 3) := by decide +kernel
theorem dX5_scanNumber_116 : decode cX5_scanNumber 116 = .ok (.iconst 3, 1) := by decide +kernel
theorem dX5_scanNumber_117 : decode cX5_scanNumber 117 = .ok (.goto 4, 3) := by decide +kernel
theorem dX5_scanNumber_120 : decode cX5_scanNumber 120 = .ok (.iconst 1, 1) := by decide +kernel
theorem dX5_scanNumber_121 : decode cX5_scanNumber 121 = .ok (.putfield 33, 3) := by decide +kernel
theorem dX5_scanNumber_124 : decode cX5_scanNumber 124 = .ok (.return_, 1) := by decide +kernel
set_option maxHeartbeats 4000000 in
set_option maxRecDepth 20000 in
theorem c_X5_scanNumber (l : Launch) (b : Nat) (D : va_G) (cy : Nat → ClassId) {tt : Nat} {M0 : xMm} (hIT0 : IT M0) (hb0 : 0 ≤ M0 4 1 ∧ M0 4 1 ≤ M0 2 1) (hp0 : M0 4 2 = M0 4 1) (h40 : inL (M0 4 4)) : xC l b D cy yX5_scanNumber cX5_scanNumber 2 none ({ frames := 1, cells := 0, slots := 0, locals := 21 }) [xr 4] 209 M0 (RS tt) (xPv 209 (RS tt) (fun M' => JD M' ∧ frD M' M0)) := by
  refine x_met (by decide) (Nat.le_of_ble_eq_true rfl) (fun g hg hr he => ?_)
  refine x_canon (ls' := [(0, _)]) rfl ?_
  have loop : ∀ (n1 : Nat) (M : xMm), IT M → (0 ≤ M 4 1 ∧ M 4 1 ≤ M 2 1) → (0 ≤ M 4 2 ∧ M 4 2 ≤ M 4 1) → inL (M 4 4) → inR (M 4 5) → ((M 4 1 - M 4 2 = 0 → M 4 5 = 0) ∧ (M 4 1 - M 4 2 = 1 → 0 ≤ M 4 5 ∧ M 4 5 ≤ 9) ∧ (M 4 1 - M 4 2 = 2 → 0 ≤ M 4 5 ∧ M 4 5 ≤ 99) ∧ (M 4 1 - M 4 2 = 3 → 0 ≤ M 4 5 ∧ M 4 5 ≤ 999) ∧ (M 4 1 - M 4 2 = 4 → 0 ≤ M 4 5 ∧ M 4 5 ≤ 9999)) → M 2 1 - M 4 1 < n1 → frD M M0 → xW g 209 M (RS tt) 0 0 5 [(0, xr 4)] [] := by
    intro n1
    induction n1 with
    | zero => intro M _ h1 h2 _ _ _ h3 _; exfalso; omega
    | succ n1 ih =>
      intro M hIT h1 h2 h4 h5 hnb h3 hf
      have hlen := hIT.1
      have j110 : ∀ p : Int, (p = 0 ∨ p = 1) → (p = 1 → M 4 1 - M 4 2 ≤ 4) → xW g 209 M (RS tt) 0 0 110 [(0, xr 4)] [xi p] := by
        intro p hp hp4
        refine x_istore_n (ls' := [(0, _), (1, _)]) hg dX5_scanNumber_110 rfl (by decide) rfl ?_
        refine x_aload_n hg dX5_scanNumber_111 rfl ?_
        refine x_iload_n hg dX5_scanNumber_112 rfl ?_
        refine x_if_eq (tgt := 120) hg dX5_scanNumber_113 (by decide) (by omega) (fun c113 => ?_) (fun c113 => ?_)
        · skip
          refine x_iconst hg dX5_scanNumber_120 ?_
          refine x_putI hg dX5_scanNumber_121 fl_X5_33 ft_5_3 (by decide) rfl ?_
          refine x_vret hg hr dX5_scanNumber_124 (Nat.le_refl _) (Nat.le_refl _) ?_
          refine ⟨rfl, rfl, rfl, ⟨IT_D (frD_mu (fun a _ => rfl)) hIT, ?_⟩, frD_mu hf⟩
          simp (disch := omega) only [mu_s, mu_nf, mu_nc]
          exact ⟨by omega, by omega, by omega, h4, h5, by omega⟩
        · skip
          refine x_iconst hg dX5_scanNumber_116 ?_
          refine x_goto (tgt := 121) hg dX5_scanNumber_117 (by decide) ?_
          refine x_putI hg dX5_scanNumber_121 fl_X5_33 ft_5_3 (by decide) rfl ?_
          refine x_vret hg hr dX5_scanNumber_124 (Nat.le_refl _) (Nat.le_refl _) ?_
          refine ⟨rfl, rfl, rfl, ⟨IT_D (frD_mu (fun a _ => rfl)) hIT, ?_⟩, frD_mu hf⟩
          simp (disch := omega) only [mu_s, mu_nf, mu_nc]
          exact ⟨by omega, by omega, by omega, h4, h5, by omega⟩
      refine x_aload_n hg dX5_scanNumber_5 rfl ?_
      refine x_getI hg dX5_scanNumber_6 fl_X5_27 (by decide) rfl ?_
      refine x_aload_n hg dX5_scanNumber_9 rfl ?_
      refine x_getR (j9 := 2) hg dX5_scanNumber_10 fl_X5_9 (by decide) rfl rfl (by decide) ?_
      refine x_getI hg dX5_scanNumber_13 fl_X5_118 (by decide) rfl ?_
      refine x_icmp_ge (tgt := 75) hg dX5_scanNumber_16 (by decide) (by omega) (by omega) (fun c16 => ?_) (fun c16 => ?_)
      · skip
        refine x_aload_n hg dX5_scanNumber_75 rfl ?_
        refine x_getI hg dX5_scanNumber_76 fl_X5_27 (by decide) rfl ?_
        refine x_aload_n hg dX5_scanNumber_79 rfl ?_
        refine x_getI hg dX5_scanNumber_80 fl_X5_115 (by decide) rfl ?_
        refine x_isub hg dX5_scanNumber_83 ?_
        refine x_iconst hg dX5_scanNumber_84 ?_
        refine x_icmp_gt (tgt := 109) hg dX5_scanNumber_85 (by decide) (by omega) (by omega) (fun c85 => ?_) (fun c85 => ?_)
        · skip
          refine x_iconst hg dX5_scanNumber_109 ?_
          exact j110 _ (by omega) (by omega)
        · skip
          refine x_aload_n hg dX5_scanNumber_88 rfl ?_
          refine x_getR (j9 := 2) hg dX5_scanNumber_89 fl_X5_9 (by decide) rfl rfl (by decide) ?_
          refine x_aload_n hg dX5_scanNumber_92 rfl ?_
          refine x_getI hg dX5_scanNumber_93 fl_X5_27 (by decide) rfl ?_
          refine x_cVi hg he [_] [] dX5_scanNumber_96 mv_X5_123 (c_X7_byteAt l b D cy hIT (by omega)) (by decide) rfl rfl (Nat.le_of_ble_eq_true rfl) (by decide) (by decide) (fun r96 M96 q96 => ?_)
          obtain ⟨h96, e96⟩ := q96
          replace h96 := h96.symm
          subst h96
          have hby96 : inR r96 := by rcases e96 with ⟨-, e⟩ | ⟨-, e⟩; (have := hIT.2 (M 4 1).toNat; omega); omega
          refine x_cSi hg he [_] [] dX5_scanNumber_99 ms_X5_129 (c_X5_isLetter l b D cy hby96) rfl rfl (Nat.le_of_ble_eq_true rfl) (by decide) (by decide) (fun r99 M99 q99 => ?_)
          obtain ⟨h99, e99⟩ := q99
          replace h99 := h99.symm
          subst h99
          refine x_if_ne (tgt := 109) hg dX5_scanNumber_102 (by decide) (by omega) (fun c102 => ?_) (fun c102 => ?_)
          · skip
            refine x_iconst hg dX5_scanNumber_109 ?_
            exact j110 _ (by omega) (by omega)
          · skip
            refine x_iconst hg dX5_scanNumber_105 ?_
            refine x_goto (tgt := 110) hg dX5_scanNumber_106 (by decide) ?_
            exact j110 _ (by omega) (by omega)
      · skip
        refine x_aload_n hg dX5_scanNumber_19 rfl ?_
        refine x_getR (j9 := 2) hg dX5_scanNumber_20 fl_X5_9 (by decide) rfl rfl (by decide) ?_
        refine x_aload_n hg dX5_scanNumber_23 rfl ?_
        refine x_getI hg dX5_scanNumber_24 fl_X5_27 (by decide) rfl ?_
        refine x_cVi hg he [_] [] dX5_scanNumber_27 mv_X5_123 (c_X7_byteAt l b D cy hIT (by omega)) (by decide) rfl rfl (Nat.le_of_ble_eq_true rfl) (by decide) (by decide) (fun r27 M27 q27 => ?_)
        obtain ⟨h27, e27⟩ := q27
        replace h27 := h27.symm
        subst h27
        have hby27 : inR r27 := by rcases e27 with ⟨-, e⟩ | ⟨-, e⟩; (have := hIT.2 (M 4 1).toNat; omega); omega
        refine x_cSi hg he [_] [] dX5_scanNumber_30 ms_X5_135 (c_X5_isDigit l b D cy hby27) rfl rfl (Nat.le_of_ble_eq_true rfl) (by decide) (by decide) (fun r30 M30 q30 => ?_)
        obtain ⟨h30, e30⟩ := q30
        replace h30 := h30.symm
        subst h30
        refine x_if_eq (tgt := 75) hg dX5_scanNumber_33 (by decide) (by omega) (fun c33 => ?_) (fun c33 => ?_)
        · skip
          refine x_aload_n hg dX5_scanNumber_75 rfl ?_
          refine x_getI hg dX5_scanNumber_76 fl_X5_27 (by decide) rfl ?_
          refine x_aload_n hg dX5_scanNumber_79 rfl ?_
          refine x_getI hg dX5_scanNumber_80 fl_X5_115 (by decide) rfl ?_
          refine x_isub hg dX5_scanNumber_83 ?_
          refine x_iconst hg dX5_scanNumber_84 ?_
          refine x_icmp_gt (tgt := 109) hg dX5_scanNumber_85 (by decide) (by omega) (by omega) (fun c85 => ?_) (fun c85 => ?_)
          · skip
            refine x_iconst hg dX5_scanNumber_109 ?_
            exact j110 _ (by omega) (by omega)
          · skip
            refine x_aload_n hg dX5_scanNumber_88 rfl ?_
            refine x_getR (j9 := 2) hg dX5_scanNumber_89 fl_X5_9 (by decide) rfl rfl (by decide) ?_
            refine x_aload_n hg dX5_scanNumber_92 rfl ?_
            refine x_getI hg dX5_scanNumber_93 fl_X5_27 (by decide) rfl ?_
            refine x_cVi hg he [_] [] dX5_scanNumber_96 mv_X5_123 (c_X7_byteAt l b D cy hIT (by omega)) (by decide) rfl rfl (Nat.le_of_ble_eq_true rfl) (by decide) (by decide) (fun r96 M96 q96 => ?_)
            obtain ⟨h96, e96⟩ := q96
            replace h96 := h96.symm
            subst h96
            have hby96 : inR r96 := by rcases e96 with ⟨-, e⟩ | ⟨-, e⟩; (have := hIT.2 (M 4 1).toNat; omega); omega
            refine x_cSi hg he [_] [] dX5_scanNumber_99 ms_X5_129 (c_X5_isLetter l b D cy hby96) rfl rfl (Nat.le_of_ble_eq_true rfl) (by decide) (by decide) (fun r99 M99 q99 => ?_)
            obtain ⟨h99, e99⟩ := q99
            replace h99 := h99.symm
            subst h99
            refine x_if_ne (tgt := 109) hg dX5_scanNumber_102 (by decide) (by omega) (fun c102 => ?_) (fun c102 => ?_)
            · skip
              refine x_iconst hg dX5_scanNumber_109 ?_
              exact j110 _ (by omega) (by omega)
            · skip
              refine x_iconst hg dX5_scanNumber_105 ?_
              refine x_goto (tgt := 110) hg dX5_scanNumber_106 (by decide) ?_
              exact j110 _ (by omega) (by omega)
        · skip
          refine x_aload_n hg dX5_scanNumber_36 rfl ?_
          refine x_aload_n hg dX5_scanNumber_37 rfl ?_
          refine x_getI hg dX5_scanNumber_38 fl_X5_95 (by decide) rfl ?_
          refine x_bipush hg dX5_scanNumber_41 (by decide) ?_
          refine x_imul hg dX5_scanNumber_43 ?_
          refine x_aload_n hg dX5_scanNumber_44 rfl ?_
          refine x_getR (j9 := 2) hg dX5_scanNumber_45 fl_X5_9 (by decide) rfl rfl (by decide) ?_
          refine x_aload_n hg dX5_scanNumber_48 rfl ?_
          refine x_getI hg dX5_scanNumber_49 fl_X5_27 (by decide) rfl ?_
          refine x_cVi hg he [_] [_, _] dX5_scanNumber_52 mv_X5_123 (c_X7_byteAt l b D cy hIT (by omega)) (by decide) rfl rfl (Nat.le_of_ble_eq_true rfl) (by decide) (by decide) (fun r52 M52 q52 => ?_)
          obtain ⟨h52, e52⟩ := q52
          replace h52 := h52.symm
          subst h52
          have hby52 : inR r52 := by rcases e52 with ⟨-, e⟩ | ⟨-, e⟩; (have := hIT.2 (M 4 1).toNat; omega); omega
          have e52b : r52 = r27 := by omega
          refine x_bipush hg dX5_scanNumber_55 (by decide) ?_
          refine x_isub hg dX5_scanNumber_57 ?_
          refine x_iadd hg dX5_scanNumber_58 ?_
          refine x_wq (P := fun a => inR a ∧ (M 4 1 - M 4 2 = 0 → 0 ≤ a ∧ a ≤ 9) ∧ (M 4 1 - M 4 2 = 1 → 0 ≤ a ∧ a ≤ 99) ∧ (M 4 1 - M 4 2 = 2 → 0 ≤ a ∧ a ≤ 999) ∧ (M 4 1 - M 4 2 = 3 → 0 ≤ a ∧ a ≤ 9999)) (fun hz => by omega) (fun hz a ha => by omega) (fun a59 h59 => ?_)
          refine x_putI hg dX5_scanNumber_59 fl_X5_95 ft_5_5 (by decide) rfl ?_
          refine x_aload_n hg dX5_scanNumber_62 rfl ?_
          refine x_dup hg dX5_scanNumber_63 rfl ?_
          refine x_getI hg dX5_scanNumber_64 fl_X5_27 (by decide) rfl ?_
          try simp (disch := omega) only [mu_s, mu_nf, mu_nc]
          refine x_iconst hg dX5_scanNumber_67 ?_
          refine x_iadd hg dX5_scanNumber_68 ?_
          refine x_putI hg dX5_scanNumber_69 fl_X5_27 ft_5_1 (by decide) rfl ?_
          refine x_goto (tgt := 5) hg dX5_scanNumber_72 (by decide) ?_
          exact ih _ (IT_D (frD_mu (frD_mu (fun a _ => rfl))) hIT) (by simp (disch := omega) only [mu_s, mu_nf, mu_nc]; omega) (by simp (disch := omega) only [mu_s, mu_nf, mu_nc]; omega) (by simp (disch := omega) only [mu_s, mu_nf, mu_nc]; exact h4) (by simp (disch := omega) only [mu_s, mu_nf, mu_nc]; omega) (by simp (disch := omega) only [mu_s, mu_nf, mu_nc]; omega) (by simp (disch := omega) only [mu_s, mu_nf, mu_nc]; omega) (frD_mu (frD_mu hf))
  refine x_aload_n hg dX5_scanNumber_0 rfl ?_
  refine x_iconst hg dX5_scanNumber_1 ?_
  refine x_putI hg dX5_scanNumber_2 fl_X5_95 ft_5_5 (by decide) rfl ?_
  exact loop 1001 _ (IT_D (frD_mu (fun a _ => rfl)) hIT0) (by simp (disch := omega) only [mu_s, mu_nf, mu_nc]; omega) (by simp (disch := omega) only [mu_s, mu_nf, mu_nc]; omega) (by simp (disch := omega) only [mu_s, mu_nf, mu_nc]; exact h40) (by simp (disch := omega) only [mu_s, mu_nf, mu_nc]; decide) (by refine ⟨?_, ?_, ?_, ?_, ?_⟩ <;> intro _ <;> simp (disch := omega) only [mu_s, mu_nf, mu_nc] <;> (try omega)) (by simp (disch := omega) only [mu_s, mu_nf, mu_nc]; have := hIT0.1; omega) (frD_mu (fun a _ => rfl))

theorem dX5_advance_0 : decode cX5_advance 0 = .ok (.aload_n 0, 1) := by decide +kernel
theorem dX5_advance_1 : decode cX5_advance 1 = .ok (.aload_n 0, 1) := by decide +kernel
theorem dX5_advance_2 : decode cX5_advance 2 = .ok (.getfield 27, 3) := by decide +kernel
theorem dX5_advance_5 : decode cX5_advance 5 = .ok (.putfield 115, 3) := by decide +kernel
theorem dX5_advance_8 : decode cX5_advance 8 = .ok (.aload_n 0, 1) := by decide +kernel
theorem dX5_advance_9 : decode cX5_advance 9 = .ok (.getfield 115, 3) := by decide +kernel
theorem dX5_advance_12 : decode cX5_advance 12 = .ok (.aload_n 0, 1) := by decide +kernel
theorem dX5_advance_13 : decode cX5_advance 13 = .ok (.getfield 9, 3) := by decide +kernel
theorem dX5_advance_16 : decode cX5_advance 16 = .ok (.getfield 118, 3) := by decide +kernel
theorem dX5_advance_19 : decode cX5_advance 19 = .ok (.if_icmp .ge 33, 3) := by decide +kernel
theorem dX5_advance_22 : decode cX5_advance 22 = .ok (.aload_n 0, 1) := by decide +kernel
theorem dX5_advance_23 : decode cX5_advance 23 = .ok (.getfield 9, 3) := by decide +kernel
theorem dX5_advance_26 : decode cX5_advance 26 = .ok (.aload_n 0, 1) := by decide +kernel
theorem dX5_advance_27 : decode cX5_advance 27 = .ok (.getfield 115, 3) := by decide +kernel
theorem dX5_advance_30 : decode cX5_advance 30 = .ok (.invokevirtual 123, 3) := by decide +kernel
theorem dX5_advance_33 : decode cX5_advance 33 = .ok (.invokestatic 126, 3) := by decide +kernel
theorem dX5_advance_36 : decode cX5_advance 36 = .ok (.ifCond .eq 16, 3) := by decide +kernel
theorem dX5_advance_39 : decode cX5_advance 39 = .ok (.aload_n 0, 1) := by decide +kernel
theorem dX5_advance_40 : decode cX5_advance 40 = .ok (.dup, 1) := by decide +kernel
theorem dX5_advance_41 : decode cX5_advance 41 = .ok (.getfield 115, 3) := by decide +kernel
theorem dX5_advance_44 : decode cX5_advance 44 = .ok (.iconst 1, 1) := by decide +kernel
theorem dX5_advance_45 : decode cX5_advance 45 = .ok (.iadd, 1) := by decide +kernel
theorem dX5_advance_46 : decode cX5_advance 46 = .ok (.putfield 115, 3) := by decide +kernel
theorem dX5_advance_49 : decode cX5_advance 49 = .ok (.goto (-41), 3) := by decide +kernel
theorem dX5_advance_52 : decode cX5_advance 52 = .ok (.aload_n 0, 1) := by decide +kernel
theorem dX5_advance_53 : decode cX5_advance 53 = .ok (.aload_n 0, 1) := by decide +kernel
theorem dX5_advance_54 : decode cX5_advance 54 = .ok (.getfield 115, 3) := by decide +kernel
theorem dX5_advance_57 : decode cX5_advance 57 = .ok (.putfield 27, 3) := by decide +kernel
theorem dX5_advance_60 : decode cX5_advance 60 = .ok (.aload_n 0, 1) := by decide +kernel
theorem dX5_advance_61 : decode cX5_advance 61 = .ok (.getfield 9, 3) := by decide +kernel
theorem dX5_advance_64 : decode cX5_advance 64 = .ok (.aload_n 0, 1) := by decide +kernel
theorem dX5_advance_65 : decode cX5_advance 65 = .ok (.getfield 115, 3) := by decide +kernel
theorem dX5_advance_68 : decode cX5_advance 68 = .ok (.invokevirtual 123, 3) := by decide +kernel
theorem dX5_advance_71 : decode cX5_advance 71 = .ok (.istore_n 1, 1) := by decide +kernel
theorem dX5_advance_72 : decode cX5_advance 72 = .ok (.iload_n 1, 1) := by decide +kernel
theorem dX5_advance_73 : decode cX5_advance 73 = .ok (.iconst (-1), 1) := by decide +kernel
theorem dX5_advance_74 : decode cX5_advance 74 = .ok (.if_icmp .ne 11, 3) := by decide +kernel
theorem dX5_advance_77 : decode cX5_advance 77 = .ok (.aload_n 0, 1) := by decide +kernel
theorem dX5_advance_78 : decode cX5_advance 78 = .ok (.iconst 0, 1) := by decide +kernel
theorem dX5_advance_79 : decode cX5_advance 79 = .ok (.putfield 33, 3) := by decide +kernel
theorem dX5_advance_82 : decode cX5_advance 82 = .ok (.goto 68, 3) := by decide +kernel
theorem dX5_advance_85 : decode cX5_advance 85 = .ok (.iload_n 1, 1) := by decide +kernel
theorem dX5_advance_86 : decode cX5_advance 86 = .ok (.invokestatic 129, 3) := by decide +kernel
theorem dX5_advance_89 : decode cX5_advance 89 = .ok (.ifCond .eq 10, 3) := by decide +kernel
theorem dX5_advance_92 : decode cX5_advance 92 = .ok (.aload_n 0, 1) := by decide +kernel
theorem dX5_advance_93 : decode cX5_advance 93 = .ok (.invokevirtual 132, 3) := by decide +kernel
theorem dX5_advance_96 : decode cX5_advance 96 = .ok (.goto 54, 3) := by decide +kernel
theorem dX5_advance_99 : decode cX5_advance 99 = .ok (.iload_n 1, 1) := by decide +kernel
theorem dX5_advance_100 : decode cX5_advance 100 = .ok (.invokestatic 135, 3) := by decide +kernel
theorem dX5_advance_103 : decode cX5_advance 103 = .ok (.ifCond .eq 10, 3) := by decide +kernel
theorem dX5_advance_106 : decode cX5_advance 106 = .ok (.aload_n 0, 1) := by decide +kernel
theorem dX5_advance_107 : decode cX5_advance 107 = .ok (.invokevirtual 138, 3) := by decide +kernel
theorem dX5_advance_110 : decode cX5_advance 110 = .ok (.goto 40, 3) := by decide +kernel
theorem dX5_advance_113 : decode cX5_advance 113 = .ok (.aload_n 0, 1) := by decide +kernel
theorem dX5_advance_114 : decode cX5_advance 114 = .ok (.iload_n 1, 1) := by decide +kernel
theorem dX5_advance_115 : decode cX5_advance 115 = .ok (.bipush 58, 2) := by decide +kernel
theorem dX5_advance_117 : decode cX5_advance 117 = .ok (.if_icmp .eq 15, 3) := by decide +kernel
theorem dX5_advance_120 : decode cX5_advance 120 = .ok (.iload_n 1, 1) := by decide +kernel
theorem dX5_advance_121 : decode cX5_advance 121 = .ok (.bipush 44, 2) := by decide +kernel
theorem dX5_advance_123 : decode cX5_advance 123 = .ok (.if_icmp .eq 9, 3) := by decide +kernel
theorem dX5_advance_126 : decode cX5_advance 126 = .ok (.iload_n 1, 1) := by decide +kernel
theorem dX5_advance_127 : decode cX5_advance 127 = .ok (.bipush 59, 2) := by decide +kernel
theorem dX5_advance_129 : decode cX5_advance 129 = .ok (.if_icmp .ne 7, 3) := by decide +kernel
theorem dX5_advance_132 : decode cX5_advance 132 = .ok (.iload_n 1, 1) := by decide +kernel
theorem dX5_advance_133 : decode cX5_advance 133 = .ok (.goto 4, 3) := by decide +kernel
theorem dX5_advance_136 : decode cX5_advance 136 = .ok (.iconst 1, 1) := by decide +kernel
theorem dX5_advance_137 : decode cX5_advance 137 = .ok (.putfield 33, 3) := by decide +kernel
theorem dX5_advance_140 : decode cX5_advance 140 = .ok (.aload_n 0, 1) := by decide +kernel
theorem dX5_advance_141 : decode cX5_advance 141 = .ok (.dup, 1) := by decide +kernel
theorem dX5_advance_142 : decode cX5_advance 142 = .ok (.getfield 27, 3) := by decide +kernel
theorem dX5_advance_145 : decode cX5_advance 145 = .ok (.iconst 1, 1) := by decide +kernel
theorem dX5_advance_146 : decode cX5_advance 146 = .ok (.iadd, 1) := by decide +kernel
theorem dX5_advance_147 : decode cX5_advance 147 = .ok (.putfield 27, 3) := by decide +kernel
theorem dX5_advance_150 : decode cX5_advance 150 = .ok (.return_, 1) := by decide +kernel
set_option maxHeartbeats 4000000 in
set_option maxRecDepth 20000 in
theorem c_X5_advance (l : Launch) (b : Nat) (D : va_G) (cy : Nat → ClassId) {tt : Nat} {M0 : xMm} (hJ : JB M0) : xC l b D cy yX5_advance cX5_advance 2 none ({ frames := 2, cells := 0, slots := 0, locals := 42 }) [xr 4] 209 M0 (RS tt) (xPv 209 (RS tt) (fun M' => JD M' ∧ frD M' M0)) := by
  refine x_met (by decide) (Nat.le_of_ble_eq_true rfl) (fun g hg hr he => ?_)
  have hb0 := hJ.2.1
  refine x_canon (ls' := [(0, _)]) rfl ?_
  have loop : ∀ (n1 : Nat) (M : xMm), IT M → (0 ≤ M 4 2 ∧ M 4 2 ≤ M 2 1) → inL (M 4 4) → inR (M 4 5) → M 2 1 - M 4 2 < n1 → frD M M0 → xW g 209 M (RS tt) 0 0 8 [(0, xr 4)] [] := by
    intro n1
    induction n1 with
    | zero => intro M _ h1 _ _ h3 _; exfalso; omega
    | succ n1 ih =>
      intro M hIT h2 h4 h5 h3 hf
      have hlen := hIT.1
      have j52 : xW g 209 M (RS tt) 0 0 52 [(0, xr 4)] [] := by
        refine x_aload_n hg dX5_advance_52 rfl ?_
        refine x_aload_n hg dX5_advance_53 rfl ?_
        refine x_getI hg dX5_advance_54 fl_X5_115 (by decide) rfl ?_
        refine x_putI hg dX5_advance_57 fl_X5_27 ft_5_1 (by decide) rfl ?_
        refine x_aload_n hg dX5_advance_60 rfl ?_
        refine x_getR (j9 := 2) hg dX5_advance_61 fl_X5_9 (by decide) rfl rfl (by decide) ?_
        refine x_aload_n hg dX5_advance_64 rfl ?_
        refine x_getI hg dX5_advance_65 fl_X5_115 (by decide) rfl ?_
        try simp (disch := omega) only [mu_s, mu_nf, mu_nc]
        refine x_cVi hg he [_] [] dX5_advance_68 mv_X5_123 (c_X7_byteAt l b D cy (IT_D (frD_mu (fun a _ => rfl)) hIT) (by omega)) (by decide) rfl rfl (Nat.le_of_ble_eq_true rfl) (by decide) (by decide) (fun r68 M68 q68 => ?_)
        obtain ⟨h68, e68⟩ := q68
        replace h68 := h68.symm
        subst h68
        simp (disch := omega) only [mu_s, mu_nf, mu_nc] at e68
        have hby68 : -1 ≤ r68 ∧ r68 ≤ 255 := by rcases e68 with ⟨-, e⟩ | ⟨-, e⟩; (have := hIT.2 (M 4 2).toNat; omega); omega
        refine x_istore_n (ls' := [(0, _), (1, _)]) hg dX5_advance_71 rfl (by decide) rfl ?_
        refine x_iload_n hg dX5_advance_72 rfl ?_
        refine x_iconst hg dX5_advance_73 ?_
        refine x_icmp_ne (tgt := 85) hg dX5_advance_74 (by decide) (by omega) (by omega) (fun c74 => ?_) (fun c74 => ?_)
        · skip
          refine x_iload_n hg dX5_advance_85 rfl ?_
          refine x_cSi hg he [_] [] dX5_advance_86 ms_X5_129 (c_X5_isLetter l b D cy (by omega)) rfl rfl (Nat.le_of_ble_eq_true rfl) (by decide) (by decide) (fun r86 M86 q86 => ?_)
          obtain ⟨h86, e86⟩ := q86
          replace h86 := h86.symm
          subst h86
          refine x_if_eq (tgt := 99) hg dX5_advance_89 (by decide) (by omega) (fun c89 => ?_) (fun c89 => ?_)
          · skip
            refine x_iload_n hg dX5_advance_99 rfl ?_
            refine x_cSi hg he [_] [] dX5_advance_100 ms_X5_135 (c_X5_isDigit l b D cy (by omega)) rfl rfl (Nat.le_of_ble_eq_true rfl) (by decide) (by decide) (fun r100 M100 q100 => ?_)
            obtain ⟨h100, e100⟩ := q100
            replace h100 := h100.symm
            subst h100
            refine x_if_eq (tgt := 113) hg dX5_advance_103 (by decide) (by omega) (fun c103 => ?_) (fun c103 => ?_)
            · skip
              refine x_aload_n hg dX5_advance_113 rfl ?_
              refine x_iload_n hg dX5_advance_114 rfl ?_
              refine x_bipush hg dX5_advance_115 (by decide) ?_
              refine x_icmp_eq (tgt := 132) hg dX5_advance_117 (by decide) (by omega) (by omega) (fun c117 => ?_) (fun c117 => ?_)
              · skip
                refine x_iload_n hg dX5_advance_132 rfl ?_
                refine x_goto (tgt := 137) hg dX5_advance_133 (by decide) ?_
                refine x_putI hg dX5_advance_137 fl_X5_33 ft_5_3 (by decide) rfl ?_
                refine x_aload_n hg dX5_advance_140 rfl ?_
                refine x_dup hg dX5_advance_141 rfl ?_
                refine x_getI hg dX5_advance_142 fl_X5_27 (by decide) rfl ?_
                try simp (disch := omega) only [mu_s, mu_nf, mu_nc]
                refine x_iconst hg dX5_advance_145 ?_
                refine x_iadd hg dX5_advance_146 ?_
                refine x_putI hg dX5_advance_147 fl_X5_27 ft_5_1 (by decide) rfl ?_
                refine x_vret hg hr dX5_advance_150 (Nat.le_refl _) (Nat.le_refl _) ?_
                first
                  | exact ⟨rfl, rfl, rfl, hJ93, frD_tr hf93 (frD_mu hf)⟩
                  | exact ⟨rfl, rfl, rfl, hJ107, frD_tr hf107 (frD_mu hf)⟩
                  | (refine ⟨rfl, rfl, rfl, ⟨IT_D (frD_mu (frD_mu (fun a _ => rfl))) hIT, ?_⟩, frD_mu (frD_mu hf)⟩
                     simp (disch := omega) only [mu_s, mu_nf, mu_nc]
                     exact ⟨by omega, by omega, by omega, h4, h5, by omega⟩)
                  | (refine ⟨rfl, rfl, rfl, ⟨IT_D (frD_mu (frD_mu (frD_mu (fun a _ => rfl)))) hIT, ?_⟩, frD_mu (frD_mu (frD_mu hf))⟩
                     simp (disch := omega) only [mu_s, mu_nf, mu_nc]
                     exact ⟨by omega, by omega, by omega, h4, h5, by omega⟩)
              · skip
                refine x_iload_n hg dX5_advance_120 rfl ?_
                refine x_bipush hg dX5_advance_121 (by decide) ?_
                refine x_icmp_eq (tgt := 132) hg dX5_advance_123 (by decide) (by omega) (by omega) (fun c123 => ?_) (fun c123 => ?_)
                · skip
                  refine x_iload_n hg dX5_advance_132 rfl ?_
                  refine x_goto (tgt := 137) hg dX5_advance_133 (by decide) ?_
                  refine x_putI hg dX5_advance_137 fl_X5_33 ft_5_3 (by decide) rfl ?_
                  refine x_aload_n hg dX5_advance_140 rfl ?_
                  refine x_dup hg dX5_advance_141 rfl ?_
                  refine x_getI hg dX5_advance_142 fl_X5_27 (by decide) rfl ?_
                  try simp (disch := omega) only [mu_s, mu_nf, mu_nc]
                  refine x_iconst hg dX5_advance_145 ?_
                  refine x_iadd hg dX5_advance_146 ?_
                  refine x_putI hg dX5_advance_147 fl_X5_27 ft_5_1 (by decide) rfl ?_
                  refine x_vret hg hr dX5_advance_150 (Nat.le_refl _) (Nat.le_refl _) ?_
                  first
                    | exact ⟨rfl, rfl, rfl, hJ93, frD_tr hf93 (frD_mu hf)⟩
                    | exact ⟨rfl, rfl, rfl, hJ107, frD_tr hf107 (frD_mu hf)⟩
                    | (refine ⟨rfl, rfl, rfl, ⟨IT_D (frD_mu (frD_mu (fun a _ => rfl))) hIT, ?_⟩, frD_mu (frD_mu hf)⟩
                       simp (disch := omega) only [mu_s, mu_nf, mu_nc]
                       exact ⟨by omega, by omega, by omega, h4, h5, by omega⟩)
                    | (refine ⟨rfl, rfl, rfl, ⟨IT_D (frD_mu (frD_mu (frD_mu (fun a _ => rfl)))) hIT, ?_⟩, frD_mu (frD_mu (frD_mu hf))⟩
                       simp (disch := omega) only [mu_s, mu_nf, mu_nc]
                       exact ⟨by omega, by omega, by omega, h4, h5, by omega⟩)
                · skip
                  refine x_iload_n hg dX5_advance_126 rfl ?_
                  refine x_bipush hg dX5_advance_127 (by decide) ?_
                  refine x_icmp_ne (tgt := 136) hg dX5_advance_129 (by decide) (by omega) (by omega) (fun c129 => ?_) (fun c129 => ?_)
                  · skip
                    refine x_iconst hg dX5_advance_136 ?_
                    refine x_putI hg dX5_advance_137 fl_X5_33 ft_5_3 (by decide) rfl ?_
                    refine x_aload_n hg dX5_advance_140 rfl ?_
                    refine x_dup hg dX5_advance_141 rfl ?_
                    refine x_getI hg dX5_advance_142 fl_X5_27 (by decide) rfl ?_
                    try simp (disch := omega) only [mu_s, mu_nf, mu_nc]
                    refine x_iconst hg dX5_advance_145 ?_
                    refine x_iadd hg dX5_advance_146 ?_
                    refine x_putI hg dX5_advance_147 fl_X5_27 ft_5_1 (by decide) rfl ?_
                    refine x_vret hg hr dX5_advance_150 (Nat.le_refl _) (Nat.le_refl _) ?_
                    first
                      | exact ⟨rfl, rfl, rfl, hJ93, frD_tr hf93 (frD_mu hf)⟩
                      | exact ⟨rfl, rfl, rfl, hJ107, frD_tr hf107 (frD_mu hf)⟩
                      | (refine ⟨rfl, rfl, rfl, ⟨IT_D (frD_mu (frD_mu (fun a _ => rfl))) hIT, ?_⟩, frD_mu (frD_mu hf)⟩
                         simp (disch := omega) only [mu_s, mu_nf, mu_nc]
                         exact ⟨by omega, by omega, by omega, h4, h5, by omega⟩)
                      | (refine ⟨rfl, rfl, rfl, ⟨IT_D (frD_mu (frD_mu (frD_mu (fun a _ => rfl)))) hIT, ?_⟩, frD_mu (frD_mu (frD_mu hf))⟩
                         simp (disch := omega) only [mu_s, mu_nf, mu_nc]
                         exact ⟨by omega, by omega, by omega, h4, h5, by omega⟩)
                  · skip
                    refine x_iload_n hg dX5_advance_132 rfl ?_
                    refine x_goto (tgt := 137) hg dX5_advance_133 (by decide) ?_
                    refine x_putI hg dX5_advance_137 fl_X5_33 ft_5_3 (by decide) rfl ?_
                    refine x_aload_n hg dX5_advance_140 rfl ?_
                    refine x_dup hg dX5_advance_141 rfl ?_
                    refine x_getI hg dX5_advance_142 fl_X5_27 (by decide) rfl ?_
                    try simp (disch := omega) only [mu_s, mu_nf, mu_nc]
                    refine x_iconst hg dX5_advance_145 ?_
                    refine x_iadd hg dX5_advance_146 ?_
                    refine x_putI hg dX5_advance_147 fl_X5_27 ft_5_1 (by decide) rfl ?_
                    refine x_vret hg hr dX5_advance_150 (Nat.le_refl _) (Nat.le_refl _) ?_
                    first
                      | exact ⟨rfl, rfl, rfl, hJ93, frD_tr hf93 (frD_mu hf)⟩
                      | exact ⟨rfl, rfl, rfl, hJ107, frD_tr hf107 (frD_mu hf)⟩
                      | (refine ⟨rfl, rfl, rfl, ⟨IT_D (frD_mu (frD_mu (fun a _ => rfl))) hIT, ?_⟩, frD_mu (frD_mu hf)⟩
                         simp (disch := omega) only [mu_s, mu_nf, mu_nc]
                         exact ⟨by omega, by omega, by omega, h4, h5, by omega⟩)
                      | (refine ⟨rfl, rfl, rfl, ⟨IT_D (frD_mu (frD_mu (frD_mu (fun a _ => rfl)))) hIT, ?_⟩, frD_mu (frD_mu (frD_mu hf))⟩
                         simp (disch := omega) only [mu_s, mu_nf, mu_nc]
                         exact ⟨by omega, by omega, by omega, h4, h5, by omega⟩)
            · skip
              refine x_aload_n hg dX5_advance_106 rfl ?_
              refine x_cVv hg he [] [] dX5_advance_107 mv_X5_138 (c_X5_scanNumber l b D cy (IT_D (frD_mu (fun a _ => rfl)) hIT) (by simp (disch := omega) only [mu_s, mu_nf, mu_nc]; omega) (by simp (disch := omega) only [mu_s, mu_nf, mu_nc]) (by simp (disch := omega) only [mu_s, mu_nf, mu_nc]; exact h4)) (by decide) rfl rfl (Nat.le_of_ble_eq_true rfl) (by decide) (by decide) (fun M107 q107 => ?_)
              obtain ⟨hJ107, hf107⟩ := q107
              refine x_goto (tgt := 150) hg dX5_advance_110 (by decide) ?_
              refine x_vret hg hr dX5_advance_150 (Nat.le_refl _) (Nat.le_refl _) ?_
              first
                | exact ⟨rfl, rfl, rfl, hJ93, frD_tr hf93 (frD_mu hf)⟩
                | exact ⟨rfl, rfl, rfl, hJ107, frD_tr hf107 (frD_mu hf)⟩
                | (refine ⟨rfl, rfl, rfl, ⟨IT_D (frD_mu (frD_mu (fun a _ => rfl))) hIT, ?_⟩, frD_mu (frD_mu hf)⟩
                   simp (disch := omega) only [mu_s, mu_nf, mu_nc]
                   exact ⟨by omega, by omega, by omega, h4, h5, by omega⟩)
                | (refine ⟨rfl, rfl, rfl, ⟨IT_D (frD_mu (frD_mu (frD_mu (fun a _ => rfl)))) hIT, ?_⟩, frD_mu (frD_mu (frD_mu hf))⟩
                   simp (disch := omega) only [mu_s, mu_nf, mu_nc]
                   exact ⟨by omega, by omega, by omega, h4, h5, by omega⟩)
          · skip
            refine x_aload_n hg dX5_advance_92 rfl ?_
            refine x_cVv hg he [] [] dX5_advance_93 mv_X5_132 (c_X5_scanWord l b D cy (IT_D (frD_mu (fun a _ => rfl)) hIT) (by simp (disch := omega) only [mu_s, mu_nf, mu_nc]; omega) (by simp (disch := omega) only [mu_s, mu_nf, mu_nc]; omega) (by simp (disch := omega) only [mu_s, mu_nf, mu_nc]; exact h5)) (by decide) rfl rfl (Nat.le_of_ble_eq_true rfl) (by decide) (by decide) (fun M93 q93 => ?_)
            obtain ⟨hJ93, hf93⟩ := q93
            refine x_goto (tgt := 150) hg dX5_advance_96 (by decide) ?_
            refine x_vret hg hr dX5_advance_150 (Nat.le_refl _) (Nat.le_refl _) ?_
            first
              | exact ⟨rfl, rfl, rfl, hJ93, frD_tr hf93 (frD_mu hf)⟩
              | exact ⟨rfl, rfl, rfl, hJ107, frD_tr hf107 (frD_mu hf)⟩
              | (refine ⟨rfl, rfl, rfl, ⟨IT_D (frD_mu (frD_mu (fun a _ => rfl))) hIT, ?_⟩, frD_mu (frD_mu hf)⟩
                 simp (disch := omega) only [mu_s, mu_nf, mu_nc]
                 exact ⟨by omega, by omega, by omega, h4, h5, by omega⟩)
              | (refine ⟨rfl, rfl, rfl, ⟨IT_D (frD_mu (frD_mu (frD_mu (fun a _ => rfl)))) hIT, ?_⟩, frD_mu (frD_mu (frD_mu hf))⟩
                 simp (disch := omega) only [mu_s, mu_nf, mu_nc]
                 exact ⟨by omega, by omega, by omega, h4, h5, by omega⟩)
        · skip
          refine x_aload_n hg dX5_advance_77 rfl ?_
          refine x_iconst hg dX5_advance_78 ?_
          refine x_putI hg dX5_advance_79 fl_X5_33 ft_5_3 (by decide) rfl ?_
          refine x_goto (tgt := 150) hg dX5_advance_82 (by decide) ?_
          refine x_vret hg hr dX5_advance_150 (Nat.le_refl _) (Nat.le_refl _) ?_
          first
            | exact ⟨rfl, rfl, rfl, hJ93, frD_tr hf93 (frD_mu hf)⟩
            | exact ⟨rfl, rfl, rfl, hJ107, frD_tr hf107 (frD_mu hf)⟩
            | (refine ⟨rfl, rfl, rfl, ⟨IT_D (frD_mu (frD_mu (fun a _ => rfl))) hIT, ?_⟩, frD_mu (frD_mu hf)⟩
               simp (disch := omega) only [mu_s, mu_nf, mu_nc]
               exact ⟨by omega, by omega, by omega, h4, h5, by omega⟩)
            | (refine ⟨rfl, rfl, rfl, ⟨IT_D (frD_mu (frD_mu (frD_mu (fun a _ => rfl)))) hIT, ?_⟩, frD_mu (frD_mu (frD_mu hf))⟩
               simp (disch := omega) only [mu_s, mu_nf, mu_nc]
               exact ⟨by omega, by omega, by omega, h4, h5, by omega⟩)
      refine x_aload_n hg dX5_advance_8 rfl ?_
      refine x_getI hg dX5_advance_9 fl_X5_115 (by decide) rfl ?_
      refine x_aload_n hg dX5_advance_12 rfl ?_
      refine x_getR (j9 := 2) hg dX5_advance_13 fl_X5_9 (by decide) rfl rfl (by decide) ?_
      refine x_getI hg dX5_advance_16 fl_X5_118 (by decide) rfl ?_
      refine x_icmp_ge (tgt := 52) hg dX5_advance_19 (by decide) (by omega) (by omega) (fun c19 => ?_) (fun c19 => ?_)
      · skip
        exact j52
      · skip
        refine x_aload_n hg dX5_advance_22 rfl ?_
        refine x_getR (j9 := 2) hg dX5_advance_23 fl_X5_9 (by decide) rfl rfl (by decide) ?_
        refine x_aload_n hg dX5_advance_26 rfl ?_
        refine x_getI hg dX5_advance_27 fl_X5_115 (by decide) rfl ?_
        refine x_cVi hg he [_] [] dX5_advance_30 mv_X5_123 (c_X7_byteAt l b D cy hIT (by omega)) (by decide) rfl rfl (Nat.le_of_ble_eq_true rfl) (by decide) (by decide) (fun r30 M30 q30 => ?_)
        obtain ⟨h30, e30⟩ := q30
        replace h30 := h30.symm
        subst h30
        have hby30 : inR r30 := by rcases e30 with ⟨-, e⟩ | ⟨-, e⟩; (have := hIT.2 (M 4 2).toNat; omega); omega
        refine x_cSi hg he [_] [] dX5_advance_33 ms_X5_126 (c_X5_isBlank l b D cy hby30) rfl rfl (Nat.le_of_ble_eq_true rfl) (by decide) (by decide) (fun r33 M33 q33 => ?_)
        obtain ⟨h33, e33⟩ := q33
        replace h33 := h33.symm
        subst h33
        refine x_if_eq (tgt := 52) hg dX5_advance_36 (by decide) (by omega) (fun c36 => ?_) (fun c36 => ?_)
        · skip
          exact j52
        · skip
          refine x_aload_n hg dX5_advance_39 rfl ?_
          refine x_dup hg dX5_advance_40 rfl ?_
          refine x_getI hg dX5_advance_41 fl_X5_115 (by decide) rfl ?_
          refine x_iconst hg dX5_advance_44 ?_
          refine x_iadd hg dX5_advance_45 ?_
          refine x_putI hg dX5_advance_46 fl_X5_115 ft_5_2 (by decide) rfl ?_
          refine x_goto (tgt := 8) hg dX5_advance_49 (by decide) ?_
          exact ih _ (IT_D (frD_mu (fun a _ => rfl)) hIT) (by simp (disch := omega) only [mu_s, mu_nf, mu_nc]; omega) (by simp (disch := omega) only [mu_s, mu_nf, mu_nc]; exact h4) (by simp (disch := omega) only [mu_s, mu_nf, mu_nc]; exact h5) (by simp (disch := omega) only [mu_s, mu_nf, mu_nc]; omega) (frD_mu hf)
  refine x_aload_n hg dX5_advance_0 rfl ?_
  refine x_aload_n hg dX5_advance_1 rfl ?_
  refine x_getI hg dX5_advance_2 fl_X5_27 (by decide) rfl ?_
  refine x_putI hg dX5_advance_5 fl_X5_115 ft_5_2 (by decide) rfl ?_
  exact loop 1001 _ (IT_D (frD_mu (fun a _ => rfl)) hJ.1) (by simp (disch := omega) only [mu_s, mu_nf, mu_nc]; omega) (by simp (disch := omega) only [mu_s, mu_nf, mu_nc]; exact hJ.2.2.1) (by simp (disch := omega) only [mu_s, mu_nf, mu_nc]; exact hJ.2.2.2) (by simp (disch := omega) only [mu_s, mu_nf, mu_nc]; have := hJ.1.1; omega) (frD_mu (fun a _ => rfl))

theorem dX5_refuse_0 : decode cX5_refuse 0 = .ok (.aload_n 0, 1) := by decide +kernel
theorem dX5_refuse_1 : decode cX5_refuse 1 = .ok (.iload_n 1, 1) := by decide +kernel
theorem dX5_refuse_2 : decode cX5_refuse 2 = .ok (.putfield 24, 3) := by decide +kernel
theorem dX5_refuse_5 : decode cX5_refuse 5 = .ok (.aload_n 0, 1) := by decide +kernel
theorem dX5_refuse_6 : decode cX5_refuse 6 = .ok (.aload_n 0, 1) := by decide +kernel
theorem dX5_refuse_7 : decode cX5_refuse 7 = .ok (.getfield 115, 3) := by decide +kernel
theorem dX5_refuse_10 : decode cX5_refuse 10 = .ok (.putfield 15, 3) := by decide +kernel
theorem dX5_refuse_13 : decode cX5_refuse 13 = .ok (.iconst 0, 1) := by decide +kernel
theorem dX5_refuse_14 : decode cX5_refuse 14 = .ok (.ireturn, 1) := by decide +kernel
set_option maxHeartbeats 4000000 in
set_option maxRecDepth 20000 in
theorem c_X5_refuse (l : Launch) (b : Nat) (D : va_G) (cy : Nat → ClassId) {tt : Nat} {M : xMm} {z : Int} (hJ : JD M) (hz : inR z) : xC l b D cy yX5_refuse cX5_refuse 2 (some .boolean) ({ frames := 0, cells := 0, slots := 0, locals := 0 }) [xr 4, xi z] 209 M (RS tt) (xPi 209 (RS tt) (fun r M' => r = 0 ∧ JD M' ∧ frD M' M)) := by
  refine x_met (by decide) (Nat.le_of_ble_eq_true rfl) (fun g hg hr he => ?_)
  refine x_canon (ls' := [(0, _), (1, _)]) rfl ?_
  refine x_aload_n hg dX5_refuse_0 rfl ?_
  refine x_iload_n hg dX5_refuse_1 rfl ?_
  refine x_putI hg dX5_refuse_2 fl_X5_24 ft_5_6 (by decide) rfl ?_
  refine x_aload_n hg dX5_refuse_5 rfl ?_
  refine x_aload_n hg dX5_refuse_6 rfl ?_
  refine x_getI hg dX5_refuse_7 fl_X5_115 (by decide) rfl ?_
  try simp (disch := omega) only [mu_s, mu_nf, mu_nc]
  refine x_putI hg dX5_refuse_10 fl_X5_15 ft_5_7 (by decide) rfl ?_
  refine x_iconst hg dX5_refuse_13 ?_
  refine x_iret hg hr (Or.inr ⟨rfl, by first | exact Or.inl rfl | exact Or.inr rfl | omega⟩) dX5_refuse_14 (Nat.le_refl _) (Nat.le_refl _) ?_
  refine ⟨rfl, rfl, _, rfl, rfl, ⟨IT_D (frD_mu (frD_mu (fun a _ => rfl))) hJ.1, ?_⟩, frD_mu (frD_mu (fun a _ => rfl))⟩
  simp (disch := omega) only [mu_s, mu_nf, mu_nc]
  exact hJ.2

theorem dX5_refuseToken_0 : decode cX5_refuseToken 0 = .ok (.aload_n 0, 1) := by decide +kernel
theorem dX5_refuseToken_1 : decode cX5_refuseToken 1 = .ok (.aload_n 0, 1) := by decide +kernel
theorem dX5_refuseToken_2 : decode cX5_refuseToken 2 = .ok (.getfield 33, 3) := by decide +kernel
theorem dX5_refuseToken_5 : decode cX5_refuseToken 5 = .ok (.iconst 1, 1) := by decide +kernel
theorem dX5_refuseToken_6 : decode cX5_refuseToken 6 = .ok (.if_icmp .ne 7, 3) := by decide +kernel
theorem dX5_refuseToken_9 : decode cX5_refuseToken 9 = .ok (.iconst 1, 1) := by decide +kernel
theorem dX5_refuseToken_10 : decode cX5_refuseToken 10 = .ok (.goto 4, 3) := by decide +kernel
theorem dX5_refuseToken_13 : decode cX5_refuseToken 13 = .ok (.iconst 2, 1) := by decide +kernel
theorem dX5_refuseToken_14 : decode cX5_refuseToken 14 = .ok (.invokevirtual 86, 3) := by decide +kernel
theorem dX5_refuseToken_17 : decode cX5_refuseToken 17 = .ok (.ireturn, 1) := by decide +kernel
set_option maxHeartbeats 4000000 in
set_option maxRecDepth 20000 in
theorem c_X5_refuseToken (l : Launch) (b : Nat) (D : va_G) (cy : Nat → ClassId) {tt : Nat} {M : xMm}  (hJ : JD M) : xC l b D cy yX5_refuseToken cX5_refuseToken 1 (some .boolean) ({ frames := 1, cells := 0, slots := 0, locals := 21 }) [xr 4] 209 M (RS tt) (xPi 209 (RS tt) (fun r M' => r = 0 ∧ JD M' ∧ frD M' M)) := by
  refine x_met (by decide) (Nat.le_of_ble_eq_true rfl) (fun g hg hr he => ?_)
  have hk := hJ.2.2.2.1
  refine x_canon (ls' := [(0, _)]) rfl ?_
  refine x_aload_n hg dX5_refuseToken_0 rfl ?_
  refine x_aload_n hg dX5_refuseToken_1 rfl ?_
  refine x_getI hg dX5_refuseToken_2 fl_X5_33 (by decide) rfl ?_
  refine x_iconst hg dX5_refuseToken_5 ?_
  refine x_icmp_ne (tgt := 13) hg dX5_refuseToken_6 (by decide) (by omega) (by omega) (fun c6 => ?_) (fun c6 => ?_)
  · skip
    refine x_iconst hg dX5_refuseToken_13 ?_
    refine x_cVi hg he [_] [] dX5_refuseToken_14 mv_X5_86 (c_X5_refuse l b D cy hJ (by omega)) (by decide) rfl rfl (Nat.le_of_ble_eq_true rfl) (by decide) (by decide) (fun r14 M14 q14 => ?_)
    obtain ⟨hr14, hJ14, hf14⟩ := q14
    refine x_iret hg hr (Or.inr ⟨rfl, (by omega)⟩) dX5_refuseToken_17 (Nat.le_refl _) (Nat.le_refl _) ?_
    exact ⟨rfl, rfl, _, rfl, hr14, hJ14, hf14⟩
  · skip
    refine x_iconst hg dX5_refuseToken_9 ?_
    refine x_goto (tgt := 14) hg dX5_refuseToken_10 (by decide) ?_
    refine x_cVi hg he [_] [] dX5_refuseToken_14 mv_X5_86 (c_X5_refuse l b D cy hJ (by omega)) (by decide) rfl rfl (Nat.le_of_ble_eq_true rfl) (by decide) (by decide) (fun r14 M14 q14 => ?_)
    obtain ⟨hr14, hJ14, hf14⟩ := q14
    refine x_iret hg hr (Or.inr ⟨rfl, (by omega)⟩) dX5_refuseToken_17 (Nat.le_refl _) (Nat.le_refl _) ?_
    exact ⟨rfl, rfl, _, rfl, hr14, hJ14, hf14⟩

theorem dX5_takeWord_0 : decode cX5_takeWord 0 = .ok (.aload_n 0, 1) := by decide +kernel
theorem dX5_takeWord_1 : decode cX5_takeWord 1 = .ok (.getfield 33, 3) := by decide +kernel
theorem dX5_takeWord_4 : decode cX5_takeWord 4 = .ok (.iconst 2, 1) := by decide +kernel
theorem dX5_takeWord_5 : decode cX5_takeWord 5 = .ok (.if_icmp .ne 12, 3) := by decide +kernel
theorem dX5_takeWord_8 : decode cX5_takeWord 8 = .ok (.aload_n 0, 1) := by decide +kernel
theorem dX5_takeWord_9 : decode cX5_takeWord 9 = .ok (.getfield 79, 3) := by decide +kernel
theorem dX5_takeWord_12 : decode cX5_takeWord 12 = .ok (.lload_n 1, 1) := by decide +kernel
theorem dX5_takeWord_13 : decode cX5_takeWord 13 = .ok (.lcmp, 1) := by decide +kernel
theorem dX5_takeWord_14 : decode cX5_takeWord 14 = .ok (.ifCond .eq 8, 3) := by decide +kernel
theorem dX5_takeWord_17 : decode cX5_takeWord 17 = .ok (.aload_n 0, 1) := by decide +kernel
theorem dX5_takeWord_18 : decode cX5_takeWord 18 = .ok (.invokevirtual 48, 3) := by decide +kernel
theorem dX5_takeWord_21 : decode cX5_takeWord 21 = .ok (.ireturn, 1) := by decide +kernel
theorem dX5_takeWord_22 : decode cX5_takeWord 22 = .ok (.aload_n 0, 1) := by decide +kernel
theorem dX5_takeWord_23 : decode cX5_takeWord 23 = .ok (.invokevirtual 30, 3) := by decide +kernel
theorem dX5_takeWord_26 : decode cX5_takeWord 26 = .ok (.iconst 1, 1) := by decide +kernel
theorem dX5_takeWord_27 : decode cX5_takeWord 27 = .ok (.ireturn, 1) := by decide +kernel
set_option maxHeartbeats 4000000 in
set_option maxRecDepth 20000 in
theorem c_X5_takeWord (l : Launch) (b : Nat) (D : va_G) (cy : Nat → ClassId) {tt : Nat} {M : xMm} {z : Int} (hJ : JD M) (hI : IR M) (hz : inL z) : xC l b D cy yX5_takeWord cX5_takeWord 3 (some .boolean) ({ frames := 3, cells := 0, slots := 0, locals := 63 }) [xr 4, xl z] 209 M (RS tt) (xPi 209 (RS tt) (fun r M' => (r = 0 ∨ r = 1) ∧ JD M' ∧ IR M' ∧ frT M' M)) := by
  refine x_met (by decide) (Nat.le_of_ble_eq_true rfl) (fun g hg hr he => ?_)
  have hk := hJ.2.2.2.1
  have hw := hJ.2.2.2.2.1
  have hnu := hJ.2.2.2.2.2.1
  have hn3 := hJ.2.2.2.2.2.2
  refine x_canon (ls' := [(0, _), (1, _)]) rfl ?_
  refine x_aload_n hg dX5_takeWord_0 rfl ?_
  refine x_getI hg dX5_takeWord_1 fl_X5_33 (by decide) rfl ?_
  refine x_iconst hg dX5_takeWord_4 ?_
  refine x_icmp_ne (tgt := 17) hg dX5_takeWord_5 (by decide) (by omega) (by omega) (fun c5 => ?_) (fun c5 => ?_)
  · skip
    refine x_aload_n hg dX5_takeWord_17 rfl ?_
    refine x_cVi hg he [] [] dX5_takeWord_18 mv_X5_48 (c_X5_refuseToken l b D cy hJ) (by decide) rfl rfl (Nat.le_of_ble_eq_true rfl) (by decide) (by decide) (fun r18 M18 q18 => ?_)
    obtain ⟨hr18, hJ18, hf18⟩ := q18
    refine x_iret hg hr (Or.inr ⟨rfl, (by omega)⟩) dX5_takeWord_21 (Nat.le_refl _) (Nat.le_refl _) ?_
    first | exact ⟨rfl, rfl, _, rfl, by omega, hJ18, IR_D hf18 hI, frT_D hf18⟩ | exact ⟨rfl, rfl, _, rfl, by omega, hJ23, IR_D hf23 hI, frT_D hf23⟩
  · skip
    refine x_aload_n hg dX5_takeWord_8 rfl ?_
    refine x_getL hg dX5_takeWord_9 fl_X5_79 (by decide) rfl ?_
    refine x_lload_n hg dX5_takeWord_12 rfl ?_
    refine x_lcmp hg dX5_takeWord_13 (by exact hw) (by exact hz) ?_
    refine x_if_eq (tgt := 22) hg dX5_takeWord_14 (by decide) (by split <;> (try split) <;> omega) (fun c14 => ?_) (fun c14 => ?_)
    · skip
      refine x_aload_n hg dX5_takeWord_22 rfl ?_
      refine x_cVv hg he [] [] dX5_takeWord_23 mv_X5_30 (c_X5_advance l b D cy (JD_B hJ)) (by decide) rfl rfl (Nat.le_of_ble_eq_true rfl) (by decide) (by decide) (fun M23 q23 => ?_)
      obtain ⟨hJ23, hf23⟩ := q23
      refine x_iconst hg dX5_takeWord_26 ?_
      refine x_iret hg hr (Or.inr ⟨rfl, by first | exact Or.inl rfl | exact Or.inr rfl | omega⟩) dX5_takeWord_27 (Nat.le_refl _) (Nat.le_refl _) ?_
      first | exact ⟨rfl, rfl, _, rfl, by omega, hJ18, IR_D hf18 hI, frT_D hf18⟩ | exact ⟨rfl, rfl, _, rfl, by omega, hJ23, IR_D hf23 hI, frT_D hf23⟩
    · skip
      refine x_aload_n hg dX5_takeWord_17 rfl ?_
      refine x_cVi hg he [] [] dX5_takeWord_18 mv_X5_48 (c_X5_refuseToken l b D cy hJ) (by decide) rfl rfl (Nat.le_of_ble_eq_true rfl) (by decide) (by decide) (fun r18 M18 q18 => ?_)
      obtain ⟨hr18, hJ18, hf18⟩ := q18
      refine x_iret hg hr (Or.inr ⟨rfl, (by omega)⟩) dX5_takeWord_21 (Nat.le_refl _) (Nat.le_refl _) ?_
      first | exact ⟨rfl, rfl, _, rfl, by omega, hJ18, IR_D hf18 hI, frT_D hf18⟩ | exact ⟨rfl, rfl, _, rfl, by omega, hJ23, IR_D hf23 hI, frT_D hf23⟩

theorem dX5_takeSign_0 : decode cX5_takeSign 0 = .ok (.aload_n 0, 1) := by decide +kernel
theorem dX5_takeSign_1 : decode cX5_takeSign 1 = .ok (.getfield 33, 3) := by decide +kernel
theorem dX5_takeSign_4 : decode cX5_takeSign 4 = .ok (.iload_n 1, 1) := by decide +kernel
theorem dX5_takeSign_5 : decode cX5_takeSign 5 = .ok (.if_icmp .eq 8, 3) := by decide +kernel
theorem dX5_takeSign_8 : decode cX5_takeSign 8 = .ok (.aload_n 0, 1) := by decide +kernel
theorem dX5_takeSign_9 : decode cX5_takeSign 9 = .ok (.invokevirtual 48, 3) := by decide +kernel
theorem dX5_takeSign_12 : decode cX5_takeSign 12 = .ok (.ireturn, 1) := by decide +kernel
theorem dX5_takeSign_13 : decode cX5_takeSign 13 = .ok (.aload_n 0, 1) := by decide +kernel
theorem dX5_takeSign_14 : decode cX5_takeSign 14 = .ok (.invokevirtual 30, 3) := by decide +kernel
theorem dX5_takeSign_17 : decode cX5_takeSign 17 = .ok (.iconst 1, 1) := by decide +kernel
theorem dX5_takeSign_18 : decode cX5_takeSign 18 = .ok (.ireturn, 1) := by decide +kernel
set_option maxHeartbeats 4000000 in
set_option maxRecDepth 20000 in
theorem c_X5_takeSign (l : Launch) (b : Nat) (D : va_G) (cy : Nat → ClassId) {tt : Nat} {M : xMm} {z : Int} (hJ : JD M) (hI : IR M) (hz : inR z) : xC l b D cy yX5_takeSign cX5_takeSign 2 (some .boolean) ({ frames := 3, cells := 0, slots := 0, locals := 63 }) [xr 4, xi z] 209 M (RS tt) (xPi 209 (RS tt) (fun r M' => (r = 0 ∨ r = 1) ∧ JD M' ∧ IR M' ∧ frT M' M)) := by
  refine x_met (by decide) (Nat.le_of_ble_eq_true rfl) (fun g hg hr he => ?_)
  have hk := hJ.2.2.2.1
  have hw := hJ.2.2.2.2.1
  have hnu := hJ.2.2.2.2.2.1
  have hn3 := hJ.2.2.2.2.2.2
  refine x_canon (ls' := [(0, _), (1, _)]) rfl ?_
  refine x_aload_n hg dX5_takeSign_0 rfl ?_
  refine x_getI hg dX5_takeSign_1 fl_X5_33 (by decide) rfl ?_
  refine x_iload_n hg dX5_takeSign_4 rfl ?_
  refine x_icmp_eq (tgt := 13) hg dX5_takeSign_5 (by decide) (by omega) (by omega) (fun c5 => ?_) (fun c5 => ?_)
  · skip
    refine x_aload_n hg dX5_takeSign_13 rfl ?_
    refine x_cVv hg he [] [] dX5_takeSign_14 mv_X5_30 (c_X5_advance l b D cy (JD_B hJ)) (by decide) rfl rfl (Nat.le_of_ble_eq_true rfl) (by decide) (by decide) (fun M14 q14 => ?_)
    obtain ⟨hJ14, hf14⟩ := q14
    refine x_iconst hg dX5_takeSign_17 ?_
    refine x_iret hg hr (Or.inr ⟨rfl, by first | exact Or.inl rfl | exact Or.inr rfl | omega⟩) dX5_takeSign_18 (Nat.le_refl _) (Nat.le_refl _) ?_
    first | exact ⟨rfl, rfl, _, rfl, by omega, hJ9, IR_D hf9 hI, frT_D hf9⟩ | exact ⟨rfl, rfl, _, rfl, by omega, hJ14, IR_D hf14 hI, frT_D hf14⟩
  · skip
    refine x_aload_n hg dX5_takeSign_8 rfl ?_
    refine x_cVi hg he [] [] dX5_takeSign_9 mv_X5_48 (c_X5_refuseToken l b D cy hJ) (by decide) rfl rfl (Nat.le_of_ble_eq_true rfl) (by decide) (by decide) (fun r9 M9 q9 => ?_)
    obtain ⟨hr9, hJ9, hf9⟩ := q9
    refine x_iret hg hr (Or.inr ⟨rfl, (by omega)⟩) dX5_takeSign_12 (Nat.le_refl _) (Nat.le_refl _) ?_
    first | exact ⟨rfl, rfl, _, rfl, by omega, hJ9, IR_D hf9 hI, frT_D hf9⟩ | exact ⟨rfl, rfl, _, rfl, by omega, hJ14, IR_D hf14 hI, frT_D hf14⟩

theorem dX5_takeName_0 : decode cX5_takeName 0 = .ok (.aload_n 0, 1) := by decide +kernel
theorem dX5_takeName_1 : decode cX5_takeName 1 = .ok (.getfield 33, 3) := by decide +kernel
theorem dX5_takeName_4 : decode cX5_takeName 4 = .ok (.iconst 2, 1) := by decide +kernel
theorem dX5_takeName_5 : decode cX5_takeName 5 = .ok (.if_icmp .ne 36, 3) := by decide +kernel
theorem dX5_takeName_8 : decode cX5_takeName 8 = .ok (.aload_n 0, 1) := by decide +kernel
theorem dX5_takeName_9 : decode cX5_takeName 9 = .ok (.getfield 79, 3) := by decide +kernel
theorem dX5_takeName_12 : decode cX5_takeName 12 = .ok (.ldc2_w 52, 3) := by decide +kernel
theorem dX5_takeName_15 : decode cX5_takeName 15 = .ok (.lcmp, 1) := by decide +kernel
theorem dX5_takeName_16 : decode cX5_takeName 16 = .ok (.ifCond .eq 25, 3) := by decide +kernel
theorem dX5_takeName_19 : decode cX5_takeName 19 = .ok (.aload_n 0, 1) := by decide +kernel
theorem dX5_takeName_20 : decode cX5_takeName 20 = .ok (.getfield 79, 3) := by decide +kernel
theorem dX5_takeName_23 : decode cX5_takeName 23 = .ok (.ldc2_w 61, 3) := by decide +kernel
theorem dX5_takeName_26 : decode cX5_takeName 26 = .ok (.lcmp, 1) := by decide +kernel
theorem dX5_takeName_27 : decode cX5_takeName 27 = .ok (.ifCond .eq 14, 3) := by decide +kernel
theorem dX5_takeName_30 : decode cX5_takeName 30 = .ok (.aload_n 0, 1) := by decide +kernel
theorem dX5_takeName_31 : decode cX5_takeName 31 = .ok (.getfield 79, 3) := by decide +kernel
theorem dX5_takeName_34 : decode cX5_takeName 34 = .ok (.ldc2_w 74, 3) := by decide +kernel
theorem dX5_takeName_37 : decode cX5_takeName 37 = .ok (.lcmp, 1) := by decide +kernel
theorem dX5_takeName_38 : decode cX5_takeName 38 = .ok (.ifCond .ne 8, 3) := by decide +kernel
theorem dX5_takeName_41 : decode cX5_takeName 41 = .ok (.aload_n 0, 1) := by decide +kernel
theorem dX5_takeName_42 : decode cX5_takeName 42 = .ok (.invokevirtual 48, 3) := by decide +kernel
theorem dX5_takeName_45 : decode cX5_takeName 45 = .ok (.ireturn, 1) := by decide +kernel
theorem dX5_takeName_46 : decode cX5_takeName 46 = .ok (.aload_n 1, 1) := by decide +kernel
theorem dX5_takeName_47 : decode cX5_takeName 47 = .ok (.aload_n 0, 1) := by decide +kernel
theorem dX5_takeName_48 : decode cX5_takeName 48 = .ok (.getfield 79, 3) := by decide +kernel
theorem dX5_takeName_51 : decode cX5_takeName 51 = .ok (.invokevirtual 83, 3) := by decide +kernel
theorem dX5_takeName_54 : decode cX5_takeName 54 = .ok (.ifCond .eq 9, 3) := by decide +kernel
theorem dX5_takeName_57 : decode cX5_takeName 57 = .ok (.aload_n 0, 1) := by decide +kernel
theorem dX5_takeName_58 : decode cX5_takeName 58 = .ok (.iconst 3, 1) := by decide +kernel
theorem dX5_takeName_59 : decode cX5_takeName 59 = .ok (.invokevirtual 86, 3) := by decide +kernel
theorem dX5_takeName_62 : decode cX5_takeName 62 = .ok (.ireturn, 1) := by decide +kernel
theorem dX5_takeName_63 : decode cX5_takeName 63 = .ok (.aload_n 2, 1) := by decide +kernel
theorem dX5_takeName_64 : decode cX5_takeName 64 = .ok (.aload_n 0, 1) := by decide +kernel
theorem dX5_takeName_65 : decode cX5_takeName 65 = .ok (.getfield 79, 3) := by decide +kernel
theorem dX5_takeName_68 : decode cX5_takeName 68 = .ok (.invokevirtual 89, 3) := by decide +kernel
theorem dX5_takeName_71 : decode cX5_takeName 71 = .ok (.aload_n 0, 1) := by decide +kernel
theorem dX5_takeName_72 : decode cX5_takeName 72 = .ok (.invokevirtual 30, 3) := by decide +kernel
theorem dX5_takeName_75 : decode cX5_takeName 75 = .ok (.iconst 1, 1) := by decide +kernel
theorem dX5_takeName_76 : decode cX5_takeName 76 = .ok (.ireturn, 1) := by decide +kernel
set_option maxHeartbeats 4000000 in
set_option maxRecDepth 20000 in
theorem c_X5_takeName (l : Launch) (b : Nat) (D : va_G) (cy : Nat → ClassId) {tt : Nat} {M : xMm} {q i : Nat} (hJ : JD M) (hI : IR M) (hq : xTt q) (hi : xTr i) : xC l b D cy yX5_takeName cX5_takeName 3 (some .boolean) ({ frames := 3, cells := 0, slots := 0, locals := 63 }) [xr 4, xr q, xr i] 209 M (RS tt) (xPi 209 (RS tt) (fun r M' => (r = 0 ∨ r = 1) ∧ JD M' ∧ IR M' ∧ frT M' M)) := by
  refine x_met (by decide) (Nat.le_of_ble_eq_true rfl) (fun g hg hr he => ?_)
  have hk := hJ.2.2.2.1
  have hw := hJ.2.2.2.2.1
  have hnu := hJ.2.2.2.2.2.1
  have hn3 := hJ.2.2.2.2.2.2
  refine x_canon (ls' := [(0, _), (1, _), (2, _)]) rfl ?_
  refine x_aload_n hg dX5_takeName_0 rfl ?_
  refine x_getI hg dX5_takeName_1 fl_X5_33 (by decide) rfl ?_
  refine x_iconst hg dX5_takeName_4 ?_
  refine x_icmp_ne (tgt := 41) hg dX5_takeName_5 (by decide) (by omega) (by omega) (fun c5 => ?_) (fun c5 => ?_)
  · skip
    refine x_aload_n hg dX5_takeName_41 rfl ?_
    refine x_cVi hg he [] [] dX5_takeName_42 mv_X5_48 (c_X5_refuseToken l b D cy hJ) (by decide) rfl rfl (Nat.le_of_ble_eq_true rfl) (by decide) (by decide) (fun r42 M42 q42 => ?_)
    obtain ⟨hr42, hJ42, hf42⟩ := q42
    refine x_iret hg hr (Or.inr ⟨rfl, (by omega)⟩) dX5_takeName_45 (Nat.le_refl _) (Nat.le_refl _) ?_
    first | exact ⟨rfl, rfl, _, rfl, by omega, hJ42, IR_D hf42 hI, frT_D hf42⟩ | exact ⟨rfl, rfl, _, rfl, by omega, hJ59, IR_D hf59 hI, frT_D hf59⟩
  · skip
    refine x_aload_n hg dX5_takeName_8 rfl ?_
    refine x_getL hg dX5_takeName_9 fl_X5_79 (by decide) rfl ?_
    refine x_ldc2 hg 500135192942 dX5_takeName_12 (List.mem_of_getElem? (i := 499) (by decide +kernel)) ?_
    refine x_lcmp hg dX5_takeName_15 (by exact hw) (by decide) ?_
    refine x_if_eq (tgt := 41) hg dX5_takeName_16 (by decide) (by split <;> (try split) <;> omega) (fun c16 => ?_) (fun c16 => ?_)
    · skip
      refine x_aload_n hg dX5_takeName_41 rfl ?_
      refine x_cVi hg he [] [] dX5_takeName_42 mv_X5_48 (c_X5_refuseToken l b D cy hJ) (by decide) rfl rfl (Nat.le_of_ble_eq_true rfl) (by decide) (by decide) (fun r42 M42 q42 => ?_)
      obtain ⟨hr42, hJ42, hf42⟩ := q42
      refine x_iret hg hr (Or.inr ⟨rfl, (by omega)⟩) dX5_takeName_45 (Nat.le_refl _) (Nat.le_refl _) ?_
      first | exact ⟨rfl, rfl, _, rfl, by omega, hJ42, IR_D hf42 hI, frT_D hf42⟩ | exact ⟨rfl, rfl, _, rfl, by omega, hJ59, IR_D hf59 hI, frT_D hf59⟩
    · skip
      refine x_aload_n hg dX5_takeName_19 rfl ?_
      refine x_getL hg dX5_takeName_20 fl_X5_79 (by decide) rfl ?_
      refine x_ldc2 hg 27973166868030835 dX5_takeName_23 (List.mem_of_getElem? (i := 516) (by decide +kernel)) ?_
      refine x_lcmp hg dX5_takeName_26 (by exact hw) (by decide) ?_
      refine x_if_eq (tgt := 41) hg dX5_takeName_27 (by decide) (by split <;> (try split) <;> omega) (fun c27 => ?_) (fun c27 => ?_)
      · skip
        refine x_aload_n hg dX5_takeName_41 rfl ?_
        refine x_cVi hg he [] [] dX5_takeName_42 mv_X5_48 (c_X5_refuseToken l b D cy hJ) (by decide) rfl rfl (Nat.le_of_ble_eq_true rfl) (by decide) (by decide) (fun r42 M42 q42 => ?_)
        obtain ⟨hr42, hJ42, hf42⟩ := q42
        refine x_iret hg hr (Or.inr ⟨rfl, (by omega)⟩) dX5_takeName_45 (Nat.le_refl _) (Nat.le_refl _) ?_
        first | exact ⟨rfl, rfl, _, rfl, by omega, hJ42, IR_D hf42 hI, frT_D hf42⟩ | exact ⟨rfl, rfl, _, rfl, by omega, hJ59, IR_D hf59 hI, frT_D hf59⟩
      · skip
        refine x_aload_n hg dX5_takeName_30 rfl ?_
        refine x_getL hg dX5_takeName_31 fl_X5_79 (by decide) rfl ?_
        refine x_ldc2 hg 24948 dX5_takeName_34 (List.mem_of_getElem? (i := 517) (by decide +kernel)) ?_
        refine x_lcmp hg dX5_takeName_37 (by exact hw) (by decide) ?_
        refine x_if_ne (tgt := 46) hg dX5_takeName_38 (by decide) (by split <;> (try split) <;> omega) (fun c38 => ?_) (fun c38 => ?_)
        · skip
          refine x_aload_n hg dX5_takeName_46 rfl ?_
          refine x_aload_n hg dX5_takeName_47 rfl ?_
          refine x_getL hg dX5_takeName_48 fl_X5_79 (by decide) rfl ?_
          refine x_cVi hg he [_] [] dX5_takeName_51 mv_X5_83 (c_X8_hasName l b D cy hI hq hw) (oO_tt hq) rfl rfl (Nat.le_of_ble_eq_true rfl) (by decide) (by decide) (fun r51 M51 q51 => ?_)
          obtain ⟨h51, e51⟩ := q51
          replace h51 := h51.symm
          subst h51
          refine x_if_eq (tgt := 63) hg dX5_takeName_54 (by decide) (by omega) (fun c54 => ?_) (fun c54 => ?_)
          · skip
            refine x_aload_n hg dX5_takeName_63 rfl ?_
            refine x_aload_n hg dX5_takeName_64 rfl ?_
            refine x_getL hg dX5_takeName_65 fl_X5_79 (by decide) rfl ?_
            refine x_cVv hg he [_] [] dX5_takeName_68 mv_X5_89 (c_X9_begin l b D cy hi) (oO_train hi) rfl rfl (Nat.le_of_ble_eq_true rfl) (by decide) (by decide) (fun M68 q68 => ?_)
            subst q68
            refine x_aload_n hg dX5_takeName_71 rfl ?_
            refine x_cVv hg he [] [] dX5_takeName_72 mv_X5_30 (c_X5_advance l b D cy (JD_B (JD_congr hJ (fun a ha => by funext c; rw [mu_nc (by omega), mu_nc (by omega), mu_nc (by omega), mu_nc (by omega)])))) (by decide) rfl rfl (Nat.le_of_ble_eq_true rfl) (by decide) (by decide) (fun M72 q72 => ?_)
            obtain ⟨hJ72, hf72⟩ := q72
            refine x_iconst hg dX5_takeName_75 ?_
            refine x_iret hg hr (Or.inr ⟨rfl, by first | exact Or.inl rfl | exact Or.inr rfl | omega⟩) dX5_takeName_76 (Nat.le_refl _) (Nat.le_refl _) ?_
            refine ⟨rfl, rfl, _, rfl, by omega, hJ72, IR_D hf72 (IR_tr (IR_tr (IR_tr (IR_tr hI hi (Or.inr (Or.inr (Or.inr ⟨rfl, hw⟩)))) hi (Or.inl ⟨rfl, by decide, by decide⟩)) hi (Or.inr (Or.inl ⟨rfl, by decide, by decide⟩))) hi (Or.inr (Or.inr (Or.inl ⟨rfl, by decide, by decide⟩)))), frT_tr (frT_D hf72) (frT_mu (frT_mu (frT_mu (frT_mu (frT_rf M) (by omega)) (by omega)) (by omega)) (by omega))⟩
          · skip
            refine x_aload_n hg dX5_takeName_57 rfl ?_
            refine x_iconst hg dX5_takeName_58 ?_
            refine x_cVi hg he [_] [] dX5_takeName_59 mv_X5_86 (c_X5_refuse l b D cy hJ (by omega)) (by decide) rfl rfl (Nat.le_of_ble_eq_true rfl) (by decide) (by decide) (fun r59 M59 q59 => ?_)
            obtain ⟨hr59, hJ59, hf59⟩ := q59
            refine x_iret hg hr (Or.inr ⟨rfl, (by omega)⟩) dX5_takeName_62 (Nat.le_refl _) (Nat.le_refl _) ?_
            first | exact ⟨rfl, rfl, _, rfl, by omega, hJ42, IR_D hf42 hI, frT_D hf42⟩ | exact ⟨rfl, rfl, _, rfl, by omega, hJ59, IR_D hf59 hI, frT_D hf59⟩
        · skip
          refine x_aload_n hg dX5_takeName_41 rfl ?_
          refine x_cVi hg he [] [] dX5_takeName_42 mv_X5_48 (c_X5_refuseToken l b D cy hJ) (by decide) rfl rfl (Nat.le_of_ble_eq_true rfl) (by decide) (by decide) (fun r42 M42 q42 => ?_)
          obtain ⟨hr42, hJ42, hf42⟩ := q42
          refine x_iret hg hr (Or.inr ⟨rfl, (by omega)⟩) dX5_takeName_45 (Nat.le_refl _) (Nat.le_refl _) ?_
          first | exact ⟨rfl, rfl, _, rfl, by omega, hJ42, IR_D hf42 hI, frT_D hf42⟩ | exact ⟨rfl, rfl, _, rfl, by omega, hJ59, IR_D hf59 hI, frT_D hf59⟩

theorem dX5_takeCarries_0 : decode cX5_takeCarries 0 = .ok (.aload_n 0, 1) := by decide +kernel
theorem dX5_takeCarries_1 : decode cX5_takeCarries 1 = .ok (.getfield 33, 3) := by decide +kernel
theorem dX5_takeCarries_4 : decode cX5_takeCarries 4 = .ok (.iconst 3, 1) := by decide +kernel
theorem dX5_takeCarries_5 : decode cX5_takeCarries 5 = .ok (.if_icmp .eq 8, 3) := by decide +kernel
theorem dX5_takeCarries_8 : decode cX5_takeCarries 8 = .ok (.aload_n 0, 1) := by decide +kernel
theorem dX5_takeCarries_9 : decode cX5_takeCarries 9 = .ok (.invokevirtual 48, 3) := by decide +kernel
theorem dX5_takeCarries_12 : decode cX5_takeCarries 12 = .ok (.ireturn, 1) := by decide +kernel
theorem dX5_takeCarries_13 : decode cX5_takeCarries 13 = .ok (.aload_n 0, 1) := by decide +kernel
theorem dX5_takeCarries_14 : decode cX5_takeCarries 14 = .ok (.getfield 95, 3) := by decide +kernel
theorem dX5_takeCarries_17 : decode cX5_takeCarries 17 = .ok (.bipush 99, 2) := by decide +kernel
theorem dX5_takeCarries_19 : decode cX5_takeCarries 19 = .ok (.if_icmp .le 9, 3) := by decide +kernel
theorem dX5_takeCarries_22 : decode cX5_takeCarries 22 = .ok (.aload_n 0, 1) := by decide +kernel
theorem dX5_takeCarries_23 : decode cX5_takeCarries 23 = .ok (.iconst 4, 1) := by decide +kernel
theorem dX5_takeCarries_24 : decode cX5_takeCarries 24 = .ok (.invokevirtual 86, 3) := by decide +kernel
theorem dX5_takeCarries_27 : decode cX5_takeCarries 27 = .ok (.ireturn, 1) := by decide +kernel
theorem dX5_takeCarries_28 : decode cX5_takeCarries 28 = .ok (.aload_n 1, 1) := by decide +kernel
theorem dX5_takeCarries_29 : decode cX5_takeCarries 29 = .ok (.aload_n 0, 1) := by decide +kernel
theorem dX5_takeCarries_30 : decode cX5_takeCarries 30 = .ok (.getfield 95, 3) := by decide +kernel
theorem dX5_takeCarries_33 : decode cX5_takeCarries 33 = .ok (.putfield 98, 3) := by decide +kernel
theorem dX5_takeCarries_36 : decode cX5_takeCarries 36 = .ok (.aload_n 0, 1) := by decide +kernel
theorem dX5_takeCarries_37 : decode cX5_takeCarries 37 = .ok (.invokevirtual 30, 3) := by decide +kernel
theorem dX5_takeCarries_40 : decode cX5_takeCarries 40 = .ok (.iconst 1, 1) := by decide +kernel
theorem dX5_takeCarries_41 : decode cX5_takeCarries 41 = .ok (.ireturn, 1) := by decide +kernel
set_option maxHeartbeats 4000000 in
set_option maxRecDepth 20000 in
theorem c_X5_takeCarries (l : Launch) (b : Nat) (D : va_G) (cy : Nat → ClassId) {tt : Nat} {M : xMm} {i : Nat} (hJ : JD M) (hI : IR M) (hi : xTr i) : xC l b D cy yX5_takeCarries cX5_takeCarries 2 (some .boolean) ({ frames := 3, cells := 0, slots := 0, locals := 63 }) [xr 4, xr i] 209 M (RS tt) (xPi 209 (RS tt) (fun r M' => (r = 0 ∨ r = 1) ∧ JD M' ∧ IR M' ∧ frT M' M)) := by
  refine x_met (by decide) (Nat.le_of_ble_eq_true rfl) (fun g hg hr he => ?_)
  have hk := hJ.2.2.2.1
  have hw := hJ.2.2.2.2.1
  have hnu := hJ.2.2.2.2.2.1
  have hn3 := hJ.2.2.2.2.2.2
  refine x_canon (ls' := [(0, _), (1, _)]) rfl ?_
  refine x_aload_n hg dX5_takeCarries_0 rfl ?_
  refine x_getI hg dX5_takeCarries_1 fl_X5_33 (by decide) rfl ?_
  refine x_iconst hg dX5_takeCarries_4 ?_
  refine x_icmp_eq (tgt := 13) hg dX5_takeCarries_5 (by decide) (by omega) (by omega) (fun c5 => ?_) (fun c5 => ?_)
  · skip
    refine x_aload_n hg dX5_takeCarries_13 rfl ?_
    refine x_getI hg dX5_takeCarries_14 fl_X5_95 (by decide) rfl ?_
    refine x_bipush hg dX5_takeCarries_17 (by decide) ?_
    refine x_icmp_le (tgt := 28) hg dX5_takeCarries_19 (by decide) (by omega) (by omega) (fun c19 => ?_) (fun c19 => ?_)
    · skip
      refine x_aload_n hg dX5_takeCarries_28 rfl ?_
      refine x_aload_n hg dX5_takeCarries_29 rfl ?_
      refine x_getI hg dX5_takeCarries_30 fl_X5_95 (by decide) rfl ?_
      refine x_putI hg dX5_takeCarries_33 fl_X5_98 ft_9_1 (oO_train hi) rfl ?_
      refine x_aload_n hg dX5_takeCarries_36 rfl ?_
      refine x_cVv hg he [] [] dX5_takeCarries_37 mv_X5_30 (c_X5_advance l b D cy (JD_B (JD_congr hJ (fun a ha => by funext c; rw [mu_nc (by omega)])))) (by decide) rfl rfl (Nat.le_of_ble_eq_true rfl) (by decide) (by decide) (fun M37 q37 => ?_)
      obtain ⟨hJ37, hf37⟩ := q37
      refine x_iconst hg dX5_takeCarries_40 ?_
      refine x_iret hg hr (Or.inr ⟨rfl, by first | exact Or.inl rfl | exact Or.inr rfl | omega⟩) dX5_takeCarries_41 (Nat.le_refl _) (Nat.le_refl _) ?_
      exact ⟨rfl, rfl, _, rfl, by omega, hJ37, IR_D hf37 (IR_tr hI hi (Or.inl ⟨rfl, by omega⟩)), frT_tr (frT_D hf37) (frT_mu (frT_rf M) (by omega))⟩
    · skip
      refine x_aload_n hg dX5_takeCarries_22 rfl ?_
      refine x_iconst hg dX5_takeCarries_23 ?_
      refine x_cVi hg he [_] [] dX5_takeCarries_24 mv_X5_86 (c_X5_refuse l b D cy hJ (by omega)) (by decide) rfl rfl (Nat.le_of_ble_eq_true rfl) (by decide) (by decide) (fun r24 M24 q24 => ?_)
      obtain ⟨hr24, hJ24, hf24⟩ := q24
      refine x_iret hg hr (Or.inr ⟨rfl, (by omega)⟩) dX5_takeCarries_27 (Nat.le_refl _) (Nat.le_refl _) ?_
      first | exact ⟨rfl, rfl, _, rfl, by omega, hJ9, IR_D hf9 hI, frT_D hf9⟩ | exact ⟨rfl, rfl, _, rfl, by omega, hJ24, IR_D hf24 hI, frT_D hf24⟩
  · skip
    refine x_aload_n hg dX5_takeCarries_8 rfl ?_
    refine x_cVi hg he [] [] dX5_takeCarries_9 mv_X5_48 (c_X5_refuseToken l b D cy hJ) (by decide) rfl rfl (Nat.le_of_ble_eq_true rfl) (by decide) (by decide) (fun r9 M9 q9 => ?_)
    obtain ⟨hr9, hJ9, hf9⟩ := q9
    refine x_iret hg hr (Or.inr ⟨rfl, (by omega)⟩) dX5_takeCarries_12 (Nat.le_refl _) (Nat.le_refl _) ?_
    first | exact ⟨rfl, rfl, _, rfl, by omega, hJ9, IR_D hf9 hI, frT_D hf9⟩ | exact ⟨rfl, rfl, _, rfl, by omega, hJ24, IR_D hf24 hI, frT_D hf24⟩

theorem dX5_takeStation_0 : decode cX5_takeStation 0 = .ok (.aload_n 0, 1) := by decide +kernel
theorem dX5_takeStation_1 : decode cX5_takeStation 1 = .ok (.getfield 33, 3) := by decide +kernel
theorem dX5_takeStation_4 : decode cX5_takeStation 4 = .ok (.iconst 3, 1) := by decide +kernel
theorem dX5_takeStation_5 : decode cX5_takeStation 5 = .ok (.if_icmp .eq 8, 3) := by decide +kernel
theorem dX5_takeStation_8 : decode cX5_takeStation 8 = .ok (.aload_n 0, 1) := by decide +kernel
theorem dX5_takeStation_9 : decode cX5_takeStation 9 = .ok (.invokevirtual 48, 3) := by decide +kernel
theorem dX5_takeStation_12 : decode cX5_takeStation 12 = .ok (.ireturn, 1) := by decide +kernel
theorem dX5_takeStation_13 : decode cX5_takeStation 13 = .ok (.aload_n 1, 1) := by decide +kernel
theorem dX5_takeStation_14 : decode cX5_takeStation 14 = .ok (.aload_n 0, 1) := by decide +kernel
theorem dX5_takeStation_15 : decode cX5_takeStation 15 = .ok (.getfield 95, 3) := by decide +kernel
theorem dX5_takeStation_18 : decode cX5_takeStation 18 = .ok (.invokevirtual 101, 3) := by decide +kernel
theorem dX5_takeStation_21 : decode cX5_takeStation 21 = .ok (.iconst (-1), 1) := by decide +kernel
theorem dX5_takeStation_22 : decode cX5_takeStation 22 = .ok (.if_icmp .eq 9, 3) := by decide +kernel
theorem dX5_takeStation_25 : decode cX5_takeStation 25 = .ok (.aload_n 0, 1) := by decide +kernel
theorem dX5_takeStation_26 : decode cX5_takeStation 26 = .ok (.iconst 3, 1) := by decide +kernel
theorem dX5_takeStation_27 : decode cX5_takeStation 27 = .ok (.invokevirtual 86, 3) := by decide +kernel
theorem dX5_takeStation_30 : decode cX5_takeStation 30 = .ok (.ireturn, 1) := by decide +kernel
theorem dX5_takeStation_31 : decode cX5_takeStation 31 = .ok (.aload_n 0, 1) := by decide +kernel
theorem dX5_takeStation_32 : decode cX5_takeStation 32 = .ok (.getfield 95, 3) := by decide +kernel
theorem dX5_takeStation_35 : decode cX5_takeStation 35 = .ok (.bipush 10, 2) := by decide +kernel
theorem dX5_takeStation_37 : decode cX5_takeStation 37 = .ok (.if_icmp .lt 9, 3) := by decide +kernel
theorem dX5_takeStation_40 : decode cX5_takeStation 40 = .ok (.aload_n 0, 1) := by decide +kernel
theorem dX5_takeStation_41 : decode cX5_takeStation 41 = .ok (.iconst 4, 1) := by decide +kernel
theorem dX5_takeStation_42 : decode cX5_takeStation 42 = .ok (.invokevirtual 86, 3) := by decide +kernel
theorem dX5_takeStation_45 : decode cX5_takeStation 45 = .ok (.ireturn, 1) := by decide +kernel
theorem dX5_takeStation_46 : decode cX5_takeStation 46 = .ok (.aload_n 1, 1) := by decide +kernel
theorem dX5_takeStation_47 : decode cX5_takeStation 47 = .ok (.getfield 105, 3) := by decide +kernel
theorem dX5_takeStation_50 : decode cX5_takeStation 50 = .ok (.iload_n 2, 1) := by decide +kernel
theorem dX5_takeStation_51 : decode cX5_takeStation 51 = .ok (.aload_n 0, 1) := by decide +kernel
theorem dX5_takeStation_52 : decode cX5_takeStation 52 = .ok (.getfield 95, 3) := by decide +kernel
theorem dX5_takeStation_55 : decode cX5_takeStation 55 = .ok (.iastore, 1) := by decide +kernel
theorem dX5_takeStation_56 : decode cX5_takeStation 56 = .ok (.aload_n 0, 1) := by decide +kernel
theorem dX5_takeStation_57 : decode cX5_takeStation 57 = .ok (.invokevirtual 30, 3) := by decide +kernel
theorem dX5_takeStation_60 : decode cX5_takeStation 60 = .ok (.iconst 1, 1) := by decide +kernel
theorem dX5_takeStation_61 : decode cX5_takeStation 61 = .ok (.ireturn, 1) := by decide +kernel
set_option maxHeartbeats 4000000 in
set_option maxRecDepth 20000 in
theorem c_X5_takeStation (l : Launch) (b : Nat) (D : va_G) (cy : Nat → ClassId) {tt : Nat} {M : xMm} {i : Nat} {z : Int} (hJ : JD M) (hI : IR M) (hi : xTr i) (hz : 0 ≤ z ∧ z < 8) : xC l b D cy yX5_takeStation cX5_takeStation 3 (some .boolean) ({ frames := 3, cells := 0, slots := 0, locals := 63 }) [xr 4, xr i, xi z] 209 M (RS tt) (xPi 209 (RS tt) (fun r M' => (r = 0 ∨ r = 1) ∧ JD M' ∧ IR M' ∧ frT M' M)) := by
  refine x_met (by decide) (Nat.le_of_ble_eq_true rfl) (fun g hg hr he => ?_)
  have hk := hJ.2.2.2.1
  have hw := hJ.2.2.2.2.1
  have hnu := hJ.2.2.2.2.2.1
  have hn3 := hJ.2.2.2.2.2.2
  refine x_canon (ls' := [(0, _), (1, _), (2, _)]) rfl ?_
  refine x_aload_n hg dX5_takeStation_0 rfl ?_
  refine x_getI hg dX5_takeStation_1 fl_X5_33 (by decide) rfl ?_
  refine x_iconst hg dX5_takeStation_4 ?_
  refine x_icmp_eq (tgt := 13) hg dX5_takeStation_5 (by decide) (by omega) (by omega) (fun c5 => ?_) (fun c5 => ?_)
  · skip
    refine x_aload_n hg dX5_takeStation_13 rfl ?_
    refine x_aload_n hg dX5_takeStation_14 rfl ?_
    refine x_getI hg dX5_takeStation_15 fl_X5_95 (by decide) rfl ?_
    refine x_cVi hg he [_] [] dX5_takeStation_18 mv_X5_101 (c_X9_stopAt l b D cy hI hi (by omega)) (oO_train hi) rfl rfl (Nat.le_of_ble_eq_true rfl) (by decide) (by decide) (fun r18 M18 q18 => ?_)
    obtain ⟨h18, e18⟩ := q18
    replace h18 := h18.symm
    subst h18
    refine x_iconst hg dX5_takeStation_21 ?_
    refine x_icmp_eq (tgt := 31) hg dX5_takeStation_22 (by decide) (by omega) (by omega) (fun c22 => ?_) (fun c22 => ?_)
    · skip
      refine x_aload_n hg dX5_takeStation_31 rfl ?_
      refine x_getI hg dX5_takeStation_32 fl_X5_95 (by decide) rfl ?_
      refine x_bipush hg dX5_takeStation_35 (by decide) ?_
      refine x_icmp_lt (tgt := 46) hg dX5_takeStation_37 (by decide) (by omega) (by omega) (fun c37 => ?_) (fun c37 => ?_)
      · skip
        refine x_aload_n hg dX5_takeStation_46 rfl ?_
        refine x_getR hg dX5_takeStation_47 fl_X5_105 (oO_train hi) rfl (RS_tr hi).1 (by omega) ?_
        refine x_iload_n hg dX5_takeStation_50 rfl ?_
        refine x_aload_n hg dX5_takeStation_51 rfl ?_
        refine x_getI hg dX5_takeStation_52 fl_X5_95 (by decide) rfl ?_
        refine x_iastore (len := 8) hg dX5_takeStation_55 (oA_train1 hi) (by omega)  ?_
        refine x_aload_n hg dX5_takeStation_56 rfl ?_
        refine x_cVv hg he [] [] dX5_takeStation_57 mv_X5_30 (c_X5_advance l b D cy (JD_B (JD_congr hJ (fun a ha => by funext c; rw [mu_nc (by omega)])))) (by decide) rfl rfl (Nat.le_of_ble_eq_true rfl) (by decide) (by decide) (fun M57 q57 => ?_)
        obtain ⟨hJ57, hf57⟩ := q57
        refine x_iconst hg dX5_takeStation_60 ?_
        refine x_iret hg hr (Or.inr ⟨rfl, by first | exact Or.inl rfl | exact Or.inr rfl | omega⟩) dX5_takeStation_61 (Nat.le_refl _) (Nat.le_refl _) ?_
        exact ⟨rfl, rfl, _, rfl, by omega, hJ57, IR_D hf57 (IR_st hI hi (by omega)), frT_tr (frT_D hf57) (frT_mu (frT_rf M) (by omega))⟩
      · skip
        refine x_aload_n hg dX5_takeStation_40 rfl ?_
        refine x_iconst hg dX5_takeStation_41 ?_
        refine x_cVi hg he [_] [] dX5_takeStation_42 mv_X5_86 (c_X5_refuse l b D cy hJ (by omega)) (by decide) rfl rfl (Nat.le_of_ble_eq_true rfl) (by decide) (by decide) (fun r42 M42 q42 => ?_)
        obtain ⟨hr42, hJ42, hf42⟩ := q42
        refine x_iret hg hr (Or.inr ⟨rfl, (by omega)⟩) dX5_takeStation_45 (Nat.le_refl _) (Nat.le_refl _) ?_
        first | exact ⟨rfl, rfl, _, rfl, by omega, hJ9, IR_D hf9 hI, frT_D hf9⟩ | exact ⟨rfl, rfl, _, rfl, by omega, hJ27, IR_D hf27 hI, frT_D hf27⟩ | exact ⟨rfl, rfl, _, rfl, by omega, hJ42, IR_D hf42 hI, frT_D hf42⟩
    · skip
      refine x_aload_n hg dX5_takeStation_25 rfl ?_
      refine x_iconst hg dX5_takeStation_26 ?_
      refine x_cVi hg he [_] [] dX5_takeStation_27 mv_X5_86 (c_X5_refuse l b D cy hJ (by omega)) (by decide) rfl rfl (Nat.le_of_ble_eq_true rfl) (by decide) (by decide) (fun r27 M27 q27 => ?_)
      obtain ⟨hr27, hJ27, hf27⟩ := q27
      refine x_iret hg hr (Or.inr ⟨rfl, (by omega)⟩) dX5_takeStation_30 (Nat.le_refl _) (Nat.le_refl _) ?_
      first | exact ⟨rfl, rfl, _, rfl, by omega, hJ9, IR_D hf9 hI, frT_D hf9⟩ | exact ⟨rfl, rfl, _, rfl, by omega, hJ27, IR_D hf27 hI, frT_D hf27⟩ | exact ⟨rfl, rfl, _, rfl, by omega, hJ42, IR_D hf42 hI, frT_D hf42⟩
  · skip
    refine x_aload_n hg dX5_takeStation_8 rfl ?_
    refine x_cVi hg he [] [] dX5_takeStation_9 mv_X5_48 (c_X5_refuseToken l b D cy hJ) (by decide) rfl rfl (Nat.le_of_ble_eq_true rfl) (by decide) (by decide) (fun r9 M9 q9 => ?_)
    obtain ⟨hr9, hJ9, hf9⟩ := q9
    refine x_iret hg hr (Or.inr ⟨rfl, (by omega)⟩) dX5_takeStation_12 (Nat.le_refl _) (Nat.le_refl _) ?_
    first | exact ⟨rfl, rfl, _, rfl, by omega, hJ9, IR_D hf9 hI, frT_D hf9⟩ | exact ⟨rfl, rfl, _, rfl, by omega, hJ27, IR_D hf27 hI, frT_D hf27⟩ | exact ⟨rfl, rfl, _, rfl, by omega, hJ42, IR_D hf42 hI, frT_D hf42⟩

theorem dX5_takeMinute_0 : decode cX5_takeMinute 0 = .ok (.aload_n 0, 1) := by decide +kernel
theorem dX5_takeMinute_1 : decode cX5_takeMinute 1 = .ok (.getfield 33, 3) := by decide +kernel
theorem dX5_takeMinute_4 : decode cX5_takeMinute 4 = .ok (.iconst 3, 1) := by decide +kernel
theorem dX5_takeMinute_5 : decode cX5_takeMinute 5 = .ok (.if_icmp .eq 8, 3) := by decide +kernel
theorem dX5_takeMinute_8 : decode cX5_takeMinute 8 = .ok (.aload_n 0, 1) := by decide +kernel
theorem dX5_takeMinute_9 : decode cX5_takeMinute 9 = .ok (.invokevirtual 48, 3) := by decide +kernel
theorem dX5_takeMinute_12 : decode cX5_takeMinute 12 = .ok (.ireturn, 1) := by decide +kernel
theorem dX5_takeMinute_13 : decode cX5_takeMinute 13 = .ok (.iload_n 2, 1) := by decide +kernel
theorem dX5_takeMinute_14 : decode cX5_takeMinute 14 = .ok (.ifCond .le 14, 3) := by decide +kernel
theorem dX5_takeMinute_17 : decode cX5_takeMinute 17 = .ok (.aload_n 1, 1) := by decide +kernel
theorem dX5_takeMinute_18 : decode cX5_takeMinute 18 = .ok (.getfield 109, 3) := by decide +kernel
theorem dX5_takeMinute_21 : decode cX5_takeMinute 21 = .ok (.iload_n 2, 1) := by decide +kernel
theorem dX5_takeMinute_22 : decode cX5_takeMinute 22 = .ok (.iconst 1, 1) := by decide +kernel
theorem dX5_takeMinute_23 : decode cX5_takeMinute 23 = .ok (.isub, 1) := by decide +kernel
theorem dX5_takeMinute_24 : decode cX5_takeMinute 24 = .ok (.iaload, 1) := by decide +kernel
theorem dX5_takeMinute_25 : decode cX5_takeMinute 25 = .ok (.goto 4, 3) := by decide +kernel
theorem dX5_takeMinute_28 : decode cX5_takeMinute 28 = .ok (.iconst (-1), 1) := by decide +kernel
theorem dX5_takeMinute_29 : decode cX5_takeMinute 29 = .ok (.istore_n 3, 1) := by decide +kernel
theorem dX5_takeMinute_30 : decode cX5_takeMinute 30 = .ok (.aload_n 0, 1) := by decide +kernel
theorem dX5_takeMinute_31 : decode cX5_takeMinute 31 = .ok (.getfield 95, 3) := by decide +kernel
theorem dX5_takeMinute_34 : decode cX5_takeMinute 34 = .ok (.sipush 1439, 3) := by decide +kernel
theorem dX5_takeMinute_37 : decode cX5_takeMinute 37 = .ok (.if_icmp .gt 11, 3) := by decide +kernel
theorem dX5_takeMinute_40 : decode cX5_takeMinute 40 = .ok (.aload_n 0, 1) := by decide +kernel
theorem dX5_takeMinute_41 : decode cX5_takeMinute 41 = .ok (.getfield 95, 3) := by decide +kernel
theorem dX5_takeMinute_44 : decode cX5_takeMinute 44 = .ok (.iload_n 3, 1) := by decide +kernel
theorem dX5_takeMinute_45 : decode cX5_takeMinute 45 = .ok (.if_icmp .gt 9, 3) := by decide +kernel
theorem dX5_takeMinute_48 : decode cX5_takeMinute 48 = .ok (.aload_n 0, 1) := by decide +kernel
theorem dX5_takeMinute_49 : decode cX5_takeMinute 49 = .ok (.iconst 4, 1) := by decide +kernel
theorem dX5_takeMinute_50 : decode cX5_takeMinute 50 = .ok (.invokevirtual 86, 3) := by decide +kernel
theorem dX5_takeMinute_53 : decode cX5_takeMinute 53 = .ok (.ireturn, 1) := by decide +kernel
theorem dX5_takeMinute_54 : decode cX5_takeMinute 54 = .ok (.aload_n 1, 1) := by decide +kernel
theorem dX5_takeMinute_55 : decode cX5_takeMinute 55 = .ok (.getfield 109, 3) := by decide +kernel
theorem dX5_takeMinute_58 : decode cX5_takeMinute 58 = .ok (.iload_n 2, 1) := by decide +kernel
theorem dX5_takeMinute_59 : decode cX5_takeMinute 59 = .ok (.aload_n 0, 1) := by decide +kernel
theorem dX5_takeMinute_60 : decode cX5_takeMinute 60 = .ok (.getfield 95, 3) := by decide +kernel
theorem dX5_takeMinute_63 : decode cX5_takeMinute 63 = .ok (.iastore, 1) := by decide +kernel
theorem dX5_takeMinute_64 : decode cX5_takeMinute 64 = .ok (.aload_n 1, 1) := by decide +kernel
theorem dX5_takeMinute_65 : decode cX5_takeMinute 65 = .ok (.iload_n 2, 1) := by decide +kernel
theorem dX5_takeMinute_66 : decode cX5_takeMinute 66 = .ok (.iconst 1, 1) := by decide +kernel
theorem dX5_takeMinute_67 : decode cX5_takeMinute 67 = .ok (.iadd, 1) := by decide +kernel
theorem dX5_takeMinute_68 : decode cX5_takeMinute 68 = .ok (.putfield 112, 3) := by decide +kernel
theorem dX5_takeMinute_71 : decode cX5_takeMinute 71 = .ok (.aload_n 0, 1) := by decide +kernel
theorem dX5_takeMinute_72 : decode cX5_takeMinute 72 = .ok (.invokevirtual 30, 3) := by decide +kernel
theorem dX5_takeMinute_75 : decode cX5_takeMinute 75 = .ok (.iconst 1, 1) := by decide +kernel
theorem dX5_takeMinute_76 : decode cX5_takeMinute 76 = .ok (.ireturn, 1) := by decide +kernel
set_option maxHeartbeats 4000000 in
set_option maxRecDepth 20000 in
theorem c_X5_takeMinute (l : Launch) (b : Nat) (D : va_G) (cy : Nat → ClassId) {tt : Nat} {M : xMm} {i : Nat} {z : Int} (hJ : JD M) (hI : IR M) (hi : xTr i) (hz : 0 ≤ z ∧ z < 8) : xC l b D cy yX5_takeMinute cX5_takeMinute 4 (some .boolean) ({ frames := 3, cells := 0, slots := 0, locals := 63 }) [xr 4, xr i, xi z] 209 M (RS tt) (xPi 209 (RS tt) (fun r M' => (r = 0 ∨ r = 1) ∧ JD M' ∧ IR M' ∧ frT M' M)) := by
  refine x_met (by decide) (Nat.le_of_ble_eq_true rfl) (fun g hg hr he => ?_)
  have hk := hJ.2.2.2.1
  have hw := hJ.2.2.2.2.1
  have hnu := hJ.2.2.2.2.2.1
  have hn3 := hJ.2.2.2.2.2.2
  refine x_canon (ls' := [(0, _), (1, _), (2, _)]) rfl ?_
  have j29 : ∀ p : Int, inR p → M 4 3 = 3 → (-1 ≤ p) → xW g 209 M (RS tt) 0 0 29 [(0, xr 4), (1, xr i), (2, xi z)] [xi p] := by
    intro p hp h3 hp1
    refine x_istore_n (ls' := [(0, _), (1, _), (2, _), (3, _)]) hg dX5_takeMinute_29 rfl (by decide) rfl ?_
    refine x_aload_n hg dX5_takeMinute_30 rfl ?_
    refine x_getI hg dX5_takeMinute_31 fl_X5_95 (by decide) rfl ?_
    refine x_sipush hg dX5_takeMinute_34 (by decide) ?_
    refine x_icmp_gt (tgt := 48) hg dX5_takeMinute_37 (by decide) (by omega) (by omega) (fun c37 => ?_) (fun c37 => ?_)
    · skip
      refine x_aload_n hg dX5_takeMinute_48 rfl ?_
      refine x_iconst hg dX5_takeMinute_49 ?_
      refine x_cVi hg he [_] [] dX5_takeMinute_50 mv_X5_86 (c_X5_refuse l b D cy hJ (by omega)) (by decide) rfl rfl (Nat.le_of_ble_eq_true rfl) (by decide) (by decide) (fun r50 M50 q50 => ?_)
      obtain ⟨hr50, hJ50, hf50⟩ := q50
      refine x_iret hg hr (Or.inr ⟨rfl, (by omega)⟩) dX5_takeMinute_53 (Nat.le_refl _) (Nat.le_refl _) ?_
      first | exact ⟨rfl, rfl, _, rfl, by omega, hJ9, IR_D hf9 hI, frT_D hf9⟩ | exact ⟨rfl, rfl, _, rfl, by omega, hJ50, IR_D hf50 hI, frT_D hf50⟩
    · skip
      refine x_aload_n hg dX5_takeMinute_40 rfl ?_
      refine x_getI hg dX5_takeMinute_41 fl_X5_95 (by decide) rfl ?_
      refine x_iload_n hg dX5_takeMinute_44 rfl ?_
      refine x_icmp_gt (tgt := 54) hg dX5_takeMinute_45 (by decide) (by omega) (by omega) (fun c45 => ?_) (fun c45 => ?_)
      · skip
        refine x_aload_n hg dX5_takeMinute_54 rfl ?_
        refine x_getR hg dX5_takeMinute_55 fl_X5_109 (oO_train hi) rfl (RS_tr hi).2 (by omega) ?_
        refine x_iload_n hg dX5_takeMinute_58 rfl ?_
        refine x_aload_n hg dX5_takeMinute_59 rfl ?_
        refine x_getI hg dX5_takeMinute_60 fl_X5_95 (by decide) rfl ?_
        refine x_iastore (len := 8) hg dX5_takeMinute_63 (oA_train2 hi) (by omega)  ?_
        refine x_aload_n hg dX5_takeMinute_64 rfl ?_
        refine x_iload_n hg dX5_takeMinute_65 rfl ?_
        refine x_iconst hg dX5_takeMinute_66 ?_
        refine x_iadd hg dX5_takeMinute_67 ?_
        refine x_putI hg dX5_takeMinute_68 fl_X5_112 ft_9_3 (oO_train hi) rfl ?_
        refine x_aload_n hg dX5_takeMinute_71 rfl ?_
        refine x_cVv hg he [] [] dX5_takeMinute_72 mv_X5_30 (c_X5_advance l b D cy (JD_B (JD_congr hJ (fun a ha => by funext c; rw [mu_nc (by omega), mu_nc (by omega)])))) (by decide) rfl rfl (Nat.le_of_ble_eq_true rfl) (by decide) (by decide) (fun M72 q72 => ?_)
        obtain ⟨hJ72, hf72⟩ := q72
        refine x_iconst hg dX5_takeMinute_75 ?_
        refine x_iret hg hr (Or.inr ⟨rfl, by first | exact Or.inl rfl | exact Or.inr rfl | omega⟩) dX5_takeMinute_76 (Nat.le_refl _) (Nat.le_refl _) ?_
        exact ⟨rfl, rfl, _, rfl, by omega, hJ72, IR_D hf72 (IR_tr (IR_mi hI hi (by omega)) hi (Or.inr (Or.inr (Or.inl ⟨rfl, by omega⟩)))), frT_tr (frT_D hf72) (frT_mu (frT_mu (frT_rf M) (by omega)) (by omega))⟩
      · skip
        refine x_aload_n hg dX5_takeMinute_48 rfl ?_
        refine x_iconst hg dX5_takeMinute_49 ?_
        refine x_cVi hg he [_] [] dX5_takeMinute_50 mv_X5_86 (c_X5_refuse l b D cy hJ (by omega)) (by decide) rfl rfl (Nat.le_of_ble_eq_true rfl) (by decide) (by decide) (fun r50 M50 q50 => ?_)
        obtain ⟨hr50, hJ50, hf50⟩ := q50
        refine x_iret hg hr (Or.inr ⟨rfl, (by omega)⟩) dX5_takeMinute_53 (Nat.le_refl _) (Nat.le_refl _) ?_
        first | exact ⟨rfl, rfl, _, rfl, by omega, hJ9, IR_D hf9 hI, frT_D hf9⟩ | exact ⟨rfl, rfl, _, rfl, by omega, hJ50, IR_D hf50 hI, frT_D hf50⟩
  have hst := (hI.2 i hi).2
  refine x_aload_n hg dX5_takeMinute_0 rfl ?_
  refine x_getI hg dX5_takeMinute_1 fl_X5_33 (by decide) rfl ?_
  refine x_iconst hg dX5_takeMinute_4 ?_
  refine x_icmp_eq (tgt := 13) hg dX5_takeMinute_5 (by decide) (by omega) (by omega) (fun c5 => ?_) (fun c5 => ?_)
  · skip
    refine x_iload_n hg dX5_takeMinute_13 rfl ?_
    refine x_if_le (tgt := 28) hg dX5_takeMinute_14 (by decide) (by omega) (fun c14 => ?_) (fun c14 => ?_)
    · skip
      refine x_iconst hg dX5_takeMinute_28 ?_
      exact j29 _ (by first | omega | (have h1 := hst (z - 1).toNat (by omega); omega)) (by omega) (by first | omega | (have h1 := hst (z - 1).toNat (by omega); omega))
    · skip
      refine x_aload_n hg dX5_takeMinute_17 rfl ?_
      refine x_getR hg dX5_takeMinute_18 fl_X5_109 (oO_train hi) rfl (RS_tr hi).2 (by omega) ?_
      refine x_iload_n hg dX5_takeMinute_21 rfl ?_
      refine x_iconst hg dX5_takeMinute_22 ?_
      refine x_isub hg dX5_takeMinute_23 ?_
      refine x_iaload (len := 8) hg dX5_takeMinute_24 (oA_train2 hi) (by omega) ?_
      refine x_goto (tgt := 29) hg dX5_takeMinute_25 (by decide) ?_
      exact j29 _ (by first | omega | (have h1 := hst (z - 1).toNat (by omega); omega)) (by omega) (by first | omega | (have h1 := hst (z - 1).toNat (by omega); omega))
  · skip
    refine x_aload_n hg dX5_takeMinute_8 rfl ?_
    refine x_cVi hg he [] [] dX5_takeMinute_9 mv_X5_48 (c_X5_refuseToken l b D cy hJ) (by decide) rfl rfl (Nat.le_of_ble_eq_true rfl) (by decide) (by decide) (fun r9 M9 q9 => ?_)
    obtain ⟨hr9, hJ9, hf9⟩ := q9
    refine x_iret hg hr (Or.inr ⟨rfl, (by omega)⟩) dX5_takeMinute_12 (Nat.le_refl _) (Nat.le_refl _) ?_
    first | exact ⟨rfl, rfl, _, rfl, by omega, hJ9, IR_D hf9 hI, frT_D hf9⟩ | exact ⟨rfl, rfl, _, rfl, by omega, hJ50, IR_D hf50 hI, frT_D hf50⟩

theorem dX5_readHead_0 : decode cX5_readHead 0 = .ok (.aload_n 0, 1) := by decide +kernel
theorem dX5_readHead_1 : decode cX5_readHead 1 = .ok (.ldc2_w 52, 3) := by decide +kernel
theorem dX5_readHead_4 : decode cX5_readHead 4 = .ok (.invokevirtual 54, 3) := by decide +kernel
theorem dX5_readHead_7 : decode cX5_readHead 7 = .ok (.ifCond .eq 43, 3) := by decide +kernel
theorem dX5_readHead_10 : decode cX5_readHead 10 = .ok (.aload_n 0, 1) := by decide +kernel
theorem dX5_readHead_11 : decode cX5_readHead 11 = .ok (.aload_n 1, 1) := by decide +kernel
theorem dX5_readHead_12 : decode cX5_readHead 12 = .ok (.aload_n 2, 1) := by decide +kernel
theorem dX5_readHead_13 : decode cX5_readHead 13 = .ok (.invokevirtual 58, 3) := by decide +kernel
theorem dX5_readHead_16 : decode cX5_readHead 16 = .ok (.ifCond .eq 34, 3) := by decide +kernel
theorem dX5_readHead_19 : decode cX5_readHead 19 = .ok (.aload_n 0, 1) := by decide +kernel
theorem dX5_readHead_20 : decode cX5_readHead 20 = .ok (.ldc2_w 61, 3) := by decide +kernel
theorem dX5_readHead_23 : decode cX5_readHead 23 = .ok (.invokevirtual 54, 3) := by decide +kernel
theorem dX5_readHead_26 : decode cX5_readHead 26 = .ok (.ifCond .eq 24, 3) := by decide +kernel
theorem dX5_readHead_29 : decode cX5_readHead 29 = .ok (.aload_n 0, 1) := by decide +kernel
theorem dX5_readHead_30 : decode cX5_readHead 30 = .ok (.aload_n 2, 1) := by decide +kernel
theorem dX5_readHead_31 : decode cX5_readHead 31 = .ok (.invokevirtual 63, 3) := by decide +kernel
theorem dX5_readHead_34 : decode cX5_readHead 34 = .ok (.ifCond .eq 16, 3) := by decide +kernel
theorem dX5_readHead_37 : decode cX5_readHead 37 = .ok (.aload_n 0, 1) := by decide +kernel
theorem dX5_readHead_38 : decode cX5_readHead 38 = .ok (.bipush 58, 2) := by decide +kernel
theorem dX5_readHead_40 : decode cX5_readHead 40 = .ok (.invokevirtual 66, 3) := by decide +kernel
theorem dX5_readHead_43 : decode cX5_readHead 43 = .ok (.ifCond .eq 7, 3) := by decide +kernel
theorem dX5_readHead_46 : decode cX5_readHead 46 = .ok (.iconst 1, 1) := by decide +kernel
theorem dX5_readHead_47 : decode cX5_readHead 47 = .ok (.goto 4, 3) := by decide +kernel
theorem dX5_readHead_50 : decode cX5_readHead 50 = .ok (.iconst 0, 1) := by decide +kernel
theorem dX5_readHead_51 : decode cX5_readHead 51 = .ok (.ireturn, 1) := by decide +kernel
set_option maxHeartbeats 4000000 in
set_option maxRecDepth 20000 in
theorem c_X5_readHead (l : Launch) (b : Nat) (D : va_G) (cy : Nat → ClassId) {tt : Nat} {M : xMm} {q i : Nat} (hJ : JD M) (hI : IR M) (hq : xTt q) (hi : xTr i) : xC l b D cy yX5_readHead cX5_readHead 3 (some .boolean) ({ frames := 4, cells := 0, slots := 0, locals := 85 }) [xr 4, xr q, xr i] 209 M (RS tt) (xPi 209 (RS tt) (fun r M' => (r = 0 ∨ r = 1) ∧ JD M' ∧ IR M' ∧ frT M' M)) := by
  refine x_met (by decide) (Nat.le_of_ble_eq_true rfl) (fun g hg hr he => ?_)
  refine x_canon (ls' := [(0, _), (1, _), (2, _)]) rfl ?_
  refine x_aload_n hg dX5_readHead_0 rfl ?_
  refine x_ldc2 hg 500135192942 dX5_readHead_1 (List.mem_of_getElem? (i := 499) (by decide +kernel)) ?_
  refine x_cVi hg he [_] [] dX5_readHead_4 mv_X5_54 (c_X5_takeWord l b D cy hJ hI (by decide)) (by decide) rfl rfl (Nat.le_of_ble_eq_true rfl) (by decide) (by decide) (fun r4 M4 q4 => ?_)
  obtain ⟨hr4, hJ4, hI4, hf4⟩ := q4
  refine x_if_eq (tgt := 50) hg dX5_readHead_7 (by decide) (by omega) (fun c7 => ?_) (fun c7 => ?_)
  · skip
    refine x_iconst hg dX5_readHead_50 ?_
    refine x_iret hg hr (Or.inr ⟨rfl, by first | exact Or.inl rfl | exact Or.inr rfl | omega⟩) dX5_readHead_51 (Nat.le_refl _) (Nat.le_refl _) ?_
    first | exact ⟨rfl, rfl, _, rfl, by omega, hJ40, hI40, frT_tr hf40 (frT_tr hf31 (frT_tr hf23 (frT_tr hf13 hf4)))⟩ | exact ⟨rfl, rfl, _, rfl, by omega, hJ31, hI31, frT_tr hf31 (frT_tr hf23 (frT_tr hf13 hf4))⟩ | exact ⟨rfl, rfl, _, rfl, by omega, hJ23, hI23, frT_tr hf23 (frT_tr hf13 hf4)⟩ | exact ⟨rfl, rfl, _, rfl, by omega, hJ13, hI13, frT_tr hf13 hf4⟩ | exact ⟨rfl, rfl, _, rfl, by omega, hJ4, hI4, hf4⟩
  · skip
    refine x_aload_n hg dX5_readHead_10 rfl ?_
    refine x_aload_n hg dX5_readHead_11 rfl ?_
    refine x_aload_n hg dX5_readHead_12 rfl ?_
    refine x_cVi hg he [_, _] [] dX5_readHead_13 mv_X5_58 (c_X5_takeName l b D cy hJ4 hI4 hq hi) (by decide) rfl rfl (Nat.le_of_ble_eq_true rfl) (by decide) (by decide) (fun r13 M13 q13 => ?_)
    obtain ⟨hr13, hJ13, hI13, hf13⟩ := q13
    refine x_if_eq (tgt := 50) hg dX5_readHead_16 (by decide) (by omega) (fun c16 => ?_) (fun c16 => ?_)
    · skip
      refine x_iconst hg dX5_readHead_50 ?_
      refine x_iret hg hr (Or.inr ⟨rfl, by first | exact Or.inl rfl | exact Or.inr rfl | omega⟩) dX5_readHead_51 (Nat.le_refl _) (Nat.le_refl _) ?_
      first | exact ⟨rfl, rfl, _, rfl, by omega, hJ40, hI40, frT_tr hf40 (frT_tr hf31 (frT_tr hf23 (frT_tr hf13 hf4)))⟩ | exact ⟨rfl, rfl, _, rfl, by omega, hJ31, hI31, frT_tr hf31 (frT_tr hf23 (frT_tr hf13 hf4))⟩ | exact ⟨rfl, rfl, _, rfl, by omega, hJ23, hI23, frT_tr hf23 (frT_tr hf13 hf4)⟩ | exact ⟨rfl, rfl, _, rfl, by omega, hJ13, hI13, frT_tr hf13 hf4⟩ | exact ⟨rfl, rfl, _, rfl, by omega, hJ4, hI4, hf4⟩
    · skip
      refine x_aload_n hg dX5_readHead_19 rfl ?_
      refine x_ldc2 hg 27973166868030835 dX5_readHead_20 (List.mem_of_getElem? (i := 516) (by decide +kernel)) ?_
      refine x_cVi hg he [_] [] dX5_readHead_23 mv_X5_54 (c_X5_takeWord l b D cy hJ13 hI13 (by decide)) (by decide) rfl rfl (Nat.le_of_ble_eq_true rfl) (by decide) (by decide) (fun r23 M23 q23 => ?_)
      obtain ⟨hr23, hJ23, hI23, hf23⟩ := q23
      refine x_if_eq (tgt := 50) hg dX5_readHead_26 (by decide) (by omega) (fun c26 => ?_) (fun c26 => ?_)
      · skip
        refine x_iconst hg dX5_readHead_50 ?_
        refine x_iret hg hr (Or.inr ⟨rfl, by first | exact Or.inl rfl | exact Or.inr rfl | omega⟩) dX5_readHead_51 (Nat.le_refl _) (Nat.le_refl _) ?_
        first | exact ⟨rfl, rfl, _, rfl, by omega, hJ40, hI40, frT_tr hf40 (frT_tr hf31 (frT_tr hf23 (frT_tr hf13 hf4)))⟩ | exact ⟨rfl, rfl, _, rfl, by omega, hJ31, hI31, frT_tr hf31 (frT_tr hf23 (frT_tr hf13 hf4))⟩ | exact ⟨rfl, rfl, _, rfl, by omega, hJ23, hI23, frT_tr hf23 (frT_tr hf13 hf4)⟩ | exact ⟨rfl, rfl, _, rfl, by omega, hJ13, hI13, frT_tr hf13 hf4⟩ | exact ⟨rfl, rfl, _, rfl, by omega, hJ4, hI4, hf4⟩
      · skip
        refine x_aload_n hg dX5_readHead_29 rfl ?_
        refine x_aload_n hg dX5_readHead_30 rfl ?_
        refine x_cVi hg he [_] [] dX5_readHead_31 mv_X5_63 (c_X5_takeCarries l b D cy hJ23 hI23 hi) (by decide) rfl rfl (Nat.le_of_ble_eq_true rfl) (by decide) (by decide) (fun r31 M31 q31 => ?_)
        obtain ⟨hr31, hJ31, hI31, hf31⟩ := q31
        refine x_if_eq (tgt := 50) hg dX5_readHead_34 (by decide) (by omega) (fun c34 => ?_) (fun c34 => ?_)
        · skip
          refine x_iconst hg dX5_readHead_50 ?_
          refine x_iret hg hr (Or.inr ⟨rfl, by first | exact Or.inl rfl | exact Or.inr rfl | omega⟩) dX5_readHead_51 (Nat.le_refl _) (Nat.le_refl _) ?_
          first | exact ⟨rfl, rfl, _, rfl, by omega, hJ40, hI40, frT_tr hf40 (frT_tr hf31 (frT_tr hf23 (frT_tr hf13 hf4)))⟩ | exact ⟨rfl, rfl, _, rfl, by omega, hJ31, hI31, frT_tr hf31 (frT_tr hf23 (frT_tr hf13 hf4))⟩ | exact ⟨rfl, rfl, _, rfl, by omega, hJ23, hI23, frT_tr hf23 (frT_tr hf13 hf4)⟩ | exact ⟨rfl, rfl, _, rfl, by omega, hJ13, hI13, frT_tr hf13 hf4⟩ | exact ⟨rfl, rfl, _, rfl, by omega, hJ4, hI4, hf4⟩
        · skip
          refine x_aload_n hg dX5_readHead_37 rfl ?_
          refine x_bipush hg dX5_readHead_38 (by decide) ?_
          refine x_cVi hg he [_] [] dX5_readHead_40 mv_X5_66 (c_X5_takeSign l b D cy hJ31 hI31 (by decide)) (by decide) rfl rfl (Nat.le_of_ble_eq_true rfl) (by decide) (by decide) (fun r40 M40 q40 => ?_)
          obtain ⟨hr40, hJ40, hI40, hf40⟩ := q40
          refine x_if_eq (tgt := 50) hg dX5_readHead_43 (by decide) (by omega) (fun c43 => ?_) (fun c43 => ?_)
          · skip
            refine x_iconst hg dX5_readHead_50 ?_
            refine x_iret hg hr (Or.inr ⟨rfl, by first | exact Or.inl rfl | exact Or.inr rfl | omega⟩) dX5_readHead_51 (Nat.le_refl _) (Nat.le_refl _) ?_
            first | exact ⟨rfl, rfl, _, rfl, by omega, hJ40, hI40, frT_tr hf40 (frT_tr hf31 (frT_tr hf23 (frT_tr hf13 hf4)))⟩ | exact ⟨rfl, rfl, _, rfl, by omega, hJ31, hI31, frT_tr hf31 (frT_tr hf23 (frT_tr hf13 hf4))⟩ | exact ⟨rfl, rfl, _, rfl, by omega, hJ23, hI23, frT_tr hf23 (frT_tr hf13 hf4)⟩ | exact ⟨rfl, rfl, _, rfl, by omega, hJ13, hI13, frT_tr hf13 hf4⟩ | exact ⟨rfl, rfl, _, rfl, by omega, hJ4, hI4, hf4⟩
          · skip
            refine x_iconst hg dX5_readHead_46 ?_
            refine x_goto (tgt := 51) hg dX5_readHead_47 (by decide) ?_
            refine x_iret hg hr (Or.inr ⟨rfl, by first | exact Or.inl rfl | exact Or.inr rfl | omega⟩) dX5_readHead_51 (Nat.le_refl _) (Nat.le_refl _) ?_
            first | exact ⟨rfl, rfl, _, rfl, by omega, hJ40, hI40, frT_tr hf40 (frT_tr hf31 (frT_tr hf23 (frT_tr hf13 hf4)))⟩ | exact ⟨rfl, rfl, _, rfl, by omega, hJ31, hI31, frT_tr hf31 (frT_tr hf23 (frT_tr hf13 hf4))⟩ | exact ⟨rfl, rfl, _, rfl, by omega, hJ23, hI23, frT_tr hf23 (frT_tr hf13 hf4)⟩ | exact ⟨rfl, rfl, _, rfl, by omega, hJ13, hI13, frT_tr hf13 hf4⟩ | exact ⟨rfl, rfl, _, rfl, by omega, hJ4, hI4, hf4⟩

theorem dX5_readStops_0 : decode cX5_readStops 0 = .ok (.iconst 0, 1) := by decide +kernel
theorem dX5_readStops_1 : decode cX5_readStops 1 = .ok (.istore_n 2, 1) := by decide +kernel
theorem dX5_readStops_2 : decode cX5_readStops 2 = .ok (.iload_n 2, 1) := by decide +kernel
theorem dX5_readStops_3 : decode cX5_readStops 3 = .ok (.bipush 8, 2) := by decide +kernel
theorem dX5_readStops_5 : decode cX5_readStops 5 = .ok (.if_icmp .ge 69, 3) := by decide +kernel
theorem dX5_readStops_8 : decode cX5_readStops 8 = .ok (.aload_n 0, 1) := by decide +kernel
theorem dX5_readStops_9 : decode cX5_readStops 9 = .ok (.aload_n 1, 1) := by decide +kernel
theorem dX5_readStops_10 : decode cX5_readStops 10 = .ok (.iload_n 2, 1) := by decide +kernel
theorem dX5_readStops_11 : decode cX5_readStops 11 = .ok (.invokevirtual 70, 3) := by decide +kernel
theorem dX5_readStops_14 : decode cX5_readStops 14 = .ok (.ifCond .eq 22, 3) := by decide +kernel
theorem dX5_readStops_17 : decode cX5_readStops 17 = .ok (.aload_n 0, 1) := by decide +kernel
theorem dX5_readStops_18 : decode cX5_readStops 18 = .ok (.ldc2_w 74, 3) := by decide +kernel
theorem dX5_readStops_21 : decode cX5_readStops 21 = .ok (.invokevirtual 54, 3) := by decide +kernel
theorem dX5_readStops_24 : decode cX5_readStops 24 = .ok (.ifCond .eq 12, 3) := by decide +kernel
theorem dX5_readStops_27 : decode cX5_readStops 27 = .ok (.aload_n 0, 1) := by decide +kernel
theorem dX5_readStops_28 : decode cX5_readStops 28 = .ok (.aload_n 1, 1) := by decide +kernel
theorem dX5_readStops_29 : decode cX5_readStops 29 = .ok (.iload_n 2, 1) := by decide +kernel
theorem dX5_readStops_30 : decode cX5_readStops 30 = .ok (.invokevirtual 76, 3) := by decide +kernel
theorem dX5_readStops_33 : decode cX5_readStops 33 = .ok (.ifCond .ne 5, 3) := by decide +kernel
theorem dX5_readStops_36 : decode cX5_readStops 36 = .ok (.iconst 0, 1) := by decide +kernel
theorem dX5_readStops_37 : decode cX5_readStops 37 = .ok (.ireturn, 1) := by decide +kernel
theorem dX5_readStops_38 : decode cX5_readStops 38 = .ok (.iload_n 2, 1) := by decide +kernel
theorem dX5_readStops_39 : decode cX5_readStops 39 = .ok (.ifCond .le 18, 3) := by decide +kernel
theorem dX5_readStops_42 : decode cX5_readStops 42 = .ok (.aload_n 0, 1) := by decide +kernel
theorem dX5_readStops_43 : decode cX5_readStops 43 = .ok (.getfield 33, 3) := by decide +kernel
theorem dX5_readStops_46 : decode cX5_readStops 46 = .ok (.bipush 59, 2) := by decide +kernel
theorem dX5_readStops_48 : decode cX5_readStops 48 = .ok (.if_icmp .ne 9, 3) := by decide +kernel
theorem dX5_readStops_51 : decode cX5_readStops 51 = .ok (.aload_n 0, 1) := by decide +kernel
theorem dX5_readStops_52 : decode cX5_readStops 52 = .ok (.invokevirtual 30, 3) := by decide +kernel
theorem dX5_readStops_55 : decode cX5_readStops 55 = .ok (.iconst 1, 1) := by decide +kernel
theorem dX5_readStops_56 : decode cX5_readStops 56 = .ok (.ireturn, 1) := by decide +kernel
theorem dX5_readStops_57 : decode cX5_readStops 57 = .ok (.aload_n 0, 1) := by decide +kernel
theorem dX5_readStops_58 : decode cX5_readStops 58 = .ok (.bipush 44, 2) := by decide +kernel
theorem dX5_readStops_60 : decode cX5_readStops 60 = .ok (.invokevirtual 66, 3) := by decide +kernel
theorem dX5_readStops_63 : decode cX5_readStops 63 = .ok (.ifCond .ne 5, 3) := by decide +kernel
theorem dX5_readStops_66 : decode cX5_readStops 66 = .ok (.iconst 0, 1) := by decide +kernel
theorem dX5_readStops_67 : decode cX5_readStops 67 = .ok (.ireturn, 1) := by decide +kernel
theorem dX5_readStops_68 : decode cX5_readStops 68 = .ok (.iinc 2 1, 3) := by decide +kernel
theorem dX5_readStops_71 : decode cX5_readStops 71 = .ok (.goto (-69), 3) := by decide +kernel
theorem dX5_readStops_74 : decode cX5_readStops 74 = .ok (.aload_n 0, 1) := by decide +kernel
theorem dX5_readStops_75 : decode cX5_readStops 75 = .ok (.invokevirtual 48, 3) := by decide +kernel
theorem dX5_readStops_78 : decode cX5_readStops 78 = .ok (.ireturn, 1) := by decide +kernel
set_option maxHeartbeats 4000000 in
set_option maxRecDepth 20000 in
theorem c_X5_readStops (l : Launch) (b : Nat) (D : va_G) (cy : Nat → ClassId) {tt : Nat} {M0 : xMm} {i : Nat} (hJ : JD M0) (hI : IR M0) (hi : xTr i) : xC l b D cy yX5_readStops cX5_readStops 3 (some .boolean) ({ frames := 4, cells := 0, slots := 0, locals := 86 }) [xr 4, xr i] 209 M0 (RS tt) (xPi 209 (RS tt) (fun r M' => (r = 0 ∨ r = 1) ∧ JD M' ∧ IR M' ∧ frT M' M0)) := by
  refine x_met (by decide) (Nat.le_of_ble_eq_true rfl) (fun g hg hr he => ?_)
  refine x_canon (ls' := [(0, _), (1, _)]) rfl ?_
  have loop : ∀ (n1 : Nat) (M : xMm) (k : Int), 0 ≤ k → k ≤ 8 → 8 - k < n1 → JD M → IR M → frT M M0 → xW g 209 M (RS tt) 0 0 2 [(0, xr 4), (1, xr i), (2, xi k)] [] := by
    intro n1
    induction n1 with
    | zero => intro M k h1 h2 h3; exfalso; omega
    | succ n1 ih =>
      intro M k hk1 hk2 hk3 hJ hI hf
      refine x_iload_n hg dX5_readStops_2 rfl ?_
      refine x_bipush hg dX5_readStops_3 (by decide) ?_
      refine x_icmp_ge (tgt := 74) hg dX5_readStops_5 (by decide) (by omega) (by omega) (fun c5 => ?_) (fun c5 => ?_)
      · skip
        refine x_aload_n hg dX5_readStops_74 rfl ?_
        refine x_cVi hg he [] [] dX5_readStops_75 mv_X5_48 (c_X5_refuseToken l b D cy hJ) (by decide) rfl rfl (Nat.le_of_ble_eq_true rfl) (by decide) (by decide) (fun r75 M75 q75 => ?_)
        obtain ⟨hr75, hJ75, hf75⟩ := q75
        refine x_iret hg hr (Or.inr ⟨rfl, (by omega)⟩) dX5_readStops_78 (Nat.le_refl _) (Nat.le_refl _) ?_
        first | exact ⟨rfl, rfl, _, rfl, by omega, hJ52, IR_D hf52 hI30, frT_tr (frT_D hf52) (frT_tr hf30 (frT_tr hf21 (frT_tr hf11 hf)))⟩ | exact ⟨rfl, rfl, _, rfl, by omega, hJ60, hI60, frT_tr hf60 (frT_tr hf30 (frT_tr hf21 (frT_tr hf11 hf)))⟩ | exact ⟨rfl, rfl, _, rfl, by omega, hJ30, hI30, frT_tr hf30 (frT_tr hf21 (frT_tr hf11 hf))⟩ | exact ⟨rfl, rfl, _, rfl, by omega, hJ21, hI21, frT_tr hf21 (frT_tr hf11 hf)⟩ | exact ⟨rfl, rfl, _, rfl, by omega, hJ11, hI11, frT_tr hf11 hf⟩ | exact ⟨rfl, rfl, _, rfl, by omega, hJ75, IR_D hf75 hI, frT_tr (frT_D hf75) hf⟩
      · skip
        refine x_aload_n hg dX5_readStops_8 rfl ?_
        refine x_aload_n hg dX5_readStops_9 rfl ?_
        refine x_iload_n hg dX5_readStops_10 rfl ?_
        refine x_cVi hg he [_, _] [] dX5_readStops_11 mv_X5_70 (c_X5_takeStation l b D cy hJ hI hi (by omega)) (by decide) rfl rfl (Nat.le_of_ble_eq_true rfl) (by decide) (by decide) (fun r11 M11 q11 => ?_)
        obtain ⟨hr11, hJ11, hI11, hf11⟩ := q11
        refine x_if_eq (tgt := 36) hg dX5_readStops_14 (by decide) (by omega) (fun c14 => ?_) (fun c14 => ?_)
        · skip
          refine x_iconst hg dX5_readStops_36 ?_
          refine x_iret hg hr (Or.inr ⟨rfl, by first | exact Or.inl rfl | exact Or.inr rfl | omega⟩) dX5_readStops_37 (Nat.le_refl _) (Nat.le_refl _) ?_
          first | exact ⟨rfl, rfl, _, rfl, by omega, hJ52, IR_D hf52 hI30, frT_tr (frT_D hf52) (frT_tr hf30 (frT_tr hf21 (frT_tr hf11 hf)))⟩ | exact ⟨rfl, rfl, _, rfl, by omega, hJ60, hI60, frT_tr hf60 (frT_tr hf30 (frT_tr hf21 (frT_tr hf11 hf)))⟩ | exact ⟨rfl, rfl, _, rfl, by omega, hJ30, hI30, frT_tr hf30 (frT_tr hf21 (frT_tr hf11 hf))⟩ | exact ⟨rfl, rfl, _, rfl, by omega, hJ21, hI21, frT_tr hf21 (frT_tr hf11 hf)⟩ | exact ⟨rfl, rfl, _, rfl, by omega, hJ11, hI11, frT_tr hf11 hf⟩ | exact ⟨rfl, rfl, _, rfl, by omega, hJ75, IR_D hf75 hI, frT_tr (frT_D hf75) hf⟩
        · skip
          refine x_aload_n hg dX5_readStops_17 rfl ?_
          refine x_ldc2 hg 24948 dX5_readStops_18 (List.mem_of_getElem? (i := 517) (by decide +kernel)) ?_
          refine x_cVi hg he [_] [] dX5_readStops_21 mv_X5_54 (c_X5_takeWord l b D cy hJ11 hI11 (by decide)) (by decide) rfl rfl (Nat.le_of_ble_eq_true rfl) (by decide) (by decide) (fun r21 M21 q21 => ?_)
          obtain ⟨hr21, hJ21, hI21, hf21⟩ := q21
          refine x_if_eq (tgt := 36) hg dX5_readStops_24 (by decide) (by omega) (fun c24 => ?_) (fun c24 => ?_)
          · skip
            refine x_iconst hg dX5_readStops_36 ?_
            refine x_iret hg hr (Or.inr ⟨rfl, by first | exact Or.inl rfl | exact Or.inr rfl | omega⟩) dX5_readStops_37 (Nat.le_refl _) (Nat.le_refl _) ?_
            first | exact ⟨rfl, rfl, _, rfl, by omega, hJ52, IR_D hf52 hI30, frT_tr (frT_D hf52) (frT_tr hf30 (frT_tr hf21 (frT_tr hf11 hf)))⟩ | exact ⟨rfl, rfl, _, rfl, by omega, hJ60, hI60, frT_tr hf60 (frT_tr hf30 (frT_tr hf21 (frT_tr hf11 hf)))⟩ | exact ⟨rfl, rfl, _, rfl, by omega, hJ30, hI30, frT_tr hf30 (frT_tr hf21 (frT_tr hf11 hf))⟩ | exact ⟨rfl, rfl, _, rfl, by omega, hJ21, hI21, frT_tr hf21 (frT_tr hf11 hf)⟩ | exact ⟨rfl, rfl, _, rfl, by omega, hJ11, hI11, frT_tr hf11 hf⟩ | exact ⟨rfl, rfl, _, rfl, by omega, hJ75, IR_D hf75 hI, frT_tr (frT_D hf75) hf⟩
          · skip
            refine x_aload_n hg dX5_readStops_27 rfl ?_
            refine x_aload_n hg dX5_readStops_28 rfl ?_
            refine x_iload_n hg dX5_readStops_29 rfl ?_
            refine x_cVi hg he [_, _] [] dX5_readStops_30 mv_X5_76 (c_X5_takeMinute l b D cy hJ21 hI21 hi (by omega)) (by decide) rfl rfl (Nat.le_of_ble_eq_true rfl) (by decide) (by decide) (fun r30 M30 q30 => ?_)
            obtain ⟨hr30, hJ30, hI30, hf30⟩ := q30
            have hk30 := hJ30.2.2.2.1
            refine x_if_ne (tgt := 38) hg dX5_readStops_33 (by decide) (by omega) (fun c33 => ?_) (fun c33 => ?_)
            · skip
              refine x_iload_n hg dX5_readStops_38 rfl ?_
              refine x_if_le (tgt := 57) hg dX5_readStops_39 (by decide) (by omega) (fun c39 => ?_) (fun c39 => ?_)
              · skip
                refine x_aload_n hg dX5_readStops_57 rfl ?_
                refine x_bipush hg dX5_readStops_58 (by decide) ?_
                refine x_cVi hg he [_] [] dX5_readStops_60 mv_X5_66 (c_X5_takeSign l b D cy hJ30 hI30 (by decide)) (by decide) rfl rfl (Nat.le_of_ble_eq_true rfl) (by decide) (by decide) (fun r60 M60 q60 => ?_)
                obtain ⟨hr60, hJ60, hI60, hf60⟩ := q60
                refine x_if_ne (tgt := 68) hg dX5_readStops_63 (by decide) (by omega) (fun c63 => ?_) (fun c63 => ?_)
                · skip
                  refine x_iinc (ls' := [(0, _), (1, _), (2, _)]) hg dX5_readStops_68 rfl (by decide) rfl ?_
                  refine x_goto (tgt := 2) hg dX5_readStops_71 (by decide) ?_
                  exact ih _ _ (by omega) (by omega) (by omega) hJ60 hI60 (frT_tr hf60 (frT_tr hf30 (frT_tr hf21 (frT_tr hf11 hf))))
                · skip
                  refine x_iconst hg dX5_readStops_66 ?_
                  refine x_iret hg hr (Or.inr ⟨rfl, by first | exact Or.inl rfl | exact Or.inr rfl | omega⟩) dX5_readStops_67 (Nat.le_refl _) (Nat.le_refl _) ?_
                  first | exact ⟨rfl, rfl, _, rfl, by omega, hJ52, IR_D hf52 hI30, frT_tr (frT_D hf52) (frT_tr hf30 (frT_tr hf21 (frT_tr hf11 hf)))⟩ | exact ⟨rfl, rfl, _, rfl, by omega, hJ60, hI60, frT_tr hf60 (frT_tr hf30 (frT_tr hf21 (frT_tr hf11 hf)))⟩ | exact ⟨rfl, rfl, _, rfl, by omega, hJ30, hI30, frT_tr hf30 (frT_tr hf21 (frT_tr hf11 hf))⟩ | exact ⟨rfl, rfl, _, rfl, by omega, hJ21, hI21, frT_tr hf21 (frT_tr hf11 hf)⟩ | exact ⟨rfl, rfl, _, rfl, by omega, hJ11, hI11, frT_tr hf11 hf⟩ | exact ⟨rfl, rfl, _, rfl, by omega, hJ75, IR_D hf75 hI, frT_tr (frT_D hf75) hf⟩
              · skip
                refine x_aload_n hg dX5_readStops_42 rfl ?_
                refine x_getI hg dX5_readStops_43 fl_X5_33 (by decide) rfl ?_
                refine x_bipush hg dX5_readStops_46 (by decide) ?_
                refine x_icmp_ne (tgt := 57) hg dX5_readStops_48 (by decide) (by omega) (by omega) (fun c48 => ?_) (fun c48 => ?_)
                · skip
                  refine x_aload_n hg dX5_readStops_57 rfl ?_
                  refine x_bipush hg dX5_readStops_58 (by decide) ?_
                  refine x_cVi hg he [_] [] dX5_readStops_60 mv_X5_66 (c_X5_takeSign l b D cy hJ30 hI30 (by decide)) (by decide) rfl rfl (Nat.le_of_ble_eq_true rfl) (by decide) (by decide) (fun r60 M60 q60 => ?_)
                  obtain ⟨hr60, hJ60, hI60, hf60⟩ := q60
                  refine x_if_ne (tgt := 68) hg dX5_readStops_63 (by decide) (by omega) (fun c63 => ?_) (fun c63 => ?_)
                  · skip
                    refine x_iinc (ls' := [(0, _), (1, _), (2, _)]) hg dX5_readStops_68 rfl (by decide) rfl ?_
                    refine x_goto (tgt := 2) hg dX5_readStops_71 (by decide) ?_
                    exact ih _ _ (by omega) (by omega) (by omega) hJ60 hI60 (frT_tr hf60 (frT_tr hf30 (frT_tr hf21 (frT_tr hf11 hf))))
                  · skip
                    refine x_iconst hg dX5_readStops_66 ?_
                    refine x_iret hg hr (Or.inr ⟨rfl, by first | exact Or.inl rfl | exact Or.inr rfl | omega⟩) dX5_readStops_67 (Nat.le_refl _) (Nat.le_refl _) ?_
                    first | exact ⟨rfl, rfl, _, rfl, by omega, hJ52, IR_D hf52 hI30, frT_tr (frT_D hf52) (frT_tr hf30 (frT_tr hf21 (frT_tr hf11 hf)))⟩ | exact ⟨rfl, rfl, _, rfl, by omega, hJ60, hI60, frT_tr hf60 (frT_tr hf30 (frT_tr hf21 (frT_tr hf11 hf)))⟩ | exact ⟨rfl, rfl, _, rfl, by omega, hJ30, hI30, frT_tr hf30 (frT_tr hf21 (frT_tr hf11 hf))⟩ | exact ⟨rfl, rfl, _, rfl, by omega, hJ21, hI21, frT_tr hf21 (frT_tr hf11 hf)⟩ | exact ⟨rfl, rfl, _, rfl, by omega, hJ11, hI11, frT_tr hf11 hf⟩ | exact ⟨rfl, rfl, _, rfl, by omega, hJ75, IR_D hf75 hI, frT_tr (frT_D hf75) hf⟩
                · skip
                  refine x_aload_n hg dX5_readStops_51 rfl ?_
                  refine x_cVv hg he [] [] dX5_readStops_52 mv_X5_30 (c_X5_advance l b D cy (JD_B hJ30)) (by decide) rfl rfl (Nat.le_of_ble_eq_true rfl) (by decide) (by decide) (fun M52 q52 => ?_)
                  obtain ⟨hJ52, hf52⟩ := q52
                  refine x_iconst hg dX5_readStops_55 ?_
                  refine x_iret hg hr (Or.inr ⟨rfl, by first | exact Or.inl rfl | exact Or.inr rfl | omega⟩) dX5_readStops_56 (Nat.le_refl _) (Nat.le_refl _) ?_
                  first | exact ⟨rfl, rfl, _, rfl, by omega, hJ52, IR_D hf52 hI30, frT_tr (frT_D hf52) (frT_tr hf30 (frT_tr hf21 (frT_tr hf11 hf)))⟩ | exact ⟨rfl, rfl, _, rfl, by omega, hJ60, hI60, frT_tr hf60 (frT_tr hf30 (frT_tr hf21 (frT_tr hf11 hf)))⟩ | exact ⟨rfl, rfl, _, rfl, by omega, hJ30, hI30, frT_tr hf30 (frT_tr hf21 (frT_tr hf11 hf))⟩ | exact ⟨rfl, rfl, _, rfl, by omega, hJ21, hI21, frT_tr hf21 (frT_tr hf11 hf)⟩ | exact ⟨rfl, rfl, _, rfl, by omega, hJ11, hI11, frT_tr hf11 hf⟩ | exact ⟨rfl, rfl, _, rfl, by omega, hJ75, IR_D hf75 hI, frT_tr (frT_D hf75) hf⟩
            · skip
              refine x_iconst hg dX5_readStops_36 ?_
              refine x_iret hg hr (Or.inr ⟨rfl, by first | exact Or.inl rfl | exact Or.inr rfl | omega⟩) dX5_readStops_37 (Nat.le_refl _) (Nat.le_refl _) ?_
              first | exact ⟨rfl, rfl, _, rfl, by omega, hJ52, IR_D hf52 hI30, frT_tr (frT_D hf52) (frT_tr hf30 (frT_tr hf21 (frT_tr hf11 hf)))⟩ | exact ⟨rfl, rfl, _, rfl, by omega, hJ60, hI60, frT_tr hf60 (frT_tr hf30 (frT_tr hf21 (frT_tr hf11 hf)))⟩ | exact ⟨rfl, rfl, _, rfl, by omega, hJ30, hI30, frT_tr hf30 (frT_tr hf21 (frT_tr hf11 hf))⟩ | exact ⟨rfl, rfl, _, rfl, by omega, hJ21, hI21, frT_tr hf21 (frT_tr hf11 hf)⟩ | exact ⟨rfl, rfl, _, rfl, by omega, hJ11, hI11, frT_tr hf11 hf⟩ | exact ⟨rfl, rfl, _, rfl, by omega, hJ75, IR_D hf75 hI, frT_tr (frT_D hf75) hf⟩
  refine x_iconst hg dX5_readStops_0 ?_
  refine x_istore_n (ls' := [(0, _), (1, _), (2, _)]) hg dX5_readStops_1 rfl (by decide) rfl ?_
  exact loop 9 M0 0 (by omega) (by omega) (by omega) hJ hI (frT_rf M0)

theorem dX5_read_0 : decode cX5_read 0 = .ok (.aload_n 1, 1) := by decide +kernel
theorem dX5_read_1 : decode cX5_read 1 = .ok (.iconst 0, 1) := by decide +kernel
theorem dX5_read_2 : decode cX5_read 2 = .ok (.putfield 19, 3) := by decide +kernel
theorem dX5_read_5 : decode cX5_read 5 = .ok (.aload_n 0, 1) := by decide +kernel
theorem dX5_read_6 : decode cX5_read 6 = .ok (.iconst 0, 1) := by decide +kernel
theorem dX5_read_7 : decode cX5_read 7 = .ok (.putfield 24, 3) := by decide +kernel
theorem dX5_read_10 : decode cX5_read 10 = .ok (.aload_n 0, 1) := by decide +kernel
theorem dX5_read_11 : decode cX5_read 11 = .ok (.iconst (-1), 1) := by decide +kernel
theorem dX5_read_12 : decode cX5_read 12 = .ok (.putfield 15, 3) := by decide +kernel
theorem dX5_read_15 : decode cX5_read 15 = .ok (.aload_n 0, 1) := by decide +kernel
theorem dX5_read_16 : decode cX5_read 16 = .ok (.iconst 0, 1) := by decide +kernel
theorem dX5_read_17 : decode cX5_read 17 = .ok (.putfield 27, 3) := by decide +kernel
theorem dX5_read_20 : decode cX5_read 20 = .ok (.aload_n 0, 1) := by decide +kernel
theorem dX5_read_21 : decode cX5_read 21 = .ok (.invokevirtual 30, 3) := by decide +kernel
theorem dX5_read_24 : decode cX5_read 24 = .ok (.iconst 0, 1) := by decide +kernel
theorem dX5_read_25 : decode cX5_read 25 = .ok (.istore_n 2, 1) := by decide +kernel
theorem dX5_read_26 : decode cX5_read 26 = .ok (.iload_n 2, 1) := by decide +kernel
theorem dX5_read_27 : decode cX5_read 27 = .ok (.bipush 8, 2) := by decide +kernel
theorem dX5_read_29 : decode cX5_read 29 = .ok (.if_icmp .ge 55, 3) := by decide +kernel
theorem dX5_read_32 : decode cX5_read 32 = .ok (.aload_n 0, 1) := by decide +kernel
theorem dX5_read_33 : decode cX5_read 33 = .ok (.getfield 33, 3) := by decide +kernel
theorem dX5_read_36 : decode cX5_read 36 = .ok (.ifCond .eq 48, 3) := by decide +kernel
theorem dX5_read_39 : decode cX5_read 39 = .ok (.aload_n 0, 1) := by decide +kernel
theorem dX5_read_40 : decode cX5_read 40 = .ok (.aload_n 1, 1) := by decide +kernel
theorem dX5_read_41 : decode cX5_read 41 = .ok (.aload_n 1, 1) := by decide +kernel
theorem dX5_read_42 : decode cX5_read 42 = .ok (.getfield 36, 3) := by decide +kernel
theorem dX5_read_45 : decode cX5_read 45 = .ok (.iload_n 2, 1) := by decide +kernel
theorem dX5_read_46 : decode cX5_read 46 = .ok (.aaload, 1) := by decide +kernel
theorem dX5_read_47 : decode cX5_read 47 = .ok (.invokevirtual 40, 3) := by decide +kernel
theorem dX5_read_50 : decode cX5_read 50 = .ok (.ifCond .eq 16, 3) := by decide +kernel
theorem dX5_read_53 : decode cX5_read 53 = .ok (.aload_n 0, 1) := by decide +kernel
theorem dX5_read_54 : decode cX5_read 54 = .ok (.aload_n 1, 1) := by decide +kernel
theorem dX5_read_55 : decode cX5_read 55 = .ok (.getfield 36, 3) := by decide +kernel
theorem dX5_read_58 : decode cX5_read 58 = .ok (.iload_n 2, 1) := by decide +kernel
theorem dX5_read_59 : decode cX5_read 59 = .ok (.aaload, 1) := by decide +kernel
theorem dX5_read_60 : decode cX5_read 60 = .ok (.invokevirtual 44, 3) := by decide +kernel
theorem dX5_read_63 : decode cX5_read 63 = .ok (.ifCond .ne 5, 3) := by decide +kernel
theorem dX5_read_66 : decode cX5_read 66 = .ok (.iconst 0, 1) := by decide +kernel
theorem dX5_read_67 : decode cX5_read 67 = .ok (.ireturn, 1) := by decide +kernel
theorem dX5_read_68 : decode cX5_read 68 = .ok (.aload_n 1, 1) := by decide +kernel
theorem dX5_read_69 : decode cX5_read 69 = .ok (.dup, 1) := by decide +kernel
theorem dX5_read_70 : decode cX5_read 70 = .ok (.getfield 19, 3) := by decide +kernel
theorem dX5_read_73 : decode cX5_read 73 = .ok (.iconst 1, 1) := by decide +kernel
theorem dX5_read_74 : decode cX5_read 74 = .ok (.iadd, 1) := by decide +kernel
theorem dX5_read_75 : decode cX5_read 75 = .ok (.putfield 19, 3) := by decide +kernel
theorem dX5_read_78 : decode cX5_read 78 = .ok (.iinc 2 1, 3) := by decide +kernel
theorem dX5_read_81 : decode cX5_read 81 = .ok (.goto (-55), 3) := by decide +kernel
theorem dX5_read_84 : decode cX5_read 84 = .ok (.aload_n 0, 1) := by decide +kernel
theorem dX5_read_85 : decode cX5_read 85 = .ok (.getfield 33, 3) := by decide +kernel
theorem dX5_read_88 : decode cX5_read 88 = .ok (.ifCond .eq 10, 3) := by decide +kernel
theorem dX5_read_91 : decode cX5_read 91 = .ok (.aload_n 0, 1) := by decide +kernel
theorem dX5_read_92 : decode cX5_read 92 = .ok (.invokevirtual 48, 3) := by decide +kernel
theorem dX5_read_95 : decode cX5_read 95 = .ok (.ifCond .eq 7, 3) := by decide +kernel
theorem dX5_read_98 : decode cX5_read 98 = .ok (.iconst 1, 1) := by decide +kernel
theorem dX5_read_99 : decode cX5_read 99 = .ok (.goto 4, 3) := by decide +kernel
theorem dX5_read_102 : decode cX5_read 102 = .ok (.iconst 0, 1) := by decide +kernel
theorem dX5_read_103 : decode cX5_read 103 = .ok (.ireturn, 1) := by decide +kernel
set_option maxHeartbeats 4000000 in
set_option maxRecDepth 20000 in
theorem c_X5_read (l : Launch) (b : Nat) (D : va_G) (cy : Nat → ClassId) {tt : Nat} {M0 : xMm} {q : Nat} (hJ : JG M0) (hI : IR M0) (hq : xTt q) : xC l b D cy yX5_read cX5_read 3 (some .boolean) ({ frames := 5, cells := 0, slots := 0, locals := 108 }) [xr 4, xr q] 209 M0 (RS tt) (xPi 209 (RS tt) (fun r M' => (r = 0 ∨ r = 1) ∧ JD M' ∧ IR M' ∧ frR M' M0)) := by
  refine x_met (by decide) (Nat.le_of_ble_eq_true rfl) (fun g hg hr he => ?_)
  refine x_canon (ls' := [(0, _), (1, _)]) rfl ?_
  have loop : ∀ (n1 : Nat) (M : xMm) (k : Int), 0 ≤ k → k ≤ 8 → 8 - k < n1 → JD M → IR M → M q 1 ≤ k → frR M M0 → xW g 209 M (RS tt) 0 0 26 [(0, xr 4), (1, xr q), (2, xi k)] [] := by
    intro n1
    induction n1 with
    | zero => intro M k h1 h2 h3; exfalso; omega
    | succ n1 ih =>
      intro M k hk1 hk2 hk3 hJ hI hct hf
      have hk := hJ.2.2.2.1
      refine x_iload_n hg dX5_read_26 rfl ?_
      refine x_bipush hg dX5_read_27 (by decide) ?_
      refine x_icmp_ge (tgt := 84) hg dX5_read_29 (by decide) (by omega) (by omega) (fun c29 => ?_) (fun c29 => ?_)
      · skip
        refine x_aload_n hg dX5_read_84 rfl ?_
        refine x_getI hg dX5_read_85 fl_X5_33 (by decide) rfl ?_
        refine x_if_eq (tgt := 98) hg dX5_read_88 (by decide) (by omega) (fun c88 => ?_) (fun c88 => ?_)
        · skip
          refine x_iconst hg dX5_read_98 ?_
          refine x_goto (tgt := 103) hg dX5_read_99 (by decide) ?_
          refine x_iret hg hr (Or.inr ⟨rfl, by first | exact Or.inl rfl | exact Or.inr rfl | omega⟩) dX5_read_103 (Nat.le_refl _) (Nat.le_refl _) ?_
          first | exact ⟨rfl, rfl, _, rfl, by omega, hJ, hI, hf⟩ | exact ⟨rfl, rfl, _, rfl, by omega, hJ60, hI60, frR_T hf60 (frR_T hf47 hf)⟩ | exact ⟨rfl, rfl, _, rfl, by omega, hJ47, hI47, frR_T hf47 hf⟩ | exact ⟨rfl, rfl, _, rfl, by omega, hJ92, IR_D hf92 hI, frR_T (frT_D hf92) hf⟩
        · skip
          refine x_aload_n hg dX5_read_91 rfl ?_
          refine x_cVi hg he [] [] dX5_read_92 mv_X5_48 (c_X5_refuseToken l b D cy hJ) (by decide) rfl rfl (Nat.le_of_ble_eq_true rfl) (by decide) (by decide) (fun r92 M92 q92 => ?_)
          obtain ⟨hr92, hJ92, hf92⟩ := q92
          refine x_if_eq (tgt := 102) hg dX5_read_95 (by decide) (by omega) (fun c95 => ?_) (fun c95 => ?_)
          · skip
            refine x_iconst hg dX5_read_102 ?_
            refine x_iret hg hr (Or.inr ⟨rfl, by first | exact Or.inl rfl | exact Or.inr rfl | omega⟩) dX5_read_103 (Nat.le_refl _) (Nat.le_refl _) ?_
            first | exact ⟨rfl, rfl, _, rfl, by omega, hJ, hI, hf⟩ | exact ⟨rfl, rfl, _, rfl, by omega, hJ60, hI60, frR_T hf60 (frR_T hf47 hf)⟩ | exact ⟨rfl, rfl, _, rfl, by omega, hJ47, hI47, frR_T hf47 hf⟩ | exact ⟨rfl, rfl, _, rfl, by omega, hJ92, IR_D hf92 hI, frR_T (frT_D hf92) hf⟩
          · skip
            refine x_iconst hg dX5_read_98 ?_
            refine x_goto (tgt := 103) hg dX5_read_99 (by decide) ?_
            refine x_iret hg hr (Or.inr ⟨rfl, by first | exact Or.inl rfl | exact Or.inr rfl | omega⟩) dX5_read_103 (Nat.le_refl _) (Nat.le_refl _) ?_
            first | exact ⟨rfl, rfl, _, rfl, by omega, hJ, hI, hf⟩ | exact ⟨rfl, rfl, _, rfl, by omega, hJ60, hI60, frR_T hf60 (frR_T hf47 hf)⟩ | exact ⟨rfl, rfl, _, rfl, by omega, hJ47, hI47, frR_T hf47 hf⟩ | exact ⟨rfl, rfl, _, rfl, by omega, hJ92, IR_D hf92 hI, frR_T (frT_D hf92) hf⟩
      · skip
        refine x_aload_n hg dX5_read_32 rfl ?_
        refine x_getI hg dX5_read_33 fl_X5_33 (by decide) rfl ?_
        refine x_if_eq (tgt := 84) hg dX5_read_36 (by decide) (by omega) (fun c36 => ?_) (fun c36 => ?_)
        · skip
          refine x_aload_n hg dX5_read_84 rfl ?_
          refine x_getI hg dX5_read_85 fl_X5_33 (by decide) rfl ?_
          refine x_if_eq (tgt := 98) hg dX5_read_88 (by decide) (by omega) (fun c88 => ?_) (fun c88 => ?_)
          · skip
            refine x_iconst hg dX5_read_98 ?_
            refine x_goto (tgt := 103) hg dX5_read_99 (by decide) ?_
            refine x_iret hg hr (Or.inr ⟨rfl, by first | exact Or.inl rfl | exact Or.inr rfl | omega⟩) dX5_read_103 (Nat.le_refl _) (Nat.le_refl _) ?_
            first | exact ⟨rfl, rfl, _, rfl, by omega, hJ, hI, hf⟩ | exact ⟨rfl, rfl, _, rfl, by omega, hJ60, hI60, frR_T hf60 (frR_T hf47 hf)⟩ | exact ⟨rfl, rfl, _, rfl, by omega, hJ47, hI47, frR_T hf47 hf⟩ | exact ⟨rfl, rfl, _, rfl, by omega, hJ92, IR_D hf92 hI, frR_T (frT_D hf92) hf⟩
          · skip
            refine x_aload_n hg dX5_read_91 rfl ?_
            refine x_cVi hg he [] [] dX5_read_92 mv_X5_48 (c_X5_refuseToken l b D cy hJ) (by decide) rfl rfl (Nat.le_of_ble_eq_true rfl) (by decide) (by decide) (fun r92 M92 q92 => ?_)
            obtain ⟨hr92, hJ92, hf92⟩ := q92
            refine x_if_eq (tgt := 102) hg dX5_read_95 (by decide) (by omega) (fun c95 => ?_) (fun c95 => ?_)
            · skip
              refine x_iconst hg dX5_read_102 ?_
              refine x_iret hg hr (Or.inr ⟨rfl, by first | exact Or.inl rfl | exact Or.inr rfl | omega⟩) dX5_read_103 (Nat.le_refl _) (Nat.le_refl _) ?_
              first | exact ⟨rfl, rfl, _, rfl, by omega, hJ, hI, hf⟩ | exact ⟨rfl, rfl, _, rfl, by omega, hJ60, hI60, frR_T hf60 (frR_T hf47 hf)⟩ | exact ⟨rfl, rfl, _, rfl, by omega, hJ47, hI47, frR_T hf47 hf⟩ | exact ⟨rfl, rfl, _, rfl, by omega, hJ92, IR_D hf92 hI, frR_T (frT_D hf92) hf⟩
            · skip
              refine x_iconst hg dX5_read_98 ?_
              refine x_goto (tgt := 103) hg dX5_read_99 (by decide) ?_
              refine x_iret hg hr (Or.inr ⟨rfl, by first | exact Or.inl rfl | exact Or.inr rfl | omega⟩) dX5_read_103 (Nat.le_refl _) (Nat.le_refl _) ?_
              first | exact ⟨rfl, rfl, _, rfl, by omega, hJ, hI, hf⟩ | exact ⟨rfl, rfl, _, rfl, by omega, hJ60, hI60, frR_T hf60 (frR_T hf47 hf)⟩ | exact ⟨rfl, rfl, _, rfl, by omega, hJ47, hI47, frR_T hf47 hf⟩ | exact ⟨rfl, rfl, _, rfl, by omega, hJ92, IR_D hf92 hI, frR_T (frT_D hf92) hf⟩
        · skip
          refine x_aload_n hg dX5_read_39 rfl ?_
          refine x_aload_n hg dX5_read_40 rfl ?_
          refine x_aload_n hg dX5_read_41 rfl ?_
          refine x_getR hg dX5_read_42 fl_X5_36 (oO_tt hq) rfl (RS_tt hq) (by omega) ?_
          refine x_iload_n hg dX5_read_45 rfl ?_
          refine x_aaload (len := 8) (et := 4) hg dX5_read_46 (oA_tt hq) (by decide) (by omega) (RS_trn hq _) (by omega) ?_
          refine x_cVi hg he [_, _] [] dX5_read_47 mv_X5_40 (c_X5_readHead l b D cy hJ hI hq (xTr_of hq (by omega))) (by decide) rfl rfl (Nat.le_of_ble_eq_true rfl) (by decide) (by decide) (fun r47 M47 q47 => ?_)
          obtain ⟨hr47, hJ47, hI47, hf47⟩ := q47
          refine x_if_eq (tgt := 66) hg dX5_read_50 (by decide) (by omega) (fun c50 => ?_) (fun c50 => ?_)
          · skip
            refine x_iconst hg dX5_read_66 ?_
            refine x_iret hg hr (Or.inr ⟨rfl, by first | exact Or.inl rfl | exact Or.inr rfl | omega⟩) dX5_read_67 (Nat.le_refl _) (Nat.le_refl _) ?_
            first | exact ⟨rfl, rfl, _, rfl, by omega, hJ, hI, hf⟩ | exact ⟨rfl, rfl, _, rfl, by omega, hJ60, hI60, frR_T hf60 (frR_T hf47 hf)⟩ | exact ⟨rfl, rfl, _, rfl, by omega, hJ47, hI47, frR_T hf47 hf⟩ | exact ⟨rfl, rfl, _, rfl, by omega, hJ92, IR_D hf92 hI, frR_T (frT_D hf92) hf⟩
          · skip
            refine x_aload_n hg dX5_read_53 rfl ?_
            refine x_aload_n hg dX5_read_54 rfl ?_
            refine x_getR hg dX5_read_55 fl_X5_36 (oO_tt hq) rfl (RS_tt hq) (by omega) ?_
            refine x_iload_n hg dX5_read_58 rfl ?_
            refine x_aaload (len := 8) (et := 4) hg dX5_read_59 (oA_tt hq) (by decide) (by omega) (RS_trn hq _) (by omega) ?_
            refine x_cVi hg he [_] [] dX5_read_60 mv_X5_44 (c_X5_readStops l b D cy hJ47 hI47 (xTr_of hq (by omega))) (by decide) rfl rfl (Nat.le_of_ble_eq_true rfl) (by decide) (by decide) (fun r60 M60 q60 => ?_)
            obtain ⟨hr60, hJ60, hI60, hf60⟩ := q60
            refine x_if_ne (tgt := 68) hg dX5_read_63 (by decide) (by omega) (fun c63 => ?_) (fun c63 => ?_)
            · skip
              refine x_aload_n hg dX5_read_68 rfl ?_
              refine x_dup hg dX5_read_69 rfl ?_
              refine x_getI hg dX5_read_70 fl_X5_19 (oO_tt hq) rfl ?_
              refine x_iconst hg dX5_read_73 ?_
              refine x_iadd hg dX5_read_74 ?_
              refine x_putI hg dX5_read_75 fl_X5_19 ft_8_1 (oO_tt hq) rfl ?_
              refine x_iinc (ls' := [(0, _), (1, _), (2, _)]) hg dX5_read_78 rfl (by decide) rfl ?_
              refine x_goto (tgt := 26) hg dX5_read_81 (by decide) ?_
              have e1 : M60 q = M q := by rw [hf60 q (by omega), hf47 q (by omega)]
              have e2 : M60 q 1 = M q 1 := by rw [e1]
              have hq1 := hI.1 q hq
              exact ih _ _ (by omega) (by omega) (by omega) (JD_congr hJ60 (fun a ha => by funext c; exact mu_nc (by omega))) (IR_ct hI60 hq (by omega)) (by rw [mu_s]; omega) (frR_mu (frR_T hf60 (frR_T hf47 hf)) (by omega))
            · skip
              refine x_iconst hg dX5_read_66 ?_
              refine x_iret hg hr (Or.inr ⟨rfl, by first | exact Or.inl rfl | exact Or.inr rfl | omega⟩) dX5_read_67 (Nat.le_refl _) (Nat.le_refl _) ?_
              first | exact ⟨rfl, rfl, _, rfl, by omega, hJ, hI, hf⟩ | exact ⟨rfl, rfl, _, rfl, by omega, hJ60, hI60, frR_T hf60 (frR_T hf47 hf)⟩ | exact ⟨rfl, rfl, _, rfl, by omega, hJ47, hI47, frR_T hf47 hf⟩ | exact ⟨rfl, rfl, _, rfl, by omega, hJ92, IR_D hf92 hI, frR_T (frT_D hf92) hf⟩
  refine x_aload_n hg dX5_read_0 rfl ?_
  refine x_iconst hg dX5_read_1 ?_
  refine x_putI hg dX5_read_2 fl_X5_19 ft_8_1 (oO_tt hq) rfl ?_
  refine x_aload_n hg dX5_read_5 rfl ?_
  refine x_iconst hg dX5_read_6 ?_
  refine x_putI hg dX5_read_7 fl_X5_24 ft_5_6 (by decide) rfl ?_
  refine x_aload_n hg dX5_read_10 rfl ?_
  refine x_iconst hg dX5_read_11 ?_
  refine x_putI hg dX5_read_12 fl_X5_15 ft_5_7 (by decide) rfl ?_
  refine x_aload_n hg dX5_read_15 rfl ?_
  refine x_iconst hg dX5_read_16 ?_
  refine x_putI hg dX5_read_17 fl_X5_27 ft_5_1 (by decide) rfl ?_
  refine x_aload_n hg dX5_read_20 rfl ?_
  refine x_cVv hg he [] [] dX5_read_21 mv_X5_30 (c_X5_advance l b D cy ⟨IT_congr hJ.1 (by funext c; rw [mu_nc (by decide), mu_nc (by decide), mu_nc (by decide), mu_nc (by omega)]) (by funext c; rw [mu_nc (by decide), mu_nc (by decide), mu_nc (by decide), mu_nc (by omega)]), by simp (disch := omega) only [mu_s, mu_nf, mu_nc]; have := hJ.1.1; omega, by simp (disch := omega) only [mu_s, mu_nf, mu_nc]; exact hJ.2.1, by simp (disch := omega) only [mu_s, mu_nf, mu_nc]; exact hJ.2.2⟩) (by decide) rfl rfl (Nat.le_of_ble_eq_true rfl) (by decide) (by decide) (fun M21 q21 => ?_)
  obtain ⟨hJ21, hf21⟩ := q21
  have eq21 : M21 q 1 = 0 := by rw [hf21 q (by omega)]; simp (disch := omega) only [mu_s, mu_nf, mu_nc]
  refine x_iconst hg dX5_read_24 ?_
  refine x_istore_n (ls' := [(0, _), (1, _), (2, _)]) hg dX5_read_25 rfl (by decide) rfl ?_
  exact loop 9 _ 0 (by omega) (by omega) (by omega) hJ21 (IR_D hf21 (IR_D (frD_mu (frD_mu (frD_mu (fun a _ => rfl)))) (IR_ct hI hq (by decide)))) (by omega) (frR_T (frT_D hf21) (frR_mu (frR_mu (frR_mu (frR_mu (fun a _ => rfl) (by omega)) (by decide)) (by decide)) (by decide)))
end
section
theorem dX11_timetable_0 : decode cX11_timetable 0 = .ok (.aload_n 0, 1) := by decide +kernel
theorem dX11_timetable_1 : decode cX11_timetable 1 = .ok (.getfield 21, 3) := by decide +kernel
theorem dX11_timetable_4 : decode cX11_timetable 4 = .ok (.aload_n 0, 1) := by decide +kernel
theorem dX11_timetable_5 : decode cX11_timetable 5 = .ok (.getfield 32, 3) := by decide +kernel
theorem dX11_timetable_8 : decode cX11_timetable 8 = .ok (.invokevirtual 103, 3) := by decide +kernel
theorem dX11_timetable_11 : decode cX11_timetable 11 = .ok (.ifCond .ne 5, 3) := by decide +kernel
theorem dX11_timetable_14 : decode cX11_timetable 14 = .ok (.iconst (-1), 1) := by decide +kernel
theorem dX11_timetable_15 : decode cX11_timetable 15 = .ok (.ireturn, 1) := by decide +kernel
theorem dX11_timetable_16 : decode cX11_timetable 16 = .ok (.aload_n 0, 1) := by decide +kernel
theorem dX11_timetable_17 : decode cX11_timetable 17 = .ok (.getfield 28, 3) := by decide +kernel
theorem dX11_timetable_20 : decode cX11_timetable 20 = .ok (.astore_n 1, 1) := by decide +kernel
theorem dX11_timetable_21 : decode cX11_timetable 21 = .ok (.aload_n 0, 1) := by decide +kernel
theorem dX11_timetable_22 : decode cX11_timetable 22 = .ok (.aload_n 0, 1) := by decide +kernel
theorem dX11_timetable_23 : decode cX11_timetable 23 = .ok (.getfield 32, 3) := by decide +kernel
theorem dX11_timetable_26 : decode cX11_timetable 26 = .ok (.putfield 28, 3) := by decide +kernel
theorem dX11_timetable_29 : decode cX11_timetable 29 = .ok (.aload_n 0, 1) := by decide +kernel
theorem dX11_timetable_30 : decode cX11_timetable 30 = .ok (.aload_n 1, 1) := by decide +kernel
theorem dX11_timetable_31 : decode cX11_timetable 31 = .ok (.putfield 32, 3) := by decide +kernel
theorem dX11_timetable_34 : decode cX11_timetable 34 = .ok (.aload_n 0, 1) := by decide +kernel
theorem dX11_timetable_35 : decode cX11_timetable 35 = .ok (.getfield 12, 3) := by decide +kernel
theorem dX11_timetable_38 : decode cX11_timetable 38 = .ok (.iconst 0, 1) := by decide +kernel
theorem dX11_timetable_39 : decode cX11_timetable 39 = .ok (.putfield 96, 3) := by decide +kernel
theorem dX11_timetable_42 : decode cX11_timetable 42 = .ok (.aload_n 0, 1) := by decide +kernel
theorem dX11_timetable_43 : decode cX11_timetable 43 = .ok (.iconst 1, 1) := by decide +kernel
theorem dX11_timetable_44 : decode cX11_timetable 44 = .ok (.putfield 60, 3) := by decide +kernel
theorem dX11_timetable_47 : decode cX11_timetable 47 = .ok (.aload_n 0, 1) := by decide +kernel
theorem dX11_timetable_48 : decode cX11_timetable 48 = .ok (.getfield 28, 3) := by decide +kernel
theorem dX11_timetable_51 : decode cX11_timetable 51 = .ok (.getfield 107, 3) := by decide +kernel
theorem dX11_timetable_54 : decode cX11_timetable 54 = .ok (.ireturn, 1) := by decide +kernel
set_option maxHeartbeats 4000000 in
set_option maxRecDepth 20000 in
theorem c_X11_timetable (l : Launch) (b : Nat) (D : va_G) (cy : Nat → ClassId) {tt : Nat} {M : xMm}  (hJ : JG M) (hI : IR M) (htt : xTt tt) : xC l b D cy yX11_timetable cX11_timetable 2 (some .int) ({ frames := 6, cells := 0, slots := 0, locals := 130 }) [xr 1] 209 M (RS tt) (fun v n' M' R' => n' = 209 ∧ ∃ tt', xTt tt' ∧ R' = RS tt' ∧ ∃ r, v = some (xi r) ∧ JG M' ∧ IR M' ∧ (∀ a, a ≠ 1 → (a < 2 ∨ 56 < a) → M' a = M a) ∧ (M' 1 = M 1 ∨ M' 1 = mu M 1 7 1 1)) := by
  refine x_met (by decide) (Nat.le_of_ble_eq_true rfl) (fun g hg hr he => ?_)
  have htt2 : xTt (36 - tt) := by rcases htt with rfl | rfl <;> decide
  refine x_canon (ls' := [(0, _)]) rfl ?_
  refine x_aload_n hg dX11_timetable_0 rfl ?_
  refine x_getR (j9 := 4) hg dX11_timetable_1 fl_X11_21 (by decide) rfl rfl (by decide) ?_
  refine x_aload_n hg dX11_timetable_4 rfl ?_
  refine x_getR (j9 := 36 - tt) hg dX11_timetable_5 fl_X11_32 (by decide) rfl rfl (by omega) ?_
  refine x_cVi hg he [_] [] dX11_timetable_8 mv_X11_103 (c_X5_read l b D cy hJ hI htt2) (by decide) rfl rfl (Nat.le_of_ble_eq_true rfl) (by decide) (by decide) (fun r8 M8 q8 => ?_)
  obtain ⟨hr8, hJ8, hI8, hf8⟩ := q8
  refine x_if_ne (tgt := 16) hg dX11_timetable_11 (by decide) (by omega) (fun c11 => ?_) (fun c11 => ?_)
  · skip
    refine x_aload_n hg dX11_timetable_16 rfl ?_
    refine x_getR (j9 := tt) hg dX11_timetable_17 fl_X11_28 (by decide) rfl rfl (by omega) ?_
    refine x_astore_n (ls' := [(0, _), (1, _)]) hg dX11_timetable_20 rfl (by decide) rfl ?_
    refine x_aload_n hg dX11_timetable_21 rfl ?_
    refine x_aload_n hg dX11_timetable_22 rfl ?_
    refine x_getR (j9 := 36 - tt) hg dX11_timetable_23 fl_X11_32 (by decide) rfl rfl (by omega) ?_
    refine x_putR hg dX11_timetable_26 fl_X11_28 ft_11_2 (by decide) rfl (by omega) ?_
    refine x_aload_n hg dX11_timetable_29 rfl ?_
    refine x_aload_n hg dX11_timetable_30 rfl ?_
    refine x_putR hg dX11_timetable_31 fl_X11_32 ft_11_3 (by decide) rfl (by omega) ?_
    rw [RS_swap2 htt]
    refine x_aload_n hg dX11_timetable_34 rfl ?_
    refine x_getR (j9 := 2) hg dX11_timetable_35 fl_X11_12 (by decide) rfl rfl (by decide) ?_
    refine x_iconst hg dX11_timetable_38 ?_
    refine x_putI hg dX11_timetable_39 fl_X11_96 ft_7_1 (by decide) rfl ?_
    refine x_aload_n hg dX11_timetable_42 rfl ?_
    refine x_iconst hg dX11_timetable_43 ?_
    refine x_putZ hg dX11_timetable_44 fl_X11_60 ft_11_7 (by decide) rfl (by first | exact Or.inl rfl | exact Or.inr rfl | omega) ?_
    refine x_aload_n hg dX11_timetable_47 rfl ?_
    refine x_getR (j9 := 36 - tt) hg dX11_timetable_48 fl_X11_28 (by decide) rfl rfl (by omega) ?_
    refine x_getI hg dX11_timetable_51 fl_X11_107 (oO_tt htt2) rfl ?_
    try simp (disch := omega) only [mu_s, mu_nf, mu_nc]
    refine x_iret hg hr (Or.inl rfl) dX11_timetable_54 (Nat.le_refl _) (Nat.le_refl _) ?_
    refine ⟨rfl, 36 - tt, htt2, rfl, _, rfl, ?_, ?_, fun a h1 h2 => ?_, Or.inr ?_⟩
    · refine ⟨⟨by rw [mu_nc (by decide), mu_s]; decide, fun j => by rw [mu_nc (by decide), mu_nc (by decide)]; exact hJ8.1.2 j⟩, ?_, ?_⟩
      · rw [mu_nc (by decide), mu_nc (by decide)]; exact hJ8.2.2.2.2.1
      · rw [mu_nc (by decide), mu_nc (by decide)]; exact hJ8.2.2.2.2.2.1
    · exact IR_congr hI8 (fun a h1 h2 => by funext c; rw [mu_nc (by omega), mu_nc (by omega)])
    · funext c; rw [mu_nc (by omega), mu_nc (by omega), hf8 a (by omega)]
    · funext c
      by_cases e : c = 7
      · subst e; rw [mu_s, mu_s]
      · rw [mu_nf e, mu_nf e, mu_nc (by decide), hf8 1 (by omega)]
  · skip
    refine x_iconst hg dX11_timetable_14 ?_
    refine x_iret hg hr (Or.inl rfl) dX11_timetable_15 (Nat.le_refl _) (Nat.le_refl _) ?_
    refine ⟨rfl, tt, htt, rfl, _, rfl, JD_G hJ8, hI8, fun a h1 h2 => hf8 a (by omega), Or.inl (hf8 1 (by omega))⟩
end
