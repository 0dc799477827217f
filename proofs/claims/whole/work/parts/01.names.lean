-- ===== PART A: goes FIRST, ahead of the names: the tables' words, and 'selects' of the private methods out of them =====
/-- a private method of a class that the tables say can be made, by its rows of tables_1 -/
def lw_okq (q : MethodName × Nat) : Prop := (q.1.cls ≠ "java/lang/invoke/MethodHandle" ∧ q.1.cls ≠ "java/lang/invoke/VarHandle") ∧ Cond.instantiable q.1.cls q.2 ∈ tables_1 ∧ Cond.privateMethod q.1 ∈ tables_1 ∧ Cond.instanceMethod q.1 ∈ tables_1
theorem lw_p0 : lw_okq (⟨"LotPlanner$Numbers", "beAsAtFirst", "(I)V"⟩, 3) := ⟨⟨by decide +kernel, by decide +kernel⟩, List.mem_of_getElem? (i := 27) (by decide +kernel), List.mem_of_getElem? (i := 33) (by decide +kernel), List.mem_of_getElem? (i := 34) (by decide +kernel)⟩
theorem lw_p1 : lw_okq (⟨"LotPlanner$Changes", "forgetFirst", "()V"⟩, 3) := ⟨⟨by decide +kernel, by decide +kernel⟩, List.mem_of_getElem? (i := 175) (by decide +kernel), List.mem_of_getElem? (i := 335) (by decide +kernel), List.mem_of_getElem? (i := 336) (by decide +kernel)⟩
theorem lw_p2 : lw_okq (⟨"LotPlanner$Text", "lookAtClause", "(LLotPlanner$Numbers;)Z"⟩, 6) := ⟨⟨by decide +kernel, by decide +kernel⟩, List.mem_of_getElem? (i := 191) (by decide +kernel), List.mem_of_getElem? (i := 406) (by decide +kernel), List.mem_of_getElem? (i := 407) (by decide +kernel)⟩
theorem lw_p3 : lw_okq (⟨"LotPlanner$Text", "lookAtWord", "()Z"⟩, 6) := ⟨⟨by decide +kernel, by decide +kernel⟩, List.mem_of_getElem? (i := 191) (by decide +kernel), List.mem_of_getElem? (i := 410) (by decide +kernel), List.mem_of_getElem? (i := 411) (by decide +kernel)⟩
theorem lw_p4 : lw_okq (⟨"LotPlanner$Text", "signAt", "(I)I"⟩, 6) := ⟨⟨by decide +kernel, by decide +kernel⟩, List.mem_of_getElem? (i := 191) (by decide +kernel), List.mem_of_getElem? (i := 414) (by decide +kernel), List.mem_of_getElem? (i := 415) (by decide +kernel)⟩
theorem lw_p5 : lw_okq (⟨"LotPlanner$Text", "wordOf", "(I)Ljava/lang/String;"⟩, 6) := ⟨⟨by decide +kernel, by decide +kernel⟩, List.mem_of_getElem? (i := 191) (by decide +kernel), List.mem_of_getElem? (i := 418) (by decide +kernel), List.mem_of_getElem? (i := 419) (by decide +kernel)⟩
theorem lw_p6 : lw_okq (⟨"LotPlanner$Text", "stands", "(Ljava/lang/String;II)Z"⟩, 6) := ⟨⟨by decide +kernel, by decide +kernel⟩, List.mem_of_getElem? (i := 191) (by decide +kernel), List.mem_of_getElem? (i := 428) (by decide +kernel), List.mem_of_getElem? (i := 429) (by decide +kernel)⟩
theorem lw_p7 : lw_okq (⟨"LotPlanner$Text", "lookAtBlank", "()Z"⟩, 6) := ⟨⟨by decide +kernel, by decide +kernel⟩, List.mem_of_getElem? (i := 191) (by decide +kernel), List.mem_of_getElem? (i := 480) (by decide +kernel), List.mem_of_getElem? (i := 481) (by decide +kernel)⟩
theorem lw_p8 : lw_okq (⟨"LotPlanner$Text", "lookAtPeriod", "(LLotPlanner$Numbers;)Z"⟩, 6) := ⟨⟨by decide +kernel, by decide +kernel⟩, List.mem_of_getElem? (i := 191) (by decide +kernel), List.mem_of_getElem? (i := 484) (by decide +kernel), List.mem_of_getElem? (i := 485) (by decide +kernel)⟩
theorem lw_p9 : lw_okq (⟨"LotPlanner$Text", "figures", "(I)I"⟩, 6) := ⟨⟨by decide +kernel, by decide +kernel⟩, List.mem_of_getElem? (i := 191) (by decide +kernel), List.mem_of_getElem? (i := 488) (by decide +kernel), List.mem_of_getElem? (i := 489) (by decide +kernel)⟩
theorem lw_p10 : lw_okq (⟨"LotPlanner$Text", "lookAtNumber", "()Z"⟩, 6) := ⟨⟨by decide +kernel, by decide +kernel⟩, List.mem_of_getElem? (i := 191) (by decide +kernel), List.mem_of_getElem? (i := 493) (by decide +kernel), List.mem_of_getElem? (i := 494) (by decide +kernel)⟩
theorem lw_p11 : lw_okq (⟨"LotPlanner$Text", "tellClause", "(LLotPlanner$Numbers;)V"⟩, 6) := ⟨⟨by decide +kernel, by decide +kernel⟩, List.mem_of_getElem? (i := 191) (by decide +kernel), List.mem_of_getElem? (i := 498) (by decide +kernel), List.mem_of_getElem? (i := 499) (by decide +kernel)⟩
theorem lw_p12 : lw_okq (⟨"LotPlanner", "planNow", "()LLotPlanner$Plan;"⟩, 14) := ⟨⟨by decide +kernel, by decide +kernel⟩, List.mem_of_getElem? (i := 19) (by decide +kernel), List.mem_of_getElem? (i := 513) (by decide +kernel), List.mem_of_getElem? (i := 514) (by decide +kernel)⟩
theorem lw_p13 : lw_okq (⟨"LotPlanner$Lots", "reckonMadeIn", "(LLotPlanner$Numbers;III)V"⟩, 4) := ⟨⟨by decide +kernel, by decide +kernel⟩, List.mem_of_getElem? (i := 62) (by decide +kernel), List.mem_of_getElem? (i := 539) (by decide +kernel), List.mem_of_getElem? (i := 540) (by decide +kernel)⟩
theorem lw_p14 : lw_okq (⟨"LotPlanner$Lots", "offer", "(III)V"⟩, 4) := ⟨⟨by decide +kernel, by decide +kernel⟩, List.mem_of_getElem? (i := 62) (by decide +kernel), List.mem_of_getElem? (i := 543) (by decide +kernel), List.mem_of_getElem? (i := 544) (by decide +kernel)⟩
theorem lw_p15 : lw_okq (⟨"LotPlanner$Plan", "reckonPart", "(II)V"⟩, 14) := ⟨⟨by decide +kernel, by decide +kernel⟩, List.mem_of_getElem? (i := 56) (by decide +kernel), List.mem_of_getElem? (i := 552) (by decide +kernel), List.mem_of_getElem? (i := 553) (by decide +kernel)⟩
def lw_privs_1 : List (MethodName × Nat) := [(⟨"LotPlanner$Numbers", "beAsAtFirst", "(I)V"⟩, 3), (⟨"LotPlanner$Changes", "forgetFirst", "()V"⟩, 3), (⟨"LotPlanner$Text", "lookAtClause", "(LLotPlanner$Numbers;)Z"⟩, 6), (⟨"LotPlanner$Text", "lookAtWord", "()Z"⟩, 6), (⟨"LotPlanner$Text", "signAt", "(I)I"⟩, 6), (⟨"LotPlanner$Text", "wordOf", "(I)Ljava/lang/String;"⟩, 6), (⟨"LotPlanner$Text", "stands", "(Ljava/lang/String;II)Z"⟩, 6), (⟨"LotPlanner$Text", "lookAtBlank", "()Z"⟩, 6), (⟨"LotPlanner$Text", "lookAtPeriod", "(LLotPlanner$Numbers;)Z"⟩, 6), (⟨"LotPlanner$Text", "figures", "(I)I"⟩, 6), (⟨"LotPlanner$Text", "lookAtNumber", "()Z"⟩, 6), (⟨"LotPlanner$Text", "tellClause", "(LLotPlanner$Numbers;)V"⟩, 6), (⟨"LotPlanner", "planNow", "()LLotPlanner$Plan;"⟩, 14), (⟨"LotPlanner$Lots", "reckonMadeIn", "(LLotPlanner$Numbers;III)V"⟩, 4), (⟨"LotPlanner$Lots", "offer", "(III)V"⟩, 4), (⟨"LotPlanner$Plan", "reckonPart", "(II)V"⟩, 14)]
theorem lw_r1 : ∀ q ∈ lw_privs_1, lw_okq q := List.forall_mem_cons.mpr ⟨lw_p0, List.forall_mem_cons.mpr ⟨lw_p1, List.forall_mem_cons.mpr ⟨lw_p2, List.forall_mem_cons.mpr ⟨lw_p3, List.forall_mem_cons.mpr ⟨lw_p4, List.forall_mem_cons.mpr ⟨lw_p5, List.forall_mem_cons.mpr ⟨lw_p6, List.forall_mem_cons.mpr ⟨lw_p7, List.forall_mem_cons.mpr ⟨lw_p8, List.forall_mem_cons.mpr ⟨lw_p9, List.forall_mem_cons.mpr ⟨lw_p10, List.forall_mem_cons.mpr ⟨lw_p11, List.forall_mem_cons.mpr ⟨lw_p12, List.forall_mem_cons.mpr ⟨lw_p13, List.forall_mem_cons.mpr ⟨lw_p14, List.forall_mem_cons.mpr ⟨lw_p15, fun _ h => absurd h List.not_mem_nil⟩⟩⟩⟩⟩⟩⟩⟩⟩⟩⟩⟩⟩⟩⟩⟩
theorem lw_p16 : lw_okq (⟨"LotPlanner$Plan", "takeLots", "(LLotPlanner$Numbers;)V"⟩, 14) := ⟨⟨by decide +kernel, by decide +kernel⟩, List.mem_of_getElem? (i := 56) (by decide +kernel), List.mem_of_getElem? (i := 569) (by decide +kernel), List.mem_of_getElem? (i := 570) (by decide +kernel)⟩
theorem lw_p17 : lw_okq (⟨"LotPlanner$Plan", "reckonForward", "(I)V"⟩, 14) := ⟨⟨by decide +kernel, by decide +kernel⟩, List.mem_of_getElem? (i := 56) (by decide +kernel), List.mem_of_getElem? (i := 579) (by decide +kernel), List.mem_of_getElem? (i := 580) (by decide +kernel)⟩
theorem lw_p18 : lw_okq (⟨"LotPlanner$Bounded", "reckonAfter", "(LLotPlanner$Numbers;I)V"⟩, 6) := ⟨⟨by decide +kernel, by decide +kernel⟩, List.mem_of_getElem? (i := 124) (by decide +kernel), List.mem_of_getElem? (i := 663) (by decide +kernel), List.mem_of_getElem? (i := 664) (by decide +kernel)⟩
theorem lw_p19 : lw_okq (⟨"LotPlanner$Bounded", "leastFrom", "(LLotPlanner$Numbers;II)I"⟩, 6) := ⟨⟨by decide +kernel, by decide +kernel⟩, List.mem_of_getElem? (i := 124) (by decide +kernel), List.mem_of_getElem? (i := 674) (by decide +kernel), List.mem_of_getElem? (i := 675) (by decide +kernel)⟩
theorem lw_p20 : lw_okq (⟨"LotPlanner$Bounded", "mostBehind", "(LLotPlanner$Numbers;II)I"⟩, 6) := ⟨⟨by decide +kernel, by decide +kernel⟩, List.mem_of_getElem? (i := 124) (by decide +kernel), List.mem_of_getElem? (i := 679) (by decide +kernel), List.mem_of_getElem? (i := 680) (by decide +kernel)⟩
theorem lw_p21 : lw_okq (⟨"LotPlanner$Bounded", "takeMade", "(LLotPlanner$Numbers;)V"⟩, 6) := ⟨⟨by decide +kernel, by decide +kernel⟩, List.mem_of_getElem? (i := 124) (by decide +kernel), List.mem_of_getElem? (i := 689) (by decide +kernel), List.mem_of_getElem? (i := 690) (by decide +kernel)⟩
theorem lw_p22 : lw_okq (⟨"LotPlanner$Bounded", "firstOfLeast", "(LLotPlanner$Numbers;II)I"⟩, 6) := ⟨⟨by decide +kernel, by decide +kernel⟩, List.mem_of_getElem? (i := 124) (by decide +kernel), List.mem_of_getElem? (i := 693) (by decide +kernel), List.mem_of_getElem? (i := 694) (by decide +kernel)⟩
theorem lw_p23 : lw_okq (⟨"LotPlanner$ByRule", "demandFrom", "(LLotPlanner$Numbers;I)I"⟩, 3) := ⟨⟨by decide +kernel, by decide +kernel⟩, List.mem_of_getElem? (i := 149) (by decide +kernel), List.mem_of_getElem? (i := 714) (by decide +kernel), List.mem_of_getElem? (i := 715) (by decide +kernel)⟩
theorem lw_p24 : lw_okq (⟨"LotPlanner$ByRule", "endOf", "(LLotPlanner$Numbers;III)I"⟩, 3) := ⟨⟨by decide +kernel, by decide +kernel⟩, List.mem_of_getElem? (i := 149) (by decide +kernel), List.mem_of_getElem? (i := 720) (by decide +kernel), List.mem_of_getElem? (i := 721) (by decide +kernel)⟩
theorem lw_p25 : lw_okq (⟨"LotPlanner$ByRule", "endByMean", "(LLotPlanner$Numbers;I)I"⟩, 3) := ⟨⟨by decide +kernel, by decide +kernel⟩, List.mem_of_getElem? (i := 149) (by decide +kernel), List.mem_of_getElem? (i := 725) (by decide +kernel), List.mem_of_getElem? (i := 726) (by decide +kernel)⟩
theorem lw_p26 : lw_okq (⟨"LotPlanner$ByRule", "meanGrows", "(LLotPlanner$Numbers;II)Z"⟩, 3) := ⟨⟨by decide +kernel, by decide +kernel⟩, List.mem_of_getElem? (i := 149) (by decide +kernel), List.mem_of_getElem? (i := 729) (by decide +kernel), List.mem_of_getElem? (i := 730) (by decide +kernel)⟩
theorem lw_p27 : lw_okq (⟨"LotPlanner$ByRule", "held", "(LLotPlanner$Numbers;II)I"⟩, 3) := ⟨⟨by decide +kernel, by decide +kernel⟩, List.mem_of_getElem? (i := 149) (by decide +kernel), List.mem_of_getElem? (i := 733) (by decide +kernel), List.mem_of_getElem? (i := 734) (by decide +kernel)⟩
theorem lw_p28 : lw_okq (⟨"LotPlanner$ByRule", "endByParts", "(LLotPlanner$Numbers;I)I"⟩, 3) := ⟨⟨by decide +kernel, by decide +kernel⟩, List.mem_of_getElem? (i := 149) (by decide +kernel), List.mem_of_getElem? (i := 737) (by decide +kernel), List.mem_of_getElem? (i := 738) (by decide +kernel)⟩
theorem lw_p29 : lw_okq (⟨"LotPlanner", "planWith", "(III)LLotPlanner$Plan;"⟩, 14) := ⟨⟨by decide +kernel, by decide +kernel⟩, List.mem_of_getElem? (i := 19) (by decide +kernel), List.mem_of_getElem? (i := 764) (by decide +kernel), List.mem_of_getElem? (i := 765) (by decide +kernel)⟩
theorem lw_p30 : lw_okq (⟨"LotPlanner$Printed", "add", "(C)V"⟩, 2) := ⟨⟨by decide +kernel, by decide +kernel⟩, List.mem_of_getElem? (i := 217) (by decide +kernel), List.mem_of_getElem? (i := 830) (by decide +kernel), List.mem_of_getElem? (i := 831) (by decide +kernel)⟩
theorem lw_p31 : lw_okq (⟨"LotPlanner$Printed", "addNumber", "(I)V"⟩, 2) := ⟨⟨by decide +kernel, by decide +kernel⟩, List.mem_of_getElem? (i := 217) (by decide +kernel), List.mem_of_getElem? (i := 836) (by decide +kernel), List.mem_of_getElem? (i := 837) (by decide +kernel)⟩
def lw_privs_2 : List (MethodName × Nat) := [(⟨"LotPlanner$Plan", "takeLots", "(LLotPlanner$Numbers;)V"⟩, 14), (⟨"LotPlanner$Plan", "reckonForward", "(I)V"⟩, 14), (⟨"LotPlanner$Bounded", "reckonAfter", "(LLotPlanner$Numbers;I)V"⟩, 6), (⟨"LotPlanner$Bounded", "leastFrom", "(LLotPlanner$Numbers;II)I"⟩, 6), (⟨"LotPlanner$Bounded", "mostBehind", "(LLotPlanner$Numbers;II)I"⟩, 6), (⟨"LotPlanner$Bounded", "takeMade", "(LLotPlanner$Numbers;)V"⟩, 6), (⟨"LotPlanner$Bounded", "firstOfLeast", "(LLotPlanner$Numbers;II)I"⟩, 6), (⟨"LotPlanner$ByRule", "demandFrom", "(LLotPlanner$Numbers;I)I"⟩, 3), (⟨"LotPlanner$ByRule", "endOf", "(LLotPlanner$Numbers;III)I"⟩, 3), (⟨"LotPlanner$ByRule", "endByMean", "(LLotPlanner$Numbers;I)I"⟩, 3), (⟨"LotPlanner$ByRule", "meanGrows", "(LLotPlanner$Numbers;II)Z"⟩, 3), (⟨"LotPlanner$ByRule", "held", "(LLotPlanner$Numbers;II)I"⟩, 3), (⟨"LotPlanner$ByRule", "endByParts", "(LLotPlanner$Numbers;I)I"⟩, 3), (⟨"LotPlanner", "planWith", "(III)LLotPlanner$Plan;"⟩, 14), (⟨"LotPlanner$Printed", "add", "(C)V"⟩, 2), (⟨"LotPlanner$Printed", "addNumber", "(I)V"⟩, 2)]
theorem lw_r2 : ∀ q ∈ lw_privs_2, lw_okq q := List.forall_mem_cons.mpr ⟨lw_p16, List.forall_mem_cons.mpr ⟨lw_p17, List.forall_mem_cons.mpr ⟨lw_p18, List.forall_mem_cons.mpr ⟨lw_p19, List.forall_mem_cons.mpr ⟨lw_p20, List.forall_mem_cons.mpr ⟨lw_p21, List.forall_mem_cons.mpr ⟨lw_p22, List.forall_mem_cons.mpr ⟨lw_p23, List.forall_mem_cons.mpr ⟨lw_p24, List.forall_mem_cons.mpr ⟨lw_p25, List.forall_mem_cons.mpr ⟨lw_p26, List.forall_mem_cons.mpr ⟨lw_p27, List.forall_mem_cons.mpr ⟨lw_p28, List.forall_mem_cons.mpr ⟨lw_p29, List.forall_mem_cons.mpr ⟨lw_p30, List.forall_mem_cons.mpr ⟨lw_p31, fun _ h => absurd h List.not_mem_nil⟩⟩⟩⟩⟩⟩⟩⟩⟩⟩⟩⟩⟩⟩⟩⟩
theorem lw_p32 : lw_okq (⟨"LotPlanner$Shelves", "placeOf", "(II)I"⟩, 2) := ⟨⟨by decide +kernel, by decide +kernel⟩, List.mem_of_getElem? (i := 230) (by decide +kernel), List.mem_of_getElem? (i := 862) (by decide +kernel), List.mem_of_getElem? (i := 863) (by decide +kernel)⟩
theorem lw_p33 : lw_okq (⟨"LotPlannerModel", "fresh", "(I)V"⟩, 37) := ⟨⟨by decide +kernel, by decide +kernel⟩, List.mem_of_getElem? (i := 943) (by decide +kernel), List.mem_of_getElem? (i := 949) (by decide +kernel), List.mem_of_getElem? (i := 950) (by decide +kernel)⟩
theorem lw_p34 : lw_okq (⟨"LotPlannerModel", "noChanges", "()V"⟩, 37) := ⟨⟨by decide +kernel, by decide +kernel⟩, List.mem_of_getElem? (i := 943) (by decide +kernel), List.mem_of_getElem? (i := 953) (by decide +kernel), List.mem_of_getElem? (i := 954) (by decide +kernel)⟩
theorem lw_p35 : lw_okq (⟨"LotPlannerModel", "lies", "(I)V"⟩, 37) := ⟨⟨by decide +kernel, by decide +kernel⟩, List.mem_of_getElem? (i := 943) (by decide +kernel), List.mem_of_getElem? (i := 957) (by decide +kernel), List.mem_of_getElem? (i := 958) (by decide +kernel)⟩
theorem lw_p36 : lw_okq (⟨"LotPlannerModel", "comesBack", "(I)V"⟩, 37) := ⟨⟨by decide +kernel, by decide +kernel⟩, List.mem_of_getElem? (i := 943) (by decide +kernel), List.mem_of_getElem? (i := 1077) (by decide +kernel), List.mem_of_getElem? (i := 1078) (by decide +kernel)⟩
theorem lw_p37 : lw_okq (⟨"LotPlannerModel", "isPeriod", "(I)Z"⟩, 37) := ⟨⟨by decide +kernel, by decide +kernel⟩, List.mem_of_getElem? (i := 943) (by decide +kernel), List.mem_of_getElem? (i := 1097) (by decide +kernel), List.mem_of_getElem? (i := 1098) (by decide +kernel)⟩
theorem lw_p38 : lw_okq (⟨"LotPlannerModel", "num", "(II)I"⟩, 37) := ⟨⟨by decide +kernel, by decide +kernel⟩, List.mem_of_getElem? (i := 943) (by decide +kernel), List.mem_of_getElem? (i := 1110) (by decide +kernel), List.mem_of_getElem? (i := 1111) (by decide +kernel)⟩
theorem lw_p39 : lw_okq (⟨"LotPlannerModel", "changed", "()V"⟩, 37) := ⟨⟨by decide +kernel, by decide +kernel⟩, List.mem_of_getElem? (i := 943) (by decide +kernel), List.mem_of_getElem? (i := 1114) (by decide +kernel), List.mem_of_getElem? (i := 1115) (by decide +kernel)⟩
theorem lw_p40 : lw_okq (⟨"LotPlannerModel", "clauses", "(Z)I"⟩, 37) := ⟨⟨by decide +kernel, by decide +kernel⟩, List.mem_of_getElem? (i := 943) (by decide +kernel), List.mem_of_getElem? (i := 1140) (by decide +kernel), List.mem_of_getElem? (i := 1141) (by decide +kernel)⟩
theorem lw_p41 : lw_okq (⟨"LotPlannerModel", "isClause", "()Z"⟩, 37) := ⟨⟨by decide +kernel, by decide +kernel⟩, List.mem_of_getElem? (i := 943) (by decide +kernel), List.mem_of_getElem? (i := 1144) (by decide +kernel), List.mem_of_getElem? (i := 1145) (by decide +kernel)⟩
theorem lw_p42 : lw_okq (⟨"LotPlannerModel", "which", "()I"⟩, 37) := ⟨⟨by decide +kernel, by decide +kernel⟩, List.mem_of_getElem? (i := 943) (by decide +kernel), List.mem_of_getElem? (i := 1148) (by decide +kernel), List.mem_of_getElem? (i := 1149) (by decide +kernel)⟩
theorem lw_p43 : lw_okq (⟨"LotPlannerModel", "here", "()I"⟩, 37) := ⟨⟨by decide +kernel, by decide +kernel⟩, List.mem_of_getElem? (i := 943) (by decide +kernel), List.mem_of_getElem? (i := 1152) (by decide +kernel), List.mem_of_getElem? (i := 1153) (by decide +kernel)⟩
theorem lw_p44 : lw_okq (⟨"LotPlannerModel", "isWord", "(ILjava/lang/String;)Z"⟩, 37) := ⟨⟨by decide +kernel, by decide +kernel⟩, List.mem_of_getElem? (i := 943) (by decide +kernel), List.mem_of_getElem? (i := 1159) (by decide +kernel), List.mem_of_getElem? (i := 1160) (by decide +kernel)⟩
theorem lw_p45 : lw_okq (⟨"LotPlannerModel", "fails", "(I)Z"⟩, 37) := ⟨⟨by decide +kernel, by decide +kernel⟩, List.mem_of_getElem? (i := 943) (by decide +kernel), List.mem_of_getElem? (i := 1170) (by decide +kernel), List.mem_of_getElem? (i := 1171) (by decide +kernel)⟩
theorem lw_p46 : lw_okq (⟨"LotPlannerModel", "isSign", "(I)Z"⟩, 37) := ⟨⟨by decide +kernel, by decide +kernel⟩, List.mem_of_getElem? (i := 943) (by decide +kernel), List.mem_of_getElem? (i := 1174) (by decide +kernel), List.mem_of_getElem? (i := 1175) (by decide +kernel)⟩
theorem lw_p47 : lw_okq (⟨"LotPlannerModel", "periodHere", "()I"⟩, 37) := ⟨⟨by decide +kernel, by decide +kernel⟩, List.mem_of_getElem? (i := 943) (by decide +kernel), List.mem_of_getElem? (i := 1178) (by decide +kernel), List.mem_of_getElem? (i := 1179) (by decide +kernel)⟩
def lw_privs_3 : List (MethodName × Nat) := [(⟨"LotPlanner$Shelves", "placeOf", "(II)I"⟩, 2), (⟨"LotPlannerModel", "fresh", "(I)V"⟩, 37), (⟨"LotPlannerModel", "noChanges", "()V"⟩, 37), (⟨"LotPlannerModel", "lies", "(I)V"⟩, 37), (⟨"LotPlannerModel", "comesBack", "(I)V"⟩, 37), (⟨"LotPlannerModel", "isPeriod", "(I)Z"⟩, 37), (⟨"LotPlannerModel", "num", "(II)I"⟩, 37), (⟨"LotPlannerModel", "changed", "()V"⟩, 37), (⟨"LotPlannerModel", "clauses", "(Z)I"⟩, 37), (⟨"LotPlannerModel", "isClause", "()Z"⟩, 37), (⟨"LotPlannerModel", "which", "()I"⟩, 37), (⟨"LotPlannerModel", "here", "()I"⟩, 37), (⟨"LotPlannerModel", "isWord", "(ILjava/lang/String;)Z"⟩, 37), (⟨"LotPlannerModel", "fails", "(I)Z"⟩, 37), (⟨"LotPlannerModel", "isSign", "(I)Z"⟩, 37), (⟨"LotPlannerModel", "periodHere", "()I"⟩, 37)]
theorem lw_r3 : ∀ q ∈ lw_privs_3, lw_okq q := List.forall_mem_cons.mpr ⟨lw_p32, List.forall_mem_cons.mpr ⟨lw_p33, List.forall_mem_cons.mpr ⟨lw_p34, List.forall_mem_cons.mpr ⟨lw_p35, List.forall_mem_cons.mpr ⟨lw_p36, List.forall_mem_cons.mpr ⟨lw_p37, List.forall_mem_cons.mpr ⟨lw_p38, List.forall_mem_cons.mpr ⟨lw_p39, List.forall_mem_cons.mpr ⟨lw_p40, List.forall_mem_cons.mpr ⟨lw_p41, List.forall_mem_cons.mpr ⟨lw_p42, List.forall_mem_cons.mpr ⟨lw_p43, List.forall_mem_cons.mpr ⟨lw_p44, List.forall_mem_cons.mpr ⟨lw_p45, List.forall_mem_cons.mpr ⟨lw_p46, List.forall_mem_cons.mpr ⟨lw_p47, fun _ h => absurd h List.not_mem_nil⟩⟩⟩⟩⟩⟩⟩⟩⟩⟩⟩⟩⟩⟩⟩⟩
theorem lw_p48 : lw_okq (⟨"LotPlannerModel", "isFigure", "(I)Z"⟩, 37) := ⟨⟨by decide +kernel, by decide +kernel⟩, List.mem_of_getElem? (i := 943) (by decide +kernel), List.mem_of_getElem? (i := 1182) (by decide +kernel), List.mem_of_getElem? (i := 1183) (by decide +kernel)⟩
theorem lw_p49 : lw_okq (⟨"LotPlannerModel", "isDigit", "()Z"⟩, 37) := ⟨⟨by decide +kernel, by decide +kernel⟩, List.mem_of_getElem? (i := 943) (by decide +kernel), List.mem_of_getElem? (i := 1186) (by decide +kernel), List.mem_of_getElem? (i := 1187) (by decide +kernel)⟩
theorem lw_p50 : lw_okq (⟨"LotPlannerModel", "thePlan", "()I"⟩, 37) := ⟨⟨by decide +kernel, by decide +kernel⟩, List.mem_of_getElem? (i := 943) (by decide +kernel), List.mem_of_getElem? (i := 1196) (by decide +kernel), List.mem_of_getElem? (i := 1197) (by decide +kernel)⟩
theorem lw_p51 : lw_okq (⟨"LotPlannerModel", "plans", "(II)I"⟩, 37) := ⟨⟨by decide +kernel, by decide +kernel⟩, List.mem_of_getElem? (i := 943) (by decide +kernel), List.mem_of_getElem? (i := 1200) (by decide +kernel), List.mem_of_getElem? (i := 1201) (by decide +kernel)⟩
theorem lw_p52 : lw_okq (⟨"LotPlannerModel", "demand", "(II)I"⟩, 37) := ⟨⟨by decide +kernel, by decide +kernel⟩, List.mem_of_getElem? (i := 943) (by decide +kernel), List.mem_of_getElem? (i := 1204) (by decide +kernel), List.mem_of_getElem? (i := 1205) (by decide +kernel)⟩
theorem lw_p53 : lw_okq (⟨"LotPlannerModel", "looks", "(II)V"⟩, 37) := ⟨⟨by decide +kernel, by decide +kernel⟩, List.mem_of_getElem? (i := 943) (by decide +kernel), List.mem_of_getElem? (i := 1208) (by decide +kernel), List.mem_of_getElem? (i := 1209) (by decide +kernel)⟩
theorem lw_p54 : lw_okq (⟨"LotPlannerModel", "isLot", "(III)Z"⟩, 37) := ⟨⟨by decide +kernel, by decide +kernel⟩, List.mem_of_getElem? (i := 943) (by decide +kernel), List.mem_of_getElem? (i := 1213) (by decide +kernel), List.mem_of_getElem? (i := 1214) (by decide +kernel)⟩
theorem lw_p55 : lw_okq (⟨"LotPlannerModel", "isLate", "()Z"⟩, 37) := ⟨⟨by decide +kernel, by decide +kernel⟩, List.mem_of_getElem? (i := 943) (by decide +kernel), List.mem_of_getElem? (i := 1217) (by decide +kernel), List.mem_of_getElem? (i := 1218) (by decide +kernel)⟩
theorem lw_p56 : lw_okq (⟨"LotPlannerModel", "cost", "(III)I"⟩, 37) := ⟨⟨by decide +kernel, by decide +kernel⟩, List.mem_of_getElem? (i := 943) (by decide +kernel), List.mem_of_getElem? (i := 1221) (by decide +kernel), List.mem_of_getElem? (i := 1222) (by decide +kernel)⟩
theorem lw_p57 : lw_okq (⟨"LotPlannerModel", "held", "(II)I"⟩, 37) := ⟨⟨by decide +kernel, by decide +kernel⟩, List.mem_of_getElem? (i := 943) (by decide +kernel), List.mem_of_getElem? (i := 1225) (by decide +kernel), List.mem_of_getElem? (i := 1226) (by decide +kernel)⟩
theorem lw_p58 : lw_okq (⟨"LotPlannerModel", "owed", "(II)I"⟩, 37) := ⟨⟨by decide +kernel, by decide +kernel⟩, List.mem_of_getElem? (i := 943) (by decide +kernel), List.mem_of_getElem? (i := 1229) (by decide +kernel), List.mem_of_getElem? (i := 1230) (by decide +kernel)⟩
theorem lw_p59 : lw_okq (⟨"LotPlannerModel", "stock", "([II)I"⟩, 37) := ⟨⟨by decide +kernel, by decide +kernel⟩, List.mem_of_getElem? (i := 943) (by decide +kernel), List.mem_of_getElem? (i := 1242) (by decide +kernel), List.mem_of_getElem? (i := 1243) (by decide +kernel)⟩
theorem lw_p60 : lw_okq (⟨"LotPlannerModel", "forwards", "()V"⟩, 37) := ⟨⟨by decide +kernel, by decide +kernel⟩, List.mem_of_getElem? (i := 943) (by decide +kernel), List.mem_of_getElem? (i := 1251) (by decide +kernel), List.mem_of_getElem? (i := 1252) (by decide +kernel)⟩
theorem lw_p61 : lw_okq (⟨"LotPlannerModel", "leastLot", "(II)I"⟩, 37) := ⟨⟨by decide +kernel, by decide +kernel⟩, List.mem_of_getElem? (i := 943) (by decide +kernel), List.mem_of_getElem? (i := 1255) (by decide +kernel), List.mem_of_getElem? (i := 1256) (by decide +kernel)⟩
theorem lw_p62 : lw_okq (⟨"LotPlannerModel", "forwardOf", "(I)I"⟩, 37) := ⟨⟨by decide +kernel, by decide +kernel⟩, List.mem_of_getElem? (i := 943) (by decide +kernel), List.mem_of_getElem? (i := 1260) (by decide +kernel), List.mem_of_getElem? (i := 1261) (by decide +kernel)⟩
theorem lw_p63 : lw_okq (⟨"LotPlannerModel", "lastOf", "(I)I"⟩, 37) := ⟨⟨by decide +kernel, by decide +kernel⟩, List.mem_of_getElem? (i := 943) (by decide +kernel), List.mem_of_getElem? (i := 1264) (by decide +kernel), List.mem_of_getElem? (i := 1265) (by decide +kernel)⟩
def lw_privs_4 : List (MethodName × Nat) := [(⟨"LotPlannerModel", "isFigure", "(I)Z"⟩, 37), (⟨"LotPlannerModel", "isDigit", "()Z"⟩, 37), (⟨"LotPlannerModel", "thePlan", "()I"⟩, 37), (⟨"LotPlannerModel", "plans", "(II)I"⟩, 37), (⟨"LotPlannerModel", "demand", "(II)I"⟩, 37), (⟨"LotPlannerModel", "looks", "(II)V"⟩, 37), (⟨"LotPlannerModel", "isLot", "(III)Z"⟩, 37), (⟨"LotPlannerModel", "isLate", "()Z"⟩, 37), (⟨"LotPlannerModel", "cost", "(III)I"⟩, 37), (⟨"LotPlannerModel", "held", "(II)I"⟩, 37), (⟨"LotPlannerModel", "owed", "(II)I"⟩, 37), (⟨"LotPlannerModel", "stock", "([II)I"⟩, 37), (⟨"LotPlannerModel", "forwards", "()V"⟩, 37), (⟨"LotPlannerModel", "leastLot", "(II)I"⟩, 37), (⟨"LotPlannerModel", "forwardOf", "(I)I"⟩, 37), (⟨"LotPlannerModel", "lastOf", "(I)I"⟩, 37)]
theorem lw_r4 : ∀ q ∈ lw_privs_4, lw_okq q := List.forall_mem_cons.mpr ⟨lw_p48, List.forall_mem_cons.mpr ⟨lw_p49, List.forall_mem_cons.mpr ⟨lw_p50, List.forall_mem_cons.mpr ⟨lw_p51, List.forall_mem_cons.mpr ⟨lw_p52, List.forall_mem_cons.mpr ⟨lw_p53, List.forall_mem_cons.mpr ⟨lw_p54, List.forall_mem_cons.mpr ⟨lw_p55, List.forall_mem_cons.mpr ⟨lw_p56, List.forall_mem_cons.mpr ⟨lw_p57, List.forall_mem_cons.mpr ⟨lw_p58, List.forall_mem_cons.mpr ⟨lw_p59, List.forall_mem_cons.mpr ⟨lw_p60, List.forall_mem_cons.mpr ⟨lw_p61, List.forall_mem_cons.mpr ⟨lw_p62, List.forall_mem_cons.mpr ⟨lw_p63, fun _ h => absurd h List.not_mem_nil⟩⟩⟩⟩⟩⟩⟩⟩⟩⟩⟩⟩⟩⟩⟩⟩
theorem lw_p64 : lw_okq (⟨"LotPlannerModel", "isCalm", "()Z"⟩, 37) := ⟨⟨by decide +kernel, by decide +kernel⟩, List.mem_of_getElem? (i := 943) (by decide +kernel), List.mem_of_getElem? (i := 1269) (by decide +kernel), List.mem_of_getElem? (i := 1270) (by decide +kernel)⟩
theorem lw_p65 : lw_okq (⟨"LotPlannerModel", "waysFrom", "(I)I"⟩, 37) := ⟨⟨by decide +kernel, by decide +kernel⟩, List.mem_of_getElem? (i := 943) (by decide +kernel), List.mem_of_getElem? (i := 1285) (by decide +kernel), List.mem_of_getElem? (i := 1286) (by decide +kernel)⟩
theorem lw_p66 : lw_okq (⟨"LotPlannerModel", "boundedNow", "()I"⟩, 37) := ⟨⟨by decide +kernel, by decide +kernel⟩, List.mem_of_getElem? (i := 943) (by decide +kernel), List.mem_of_getElem? (i := 1293) (by decide +kernel), List.mem_of_getElem? (i := 1294) (by decide +kernel)⟩
theorem lw_p67 : lw_okq (⟨"LotPlannerModel", "bounds", "(III)V"⟩, 37) := ⟨⟨by decide +kernel, by decide +kernel⟩, List.mem_of_getElem? (i := 943) (by decide +kernel), List.mem_of_getElem? (i := 1297) (by decide +kernel), List.mem_of_getElem? (i := 1298) (by decide +kernel)⟩
theorem lw_p68 : lw_okq (⟨"LotPlannerModel", "behindOne", "(II)I"⟩, 37) := ⟨⟨by decide +kernel, by decide +kernel⟩, List.mem_of_getElem? (i := 943) (by decide +kernel), List.mem_of_getElem? (i := 1301) (by decide +kernel), List.mem_of_getElem? (i := 1302) (by decide +kernel)⟩
theorem lw_p69 : lw_okq (⟨"LotPlannerModel", "rules", "(II)V"⟩, 37) := ⟨⟨by decide +kernel, by decide +kernel⟩, List.mem_of_getElem? (i := 943) (by decide +kernel), List.mem_of_getElem? (i := 1310) (by decide +kernel), List.mem_of_getElem? (i := 1311) (by decide +kernel)⟩
theorem lw_p70 : lw_okq (⟨"LotPlannerModel", "nextDemand", "(I)I"⟩, 37) := ⟨⟨by decide +kernel, by decide +kernel⟩, List.mem_of_getElem? (i := 943) (by decide +kernel), List.mem_of_getElem? (i := 1314) (by decide +kernel), List.mem_of_getElem? (i := 1315) (by decide +kernel)⟩
theorem lw_p71 : lw_okq (⟨"LotPlannerModel", "takesNext", "(IIII)Z"⟩, 37) := ⟨⟨by decide +kernel, by decide +kernel⟩, List.mem_of_getElem? (i := 943) (by decide +kernel), List.mem_of_getElem? (i := 1318) (by decide +kernel), List.mem_of_getElem? (i := 1319) (by decide +kernel)⟩
theorem lw_p72 : lw_okq (⟨"LotPlannerModel", "doesMakeBy", "(II)Z"⟩, 37) := ⟨⟨by decide +kernel, by decide +kernel⟩, List.mem_of_getElem? (i := 943) (by decide +kernel), List.mem_of_getElem? (i := 1334) (by decide +kernel), List.mem_of_getElem? (i := 1335) (by decide +kernel)⟩
theorem lw_p73 : lw_okq (⟨"LotPlannerModel", "noHands", "()I"⟩, 37) := ⟨⟨by decide +kernel, by decide +kernel⟩, List.mem_of_getElem? (i := 943) (by decide +kernel), List.mem_of_getElem? (i := 1350) (by decide +kernel), List.mem_of_getElem? (i := 1351) (by decide +kernel)⟩
theorem lw_p74 : lw_okq (⟨"LotPlannerModel", "hands", "([I)I"⟩, 37) := ⟨⟨by decide +kernel, by decide +kernel⟩, List.mem_of_getElem? (i := 943) (by decide +kernel), List.mem_of_getElem? (i := 1354) (by decide +kernel), List.mem_of_getElem? (i := 1355) (by decide +kernel)⟩
theorem lw_p75 : lw_okq (⟨"LotPlannerModel", "handCost", "()I"⟩, 37) := ⟨⟨by decide +kernel, by decide +kernel⟩, List.mem_of_getElem? (i := 943) (by decide +kernel), List.mem_of_getElem? (i := 1362) (by decide +kernel), List.mem_of_getElem? (i := 1363) (by decide +kernel)⟩
theorem lw_p76 : lw_okq (⟨"LotPlannerModel", "wrong", "()I"⟩, 37) := ⟨⟨by decide +kernel, by decide +kernel⟩, List.mem_of_getElem? (i := 943) (by decide +kernel), List.mem_of_getElem? (i := 1366) (by decide +kernel), List.mem_of_getElem? (i := 1367) (by decide +kernel)⟩
theorem lw_p77 : lw_okq (⟨"LotPlannerModel", "prints", "()V"⟩, 37) := ⟨⟨by decide +kernel, by decide +kernel⟩, List.mem_of_getElem? (i := 943) (by decide +kernel), List.mem_of_getElem? (i := 1374) (by decide +kernel), List.mem_of_getElem? (i := 1375) (by decide +kernel)⟩
theorem lw_p78 : lw_okq (⟨"LotPlannerModel", "says", "(I)V"⟩, 37) := ⟨⟨by decide +kernel, by decide +kernel⟩, List.mem_of_getElem? (i := 943) (by decide +kernel), List.mem_of_getElem? (i := 1378) (by decide +kernel), List.mem_of_getElem? (i := 1379) (by decide +kernel)⟩
theorem lw_p79 : lw_okq (⟨"LotPlannerModel", "saysNumber", "(I)V"⟩, 37) := ⟨⟨by decide +kernel, by decide +kernel⟩, List.mem_of_getElem? (i := 943) (by decide +kernel), List.mem_of_getElem? (i := 1382) (by decide +kernel), List.mem_of_getElem? (i := 1383) (by decide +kernel)⟩
def lw_privs_5 : List (MethodName × Nat) := [(⟨"LotPlannerModel", "isCalm", "()Z"⟩, 37), (⟨"LotPlannerModel", "waysFrom", "(I)I"⟩, 37), (⟨"LotPlannerModel", "boundedNow", "()I"⟩, 37), (⟨"LotPlannerModel", "bounds", "(III)V"⟩, 37), (⟨"LotPlannerModel", "behindOne", "(II)I"⟩, 37), (⟨"LotPlannerModel", "rules", "(II)V"⟩, 37), (⟨"LotPlannerModel", "nextDemand", "(I)I"⟩, 37), (⟨"LotPlannerModel", "takesNext", "(IIII)Z"⟩, 37), (⟨"LotPlannerModel", "doesMakeBy", "(II)Z"⟩, 37), (⟨"LotPlannerModel", "noHands", "()I"⟩, 37), (⟨"LotPlannerModel", "hands", "([I)I"⟩, 37), (⟨"LotPlannerModel", "handCost", "()I"⟩, 37), (⟨"LotPlannerModel", "wrong", "()I"⟩, 37), (⟨"LotPlannerModel", "prints", "()V"⟩, 37), (⟨"LotPlannerModel", "says", "(I)V"⟩, 37), (⟨"LotPlannerModel", "saysNumber", "(I)V"⟩, 37)]
theorem lw_r5 : ∀ q ∈ lw_privs_5, lw_okq q := List.forall_mem_cons.mpr ⟨lw_p64, List.forall_mem_cons.mpr ⟨lw_p65, List.forall_mem_cons.mpr ⟨lw_p66, List.forall_mem_cons.mpr ⟨lw_p67, List.forall_mem_cons.mpr ⟨lw_p68, List.forall_mem_cons.mpr ⟨lw_p69, List.forall_mem_cons.mpr ⟨lw_p70, List.forall_mem_cons.mpr ⟨lw_p71, List.forall_mem_cons.mpr ⟨lw_p72, List.forall_mem_cons.mpr ⟨lw_p73, List.forall_mem_cons.mpr ⟨lw_p74, List.forall_mem_cons.mpr ⟨lw_p75, List.forall_mem_cons.mpr ⟨lw_p76, List.forall_mem_cons.mpr ⟨lw_p77, List.forall_mem_cons.mpr ⟨lw_p78, List.forall_mem_cons.mpr ⟨lw_p79, fun _ h => absurd h List.not_mem_nil⟩⟩⟩⟩⟩⟩⟩⟩⟩⟩⟩⟩⟩⟩⟩⟩
theorem lw_p80 : lw_okq (⟨"LotPlannerModel", "wrongRow", "(II)I"⟩, 37) := ⟨⟨by decide +kernel, by decide +kernel⟩, List.mem_of_getElem? (i := 943) (by decide +kernel), List.mem_of_getElem? (i := 1406) (by decide +kernel), List.mem_of_getElem? (i := 1407) (by decide +kernel)⟩
def lw_privs_6 : List (MethodName × Nat) := [(⟨"LotPlannerModel", "wrongRow", "(II)I"⟩, 37)]
theorem lw_r6 : ∀ q ∈ lw_privs_6, lw_okq q := List.forall_mem_cons.mpr ⟨lw_p80, fun _ h => absurd h List.not_mem_nil⟩
def lw_privs : List (MethodName × Nat) := lw_privs_1 ++ (lw_privs_2 ++ (lw_privs_3 ++ (lw_privs_4 ++ (lw_privs_5 ++ (lw_privs_6)))))
def lw_tbl : List Cond := k2_sels lw_privs ++ tables_1
theorem lw_privs_ok : ∀ q ∈ lw_privs, lw_okq q := by
  show ∀ q ∈ lw_privs_1 ++ (lw_privs_2 ++ (lw_privs_3 ++ (lw_privs_4 ++ (lw_privs_5 ++ (lw_privs_6))))), lw_okq q
  exact List.forall_mem_append.mpr ⟨lw_r1, List.forall_mem_append.mpr ⟨lw_r2, List.forall_mem_append.mpr ⟨lw_r3, List.forall_mem_append.mpr ⟨lw_r4, List.forall_mem_append.mpr ⟨lw_r5, lw_r6⟩⟩⟩⟩⟩
-- names of classes, their fields (from the printed names)
def RX0 : String := "LotPlanner$Bounded"
def TX0 : u_T := fun k => match k with
  | 0 => ("LotPlanner$Bounded", "known", "I", false)
  | 1 => ("LotPlanner$Bounded", "least", "[I", true)
  | 2 => ("LotPlanner$Bounded", "after", "[I", true)
  | 3 => ("LotPlanner$Bounded", "made", "[I", true)
  | 4 => ("LotPlanner$Bounded", "total", "I", false)
  | _ => ("LotPlanner$Bounded", "state", "I", false)
def tyX0 : Nat → FieldType := fun k => match k with
  | 0 => .int
  | 1 => .array .int
  | 2 => .array .int
  | 3 => .array .int
  | 4 => .int
  | _ => .int
abbrev wsX00 : List Cond := u_ws RX0 TX0 6
theorem nmX0 : ∀ a, a < 6 → ∀ b, b < 6 → a ≠ b → (TX0 a).2.1 ≠ (TX0 b).2.1 := by decide +kernel
theorem tyX0_ok : ∀ k, k < 6 → parseFieldDescriptor (TX0 k).2.2.1 = some (tyX0 k) := by decide +kernel
def RX1 : String := "LotPlanner$ByHand"
def TX1 : u_T := fun k => match k with
  | _ => ("LotPlanner$ByHand", "made", "[I", true)
def tyX1 : Nat → FieldType := fun k => match k with
  | _ => .array .int
abbrev wsX10 : List Cond := u_ws RX1 TX1 1
theorem nmX1 : ∀ a, a < 1 → ∀ b, b < 1 → a ≠ b → (TX1 a).2.1 ≠ (TX1 b).2.1 := by decide +kernel
theorem tyX1_ok : ∀ k, k < 1 → parseFieldDescriptor (TX1 k).2.2.1 = some (tyX1 k) := by decide +kernel
def RX2 : String := "LotPlanner$ByRule"
def TX2 : u_T := fun k => match k with
  | 0 => ("LotPlanner$ByRule", "cost", "I", false)
  | 1 => ("LotPlanner$ByRule", "lots", "I", false)
  | _ => ("LotPlanner$ByRule", "begins", "I", false)
def tyX2 : Nat → FieldType := fun k => match k with
  | 0 => .int
  | 1 => .int
  | _ => .int
abbrev wsX20 : List Cond := u_ws RX2 TX2 3
theorem nmX2 : ∀ a, a < 3 → ∀ b, b < 3 → a ≠ b → (TX2 a).2.1 ≠ (TX2 b).2.1 := by decide +kernel
theorem tyX2_ok : ∀ k, k < 3 → parseFieldDescriptor (TX2 k).2.2.1 = some (tyX2 k) := by decide +kernel
def RX3 : String := "LotPlanner$Changes"
def TX3 : u_T := fun k => match k with
  | 0 => ("LotPlanner$Changes", "kept", "[I", true)
  | 1 => ("LotPlanner$Changes", "behind", "I", false)
  | _ => ("LotPlanner$Changes", "all", "I", false)
def tyX3 : Nat → FieldType := fun k => match k with
  | 0 => .array .int
  | 1 => .int
  | _ => .int
abbrev wsX30 : List Cond := u_ws RX3 TX3 3
theorem nmX3 : ∀ a, a < 3 → ∀ b, b < 3 → a ≠ b → (TX3 a).2.1 ≠ (TX3 b).2.1 := by decide +kernel
theorem tyX3_ok : ∀ k, k < 3 → parseFieldDescriptor (TX3 k).2.2.1 = some (tyX3 k) := by decide +kernel
def RX4 : String := "LotPlanner$Lots"
def TX4 : u_T := fun k => match k with
  | 0 => ("LotPlanner$Lots", "costs", "[I", true)
  | 1 => ("LotPlanner$Lots", "makers", "[I", true)
  | 2 => ("LotPlanner$Lots", "sames", "[I", true)
  | _ => ("LotPlanner$Lots", "ahead", "[I", true)
def tyX4 : Nat → FieldType := fun k => match k with
  | 0 => .array .int
  | 1 => .array .int
  | 2 => .array .int
  | _ => .array .int
abbrev wsX40 : List Cond := u_ws RX4 TX4 4
theorem nmX4 : ∀ a, a < 4 → ∀ b, b < 4 → a ≠ b → (TX4 a).2.1 ≠ (TX4 b).2.1 := by decide +kernel
theorem tyX4_ok : ∀ k, k < 4 → parseFieldDescriptor (TX4 k).2.2.1 = some (tyX4 k) := by decide +kernel
def RX5 : String := "LotPlanner$Numbers"
def TX5 : u_T := fun k => match k with
  | 0 => ("LotPlanner$Numbers", "cells", "[I", true)
  | 1 => ("LotPlanner$Numbers", "size", "I", false)
  | _ => ("LotPlanner$Numbers", "stamp", "I", false)
def tyX5 : Nat → FieldType := fun k => match k with
  | 0 => .array .int
  | 1 => .int
  | _ => .int
abbrev wsX50 : List Cond := u_ws RX5 TX5 3
theorem nmX5 : ∀ a, a < 3 → ∀ b, b < 3 → a ≠ b → (TX5 a).2.1 ≠ (TX5 b).2.1 := by decide +kernel
theorem tyX5_ok : ∀ k, k < 3 → parseFieldDescriptor (TX5 k).2.2.1 = some (tyX5 k) := by decide +kernel
def RX6 : String := "LotPlanner$Plan"
def TX6 : u_T := fun k => match k with
  | 0 => ("LotPlanner$Plan", "lots", "LLotPlanner$Lots;", true)
  | 1 => ("LotPlanner$Plan", "known", "I", false)
  | 2 => ("LotPlanner$Plan", "behind", "[I", true)
  | 3 => ("LotPlanner$Plan", "ends", "[I", true)
  | 4 => ("LotPlanner$Plan", "many", "[I", true)
  | 5 => ("LotPlanner$Plan", "forwards", "[I", true)
  | 6 => ("LotPlanner$Plan", "lasts", "[I", true)
  | 7 => ("LotPlanner$Plan", "lotFirst", "[I", true)
  | 8 => ("LotPlanner$Plan", "lotLast", "[I", true)
  | 9 => ("LotPlanner$Plan", "made", "[I", true)
  | 10 => ("LotPlanner$Plan", "stock", "[I", true)
  | 11 => ("LotPlanner$Plan", "lotCount", "I", false)
  | 12 => ("LotPlanner$Plan", "cost", "I", false)
  | _ => ("LotPlanner$Plan", "ways", "I", false)
def tyX6 : Nat → FieldType := fun k => match k with
  | 0 => .object "LotPlanner$Lots"
  | 1 => .int
  | 2 => .array .int
  | 3 => .array .int
  | 4 => .array .int
  | 5 => .array .int
  | 6 => .array .int
  | 7 => .array .int
  | 8 => .array .int
  | 9 => .array .int
  | 10 => .array .int
  | 11 => .int
  | 12 => .int
  | _ => .int
abbrev wsX60 : List Cond := u_ws RX6 TX6 14
theorem nmX6 : ∀ a, a < 14 → ∀ b, b < 14 → a ≠ b → (TX6 a).2.1 ≠ (TX6 b).2.1 := by decide +kernel
theorem tyX6_ok : ∀ k, k < 14 → parseFieldDescriptor (TX6 k).2.2.1 = some (tyX6 k) := by decide +kernel
def RX7 : String := "LotPlanner$Printed"
def TX7 : u_T := fun k => match k with
  | 0 => ("LotPlanner$Printed", "signs", "[C", true)
  | _ => ("LotPlanner$Printed", "length", "I", false)
def tyX7 : Nat → FieldType := fun k => match k with
  | 0 => .array .char
  | _ => .int
abbrev wsX70 : List Cond := u_ws RX7 TX7 2
theorem nmX7 : ∀ a, a < 2 → ∀ b, b < 2 → a ≠ b → (TX7 a).2.1 ≠ (TX7 b).2.1 := by decide +kernel
theorem tyX7_ok : ∀ k, k < 2 → parseFieldDescriptor (TX7 k).2.2.1 = some (tyX7 k) := by decide +kernel
def RX8 : String := "LotPlanner$Shelves"
def TX8 : u_T := fun k => match k with
  | 0 => ("LotPlanner$Shelves", "values", "[J", true)
  | _ => ("LotPlanner$Shelves", "sizes", "[I", true)
def tyX8 : Nat → FieldType := fun k => match k with
  | 0 => .array .long
  | _ => .array .int
abbrev wsX80 : List Cond := u_ws RX8 TX8 2
theorem nmX8 : ∀ a, a < 2 → ∀ b, b < 2 → a ≠ b → (TX8 a).2.1 ≠ (TX8 b).2.1 := by decide +kernel
theorem tyX8_ok : ∀ k, k < 2 → parseFieldDescriptor (TX8 k).2.2.1 = some (tyX8 k) := by decide +kernel
def RX9 : String := "LotPlanner$Text"
def TX9 : u_T := fun k => match k with
  | 0 => ("LotPlanner$Text", "signs", "[C", true)
  | 1 => ("LotPlanner$Text", "length", "I", false)
  | 2 => ("LotPlanner$Text", "place", "I", false)
  | 3 => ("LotPlanner$Text", "which", "I", false)
  | 4 => ("LotPlanner$Text", "period", "I", false)
  | _ => ("LotPlanner$Text", "number", "I", false)
def tyX9 : Nat → FieldType := fun k => match k with
  | 0 => .array .char
  | 1 => .int
  | 2 => .int
  | 3 => .int
  | 4 => .int
  | _ => .int
abbrev wsX90 : List Cond := u_ws RX9 TX9 6
theorem nmX9 : ∀ a, a < 6 → ∀ b, b < 6 → a ≠ b → (TX9 a).2.1 ≠ (TX9 b).2.1 := by decide +kernel
theorem tyX9_ok : ∀ k, k < 6 → parseFieldDescriptor (TX9 k).2.2.1 = some (tyX9 k) := by decide +kernel
def RX10 : String := "LotPlanner"
def TX10 : u_T := fun k => match k with
  | 0 => ("LotPlanner", "numbers", "LLotPlanner$Numbers;", true)
  | 1 => ("LotPlanner", "plan", "LLotPlanner$Plan;", true)
  | 2 => ("LotPlanner", "bounded", "LLotPlanner$Bounded;", true)
  | 3 => ("LotPlanner", "byRule", "LLotPlanner$ByRule;", true)
  | 4 => ("LotPlanner", "byHand", "LLotPlanner$ByHand;", true)
  | 5 => ("LotPlanner", "changes", "LLotPlanner$Changes;", true)
  | 6 => ("LotPlanner", "text", "LLotPlanner$Text;", true)
  | 7 => ("LotPlanner", "printed", "LLotPlanner$Printed;", true)
  | 8 => ("LotPlanner", "shelves", "LLotPlanner$Shelves;", true)
  | 9 => ("LotPlanner", "thought", "LLotPlanner$Numbers;", true)
  | 10 => ("LotPlanner", "planThought", "LLotPlanner$Plan;", true)
  | 11 => ("LotPlanner", "imageNumbers", "LLotPlanner$Numbers;", true)
  | 12 => ("LotPlanner", "imageByHand", "LLotPlanner$ByHand;", true)
  | _ => ("LotPlanner", "imageThere", "Z", false)
def tyX10 : Nat → FieldType := fun k => match k with
  | 0 => .object "LotPlanner$Numbers"
  | 1 => .object "LotPlanner$Plan"
  | 2 => .object "LotPlanner$Bounded"
  | 3 => .object "LotPlanner$ByRule"
  | 4 => .object "LotPlanner$ByHand"
  | 5 => .object "LotPlanner$Changes"
  | 6 => .object "LotPlanner$Text"
  | 7 => .object "LotPlanner$Printed"
  | 8 => .object "LotPlanner$Shelves"
  | 9 => .object "LotPlanner$Numbers"
  | 10 => .object "LotPlanner$Plan"
  | 11 => .object "LotPlanner$Numbers"
  | 12 => .object "LotPlanner$ByHand"
  | _ => .boolean
abbrev wsX100 : List Cond := u_ws RX10 TX10 14
theorem nmX10 : ∀ a, a < 14 → ∀ b, b < 14 → a ≠ b → (TX10 a).2.1 ≠ (TX10 b).2.1 := by decide +kernel
theorem tyX10_ok : ∀ k, k < 14 → parseFieldDescriptor (TX10 k).2.2.1 = some (tyX10 k) := by decide +kernel
def RX11 : String := "LotPlannerModel"
def TX11 : u_T := fun k => match k with
  | 0 => ("LotPlannerModel", "n", "I", false)
  | 1 => ("LotPlannerModel", "g", "[I", true)
  | 2 => ("LotPlannerModel", "hand", "[I", true)
  | 3 => ("LotPlannerModel", "behind", "[I", true)
  | 4 => ("LotPlannerModel", "done", "I", false)
  | 5 => ("LotPlannerModel", "told", "I", false)
  | 6 => ("LotPlannerModel", "tape", "[I", true)
  | 7 => ("LotPlannerModel", "fed", "I", false)
  | 8 => ("LotPlannerModel", "at", "I", false)
  | 9 => ("LotPlannerModel", "len", "I", false)
  | 10 => ("LotPlannerModel", "fault", "I", false)
  | 11 => ("LotPlannerModel", "figure", "I", false)
  | 12 => ("LotPlannerModel", "tells", "Z", false)
  | 13 => ("LotPlannerModel", "least", "[I", true)
  | 14 => ("LotPlannerModel", "ends", "[I", true)
  | 15 => ("LotPlannerModel", "made", "[I", true)
  | 16 => ("LotPlannerModel", "lotA", "[I", true)
  | 17 => ("LotPlannerModel", "lotB", "[I", true)
  | 18 => ("LotPlannerModel", "lotM", "[I", true)
  | 19 => ("LotPlannerModel", "makes", "[I", true)
  | 20 => ("LotPlannerModel", "lots", "I", false)
  | 21 => ("LotPlannerModel", "upTo", "[I", true)
  | 22 => ("LotPlannerModel", "many", "[I", true)
  | 23 => ("LotPlannerModel", "rest", "[I", true)
  | 24 => ("LotPlannerModel", "pick", "[I", true)
  | 25 => ("LotPlannerModel", "boundMade", "[I", true)
  | 26 => ("LotPlannerModel", "ruleCost", "I", false)
  | 27 => ("LotPlannerModel", "ruleLots", "I", false)
  | 28 => ("LotPlannerModel", "ruleBegins", "I", false)
  | 29 => ("LotPlannerModel", "makesNow", "[I", true)
  | 30 => ("LotPlannerModel", "paper", "[I", true)
  | 31 => ("LotPlannerModel", "written", "I", false)
  | 32 => ("LotPlannerModel", "size", "[I", true)
  | 33 => ("LotPlannerModel", "item", "[J", true)
  | 34 => ("LotPlannerModel", "image", "[I", true)
  | 35 => ("LotPlannerModel", "imageHand", "[I", true)
  | _ => ("LotPlannerModel", "imageN", "I", false)
def tyX11 : Nat → FieldType := fun k => match k with
  | 0 => .int
  | 1 => .array .int
  | 2 => .array .int
  | 3 => .array .int
  | 4 => .int
  | 5 => .int
  | 6 => .array .int
  | 7 => .int
  | 8 => .int
  | 9 => .int
  | 10 => .int
  | 11 => .int
  | 12 => .boolean
  | 13 => .array .int
  | 14 => .array .int
  | 15 => .array .int
  | 16 => .array .int
  | 17 => .array .int
  | 18 => .array .int
  | 19 => .array .int
  | 20 => .int
  | 21 => .array .int
  | 22 => .array .int
  | 23 => .array .int
  | 24 => .array .int
  | 25 => .array .int
  | 26 => .int
  | 27 => .int
  | 28 => .int
  | 29 => .array .int
  | 30 => .array .int
  | 31 => .int
  | 32 => .array .int
  | 33 => .array .long
  | 34 => .array .int
  | 35 => .array .int
  | _ => .int
abbrev wsX110 : List Cond := u_ws RX11 TX11 37
theorem nmX11 : ∀ a, a < 37 → ∀ b, b < 37 → a ≠ b → (TX11 a).2.1 ≠ (TX11 b).2.1 := by decide +kernel
theorem tyX11_ok : ∀ k, k < 37 → parseFieldDescriptor (TX11 k).2.2.1 = some (tyX11 k) := by decide +kernel
abbrev vwCl : List vw_C := [(RX0, TX0, 6), (RX1, TX1, 1), (RX2, TX2, 3), (RX3, TX3, 3), (RX4, TX4, 4), (RX5, TX5, 3), (RX6, TX6, 14), (RX7, TX7, 2), (RX8, TX8, 2), (RX9, TX9, 6), (RX10, TX10, 14), (RX11, TX11, 37)]
def am_y_Bounded_init : MethodName := ⟨"LotPlanner$Bounded", "<init>", "()V"⟩
def am_y_Bounded_refresh : MethodName := ⟨"LotPlanner$Bounded", "refresh", "(LLotPlanner$Numbers;)V"⟩
def am_y_Bounded_reckonAfter : MethodName := ⟨"LotPlanner$Bounded", "reckonAfter", "(LLotPlanner$Numbers;I)V"⟩
def am_y_Bounded_leastFrom : MethodName := ⟨"LotPlanner$Bounded", "leastFrom", "(LLotPlanner$Numbers;II)I"⟩
def am_y_Bounded_mostBehind : MethodName := ⟨"LotPlanner$Bounded", "mostBehind", "(LLotPlanner$Numbers;II)I"⟩
def am_y_Bounded_cost : MethodName := ⟨"LotPlanner$Bounded", "cost", "()I"⟩
def am_y_Bounded_takeMade : MethodName := ⟨"LotPlanner$Bounded", "takeMade", "(LLotPlanner$Numbers;)V"⟩
def am_y_Bounded_firstOfLeast : MethodName := ⟨"LotPlanner$Bounded", "firstOfLeast", "(LLotPlanner$Numbers;II)I"⟩
def am_y_Bounded_state : MethodName := ⟨"LotPlanner$Bounded", "state", "()I"⟩
def am_y_Bounded_made : MethodName := ⟨"LotPlanner$Bounded", "made", "(I)I"⟩
def am_y_ByHand_init : MethodName := ⟨"LotPlanner$ByHand", "<init>", "()V"⟩
def am_y_ByHand_keepFirst : MethodName := ⟨"LotPlanner$ByHand", "keepFirst", "(I)V"⟩
def am_y_ByHand_made : MethodName := ⟨"LotPlanner$ByHand", "made", "(I)I"⟩
def am_y_ByHand_make : MethodName := ⟨"LotPlanner$ByHand", "make", "(II)V"⟩
def am_y_ByHand_pieces : MethodName := ⟨"LotPlanner$ByHand", "pieces", "()I"⟩
def am_y_ByHand_cost : MethodName := ⟨"LotPlanner$ByHand", "cost", "(LLotPlanner$Numbers;)I"⟩
def am_y_ByHand_wrong : MethodName := ⟨"LotPlanner$ByHand", "wrong", "(LLotPlanner$Numbers;)I"⟩
def am_y_ByHand_stockBehind : MethodName := ⟨"LotPlanner$ByHand", "stockBehind", "(LLotPlanner$Numbers;)I"⟩
def am_y_ByHand_becomeLike : MethodName := ⟨"LotPlanner$ByHand", "becomeLike", "(LLotPlanner$ByHand;)V"⟩
def am_y_ByRule_init : MethodName := ⟨"LotPlanner$ByRule", "<init>", "()V"⟩
def am_y_ByRule_reckon : MethodName := ⟨"LotPlanner$ByRule", "reckon", "(LLotPlanner$Numbers;II)V"⟩
def am_y_ByRule_demandFrom : MethodName := ⟨"LotPlanner$ByRule", "demandFrom", "(LLotPlanner$Numbers;I)I"⟩
def am_y_ByRule_endOf : MethodName := ⟨"LotPlanner$ByRule", "endOf", "(LLotPlanner$Numbers;III)I"⟩
def am_y_ByRule_endByMean : MethodName := ⟨"LotPlanner$ByRule", "endByMean", "(LLotPlanner$Numbers;I)I"⟩
def am_y_ByRule_meanGrows : MethodName := ⟨"LotPlanner$ByRule", "meanGrows", "(LLotPlanner$Numbers;II)Z"⟩
def am_y_ByRule_held : MethodName := ⟨"LotPlanner$ByRule", "held", "(LLotPlanner$Numbers;II)I"⟩
def am_y_ByRule_endByParts : MethodName := ⟨"LotPlanner$ByRule", "endByParts", "(LLotPlanner$Numbers;I)I"⟩
def am_y_ByRule_cost : MethodName := ⟨"LotPlanner$ByRule", "cost", "()I"⟩
def am_y_ByRule_lots : MethodName := ⟨"LotPlanner$ByRule", "lots", "()I"⟩
def am_y_ByRule_begins : MethodName := ⟨"LotPlanner$ByRule", "begins", "()I"⟩
def am_y_Changes_init : MethodName := ⟨"LotPlanner$Changes", "<init>", "()V"⟩
def am_y_Changes_begin : MethodName := ⟨"LotPlanner$Changes", "begin", "()V"⟩
def am_y_Changes_note : MethodName := ⟨"LotPlanner$Changes", "note", "(LLotPlanner$Numbers;)V"⟩
def am_y_Changes_forgetFirst : MethodName := ⟨"LotPlanner$Changes", "forgetFirst", "()V"⟩
def am_y_Changes_goBack : MethodName := ⟨"LotPlanner$Changes", "goBack", "(LLotPlanner$Numbers;)Z"⟩
def am_y_Changes_behind : MethodName := ⟨"LotPlanner$Changes", "behind", "()I"⟩
def am_y_Changes_goOn : MethodName := ⟨"LotPlanner$Changes", "goOn", "(LLotPlanner$Numbers;)Z"⟩
def am_y_Changes_ahead : MethodName := ⟨"LotPlanner$Changes", "ahead", "()I"⟩
def am_y_Lots_init : MethodName := ⟨"LotPlanner$Lots", "<init>", "()V"⟩
def am_y_Lots_reckon : MethodName := ⟨"LotPlanner$Lots", "reckon", "(LLotPlanner$Numbers;)V"⟩
def am_y_Lots_pieces : MethodName := ⟨"LotPlanner$Lots", "pieces", "(II)I"⟩
def am_y_Lots_reckonMadeIn : MethodName := ⟨"LotPlanner$Lots", "reckonMadeIn", "(LLotPlanner$Numbers;III)V"⟩
def am_y_Lots_offer : MethodName := ⟨"LotPlanner$Lots", "offer", "(III)V"⟩
def am_y_Lots_costOf : MethodName := ⟨"LotPlanner$Lots", "costOf", "(II)I"⟩
def am_y_Lots_waysOf : MethodName := ⟨"LotPlanner$Lots", "waysOf", "(II)I"⟩
def am_y_Lots_makerOf : MethodName := ⟨"LotPlanner$Lots", "makerOf", "(II)I"⟩
def am_y_Numbers_init : MethodName := ⟨"LotPlanner$Numbers", "<init>", "()V"⟩
def am_y_Numbers_beAsAtFirst : MethodName := ⟨"LotPlanner$Numbers", "beAsAtFirst", "(I)V"⟩
def am_y_Numbers_size : MethodName := ⟨"LotPlanner$Numbers", "size", "()I"⟩
def am_y_Numbers_resize : MethodName := ⟨"LotPlanner$Numbers", "resize", "(I)V"⟩
def am_y_Numbers_has : MethodName := ⟨"LotPlanner$Numbers", "has", "(I)Z"⟩
def am_y_Numbers_copyTo : MethodName := ⟨"LotPlanner$Numbers", "copyTo", "([II)V"⟩
def am_y_Numbers_value : MethodName := ⟨"LotPlanner$Numbers", "value", "(II)I"⟩
def am_y_Numbers_become : MethodName := ⟨"LotPlanner$Numbers", "become", "(III)V"⟩
def am_y_Numbers_store : MethodName := ⟨"LotPlanner$Numbers", "store", "()I"⟩
def am_y_Numbers_lateMayBe : MethodName := ⟨"LotPlanner$Numbers", "lateMayBe", "()I"⟩
def am_y_Numbers_storeBecomes : MethodName := ⟨"LotPlanner$Numbers", "storeBecomes", "(I)V"⟩
def am_y_Numbers_lateMayBeBecomes : MethodName := ⟨"LotPlanner$Numbers", "lateMayBeBecomes", "(I)V"⟩
def am_y_Numbers_becomeLike : MethodName := ⟨"LotPlanner$Numbers", "becomeLike", "(LLotPlanner$Numbers;)V"⟩
def am_y_Numbers_stamp : MethodName := ⟨"LotPlanner$Numbers", "stamp", "()I"⟩
def am_y_Numbers_areCalm : MethodName := ⟨"LotPlanner$Numbers", "areCalm", "()Z"⟩
def am_y_Numbers_pieces : MethodName := ⟨"LotPlanner$Numbers", "pieces", "(II)I"⟩
def am_y_Numbers_stockCost : MethodName := ⟨"LotPlanner$Numbers", "stockCost", "(II)I"⟩
def am_y_Numbers_copyFrom : MethodName := ⟨"LotPlanner$Numbers", "copyFrom", "([II)V"⟩
def am_y_Plan_init : MethodName := ⟨"LotPlanner$Plan", "<init>", "()V"⟩
def am_y_Plan_refresh : MethodName := ⟨"LotPlanner$Plan", "refresh", "(LLotPlanner$Numbers;)V"⟩
def am_y_Plan_partCost : MethodName := ⟨"LotPlanner$Plan", "partCost", "(II)I"⟩
def am_y_Plan_reckonPart : MethodName := ⟨"LotPlanner$Plan", "reckonPart", "(II)V"⟩
def am_y_Plan_takeLots : MethodName := ⟨"LotPlanner$Plan", "takeLots", "(LLotPlanner$Numbers;)V"⟩
def am_y_Plan_reckonForward : MethodName := ⟨"LotPlanner$Plan", "reckonForward", "(I)V"⟩
def am_y_Plan_cost : MethodName := ⟨"LotPlanner$Plan", "cost", "()I"⟩
def am_y_Plan_lots : MethodName := ⟨"LotPlanner$Plan", "lots", "()I"⟩
def am_y_Plan_ofLot : MethodName := ⟨"LotPlanner$Plan", "ofLot", "(II)I"⟩
def am_y_Plan_made : MethodName := ⟨"LotPlanner$Plan", "made", "(I)I"⟩
def am_y_Plan_stock : MethodName := ⟨"LotPlanner$Plan", "stock", "(I)I"⟩
def am_y_Plan_forwardCost : MethodName := ⟨"LotPlanner$Plan", "forwardCost", "(I)I"⟩
def am_y_Plan_lastBegin : MethodName := ⟨"LotPlanner$Plan", "lastBegin", "(I)I"⟩
def am_y_Plan_howMany : MethodName := ⟨"LotPlanner$Plan", "howMany", "()I"⟩
def am_y_Printed_init : MethodName := ⟨"LotPlanner$Printed", "<init>", "()V"⟩
def am_y_Printed_write : MethodName := ⟨"LotPlanner$Printed", "write", "(LLotPlanner$Plan;)V"⟩
def am_y_Printed_add : MethodName := ⟨"LotPlanner$Printed", "add", "(C)V"⟩
def am_y_Printed_addNumber : MethodName := ⟨"LotPlanner$Printed", "addNumber", "(I)V"⟩
def am_y_Printed_length : MethodName := ⟨"LotPlanner$Printed", "length", "()I"⟩
def am_y_Printed_sign : MethodName := ⟨"LotPlanner$Printed", "sign", "(I)I"⟩
def am_y_Shelves_init : MethodName := ⟨"LotPlanner$Shelves", "<init>", "()V"⟩
def am_y_Shelves_begin : MethodName := ⟨"LotPlanner$Shelves", "begin", "(II)V"⟩
def am_y_Shelves_store : MethodName := ⟨"LotPlanner$Shelves", "store", "(IIJ)V"⟩
def am_y_Shelves_placeOf : MethodName := ⟨"LotPlanner$Shelves", "placeOf", "(II)I"⟩
def am_y_Shelves_holds : MethodName := ⟨"LotPlanner$Shelves", "holds", "(I)Z"⟩
def am_y_Shelves_hasPlace : MethodName := ⟨"LotPlanner$Shelves", "hasPlace", "(II)Z"⟩
def am_y_Shelves_value : MethodName := ⟨"LotPlanner$Shelves", "value", "(II)J"⟩
def am_y_Text_init : MethodName := ⟨"LotPlanner$Text", "<init>", "()V"⟩
def am_y_Text_take : MethodName := ⟨"LotPlanner$Text", "take", "(C)Z"⟩
def am_y_Text_length : MethodName := ⟨"LotPlanner$Text", "length", "()I"⟩
def am_y_Text_tellTo : MethodName := ⟨"LotPlanner$Text", "tellTo", "(LLotPlanner$Numbers;)I"⟩
def am_y_Text_lookAtClause : MethodName := ⟨"LotPlanner$Text", "lookAtClause", "(LLotPlanner$Numbers;)Z"⟩
def am_y_Text_lookAtWord : MethodName := ⟨"LotPlanner$Text", "lookAtWord", "()Z"⟩
def am_y_Text_signAt : MethodName := ⟨"LotPlanner$Text", "signAt", "(I)I"⟩
def am_y_Text_wordOf : MethodName := ⟨"LotPlanner$Text", "wordOf", "(I)Ljava/lang/String;"⟩
def am_y_Text_stands : MethodName := ⟨"LotPlanner$Text", "stands", "(Ljava/lang/String;II)Z"⟩
def am_y_Text_lookAtBlank : MethodName := ⟨"LotPlanner$Text", "lookAtBlank", "()Z"⟩
def am_y_Text_lookAtPeriod : MethodName := ⟨"LotPlanner$Text", "lookAtPeriod", "(LLotPlanner$Numbers;)Z"⟩
def am_y_Text_figures : MethodName := ⟨"LotPlanner$Text", "figures", "(I)I"⟩
def am_y_Text_lookAtNumber : MethodName := ⟨"LotPlanner$Text", "lookAtNumber", "()Z"⟩
def am_y_Text_tellClause : MethodName := ⟨"LotPlanner$Text", "tellClause", "(LLotPlanner$Numbers;)V"⟩
def am_y_Text_clear : MethodName := ⟨"LotPlanner$Text", "clear", "()V"⟩
def am_y_Lp_init : MethodName := ⟨"LotPlanner", "<init>", "()V"⟩
def am_y_Lp_at : MethodName := ⟨"LotPlanner", "at", "([II)I"⟩
def am_y_Lp_lay : MethodName := ⟨"LotPlanner", "lay", "([III)V"⟩
def am_y_Lp_periods : MethodName := ⟨"LotPlanner", "periods", "(I)I"⟩
def am_y_Lp_tell : MethodName := ⟨"LotPlanner", "tell", "(III)I"⟩
def am_y_Lp_mayBe : MethodName := ⟨"LotPlanner", "mayBe", "(II)Z"⟩
def am_y_Lp_inside : MethodName := ⟨"LotPlanner", "inside", "(II)Z"⟩
def am_y_Lp_tellAll : MethodName := ⟨"LotPlanner", "tellAll", "(IIII)I"⟩
def am_y_Lp_let : MethodName := ⟨"LotPlanner", "let", "(II)I"⟩
def am_y_Lp_of : MethodName := ⟨"LotPlanner", "of", "(II)I"⟩
def am_y_Lp_feed : MethodName := ⟨"LotPlanner", "feed", "(I)I"⟩
def am_y_Lp_read : MethodName := ⟨"LotPlanner", "read", "()I"⟩
def am_y_Lp_least : MethodName := ⟨"LotPlanner", "least", "()I"⟩
def am_y_Lp_planNow : MethodName := ⟨"LotPlanner", "planNow", "()LLotPlanner$Plan;"⟩
def am_y_Lp_lot : MethodName := ⟨"LotPlanner", "lot", "(II)I"⟩
def am_y_Lp_by : MethodName := ⟨"LotPlanner", "by", "(II)I"⟩
def am_y_Lp_forward : MethodName := ⟨"LotPlanner", "forward", "(II)I"⟩
def am_y_Lp_calm : MethodName := ⟨"LotPlanner", "calm", "()I"⟩
def am_y_Lp_part : MethodName := ⟨"LotPlanner", "part", "(II)I"⟩
def am_y_Lp_ways : MethodName := ⟨"LotPlanner", "ways", "()I"⟩
def am_y_Lp_bounded : MethodName := ⟨"LotPlanner", "bounded", "(I)I"⟩
def am_y_Lp_rule : MethodName := ⟨"LotPlanner", "rule", "(III)I"⟩
def am_y_Lp_thumb : MethodName := ⟨"LotPlanner", "thumb", "()I"⟩
def am_y_Lp_more : MethodName := ⟨"LotPlanner", "more", "(I)I"⟩
def am_y_Lp_planWith : MethodName := ⟨"LotPlanner", "planWith", "(III)LLotPlanner$Plan;"⟩
def am_y_Lp_keeps : MethodName := ⟨"LotPlanner", "keeps", "(I)I"⟩
def am_y_Lp_touched : MethodName := ⟨"LotPlanner", "touched", "(III)I"⟩
def am_y_Lp_hand : MethodName := ⟨"LotPlanner", "hand", "(II)I"⟩
def am_y_Lp_handAs : MethodName := ⟨"LotPlanner", "handAs", "(I)I"⟩
def am_y_Lp_judged : MethodName := ⟨"LotPlanner", "judged", "(I)I"⟩
def am_y_Lp_print : MethodName := ⟨"LotPlanner", "print", "(I)I"⟩
def am_y_Lp_row : MethodName := ⟨"LotPlanner", "row", "(II)I"⟩
def am_y_Lp_put : MethodName := ⟨"LotPlanner", "put", "(IIJ)I"⟩
def am_y_Lp_get : MethodName := ⟨"LotPlanner", "get", "(II)J"⟩
def am_y_Lp_from : MethodName := ⟨"LotPlanner", "from", "(III)I"⟩
def am_y_Lp_into : MethodName := ⟨"LotPlanner", "into", "(III)I"⟩
def am_y_Lp_undo : MethodName := ⟨"LotPlanner", "undo", "()I"⟩
def am_y_Lp_redo : MethodName := ⟨"LotPlanner", "redo", "()I"⟩
def am_y_Lp_image : MethodName := ⟨"LotPlanner", "image", "()I"⟩
def am_y_Lp_back : MethodName := ⟨"LotPlanner", "back", "()I"⟩
def am_y_Lp_count : MethodName := ⟨"LotPlanner", "count", "(I)I"⟩
def am_y_Model_init : MethodName := ⟨"LotPlannerModel", "<init>", "()V"⟩
def am_y_Model_fresh : MethodName := ⟨"LotPlannerModel", "fresh", "(I)V"⟩
def am_y_Model_noChanges : MethodName := ⟨"LotPlannerModel", "noChanges", "()V"⟩
def am_y_Model_lies : MethodName := ⟨"LotPlannerModel", "lies", "(I)V"⟩
def am_y_Model_undo : MethodName := ⟨"LotPlannerModel", "undo", "()I"⟩
def am_y_Model_comesBack : MethodName := ⟨"LotPlannerModel", "comesBack", "(I)V"⟩
def am_y_Model_redo : MethodName := ⟨"LotPlannerModel", "redo", "()I"⟩
def am_y_Model_periods : MethodName := ⟨"LotPlannerModel", "periods", "(I)I"⟩
def am_y_Model_isIn : MethodName := ⟨"LotPlannerModel", "isIn", "(JJJ)Z"⟩
def am_y_Model_tell : MethodName := ⟨"LotPlannerModel", "tell", "(III)I"⟩
def am_y_Model_isPeriod : MethodName := ⟨"LotPlannerModel", "isPeriod", "(I)Z"⟩
def am_y_Model_isWhich : MethodName := ⟨"LotPlannerModel", "isWhich", "(I)Z"⟩
def am_y_Model_mayBe : MethodName := ⟨"LotPlannerModel", "mayBe", "(II)Z"⟩
def am_y_Model_num : MethodName := ⟨"LotPlannerModel", "num", "(II)I"⟩
def am_y_Model_changed : MethodName := ⟨"LotPlannerModel", "changed", "()V"⟩
def am_y_Model_tellAll : MethodName := ⟨"LotPlannerModel", "tellAll", "(IIII)I"⟩
def am_y_Model_let : MethodName := ⟨"LotPlannerModel", "let", "(II)I"⟩
def am_y_Model_of : MethodName := ⟨"LotPlannerModel", "of", "(II)I"⟩
def am_y_Model_feed : MethodName := ⟨"LotPlannerModel", "feed", "(I)I"⟩
def am_y_Model_read : MethodName := ⟨"LotPlannerModel", "read", "()I"⟩
def am_y_Model_clauses : MethodName := ⟨"LotPlannerModel", "clauses", "(Z)I"⟩
def am_y_Model_isClause : MethodName := ⟨"LotPlannerModel", "isClause", "()Z"⟩
def am_y_Model_which : MethodName := ⟨"LotPlannerModel", "which", "()I"⟩
def am_y_Model_here : MethodName := ⟨"LotPlannerModel", "here", "()I"⟩
def am_y_Model_isWord : MethodName := ⟨"LotPlannerModel", "isWord", "(ILjava/lang/String;)Z"⟩
def am_y_Model_fails : MethodName := ⟨"LotPlannerModel", "fails", "(I)Z"⟩
def am_y_Model_isSign : MethodName := ⟨"LotPlannerModel", "isSign", "(I)Z"⟩
def am_y_Model_periodHere : MethodName := ⟨"LotPlannerModel", "periodHere", "()I"⟩
def am_y_Model_isFigure : MethodName := ⟨"LotPlannerModel", "isFigure", "(I)Z"⟩
def am_y_Model_isDigit : MethodName := ⟨"LotPlannerModel", "isDigit", "()Z"⟩
def am_y_Model_least : MethodName := ⟨"LotPlannerModel", "least", "()I"⟩
def am_y_Model_thePlan : MethodName := ⟨"LotPlannerModel", "thePlan", "()I"⟩
def am_y_Model_plans : MethodName := ⟨"LotPlannerModel", "plans", "(II)I"⟩
def am_y_Model_demand : MethodName := ⟨"LotPlannerModel", "demand", "(II)I"⟩
def am_y_Model_looks : MethodName := ⟨"LotPlannerModel", "looks", "(II)V"⟩
def am_y_Model_isLot : MethodName := ⟨"LotPlannerModel", "isLot", "(III)Z"⟩
def am_y_Model_isLate : MethodName := ⟨"LotPlannerModel", "isLate", "()Z"⟩
def am_y_Model_cost : MethodName := ⟨"LotPlannerModel", "cost", "(III)I"⟩
def am_y_Model_held : MethodName := ⟨"LotPlannerModel", "held", "(II)I"⟩
def am_y_Model_owed : MethodName := ⟨"LotPlannerModel", "owed", "(II)I"⟩
def am_y_Model_lot : MethodName := ⟨"LotPlannerModel", "lot", "(II)I"⟩
def am_y_Model_by : MethodName := ⟨"LotPlannerModel", "by", "(II)I"⟩
def am_y_Model_stock : MethodName := ⟨"LotPlannerModel", "stock", "([II)I"⟩
def am_y_Model_forward : MethodName := ⟨"LotPlannerModel", "forward", "(II)I"⟩
def am_y_Model_forwards : MethodName := ⟨"LotPlannerModel", "forwards", "()V"⟩
def am_y_Model_leastLot : MethodName := ⟨"LotPlannerModel", "leastLot", "(II)I"⟩
def am_y_Model_forwardOf : MethodName := ⟨"LotPlannerModel", "forwardOf", "(I)I"⟩
def am_y_Model_lastOf : MethodName := ⟨"LotPlannerModel", "lastOf", "(I)I"⟩
def am_y_Model_isCalm : MethodName := ⟨"LotPlannerModel", "isCalm", "()Z"⟩
def am_y_Model_calm : MethodName := ⟨"LotPlannerModel", "calm", "()I"⟩
def am_y_Model_part : MethodName := ⟨"LotPlannerModel", "part", "(II)I"⟩
def am_y_Model_ways : MethodName := ⟨"LotPlannerModel", "ways", "()I"⟩
def am_y_Model_waysFrom : MethodName := ⟨"LotPlannerModel", "waysFrom", "(I)I"⟩
def am_y_Model_bounded : MethodName := ⟨"LotPlannerModel", "bounded", "(I)I"⟩
def am_y_Model_boundedNow : MethodName := ⟨"LotPlannerModel", "boundedNow", "()I"⟩
def am_y_Model_bounds : MethodName := ⟨"LotPlannerModel", "bounds", "(III)V"⟩
def am_y_Model_behindOne : MethodName := ⟨"LotPlannerModel", "behindOne", "(II)I"⟩
def am_y_Model_rule : MethodName := ⟨"LotPlannerModel", "rule", "(III)I"⟩
def am_y_Model_rules : MethodName := ⟨"LotPlannerModel", "rules", "(II)V"⟩
def am_y_Model_nextDemand : MethodName := ⟨"LotPlannerModel", "nextDemand", "(I)I"⟩
def am_y_Model_takesNext : MethodName := ⟨"LotPlannerModel", "takesNext", "(IIII)Z"⟩
def am_y_Model_thumb : MethodName := ⟨"LotPlannerModel", "thumb", "()I"⟩
def am_y_Model_more : MethodName := ⟨"LotPlannerModel", "more", "(I)I"⟩
def am_y_Model_keeps : MethodName := ⟨"LotPlannerModel", "keeps", "(I)I"⟩
def am_y_Model_doesMakeBy : MethodName := ⟨"LotPlannerModel", "doesMakeBy", "(II)Z"⟩
def am_y_Model_touched : MethodName := ⟨"LotPlannerModel", "touched", "(III)I"⟩
def am_y_Model_hand : MethodName := ⟨"LotPlannerModel", "hand", "(II)I"⟩
def am_y_Model_handAs : MethodName := ⟨"LotPlannerModel", "handAs", "(I)I"⟩
def am_y_Model_noHands : MethodName := ⟨"LotPlannerModel", "noHands", "()I"⟩
def am_y_Model_hands : MethodName := ⟨"LotPlannerModel", "hands", "([I)I"⟩
def am_y_Model_judged : MethodName := ⟨"LotPlannerModel", "judged", "(I)I"⟩
def am_y_Model_handCost : MethodName := ⟨"LotPlannerModel", "handCost", "()I"⟩
def am_y_Model_wrong : MethodName := ⟨"LotPlannerModel", "wrong", "()I"⟩
def am_y_Model_print : MethodName := ⟨"LotPlannerModel", "print", "(I)I"⟩
def am_y_Model_prints : MethodName := ⟨"LotPlannerModel", "prints", "()V"⟩
def am_y_Model_says : MethodName := ⟨"LotPlannerModel", "says", "(I)V"⟩
def am_y_Model_saysNumber : MethodName := ⟨"LotPlannerModel", "saysNumber", "(I)V"⟩
def am_y_Model_row : MethodName := ⟨"LotPlannerModel", "row", "(II)I"⟩
def am_y_Model_isShelf : MethodName := ⟨"LotPlannerModel", "isShelf", "(I)Z"⟩
def am_y_Model_put : MethodName := ⟨"LotPlannerModel", "put", "(IIJ)I"⟩
def am_y_Model_get : MethodName := ⟨"LotPlannerModel", "get", "(II)J"⟩
def am_y_Model_from : MethodName := ⟨"LotPlannerModel", "from", "(III)I"⟩
def am_y_Model_wrongRow : MethodName := ⟨"LotPlannerModel", "wrongRow", "(II)I"⟩
def am_y_Model_into : MethodName := ⟨"LotPlannerModel", "into", "(III)I"⟩
def am_y_Model_image : MethodName := ⟨"LotPlannerModel", "image", "()I"⟩
def am_y_Model_back : MethodName := ⟨"LotPlannerModel", "back", "()I"⟩
def am_y_Model_count : MethodName := ⟨"LotPlannerModel", "count", "(I)I"⟩
def am_y_String_length : MethodName := ⟨"java/lang/String", "length", "()I"⟩
def am_y_String_coder : MethodName := ⟨"java/lang/String", "coder", "()B"⟩
def am_y_String_charAt : MethodName := ⟨"java/lang/String", "charAt", "(I)C"⟩
def am_y_String_isLatin1 : MethodName := ⟨"java/lang/String", "isLatin1", "()Z"⟩
def am_y_String_checkIndex : MethodName := ⟨"java/lang/String", "checkIndex", "(II)V"⟩
def am_y_StringLatin1_charAt : MethodName := ⟨"java/lang/StringLatin1", "charAt", "([BI)C"⟩
def am_y_Preconditions_checkIndex : MethodName := ⟨"jdk/internal/util/Preconditions", "checkIndex", "(IILjava/util/function/BiFunction;)I"⟩
def am_y_Law_law : MethodName := ⟨"LotPlannerLaw", "law", "([I)Z"⟩
