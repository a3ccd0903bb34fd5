section
-- ===== PART A: goes FIRST, ahead of the names: the tables' words, and 'selects' of the private methods out of them =====
/-- a private method of a class that the tables say can be made, by its rows of tables_1 -/
def lw_okq (q : MethodName × Nat) : Prop := (q.1.cls ≠ "java/lang/invoke/MethodHandle" ∧ q.1.cls ≠ "java/lang/invoke/VarHandle") ∧ Cond.instantiable q.1.cls q.2 ∈ tables_1 ∧ Cond.privateMethod q.1 ∈ tables_1 ∧ Cond.instanceMethod q.1 ∈ tables_1
theorem lw_p0 : lw_okq (⟨"DraftSurvey", "readBuffer", "()I"⟩, 7) := ⟨⟨by decide +kernel, by decide +kernel⟩, List.mem_of_getElem? (i := 8) (by decide +kernel), List.mem_of_getElem? (i := 112) (by decide +kernel), List.mem_of_getElem? (i := 113) (by decide +kernel)⟩
theorem lw_p1 : lw_okq (⟨"DraftSurvey$RowReader", "beginNumber", "()V"⟩, 5) := ⟨⟨by decide +kernel, by decide +kernel⟩, List.mem_of_getElem? (i := 16) (by decide +kernel), List.mem_of_getElem? (i := 120) (by decide +kernel), List.mem_of_getElem? (i := 121) (by decide +kernel)⟩
theorem lw_p2 : lw_okq (⟨"DraftSurvey$RowReader", "takesComma", "()Z"⟩, 5) := ⟨⟨by decide +kernel, by decide +kernel⟩, List.mem_of_getElem? (i := 16) (by decide +kernel), List.mem_of_getElem? (i := 128) (by decide +kernel), List.mem_of_getElem? (i := 129) (by decide +kernel)⟩
theorem lw_p3 : lw_okq (⟨"DraftSurvey$RowReader", "takesMinus", "()Z"⟩, 5) := ⟨⟨by decide +kernel, by decide +kernel⟩, List.mem_of_getElem? (i := 16) (by decide +kernel), List.mem_of_getElem? (i := 132) (by decide +kernel), List.mem_of_getElem? (i := 133) (by decide +kernel)⟩
theorem lw_p4 : lw_okq (⟨"DraftSurvey$RowReader", "takesDigit", "(I)Z"⟩, 5) := ⟨⟨by decide +kernel, by decide +kernel⟩, List.mem_of_getElem? (i := 16) (by decide +kernel), List.mem_of_getElem? (i := 136) (by decide +kernel), List.mem_of_getElem? (i := 137) (by decide +kernel)⟩
theorem lw_p5 : lw_okq (⟨"DraftSurvey", "surveyAt", "(I)LDraftSurvey$Survey;"⟩, 7) := ⟨⟨by decide +kernel, by decide +kernel⟩, List.mem_of_getElem? (i := 8) (by decide +kernel), List.mem_of_getElem? (i := 213) (by decide +kernel), List.mem_of_getElem? (i := 214) (by decide +kernel)⟩
theorem lw_p6 : lw_okq (⟨"DraftSurvey", "canCompute", "(LDraftSurvey$Survey;J)Z"⟩, 7) := ⟨⟨by decide +kernel, by decide +kernel⟩, List.mem_of_getElem? (i := 8) (by decide +kernel), List.mem_of_getElem? (i := 283) (by decide +kernel), List.mem_of_getElem? (i := 284) (by decide +kernel)⟩
theorem lw_p7 : lw_okq (⟨"DraftSurvey", "firstCorrectionAt", "(JJ)J"⟩, 7) := ⟨⟨by decide +kernel, by decide +kernel⟩, List.mem_of_getElem? (i := 8) (by decide +kernel), List.mem_of_getElem? (i := 296) (by decide +kernel), List.mem_of_getElem? (i := 297) (by decide +kernel)⟩
theorem lw_p8 : lw_okq (⟨"DraftSurvey", "secondCorrectionAt", "(JJ)J"⟩, 7) := ⟨⟨by decide +kernel, by decide +kernel⟩, List.mem_of_getElem? (i := 8) (by decide +kernel), List.mem_of_getElem? (i := 309) (by decide +kernel), List.mem_of_getElem? (i := 310) (by decide +kernel)⟩
theorem lw_p9 : lw_okq (⟨"DraftSurvey", "displacementOf", "(LDraftSurvey$Survey;J)J"⟩, 7) := ⟨⟨by decide +kernel, by decide +kernel⟩, List.mem_of_getElem? (i := 8) (by decide +kernel), List.mem_of_getElem? (i := 328) (by decide +kernel), List.mem_of_getElem? (i := 329) (by decide +kernel)⟩
theorem lw_p10 : lw_okq (⟨"DraftSurvey", "netWeightOf", "(LDraftSurvey$Survey;J)J"⟩, 7) := ⟨⟨by decide +kernel, by decide +kernel⟩, List.mem_of_getElem? (i := 8) (by decide +kernel), List.mem_of_getElem? (i := 337) (by decide +kernel), List.mem_of_getElem? (i := 338) (by decide +kernel)⟩
theorem lw_p11 : lw_okq (⟨"DraftSurvey", "canComputeMargins", "(LDraftSurvey$Survey;)Z"⟩, 7) := ⟨⟨by decide +kernel, by decide +kernel⟩, List.mem_of_getElem? (i := 8) (by decide +kernel), List.mem_of_getElem? (i := 353) (by decide +kernel), List.mem_of_getElem? (i := 354) (by decide +kernel)⟩
theorem lw_p12 : lw_okq (⟨"DraftSurvey", "lightWeight", "(LDraftSurvey$Survey;)J"⟩, 7) := ⟨⟨by decide +kernel, by decide +kernel⟩, List.mem_of_getElem? (i := 8) (by decide +kernel), List.mem_of_getElem? (i := 357) (by decide +kernel), List.mem_of_getElem? (i := 358) (by decide +kernel)⟩
theorem lw_p13 : lw_okq (⟨"DraftSurvey", "heavyWeight", "(LDraftSurvey$Survey;)J"⟩, 7) := ⟨⟨by decide +kernel, by decide +kernel⟩, List.mem_of_getElem? (i := 8) (by decide +kernel), List.mem_of_getElem? (i := 361) (by decide +kernel), List.mem_of_getElem? (i := 362) (by decide +kernel)⟩
theorem lw_p14 : lw_okq (⟨"DraftSurvey", "hashOfTable", "(J)J"⟩, 7) := ⟨⟨by decide +kernel, by decide +kernel⟩, List.mem_of_getElem? (i := 8) (by decide +kernel), List.mem_of_getElem? (i := 391) (by decide +kernel), List.mem_of_getElem? (i := 392) (by decide +kernel)⟩
theorem lw_p15 : lw_okq (⟨"DraftSurvey", "hashOfSurvey", "(JI)J"⟩, 7) := ⟨⟨by decide +kernel, by decide +kernel⟩, List.mem_of_getElem? (i := 8) (by decide +kernel), List.mem_of_getElem? (i := 399) (by decide +kernel), List.mem_of_getElem? (i := 400) (by decide +kernel)⟩
def lw_privs_1 : List (MethodName × Nat) := [(⟨"DraftSurvey", "readBuffer", "()I"⟩, 7), (⟨"DraftSurvey$RowReader", "beginNumber", "()V"⟩, 5), (⟨"DraftSurvey$RowReader", "takesComma", "()Z"⟩, 5), (⟨"DraftSurvey$RowReader", "takesMinus", "()Z"⟩, 5), (⟨"DraftSurvey$RowReader", "takesDigit", "(I)Z"⟩, 5), (⟨"DraftSurvey", "surveyAt", "(I)LDraftSurvey$Survey;"⟩, 7), (⟨"DraftSurvey", "canCompute", "(LDraftSurvey$Survey;J)Z"⟩, 7), (⟨"DraftSurvey", "firstCorrectionAt", "(JJ)J"⟩, 7), (⟨"DraftSurvey", "secondCorrectionAt", "(JJ)J"⟩, 7), (⟨"DraftSurvey", "displacementOf", "(LDraftSurvey$Survey;J)J"⟩, 7), (⟨"DraftSurvey", "netWeightOf", "(LDraftSurvey$Survey;J)J"⟩, 7), (⟨"DraftSurvey", "canComputeMargins", "(LDraftSurvey$Survey;)Z"⟩, 7), (⟨"DraftSurvey", "lightWeight", "(LDraftSurvey$Survey;)J"⟩, 7), (⟨"DraftSurvey", "heavyWeight", "(LDraftSurvey$Survey;)J"⟩, 7), (⟨"DraftSurvey", "hashOfTable", "(J)J"⟩, 7), (⟨"DraftSurvey", "hashOfSurvey", "(JI)J"⟩, 7)]
theorem lw_r1 : ∀ q ∈ lw_privs_1, lw_okq q := List.forall_mem_cons.mpr ⟨lw_p0, List.forall_mem_cons.mpr ⟨lw_p1, List.forall_mem_cons.mpr ⟨lw_p2, List.forall_mem_cons.mpr ⟨lw_p3, List.forall_mem_cons.mpr ⟨lw_p4, List.forall_mem_cons.mpr ⟨lw_p5, List.forall_mem_cons.mpr ⟨lw_p6, List.forall_mem_cons.mpr ⟨lw_p7, List.forall_mem_cons.mpr ⟨lw_p8, List.forall_mem_cons.mpr ⟨lw_p9, List.forall_mem_cons.mpr ⟨lw_p10, List.forall_mem_cons.mpr ⟨lw_p11, List.forall_mem_cons.mpr ⟨lw_p12, List.forall_mem_cons.mpr ⟨lw_p13, List.forall_mem_cons.mpr ⟨lw_p14, List.forall_mem_cons.mpr ⟨lw_p15, fun _ h => absurd h List.not_mem_nil⟩⟩⟩⟩⟩⟩⟩⟩⟩⟩⟩⟩⟩⟩⟩⟩
theorem lw_p16 : lw_okq (⟨"DraftSurvey", "hashOfBuffer", "(J)J"⟩, 7) := ⟨⟨by decide +kernel, by decide +kernel⟩, List.mem_of_getElem? (i := 8) (by decide +kernel), List.mem_of_getElem? (i := 416) (by decide +kernel), List.mem_of_getElem? (i := 417) (by decide +kernel)⟩
theorem lw_p17 : lw_okq (⟨"DraftSurveyModel", "parse", "()V"⟩, 13) := ⟨⟨by decide +kernel, by decide +kernel⟩, List.mem_of_getElem? (i := 420) (by decide +kernel), List.mem_of_getElem? (i := 487) (by decide +kernel), List.mem_of_getElem? (i := 488) (by decide +kernel)⟩
theorem lw_p18 : lw_okq (⟨"DraftSurveyModel", "cell", "(II)J"⟩, 13) := ⟨⟨by decide +kernel, by decide +kernel⟩, List.mem_of_getElem? (i := 420) (by decide +kernel), List.mem_of_getElem? (i := 507) (by decide +kernel), List.mem_of_getElem? (i := 508) (by decide +kernel)⟩
theorem lw_p19 : lw_okq (⟨"DraftSurveyModel", "isCovered", "(J)Z"⟩, 13) := ⟨⟨by decide +kernel, by decide +kernel⟩, List.mem_of_getElem? (i := 420) (by decide +kernel), List.mem_of_getElem? (i := 526) (by decide +kernel), List.mem_of_getElem? (i := 527) (by decide +kernel)⟩
theorem lw_p20 : lw_okq (⟨"DraftSurveyModel", "at", "(IJ)J"⟩, 13) := ⟨⟨by decide +kernel, by decide +kernel⟩, List.mem_of_getElem? (i := 420) (by decide +kernel), List.mem_of_getElem? (i := 530) (by decide +kernel), List.mem_of_getElem? (i := 531) (by decide +kernel)⟩
theorem lw_p21 : lw_okq (⟨"DraftSurveyModel", "trimOf", "(IJ)J"⟩, 13) := ⟨⟨by decide +kernel, by decide +kernel⟩, List.mem_of_getElem? (i := 420) (by decide +kernel), List.mem_of_getElem? (i := 576) (by decide +kernel), List.mem_of_getElem? (i := 577) (by decide +kernel)⟩
theorem lw_p22 : lw_okq (⟨"DraftSurveyModel", "mean", "(IIJ)J"⟩, 13) := ⟨⟨by decide +kernel, by decide +kernel⟩, List.mem_of_getElem? (i := 420) (by decide +kernel), List.mem_of_getElem? (i := 580) (by decide +kernel), List.mem_of_getElem? (i := 581) (by decide +kernel)⟩
theorem lw_p23 : lw_okq (⟨"DraftSurveyModel", "deflectionOf", "(I)J"⟩, 13) := ⟨⟨by decide +kernel, by decide +kernel⟩, List.mem_of_getElem? (i := 420) (by decide +kernel), List.mem_of_getElem? (i := 589) (by decide +kernel), List.mem_of_getElem? (i := 590) (by decide +kernel)⟩
theorem lw_p24 : lw_okq (⟨"DraftSurveyModel", "heelOf", "(I)J"⟩, 13) := ⟨⟨by decide +kernel, by decide +kernel⟩, List.mem_of_getElem? (i := 420) (by decide +kernel), List.mem_of_getElem? (i := 597) (by decide +kernel), List.mem_of_getElem? (i := 598) (by decide +kernel)⟩
theorem lw_p25 : lw_okq (⟨"DraftSurveyModel", "quarter", "(IJ)J"⟩, 13) := ⟨⟨by decide +kernel, by decide +kernel⟩, List.mem_of_getElem? (i := 420) (by decide +kernel), List.mem_of_getElem? (i := 605) (by decide +kernel), List.mem_of_getElem? (i := 606) (by decide +kernel)⟩
theorem lw_p26 : lw_okq (⟨"DraftSurveyModel", "firstTold", "(I)J"⟩, 13) := ⟨⟨by decide +kernel, by decide +kernel⟩, List.mem_of_getElem? (i := 420) (by decide +kernel), List.mem_of_getElem? (i := 615) (by decide +kernel), List.mem_of_getElem? (i := 616) (by decide +kernel)⟩
theorem lw_p27 : lw_okq (⟨"DraftSurveyModel", "isComputable", "(IJ)Z"⟩, 13) := ⟨⟨by decide +kernel, by decide +kernel⟩, List.mem_of_getElem? (i := 420) (by decide +kernel), List.mem_of_getElem? (i := 619) (by decide +kernel), List.mem_of_getElem? (i := 620) (by decide +kernel)⟩
theorem lw_p28 : lw_okq (⟨"DraftSurveyModel", "first", "(IJ)J"⟩, 13) := ⟨⟨by decide +kernel, by decide +kernel⟩, List.mem_of_getElem? (i := 420) (by decide +kernel), List.mem_of_getElem? (i := 623) (by decide +kernel), List.mem_of_getElem? (i := 624) (by decide +kernel)⟩
theorem lw_p29 : lw_okq (⟨"DraftSurveyModel", "secondTold", "(I)J"⟩, 13) := ⟨⟨by decide +kernel, by decide +kernel⟩, List.mem_of_getElem? (i := 420) (by decide +kernel), List.mem_of_getElem? (i := 631) (by decide +kernel), List.mem_of_getElem? (i := 632) (by decide +kernel)⟩
theorem lw_p30 : lw_okq (⟨"DraftSurveyModel", "second", "(IJ)J"⟩, 13) := ⟨⟨by decide +kernel, by decide +kernel⟩, List.mem_of_getElem? (i := 420) (by decide +kernel), List.mem_of_getElem? (i := 635) (by decide +kernel), List.mem_of_getElem? (i := 636) (by decide +kernel)⟩
theorem lw_p31 : lw_okq (⟨"DraftSurveyModel", "displacedTold", "(IJ)J"⟩, 13) := ⟨⟨by decide +kernel, by decide +kernel⟩, List.mem_of_getElem? (i := 420) (by decide +kernel), List.mem_of_getElem? (i := 647) (by decide +kernel), List.mem_of_getElem? (i := 648) (by decide +kernel)⟩
def lw_privs_2 : List (MethodName × Nat) := [(⟨"DraftSurvey", "hashOfBuffer", "(J)J"⟩, 7), (⟨"DraftSurveyModel", "parse", "()V"⟩, 13), (⟨"DraftSurveyModel", "cell", "(II)J"⟩, 13), (⟨"DraftSurveyModel", "isCovered", "(J)Z"⟩, 13), (⟨"DraftSurveyModel", "at", "(IJ)J"⟩, 13), (⟨"DraftSurveyModel", "trimOf", "(IJ)J"⟩, 13), (⟨"DraftSurveyModel", "mean", "(IIJ)J"⟩, 13), (⟨"DraftSurveyModel", "deflectionOf", "(I)J"⟩, 13), (⟨"DraftSurveyModel", "heelOf", "(I)J"⟩, 13), (⟨"DraftSurveyModel", "quarter", "(IJ)J"⟩, 13), (⟨"DraftSurveyModel", "firstTold", "(I)J"⟩, 13), (⟨"DraftSurveyModel", "isComputable", "(IJ)Z"⟩, 13), (⟨"DraftSurveyModel", "first", "(IJ)J"⟩, 13), (⟨"DraftSurveyModel", "secondTold", "(I)J"⟩, 13), (⟨"DraftSurveyModel", "second", "(IJ)J"⟩, 13), (⟨"DraftSurveyModel", "displacedTold", "(IJ)J"⟩, 13)]
theorem lw_r2 : ∀ q ∈ lw_privs_2, lw_okq q := List.forall_mem_cons.mpr ⟨lw_p16, List.forall_mem_cons.mpr ⟨lw_p17, List.forall_mem_cons.mpr ⟨lw_p18, List.forall_mem_cons.mpr ⟨lw_p19, List.forall_mem_cons.mpr ⟨lw_p20, List.forall_mem_cons.mpr ⟨lw_p21, List.forall_mem_cons.mpr ⟨lw_p22, List.forall_mem_cons.mpr ⟨lw_p23, List.forall_mem_cons.mpr ⟨lw_p24, List.forall_mem_cons.mpr ⟨lw_p25, List.forall_mem_cons.mpr ⟨lw_p26, List.forall_mem_cons.mpr ⟨lw_p27, List.forall_mem_cons.mpr ⟨lw_p28, List.forall_mem_cons.mpr ⟨lw_p29, List.forall_mem_cons.mpr ⟨lw_p30, List.forall_mem_cons.mpr ⟨lw_p31, fun _ h => absurd h List.not_mem_nil⟩⟩⟩⟩⟩⟩⟩⟩⟩⟩⟩⟩⟩⟩⟩⟩
theorem lw_p32 : lw_okq (⟨"DraftSurveyModel", "displaced", "(IJ)J"⟩, 13) := ⟨⟨by decide +kernel, by decide +kernel⟩, List.mem_of_getElem? (i := 420) (by decide +kernel), List.mem_of_getElem? (i := 651) (by decide +kernel), List.mem_of_getElem? (i := 652) (by decide +kernel)⟩
theorem lw_p33 : lw_okq (⟨"DraftSurveyModel", "netTold", "(I)J"⟩, 13) := ⟨⟨by decide +kernel, by decide +kernel⟩, List.mem_of_getElem? (i := 420) (by decide +kernel), List.mem_of_getElem? (i := 659) (by decide +kernel), List.mem_of_getElem? (i := 660) (by decide +kernel)⟩
theorem lw_p34 : lw_okq (⟨"DraftSurveyModel", "net", "(IJ)J"⟩, 13) := ⟨⟨by decide +kernel, by decide +kernel⟩, List.mem_of_getElem? (i := 420) (by decide +kernel), List.mem_of_getElem? (i := 663) (by decide +kernel), List.mem_of_getElem? (i := 664) (by decide +kernel)⟩
theorem lw_p35 : lw_okq (⟨"DraftSurveyModel", "cargoTold", "(II)J"⟩, 13) := ⟨⟨by decide +kernel, by decide +kernel⟩, List.mem_of_getElem? (i := 420) (by decide +kernel), List.mem_of_getElem? (i := 671) (by decide +kernel), List.mem_of_getElem? (i := 672) (by decide +kernel)⟩
theorem lw_p36 : lw_okq (⟨"DraftSurveyModel", "lowTold", "(II)J"⟩, 13) := ⟨⟨by decide +kernel, by decide +kernel⟩, List.mem_of_getElem? (i := 420) (by decide +kernel), List.mem_of_getElem? (i := 679) (by decide +kernel), List.mem_of_getElem? (i := 680) (by decide +kernel)⟩
theorem lw_p37 : lw_okq (⟨"DraftSurveyModel", "hasBounds", "(I)Z"⟩, 13) := ⟨⟨by decide +kernel, by decide +kernel⟩, List.mem_of_getElem? (i := 420) (by decide +kernel), List.mem_of_getElem? (i := 683) (by decide +kernel), List.mem_of_getElem? (i := 684) (by decide +kernel)⟩
theorem lw_p38 : lw_okq (⟨"DraftSurveyModel", "light", "(I)J"⟩, 13) := ⟨⟨by decide +kernel, by decide +kernel⟩, List.mem_of_getElem? (i := 420) (by decide +kernel), List.mem_of_getElem? (i := 687) (by decide +kernel), List.mem_of_getElem? (i := 688) (by decide +kernel)⟩
theorem lw_p39 : lw_okq (⟨"DraftSurveyModel", "heavy", "(I)J"⟩, 13) := ⟨⟨by decide +kernel, by decide +kernel⟩, List.mem_of_getElem? (i := 420) (by decide +kernel), List.mem_of_getElem? (i := 691) (by decide +kernel), List.mem_of_getElem? (i := 692) (by decide +kernel)⟩
theorem lw_p40 : lw_okq (⟨"DraftSurveyModel", "highTold", "(II)J"⟩, 13) := ⟨⟨by decide +kernel, by decide +kernel⟩, List.mem_of_getElem? (i := 420) (by decide +kernel), List.mem_of_getElem? (i := 699) (by decide +kernel), List.mem_of_getElem? (i := 700) (by decide +kernel)⟩
theorem lw_p41 : lw_okq (⟨"DraftSurveyModel", "heaviestNow", "()J"⟩, 13) := ⟨⟨by decide +kernel, by decide +kernel⟩, List.mem_of_getElem? (i := 420) (by decide +kernel), List.mem_of_getElem? (i := 711) (by decide +kernel), List.mem_of_getElem? (i := 712) (by decide +kernel)⟩
theorem lw_p42 : lw_okq (⟨"DraftSurveyModel", "mix", "(J)V"⟩, 13) := ⟨⟨by decide +kernel, by decide +kernel⟩, List.mem_of_getElem? (i := 420) (by decide +kernel), List.mem_of_getElem? (i := 724) (by decide +kernel), List.mem_of_getElem? (i := 725) (by decide +kernel)⟩
theorem lw_p43 : lw_okq (⟨"DraftSurveyModel", "mixSurvey", "(I)V"⟩, 13) := ⟨⟨by decide +kernel, by decide +kernel⟩, List.mem_of_getElem? (i := 420) (by decide +kernel), List.mem_of_getElem? (i := 729) (by decide +kernel), List.mem_of_getElem? (i := 730) (by decide +kernel)⟩
def lw_privs_3 : List (MethodName × Nat) := [(⟨"DraftSurveyModel", "displaced", "(IJ)J"⟩, 13), (⟨"DraftSurveyModel", "netTold", "(I)J"⟩, 13), (⟨"DraftSurveyModel", "net", "(IJ)J"⟩, 13), (⟨"DraftSurveyModel", "cargoTold", "(II)J"⟩, 13), (⟨"DraftSurveyModel", "lowTold", "(II)J"⟩, 13), (⟨"DraftSurveyModel", "hasBounds", "(I)Z"⟩, 13), (⟨"DraftSurveyModel", "light", "(I)J"⟩, 13), (⟨"DraftSurveyModel", "heavy", "(I)J"⟩, 13), (⟨"DraftSurveyModel", "highTold", "(II)J"⟩, 13), (⟨"DraftSurveyModel", "heaviestNow", "()J"⟩, 13), (⟨"DraftSurveyModel", "mix", "(J)V"⟩, 13), (⟨"DraftSurveyModel", "mixSurvey", "(I)V"⟩, 13)]
theorem lw_r3 : ∀ q ∈ lw_privs_3, lw_okq q := List.forall_mem_cons.mpr ⟨lw_p32, List.forall_mem_cons.mpr ⟨lw_p33, List.forall_mem_cons.mpr ⟨lw_p34, List.forall_mem_cons.mpr ⟨lw_p35, List.forall_mem_cons.mpr ⟨lw_p36, List.forall_mem_cons.mpr ⟨lw_p37, List.forall_mem_cons.mpr ⟨lw_p38, List.forall_mem_cons.mpr ⟨lw_p39, List.forall_mem_cons.mpr ⟨lw_p40, List.forall_mem_cons.mpr ⟨lw_p41, List.forall_mem_cons.mpr ⟨lw_p42, List.forall_mem_cons.mpr ⟨lw_p43, fun _ h => absurd h List.not_mem_nil⟩⟩⟩⟩⟩⟩⟩⟩⟩⟩⟩⟩
def lw_privs : List (MethodName × Nat) := lw_privs_1 ++ (lw_privs_2 ++ (lw_privs_3))
def lw_tbl : List Cond := k2_sels lw_privs ++ tables_1
theorem lw_privs_ok : ∀ q ∈ lw_privs, lw_okq q := by
  show ∀ q ∈ lw_privs_1 ++ (lw_privs_2 ++ (lw_privs_3)), lw_okq q
  exact List.forall_mem_append.mpr ⟨lw_r1, List.forall_mem_append.mpr ⟨lw_r2, lw_r3⟩⟩
-- ===== end of PART A; then your names; then what follows =====
end
section
/-! ===== BEGIN words of one list among another's, by their places ===== -/
theorem goodIn_r {big : List Cond} (ws : List Cond) (ps : List Nat) (hp : ws = ps.filterMap (fun i => big[i]?)) (h : ws.all goodWord = true) : GoodIn big ws := by
  intro w hw
  have h1 := List.all_eq_true.mp h w hw
  rw [hp] at hw
  obtain ⟨i, -, hi⟩ := List.mem_filterMap.mp hw
  have hm : w ∈ big := by first | exact List.mem_of_getElem? hi | exact List.getElem?_mem hi
  exact ⟨hm, good_of_word h1⟩
theorem goodIn_app {big a b : List Cond} (ha : GoodIn big a) (hb : GoodIn big b) : GoodIn big (a ++ b) := fun w h => (List.mem_append.mp h).elim (ha w) (hb w)
theorem goodIn_ca {big a b : List Cond} {c : Cond} (ha : GoodIn big (c :: a)) (hb : GoodIn big b) : GoodIn big (c :: (a ++ b)) := fun w h => (List.mem_cons.mp h).elim (fun e => ha w (List.mem_cons.mpr (Or.inl e))) (fun h => (List.mem_append.mp h).elim (fun h => ha w (List.mem_cons.mpr (Or.inr h))) (hb w))
theorem goodIn_sub {big ws : List Cond} (hm : ∀ w ∈ ws, w ∈ big) (h : ws.all goodWord = true) : GoodIn big ws := fun w hw => ⟨hm w hw, good_of_word (List.all_eq_true.mp h w hw)⟩
/-! ===== END ===== -/

/-! ===== BEGIN printed: names, fields, word lists, decode rows ===== -/
def RX0 : String := "DraftSurvey$RowReader"
def TX0 : u_T := fun k => match k with
  | 0 => ("DraftSurvey$RowReader", "numbers", "[J", true)
  | 1 => ("DraftSurvey$RowReader", "place", "I", false)
  | 2 => ("DraftSurvey$RowReader", "digits", "I", false)
  | 3 => ("DraftSurvey$RowReader", "negative", "Z", false)
  | _ => ("DraftSurvey$RowReader", "magnitude", "J", false)
def tyX0 : Nat → FieldType := fun k => match k with
  | 0 => .array .long
  | 1 => .int
  | 2 => .int
  | 3 => .boolean
  | _ => .long
abbrev wsX00 : List Cond := u_ws RX0 TX0 5
theorem nmX0 : ∀ a, a < 5 → ∀ b, b < 5 → a ≠ b → (TX0 a).2.1 ≠ (TX0 b).2.1 := by decide +kernel
theorem tyX0_ok : ∀ k, k < 5 → parseFieldDescriptor (TX0 k).2.2.1 = some (tyX0 k) := by decide +kernel
abbrev cX0_init : ByteArray := prog_2_method_1_code
def yX0_init : MethodName := ⟨RX0, "<init>", "()V"⟩
abbrev cX0_begin : ByteArray := prog_2_method_2_code
def yX0_begin : MethodName := ⟨RX0, "begin", "()V"⟩
abbrev cX0_beginNumber : ByteArray := prog_2_method_3_code
def yX0_beginNumber : MethodName := ⟨RX0, "beginNumber", "()V"⟩
abbrev cX0_takes : ByteArray := prog_2_method_4_code
def yX0_takes : MethodName := ⟨RX0, "takes", "(I)Z"⟩
abbrev cX0_takesComma : ByteArray := prog_2_method_5_code
def yX0_takesComma : MethodName := ⟨RX0, "takesComma", "()Z"⟩
abbrev cX0_takesMinus : ByteArray := prog_2_method_6_code
def yX0_takesMinus : MethodName := ⟨RX0, "takesMinus", "()Z"⟩
abbrev cX0_takesDigit : ByteArray := prog_2_method_7_code
def yX0_takesDigit : MethodName := ⟨RX0, "takesDigit", "(I)Z"⟩
abbrev cX0_isComplete : ByteArray := prog_2_method_8_code
def yX0_isComplete : MethodName := ⟨RX0, "isComplete", "()Z"⟩
abbrev cX0_numberAt : ByteArray := prog_2_method_9_code
def yX0_numberAt : MethodName := ⟨RX0, "numberAt", "(I)J"⟩
def RX1 : String := "DraftSurvey$Survey"
def TX1 : u_T := fun k => match k with
  | 0 => ("DraftSurvey$Survey", "readings", "[J", true)
  | 1 => ("DraftSurvey$Survey", "deductions", "[J", true)
  | _ => ("DraftSurvey$Survey", "density", "J", false)
def tyX1 : Nat → FieldType := fun k => match k with
  | 0 => .array .long
  | 1 => .array .long
  | _ => .long
abbrev wsX10 : List Cond := u_ws RX1 TX1 3
theorem nmX1 : ∀ a, a < 3 → ∀ b, b < 3 → a ≠ b → (TX1 a).2.1 ≠ (TX1 b).2.1 := by decide +kernel
theorem tyX1_ok : ∀ k, k < 3 → parseFieldDescriptor (TX1 k).2.2.1 = some (tyX1 k) := by decide +kernel
abbrev cX1_init : ByteArray := prog_3_method_1_code
def yX1_init : MethodName := ⟨RX1, "<init>", "()V"⟩
abbrev cX1_forwardDraft : ByteArray := prog_3_method_2_code
def yX1_forwardDraft : MethodName := ⟨RX1, "forwardDraft", "()J"⟩
abbrev cX1_midshipDraft : ByteArray := prog_3_method_3_code
def yX1_midshipDraft : MethodName := ⟨RX1, "midshipDraft", "()J"⟩
abbrev cX1_aftDraft : ByteArray := prog_3_method_4_code
def yX1_aftDraft : MethodName := ⟨RX1, "aftDraft", "()J"⟩
abbrev cX1_sternTrim : ByteArray := prog_3_method_5_code
def yX1_sternTrim : MethodName := ⟨RX1, "sternTrim", "()J"⟩
abbrev cX1_hullDeflection : ByteArray := prog_3_method_6_code
def yX1_hullDeflection : MethodName := ⟨RX1, "hullDeflection", "()J"⟩
abbrev cX1_starboardHeel : ByteArray := prog_3_method_7_code
def yX1_starboardHeel : MethodName := ⟨RX1, "starboardHeel", "()J"⟩
abbrev cX1_meanDraft : ByteArray := prog_3_method_8_code
def yX1_meanDraft : MethodName := ⟨RX1, "meanDraft", "()J"⟩
abbrev cX1_deducted : ByteArray := prog_3_method_9_code
def yX1_deducted : MethodName := ⟨RX1, "deducted", "()J"⟩
def RX2 : String := "DraftSurvey$Table"
def TX2 : u_T := fun k => match k with
  | 0 => ("DraftSurvey$Table", "cells", "[J", true)
  | _ => ("DraftSurvey$Table", "rows", "I", false)
def tyX2 : Nat → FieldType := fun k => match k with
  | 0 => .array .long
  | _ => .int
abbrev wsX20 : List Cond := u_ws RX2 TX2 2
theorem nmX2 : ∀ a, a < 2 → ∀ b, b < 2 → a ≠ b → (TX2 a).2.1 ≠ (TX2 b).2.1 := by decide +kernel
theorem tyX2_ok : ∀ k, k < 2 → parseFieldDescriptor (TX2 k).2.2.1 = some (tyX2 k) := by decide +kernel
abbrev cX2_init : ByteArray := prog_4_method_1_code
def yX2_init : MethodName := ⟨RX2, "<init>", "()V"⟩
abbrev cX2_cell : ByteArray := prog_4_method_2_code
def yX2_cell : MethodName := ⟨RX2, "cell", "(II)J"⟩
abbrev cX2_isFull : ByteArray := prog_4_method_3_code
def yX2_isFull : MethodName := ⟨RX2, "isFull", "()Z"⟩
abbrev cX2_canFollow : ByteArray := prog_4_method_4_code
def yX2_canFollow : MethodName := ⟨RX2, "canFollow", "(JJ)Z"⟩
abbrev cX2_add : ByteArray := prog_4_method_5_code
def yX2_add : MethodName := ⟨RX2, "add", "(LDraftSurvey$RowReader;)V"⟩
abbrev cX2_firstDraft : ByteArray := prog_4_method_6_code
def yX2_firstDraft : MethodName := ⟨RX2, "firstDraft", "()J"⟩
abbrev cX2_lastDraft : ByteArray := prog_4_method_7_code
def yX2_lastDraft : MethodName := ⟨RX2, "lastDraft", "()J"⟩
abbrev cX2_covers : ByteArray := prog_4_method_8_code
def yX2_covers : MethodName := ⟨RX2, "covers", "(J)Z"⟩
abbrev cX2_valueAt : ByteArray := prog_4_method_9_code
def yX2_valueAt : MethodName := ⟨RX2, "valueAt", "(IJ)J"⟩
abbrev cX2_leastDraftFor : ByteArray := prog_4_method_10_code
def yX2_leastDraftFor : MethodName := ⟨RX2, "leastDraftFor", "(J)J"⟩
def RX3 : String := "DraftSurvey"
def TX3 : u_T := fun k => match k with
  | 0 => ("DraftSurvey", "buffer", "[I", true)
  | 1 => ("DraftSurvey", "bufferLength", "I", false)
  | 2 => ("DraftSurvey", "reader", "LDraftSurvey$RowReader;", true)
  | 3 => ("DraftSurvey", "table", "LDraftSurvey$Table;", true)
  | 4 => ("DraftSurvey", "surveys", "[LDraftSurvey$Survey;", true)
  | 5 => ("DraftSurvey", "length", "J", false)
  | _ => ("DraftSurvey", "margin", "J", false)
def tyX3 : Nat → FieldType := fun k => match k with
  | 0 => .array .int
  | 1 => .int
  | 2 => .object "DraftSurvey$RowReader"
  | 3 => .object "DraftSurvey$Table"
  | 4 => .array (.object "DraftSurvey$Survey")
  | 5 => .long
  | _ => .long
abbrev wsX30 : List Cond := u_ws RX3 TX3 7
theorem nmX3 : ∀ a, a < 7 → ∀ b, b < 7 → a ≠ b → (TX3 a).2.1 ≠ (TX3 b).2.1 := by decide +kernel
theorem tyX3_ok : ∀ k, k < 7 → parseFieldDescriptor (TX3 k).2.2.1 = some (tyX3 k) := by decide +kernel
abbrev cX3_init : ByteArray := prog_1_method_1_code
def yX3_init : MethodName := ⟨RX3, "<init>", "()V"⟩
abbrev cX3_append : ByteArray := prog_1_method_2_code
def yX3_append : MethodName := ⟨RX3, "append", "(I)J"⟩
abbrev cX3_clearBuffer : ByteArray := prog_1_method_3_code
def yX3_clearBuffer : MethodName := ⟨RX3, "clearBuffer", "()J"⟩
abbrev cX3_errorPosition : ByteArray := prog_1_method_4_code
def yX3_errorPosition : MethodName := ⟨RX3, "errorPosition", "()J"⟩
abbrev cX3_addRow : ByteArray := prog_1_method_5_code
def yX3_addRow : MethodName := ⟨RX3, "addRow", "()J"⟩
abbrev cX3_clearTable : ByteArray := prog_1_method_6_code
def yX3_clearTable : MethodName := ⟨RX3, "clearTable", "()J"⟩
abbrev cX3_rowDraft : ByteArray := prog_1_method_7_code
def yX3_rowDraft : MethodName := ⟨RX3, "rowDraft", "(I)J"⟩
abbrev cX3_tableValue : ByteArray := prog_1_method_8_code
def yX3_tableValue : MethodName := ⟨RX3, "tableValue", "(II)J"⟩
abbrev cX3_setLength : ByteArray := prog_1_method_9_code
def yX3_setLength : MethodName := ⟨RX3, "setLength", "(I)J"⟩
abbrev cX3_setMargin : ByteArray := prog_1_method_10_code
def yX3_setMargin : MethodName := ⟨RX3, "setMargin", "(I)J"⟩
abbrev cX3_setReading : ByteArray := prog_1_method_11_code
def yX3_setReading : MethodName := ⟨RX3, "setReading", "(III)J"⟩
abbrev cX3_reading : ByteArray := prog_1_method_12_code
def yX3_reading : MethodName := ⟨RX3, "reading", "(II)J"⟩
abbrev cX3_setDensity : ByteArray := prog_1_method_13_code
def yX3_setDensity : MethodName := ⟨RX3, "setDensity", "(II)J"⟩
abbrev cX3_setDeduction : ByteArray := prog_1_method_14_code
def yX3_setDeduction : MethodName := ⟨RX3, "setDeduction", "(III)J"⟩
abbrev cX3_trim : ByteArray := prog_1_method_15_code
def yX3_trim : MethodName := ⟨RX3, "trim", "(I)J"⟩
abbrev cX3_deflection : ByteArray := prog_1_method_16_code
def yX3_deflection : MethodName := ⟨RX3, "deflection", "(I)J"⟩
abbrev cX3_heel : ByteArray := prog_1_method_17_code
def yX3_heel : MethodName := ⟨RX3, "heel", "(I)J"⟩
abbrev cX3_quarterMean : ByteArray := prog_1_method_18_code
def yX3_quarterMean : MethodName := ⟨RX3, "quarterMean", "(I)J"⟩
abbrev cX3_firstCorrection : ByteArray := prog_1_method_19_code
def yX3_firstCorrection : MethodName := ⟨RX3, "firstCorrection", "(I)J"⟩
abbrev cX3_secondCorrection : ByteArray := prog_1_method_20_code
def yX3_secondCorrection : MethodName := ⟨RX3, "secondCorrection", "(I)J"⟩
abbrev cX3_displacement : ByteArray := prog_1_method_21_code
def yX3_displacement : MethodName := ⟨RX3, "displacement", "(II)J"⟩
abbrev cX3_netWeight : ByteArray := prog_1_method_22_code
def yX3_netWeight : MethodName := ⟨RX3, "netWeight", "(I)J"⟩
abbrev cX3_cargo : ByteArray := prog_1_method_23_code
def yX3_cargo : MethodName := ⟨RX3, "cargo", "(II)J"⟩
abbrev cX3_cargoLow : ByteArray := prog_1_method_24_code
def yX3_cargoLow : MethodName := ⟨RX3, "cargoLow", "(II)J"⟩
abbrev cX3_cargoHigh : ByteArray := prog_1_method_25_code
def yX3_cargoHigh : MethodName := ⟨RX3, "cargoHigh", "(II)J"⟩
abbrev cX3_draftFor : ByteArray := prog_1_method_26_code
def yX3_draftFor : MethodName := ⟨RX3, "draftFor", "(I)J"⟩
abbrev cX3_heaviest : ByteArray := prog_1_method_27_code
def yX3_heaviest : MethodName := ⟨RX3, "heaviest", "()J"⟩
abbrev cX3_rowCount : ByteArray := prog_1_method_28_code
def yX3_rowCount : MethodName := ⟨RX3, "rowCount", "()J"⟩
abbrev cX3_digest : ByteArray := prog_1_method_29_code
def yX3_digest : MethodName := ⟨RX3, "digest", "()J"⟩
abbrev cX3_surveyAt : ByteArray := prog_1_method_30_code
def yX3_surveyAt : MethodName := ⟨RX3, "surveyAt", "(I)LDraftSurvey$Survey;"⟩
abbrev cX3_readBuffer : ByteArray := prog_1_method_31_code
def yX3_readBuffer : MethodName := ⟨RX3, "readBuffer", "()I"⟩
abbrev cX3_canCompute : ByteArray := prog_1_method_32_code
def yX3_canCompute : MethodName := ⟨RX3, "canCompute", "(LDraftSurvey$Survey;J)Z"⟩
abbrev cX3_canComputeMargins : ByteArray := prog_1_method_33_code
def yX3_canComputeMargins : MethodName := ⟨RX3, "canComputeMargins", "(LDraftSurvey$Survey;)Z"⟩
abbrev cX3_firstCorrectionAt : ByteArray := prog_1_method_34_code
def yX3_firstCorrectionAt : MethodName := ⟨RX3, "firstCorrectionAt", "(JJ)J"⟩
abbrev cX3_secondCorrectionAt : ByteArray := prog_1_method_35_code
def yX3_secondCorrectionAt : MethodName := ⟨RX3, "secondCorrectionAt", "(JJ)J"⟩
abbrev cX3_displacementOf : ByteArray := prog_1_method_36_code
def yX3_displacementOf : MethodName := ⟨RX3, "displacementOf", "(LDraftSurvey$Survey;J)J"⟩
abbrev cX3_netWeightOf : ByteArray := prog_1_method_37_code
def yX3_netWeightOf : MethodName := ⟨RX3, "netWeightOf", "(LDraftSurvey$Survey;J)J"⟩
abbrev cX3_lightWeight : ByteArray := prog_1_method_38_code
def yX3_lightWeight : MethodName := ⟨RX3, "lightWeight", "(LDraftSurvey$Survey;)J"⟩
abbrev cX3_heavyWeight : ByteArray := prog_1_method_39_code
def yX3_heavyWeight : MethodName := ⟨RX3, "heavyWeight", "(LDraftSurvey$Survey;)J"⟩
abbrev cX3_quotient : ByteArray := prog_1_method_40_code
def yX3_quotient : MethodName := ⟨RX3, "quotient", "(JJ)J"⟩
abbrev cX3_hashWith : ByteArray := prog_1_method_41_code
def yX3_hashWith : MethodName := ⟨RX3, "hashWith", "(JJ)J"⟩
abbrev cX3_hashOfTable : ByteArray := prog_1_method_42_code
def yX3_hashOfTable : MethodName := ⟨RX3, "hashOfTable", "(J)J"⟩
abbrev cX3_hashOfSurvey : ByteArray := prog_1_method_43_code
def yX3_hashOfSurvey : MethodName := ⟨RX3, "hashOfSurvey", "(JI)J"⟩
abbrev cX3_hashOfBuffer : ByteArray := prog_1_method_44_code
def yX3_hashOfBuffer : MethodName := ⟨RX3, "hashOfBuffer", "(J)J"⟩
def RX4 : String := "DraftSurveyModel"
def TX4 : u_T := fun k => match k with
  | 0 => ("DraftSurveyModel", "bufferLength", "I", false)
  | 1 => ("DraftSurveyModel", "buffer", "[I", true)
  | 2 => ("DraftSurveyModel", "rows", "I", false)
  | 3 => ("DraftSurveyModel", "table", "[J", true)
  | 4 => ("DraftSurveyModel", "readings", "[J", true)
  | 5 => ("DraftSurveyModel", "densities", "[J", true)
  | 6 => ("DraftSurveyModel", "deductions", "[J", true)
  | 7 => ("DraftSurveyModel", "length", "J", false)
  | 8 => ("DraftSurveyModel", "margin", "J", false)
  | 9 => ("DraftSurveyModel", "read", "[J", true)
  | 10 => ("DraftSurveyModel", "errorAt", "I", false)
  | 11 => ("DraftSurveyModel", "isRow", "Z", false)
  | _ => ("DraftSurveyModel", "h", "J", false)
def tyX4 : Nat → FieldType := fun k => match k with
  | 0 => .int
  | 1 => .array .int
  | 2 => .int
  | 3 => .array .long
  | 4 => .array .long
  | 5 => .array .long
  | 6 => .array .long
  | 7 => .long
  | 8 => .long
  | 9 => .array .long
  | 10 => .int
  | 11 => .boolean
  | _ => .long
abbrev wsX40 : List Cond := u_ws RX4 TX4 13
theorem nmX4 : ∀ a, a < 13 → ∀ b, b < 13 → a ≠ b → (TX4 a).2.1 ≠ (TX4 b).2.1 := by decide +kernel
theorem tyX4_ok : ∀ k, k < 13 → parseFieldDescriptor (TX4 k).2.2.1 = some (tyX4 k) := by decide +kernel
abbrev cX4_init : ByteArray := prog_6_method_1_code
def yX4_init : MethodName := ⟨RX4, "<init>", "()V"⟩
abbrev cX4_within : ByteArray := prog_6_method_3_code
def yX4_within : MethodName := ⟨RX4, "within", "(JJJ)Z"⟩
abbrev cX4_quotient : ByteArray := prog_6_method_4_code
def yX4_quotient : MethodName := ⟨RX4, "quotient", "(JJ)J"⟩
abbrev cX4_append : ByteArray := prog_6_method_5_code
def yX4_append : MethodName := ⟨RX4, "append", "(I)J"⟩
abbrev cX4_clearBuffer : ByteArray := prog_6_method_6_code
def yX4_clearBuffer : MethodName := ⟨RX4, "clearBuffer", "()J"⟩
abbrev cX4_greatest : ByteArray := prog_6_method_7_code
def yX4_greatest : MethodName := ⟨RX4, "greatest", "(I)J"⟩
abbrev cX4_parse : ByteArray := prog_6_method_8_code
def yX4_parse : MethodName := ⟨RX4, "parse", "()V"⟩
abbrev cX4_errorPosition : ByteArray := prog_6_method_9_code
def yX4_errorPosition : MethodName := ⟨RX4, "errorPosition", "()J"⟩
abbrev cX4_cell : ByteArray := prog_6_method_10_code
def yX4_cell : MethodName := ⟨RX4, "cell", "(II)J"⟩
abbrev cX4_addRow : ByteArray := prog_6_method_11_code
def yX4_addRow : MethodName := ⟨RX4, "addRow", "()J"⟩
abbrev cX4_clearTable : ByteArray := prog_6_method_12_code
def yX4_clearTable : MethodName := ⟨RX4, "clearTable", "()J"⟩
abbrev cX4_rowDraft : ByteArray := prog_6_method_13_code
def yX4_rowDraft : MethodName := ⟨RX4, "rowDraft", "(I)J"⟩
abbrev cX4_isCovered : ByteArray := prog_6_method_14_code
def yX4_isCovered : MethodName := ⟨RX4, "isCovered", "(J)Z"⟩
abbrev cX4_at : ByteArray := prog_6_method_15_code
def yX4_at : MethodName := ⟨RX4, "at", "(IJ)J"⟩
abbrev cX4_tableValue : ByteArray := prog_6_method_16_code
def yX4_tableValue : MethodName := ⟨RX4, "tableValue", "(II)J"⟩
abbrev cX4_setLength : ByteArray := prog_6_method_17_code
def yX4_setLength : MethodName := ⟨RX4, "setLength", "(I)J"⟩
abbrev cX4_setMargin : ByteArray := prog_6_method_18_code
def yX4_setMargin : MethodName := ⟨RX4, "setMargin", "(I)J"⟩
abbrev cX4_isSurvey : ByteArray := prog_6_method_19_code
def yX4_isSurvey : MethodName := ⟨RX4, "isSurvey", "(I)Z"⟩
abbrev cX4_setReading : ByteArray := prog_6_method_20_code
def yX4_setReading : MethodName := ⟨RX4, "setReading", "(III)J"⟩
abbrev cX4_reading : ByteArray := prog_6_method_21_code
def yX4_reading : MethodName := ⟨RX4, "reading", "(II)J"⟩
abbrev cX4_setDensity : ByteArray := prog_6_method_22_code
def yX4_setDensity : MethodName := ⟨RX4, "setDensity", "(II)J"⟩
abbrev cX4_setDeduction : ByteArray := prog_6_method_23_code
def yX4_setDeduction : MethodName := ⟨RX4, "setDeduction", "(III)J"⟩
abbrev cX4_mean : ByteArray := prog_6_method_24_code
def yX4_mean : MethodName := ⟨RX4, "mean", "(IIJ)J"⟩
abbrev cX4_trimOf : ByteArray := prog_6_method_25_code
def yX4_trimOf : MethodName := ⟨RX4, "trimOf", "(IJ)J"⟩
abbrev cX4_quarter : ByteArray := prog_6_method_26_code
def yX4_quarter : MethodName := ⟨RX4, "quarter", "(IJ)J"⟩
abbrev cX4_deflectionOf : ByteArray := prog_6_method_27_code
def yX4_deflectionOf : MethodName := ⟨RX4, "deflectionOf", "(I)J"⟩
abbrev cX4_heelOf : ByteArray := prog_6_method_28_code
def yX4_heelOf : MethodName := ⟨RX4, "heelOf", "(I)J"⟩
abbrev cX4_trim : ByteArray := prog_6_method_29_code
def yX4_trim : MethodName := ⟨RX4, "trim", "(I)J"⟩
abbrev cX4_deflection : ByteArray := prog_6_method_30_code
def yX4_deflection : MethodName := ⟨RX4, "deflection", "(I)J"⟩
abbrev cX4_heel : ByteArray := prog_6_method_31_code
def yX4_heel : MethodName := ⟨RX4, "heel", "(I)J"⟩
abbrev cX4_quarterMean : ByteArray := prog_6_method_32_code
def yX4_quarterMean : MethodName := ⟨RX4, "quarterMean", "(I)J"⟩
abbrev cX4_isComputable : ByteArray := prog_6_method_33_code
def yX4_isComputable : MethodName := ⟨RX4, "isComputable", "(IJ)Z"⟩
abbrev cX4_first : ByteArray := prog_6_method_34_code
def yX4_first : MethodName := ⟨RX4, "first", "(IJ)J"⟩
abbrev cX4_second : ByteArray := prog_6_method_35_code
def yX4_second : MethodName := ⟨RX4, "second", "(IJ)J"⟩
abbrev cX4_displaced : ByteArray := prog_6_method_36_code
def yX4_displaced : MethodName := ⟨RX4, "displaced", "(IJ)J"⟩
abbrev cX4_net : ByteArray := prog_6_method_37_code
def yX4_net : MethodName := ⟨RX4, "net", "(IJ)J"⟩
abbrev cX4_firstTold : ByteArray := prog_6_method_38_code
def yX4_firstTold : MethodName := ⟨RX4, "firstTold", "(I)J"⟩
abbrev cX4_secondTold : ByteArray := prog_6_method_39_code
def yX4_secondTold : MethodName := ⟨RX4, "secondTold", "(I)J"⟩
abbrev cX4_displacedTold : ByteArray := prog_6_method_40_code
def yX4_displacedTold : MethodName := ⟨RX4, "displacedTold", "(IJ)J"⟩
abbrev cX4_netTold : ByteArray := prog_6_method_41_code
def yX4_netTold : MethodName := ⟨RX4, "netTold", "(I)J"⟩
abbrev cX4_firstCorrection : ByteArray := prog_6_method_42_code
def yX4_firstCorrection : MethodName := ⟨RX4, "firstCorrection", "(I)J"⟩
abbrev cX4_secondCorrection : ByteArray := prog_6_method_43_code
def yX4_secondCorrection : MethodName := ⟨RX4, "secondCorrection", "(I)J"⟩
abbrev cX4_displacement : ByteArray := prog_6_method_44_code
def yX4_displacement : MethodName := ⟨RX4, "displacement", "(II)J"⟩
abbrev cX4_netWeight : ByteArray := prog_6_method_45_code
def yX4_netWeight : MethodName := ⟨RX4, "netWeight", "(I)J"⟩
abbrev cX4_cargoTold : ByteArray := prog_6_method_46_code
def yX4_cargoTold : MethodName := ⟨RX4, "cargoTold", "(II)J"⟩
abbrev cX4_cargo : ByteArray := prog_6_method_47_code
def yX4_cargo : MethodName := ⟨RX4, "cargo", "(II)J"⟩
abbrev cX4_hasBounds : ByteArray := prog_6_method_48_code
def yX4_hasBounds : MethodName := ⟨RX4, "hasBounds", "(I)Z"⟩
abbrev cX4_light : ByteArray := prog_6_method_49_code
def yX4_light : MethodName := ⟨RX4, "light", "(I)J"⟩
abbrev cX4_heavy : ByteArray := prog_6_method_50_code
def yX4_heavy : MethodName := ⟨RX4, "heavy", "(I)J"⟩
abbrev cX4_lowTold : ByteArray := prog_6_method_51_code
def yX4_lowTold : MethodName := ⟨RX4, "lowTold", "(II)J"⟩
abbrev cX4_highTold : ByteArray := prog_6_method_52_code
def yX4_highTold : MethodName := ⟨RX4, "highTold", "(II)J"⟩
abbrev cX4_cargoLow : ByteArray := prog_6_method_53_code
def yX4_cargoLow : MethodName := ⟨RX4, "cargoLow", "(II)J"⟩
abbrev cX4_cargoHigh : ByteArray := prog_6_method_54_code
def yX4_cargoHigh : MethodName := ⟨RX4, "cargoHigh", "(II)J"⟩
abbrev cX4_draftFor : ByteArray := prog_6_method_55_code
def yX4_draftFor : MethodName := ⟨RX4, "draftFor", "(I)J"⟩
abbrev cX4_heaviestNow : ByteArray := prog_6_method_56_code
def yX4_heaviestNow : MethodName := ⟨RX4, "heaviestNow", "()J"⟩
abbrev cX4_heaviest : ByteArray := prog_6_method_57_code
def yX4_heaviest : MethodName := ⟨RX4, "heaviest", "()J"⟩
abbrev cX4_rowCount : ByteArray := prog_6_method_58_code
def yX4_rowCount : MethodName := ⟨RX4, "rowCount", "()J"⟩
abbrev cX4_mix : ByteArray := prog_6_method_59_code
def yX4_mix : MethodName := ⟨RX4, "mix", "(J)V"⟩
abbrev cX4_mixSurvey : ByteArray := prog_6_method_60_code
def yX4_mixSurvey : MethodName := ⟨RX4, "mixSurvey", "(I)V"⟩
abbrev cX4_digest : ByteArray := prog_6_method_61_code
def yX4_digest : MethodName := ⟨RX4, "digest", "()J"⟩
def RJ9 : String := "java/lang/Math"
def TJ9 : u_T := fun k => match k with
  | _ => ("", "", "", false)
def tyJ9 : Nat → FieldType := fun k => match k with
  | _ => .int
abbrev wsJ90 : List Cond := u_ws RJ9 TJ9 0
theorem nmJ9 : ∀ a, a < 0 → ∀ b, b < 0 → a ≠ b → (TJ9 a).2.1 ≠ (TJ9 b).2.1 := by decide +kernel
theorem tyJ9_ok : ∀ k, k < 0 → parseFieldDescriptor (TJ9 k).2.2.1 = some (tyJ9 k) := by decide +kernel
abbrev cJ9_floorDiv_f86c9 : ByteArray := prog_7_method_49_code
def yJ9_floorDiv_f86c9 : MethodName := ⟨RJ9, "floorDiv", "(JJ)J"⟩
abbrev cJ9_max_f86c9 : ByteArray := prog_7_method_66_code
def yJ9_max_f86c9 : MethodName := ⟨RJ9, "max", "(JJ)J"⟩
abbrev cJ9_min_f86c9 : ByteArray := prog_7_method_70_code
def yJ9_min_f86c9 : MethodName := ⟨RJ9, "min", "(JJ)J"⟩
def RL : String := "DraftSurveyLaw"
abbrev cL_law : ByteArray := code
def yL_law : MethodName := ⟨RL, "law", "([I)Z"⟩
def wsX0_init : List Cond := .code yX0_init cX0_init 1 none :: ([.methodLink RX0 3 objectInit, .instanceMethod objectInit, .code objectInit ⟨#[0xb1]⟩ 1 none, .arrayClass .long, .fieldLink RX0 9 "DraftSurvey$RowReader" "numbers" "[J"] ++ wsX00)
def wsX0_beginNumber : List Cond := .code yX0_beginNumber cX0_beginNumber 1 none :: ([.fieldLink RX0 22 "DraftSurvey$RowReader" "digits" "I", .fieldLink RX0 25 "DraftSurvey$RowReader" "negative" "Z", .fieldLink RX0 29 "DraftSurvey$RowReader" "magnitude" "J"] ++ wsX00)
def wsX0_begin : List Cond := .code yX0_begin cX0_begin 1 none :: ([.fieldLink RX0 15 "DraftSurvey$RowReader" "place" "I", .methodLink RX0 19 yX0_beginNumber, .instanceMethod yX0_beginNumber, .selects RX0 yX0_beginNumber yX0_beginNumber, .initialized RX0, .code yX0_beginNumber cX0_beginNumber 1 none, .fieldLink RX0 22 "DraftSurvey$RowReader" "digits" "I", .fieldLink RX0 25 "DraftSurvey$RowReader" "negative" "Z", .fieldLink RX0 29 "DraftSurvey$RowReader" "magnitude" "J"] ++ wsX00)
def wsX0_takesComma : List Cond := .code yX0_takesComma cX0_takesComma 1 (some .boolean) :: ([.fieldLink RX0 22 "DraftSurvey$RowReader" "digits" "I", .fieldLink RX0 15 "DraftSurvey$RowReader" "place" "I", .methodLink RX0 19 yX0_beginNumber, .instanceMethod yX0_beginNumber, .selects RX0 yX0_beginNumber yX0_beginNumber, .initialized RX0, .code yX0_beginNumber cX0_beginNumber 1 none, .fieldLink RX0 25 "DraftSurvey$RowReader" "negative" "Z", .fieldLink RX0 29 "DraftSurvey$RowReader" "magnitude" "J"] ++ wsX00)
def wsX0_takesMinus : List Cond := .code yX0_takesMinus cX0_takesMinus 1 (some .boolean) :: ([.fieldLink RX0 15 "DraftSurvey$RowReader" "place" "I", .fieldLink RX0 25 "DraftSurvey$RowReader" "negative" "Z", .fieldLink RX0 22 "DraftSurvey$RowReader" "digits" "I"] ++ wsX00)
def wsX0_takesDigit : List Cond := .code yX0_takesDigit cX0_takesDigit 6 (some .boolean) :: ([.fieldLink RX0 22 "DraftSurvey$RowReader" "digits" "I", .fieldLink RX0 29 "DraftSurvey$RowReader" "magnitude" "J", .fieldLink RX0 25 "DraftSurvey$RowReader" "negative" "Z", .fieldLink RX0 15 "DraftSurvey$RowReader" "place" "I", .constantLong RX0 44 (10), .fieldLink RX0 9 "DraftSurvey$RowReader" "numbers" "[J"] ++ wsX00)
def wsX0_takes : List Cond := .code yX0_takes cX0_takes 2 (some .boolean) :: ([.methodLink RX0 33 yX0_takesComma, .instanceMethod yX0_takesComma, .selects RX0 yX0_takesComma yX0_takesComma, .initialized RX0, .code yX0_takesComma cX0_takesComma 1 (some .boolean), .fieldLink RX0 22 "DraftSurvey$RowReader" "digits" "I", .fieldLink RX0 15 "DraftSurvey$RowReader" "place" "I", .methodLink RX0 19 yX0_beginNumber, .instanceMethod yX0_beginNumber, .selects RX0 yX0_beginNumber yX0_beginNumber, .code yX0_beginNumber cX0_beginNumber 1 none, .fieldLink RX0 25 "DraftSurvey$RowReader" "negative" "Z", .fieldLink RX0 29 "DraftSurvey$RowReader" "magnitude" "J", .methodLink RX0 37 yX0_takesMinus, .instanceMethod yX0_takesMinus, .selects RX0 yX0_takesMinus yX0_takesMinus, .code yX0_takesMinus cX0_takesMinus 1 (some .boolean), .methodLink RX0 40 yX0_takesDigit, .instanceMethod yX0_takesDigit, .selects RX0 yX0_takesDigit yX0_takesDigit, .code yX0_takesDigit cX0_takesDigit 6 (some .boolean), .constantLong RX0 44 (10), .fieldLink RX0 9 "DraftSurvey$RowReader" "numbers" "[J"] ++ wsX00)
def wsX0_isComplete : List Cond := .code yX0_isComplete cX0_isComplete 1 (some .boolean) :: ([.fieldLink RX0 15 "DraftSurvey$RowReader" "place" "I", .fieldLink RX0 22 "DraftSurvey$RowReader" "digits" "I"] ++ wsX00)
def wsX0_numberAt : List Cond := .code yX0_numberAt cX0_numberAt 2 (some .long) :: ([.fieldLink RX0 9 "DraftSurvey$RowReader" "numbers" "[J"] ++ wsX00)
def wsX1_init : List Cond := .code yX1_init cX1_init 1 none :: ([.methodLink RX1 3 objectInit, .instanceMethod objectInit, .code objectInit ⟨#[0xb1]⟩ 1 none, .arrayClass .long, .fieldLink RX1 9 "DraftSurvey$Survey" "readings" "[J", .fieldLink RX1 15 "DraftSurvey$Survey" "deductions" "[J", .constantLong RX1 18 (1025), .fieldLink RX1 20 "DraftSurvey$Survey" "density" "J"] ++ wsX10)
def wsJ9_floorDiv_f86c9 : List Cond := .code yJ9_floorDiv_f86c9 cJ9_floorDiv_f86c9 6 (some .long) :: ([])
def wsX1_forwardDraft : List Cond := .code yX1_forwardDraft cX1_forwardDraft 1 (some .long) :: ([.fieldLink RX1 9 "DraftSurvey$Survey" "readings" "[J", .constantLong RX1 24 (2), .methodLink RX1 26 yJ9_floorDiv_f86c9, .static yJ9_floorDiv_f86c9, .initialized RJ9, .code yJ9_floorDiv_f86c9 cJ9_floorDiv_f86c9 6 (some .long)] ++ wsX10)
def wsX1_midshipDraft : List Cond := .code yX1_midshipDraft cX1_midshipDraft 1 (some .long) :: ([.fieldLink RX1 9 "DraftSurvey$Survey" "readings" "[J", .constantLong RX1 24 (2), .methodLink RX1 26 yJ9_floorDiv_f86c9, .static yJ9_floorDiv_f86c9, .initialized RJ9, .code yJ9_floorDiv_f86c9 cJ9_floorDiv_f86c9 6 (some .long)] ++ wsX10)
def wsX1_aftDraft : List Cond := .code yX1_aftDraft cX1_aftDraft 1 (some .long) :: ([.fieldLink RX1 9 "DraftSurvey$Survey" "readings" "[J", .constantLong RX1 24 (2), .methodLink RX1 26 yJ9_floorDiv_f86c9, .static yJ9_floorDiv_f86c9, .initialized RJ9, .code yJ9_floorDiv_f86c9 cJ9_floorDiv_f86c9 6 (some .long)] ++ wsX10)
def wsX1_sternTrim : List Cond := .code yX1_sternTrim cX1_sternTrim 1 (some .long) :: ([.methodLink RX1 32 yX1_aftDraft, .instanceMethod yX1_aftDraft, .selects RX1 yX1_aftDraft yX1_aftDraft, .initialized RX1, .code yX1_aftDraft cX1_aftDraft 1 (some .long), .fieldLink RX1 9 "DraftSurvey$Survey" "readings" "[J", .constantLong RX1 24 (2), .methodLink RX1 26 yJ9_floorDiv_f86c9, .static yJ9_floorDiv_f86c9, .initialized RJ9, .code yJ9_floorDiv_f86c9 cJ9_floorDiv_f86c9 6 (some .long), .methodLink RX1 36 yX1_forwardDraft, .instanceMethod yX1_forwardDraft, .selects RX1 yX1_forwardDraft yX1_forwardDraft, .code yX1_forwardDraft cX1_forwardDraft 1 (some .long)] ++ wsX10)
def wsX1_hullDeflection : List Cond := .code yX1_hullDeflection cX1_hullDeflection 1 (some .long) :: ([.constantLong RX1 24 (2), .methodLink RX1 39 yX1_midshipDraft, .instanceMethod yX1_midshipDraft, .selects RX1 yX1_midshipDraft yX1_midshipDraft, .initialized RX1, .code yX1_midshipDraft cX1_midshipDraft 1 (some .long), .fieldLink RX1 9 "DraftSurvey$Survey" "readings" "[J", .methodLink RX1 26 yJ9_floorDiv_f86c9, .static yJ9_floorDiv_f86c9, .initialized RJ9, .code yJ9_floorDiv_f86c9 cJ9_floorDiv_f86c9 6 (some .long), .methodLink RX1 36 yX1_forwardDraft, .instanceMethod yX1_forwardDraft, .selects RX1 yX1_forwardDraft yX1_forwardDraft, .code yX1_forwardDraft cX1_forwardDraft 1 (some .long), .methodLink RX1 32 yX1_aftDraft, .instanceMethod yX1_aftDraft, .selects RX1 yX1_aftDraft yX1_aftDraft, .code yX1_aftDraft cX1_aftDraft 1 (some .long)] ++ wsX10)
def wsX1_starboardHeel : List Cond := .code yX1_starboardHeel cX1_starboardHeel 1 (some .long) :: ([.fieldLink RX1 9 "DraftSurvey$Survey" "readings" "[J"] ++ wsX10)
def wsX1_meanDraft : List Cond := .code yX1_meanDraft cX1_meanDraft 1 (some .long) :: ([.constantLong RX1 42 (6), .constantLong RX1 44 (8), .methodLink RX1 36 yX1_forwardDraft, .instanceMethod yX1_forwardDraft, .selects RX1 yX1_forwardDraft yX1_forwardDraft, .initialized RX1, .code yX1_forwardDraft cX1_forwardDraft 1 (some .long), .fieldLink RX1 9 "DraftSurvey$Survey" "readings" "[J", .constantLong RX1 24 (2), .methodLink RX1 26 yJ9_floorDiv_f86c9, .static yJ9_floorDiv_f86c9, .initialized RJ9, .code yJ9_floorDiv_f86c9 cJ9_floorDiv_f86c9 6 (some .long), .methodLink RX1 39 yX1_midshipDraft, .instanceMethod yX1_midshipDraft, .selects RX1 yX1_midshipDraft yX1_midshipDraft, .code yX1_midshipDraft cX1_midshipDraft 1 (some .long), .methodLink RX1 32 yX1_aftDraft, .instanceMethod yX1_aftDraft, .selects RX1 yX1_aftDraft yX1_aftDraft, .code yX1_aftDraft cX1_aftDraft 1 (some .long)] ++ wsX10)
def wsX1_deducted : List Cond := .code yX1_deducted cX1_deducted 4 (some .long) :: ([.fieldLink RX1 15 "DraftSurvey$Survey" "deductions" "[J"] ++ wsX10)
def wsX2_init : List Cond := .code yX2_init cX2_init 1 none :: ([.methodLink RX2 3 objectInit, .instanceMethod objectInit, .code objectInit ⟨#[0xb1]⟩ 1 none, .arrayClass .long, .fieldLink RX2 9 "DraftSurvey$Table" "cells" "[J"] ++ wsX20)
def wsX2_cell : List Cond := .code yX2_cell cX2_cell 3 (some .long) :: ([.fieldLink RX2 15 "DraftSurvey$Table" "rows" "I", .fieldLink RX2 9 "DraftSurvey$Table" "cells" "[J"] ++ wsX20)
def wsX2_isFull : List Cond := .code yX2_isFull cX2_isFull 1 (some .boolean) :: ([.fieldLink RX2 15 "DraftSurvey$Table" "rows" "I"] ++ wsX20)
def wsX2_lastDraft : List Cond := .code yX2_lastDraft cX2_lastDraft 1 (some .long) :: ([.fieldLink RX2 15 "DraftSurvey$Table" "rows" "I", .methodLink RX2 23 yX2_cell, .instanceMethod yX2_cell, .selects RX2 yX2_cell yX2_cell, .initialized RX2, .code yX2_cell cX2_cell 3 (some .long), .fieldLink RX2 9 "DraftSurvey$Table" "cells" "[J"] ++ wsX20)
def wsX2_canFollow : List Cond := .code yX2_canFollow cX2_canFollow 5 (some .boolean) :: ([.fieldLink RX2 15 "DraftSurvey$Table" "rows" "I", .methodLink RX2 19 yX2_lastDraft, .instanceMethod yX2_lastDraft, .selects RX2 yX2_lastDraft yX2_lastDraft, .initialized RX2, .code yX2_lastDraft cX2_lastDraft 1 (some .long), .methodLink RX2 23 yX2_cell, .instanceMethod yX2_cell, .selects RX2 yX2_cell yX2_cell, .code yX2_cell cX2_cell 3 (some .long), .fieldLink RX2 9 "DraftSurvey$Table" "cells" "[J"] ++ wsX20)
def wsX2_add : List Cond := .code yX2_add cX2_add 3 none :: ([.fieldLink RX2 15 "DraftSurvey$Table" "rows" "I", .fieldLink RX2 9 "DraftSurvey$Table" "cells" "[J", .methodLink RX2 27 yX0_numberAt, .instanceMethod yX0_numberAt, .selects RX0 yX0_numberAt yX0_numberAt, .initialized RX0, .code yX0_numberAt cX0_numberAt 2 (some .long), .fieldLink RX0 9 "DraftSurvey$RowReader" "numbers" "[J"] ++ wsX20 ++ wsX00)
def wsX2_firstDraft : List Cond := .code yX2_firstDraft cX2_firstDraft 1 (some .long) :: ([.methodLink RX2 23 yX2_cell, .instanceMethod yX2_cell, .selects RX2 yX2_cell yX2_cell, .initialized RX2, .code yX2_cell cX2_cell 3 (some .long), .fieldLink RX2 15 "DraftSurvey$Table" "rows" "I", .fieldLink RX2 9 "DraftSurvey$Table" "cells" "[J"] ++ wsX20)
def wsX2_covers : List Cond := .code yX2_covers cX2_covers 3 (some .boolean) :: ([.fieldLink RX2 15 "DraftSurvey$Table" "rows" "I", .methodLink RX2 33 yX2_firstDraft, .instanceMethod yX2_firstDraft, .selects RX2 yX2_firstDraft yX2_firstDraft, .initialized RX2, .code yX2_firstDraft cX2_firstDraft 1 (some .long), .methodLink RX2 23 yX2_cell, .instanceMethod yX2_cell, .selects RX2 yX2_cell yX2_cell, .code yX2_cell cX2_cell 3 (some .long), .fieldLink RX2 9 "DraftSurvey$Table" "cells" "[J", .methodLink RX2 19 yX2_lastDraft, .instanceMethod yX2_lastDraft, .selects RX2 yX2_lastDraft yX2_lastDraft, .code yX2_lastDraft cX2_lastDraft 1 (some .long)] ++ wsX20)
def wsX2_valueAt : List Cond := .code yX2_valueAt cX2_valueAt 17 (some .long) :: ([.fieldLink RX2 15 "DraftSurvey$Table" "rows" "I", .constantLong RX2 36 (-9000000000000000007), .methodLink RX2 23 yX2_cell, .instanceMethod yX2_cell, .selects RX2 yX2_cell yX2_cell, .initialized RX2, .code yX2_cell cX2_cell 3 (some .long), .fieldLink RX2 9 "DraftSurvey$Table" "cells" "[J", .methodLink RX2 38 yJ9_floorDiv_f86c9, .static yJ9_floorDiv_f86c9, .initialized RJ9, .code yJ9_floorDiv_f86c9 cJ9_floorDiv_f86c9 6 (some .long)] ++ wsX20)
def wsX3_quotient : List Cond := .code yX3_quotient cX3_quotient 4 (some .long) :: ([.methodLink RX3 222 yJ9_floorDiv_f86c9, .static yJ9_floorDiv_f86c9, .initialized RJ9, .code yJ9_floorDiv_f86c9 cJ9_floorDiv_f86c9 6 (some .long)])
def wsX2_leastDraftFor : List Cond := .code yX2_leastDraftFor cX2_leastDraftFor 14 (some .long) :: ([.fieldLink RX2 15 "DraftSurvey$Table" "rows" "I", .constantLong RX2 36 (-9000000000000000007), .methodLink RX2 23 yX2_cell, .instanceMethod yX2_cell, .selects RX2 yX2_cell yX2_cell, .initialized RX2, .code yX2_cell cX2_cell 3 (some .long), .fieldLink RX2 9 "DraftSurvey$Table" "cells" "[J", .methodLink RX2 33 yX2_firstDraft, .instanceMethod yX2_firstDraft, .selects RX2 yX2_firstDraft yX2_firstDraft, .code yX2_firstDraft cX2_firstDraft 1 (some .long), .static yX3_quotient, .initialized RX3, .code yX3_quotient cX3_quotient 4 (some .long), .methodLink RX3 222 yJ9_floorDiv_f86c9, .static yJ9_floorDiv_f86c9, .initialized RJ9, .code yJ9_floorDiv_f86c9 cJ9_floorDiv_f86c9 6 (some .long)] ++ wsX20)
def wsX3_init_r1 : List Cond := [Cond.methodLink RX3 1 objectInit, Cond.instanceMethod objectInit, Cond.code objectInit ⟨#[0xb1]⟩ 1 none, Cond.arrayClass .int, Cond.fieldLink RX3 9 "DraftSurvey" "buffer" "[I", Cond.fieldLink RX3 13 "DraftSurvey" "bufferLength" "I", Cond.classLink RX3 17 RX0, Cond.instantiable RX0 5, Cond.initialized RX0, Cond.fieldLink RX3 20 "DraftSurvey" "reader" "LDraftSurvey$RowReader;", Cond.classLink RX3 24 RX2, Cond.instantiable RX2 2, Cond.initialized RX2, Cond.fieldLink RX3 27 "DraftSurvey" "table" "LDraftSurvey$Table;", Cond.classLink RX3 31 RX1, Cond.fieldLink RX3 33 "DraftSurvey" "surveys" "[LDraftSurvey$Survey;", Cond.instantiable RX1 3, Cond.initialized RX1, Cond.constantLong RX3 38 (180000), Cond.fieldLink RX3 40 "DraftSurvey" "length" "J", Cond.fieldLink RX3 44 "DraftSurvey" "margin" "J", Cond.instanceMethod yX0_init, Cond.code yX0_init cX0_init 1 none, Cond.methodLink RX0 3 objectInit]
def wsX3_init_r2 : List Cond := [Cond.arrayClass .long, Cond.fieldLink RX0 9 "DraftSurvey$RowReader" "numbers" "[J", Cond.instanceMethod yX2_init, Cond.code yX2_init cX2_init 1 none, Cond.methodLink RX2 3 objectInit, Cond.fieldLink RX2 9 "DraftSurvey$Table" "cells" "[J", Cond.instanceMethod yX1_init, Cond.code yX1_init cX1_init 1 none, Cond.methodLink RX1 3 objectInit, Cond.fieldLink RX1 9 "DraftSurvey$Survey" "readings" "[J", Cond.fieldLink RX1 15 "DraftSurvey$Survey" "deductions" "[J", Cond.constantLong RX1 18 (1025), Cond.fieldLink RX1 20 "DraftSurvey$Survey" "density" "J"]
def wsX3_init : List Cond := .code yX3_init cX3_init 2 none :: ((wsX3_init_r1 ++ wsX3_init_r2) ++ wsX30 ++ wsX00 ++ wsX20 ++ wsX10)
def wsX3_append : List Cond := .code yX3_append cX3_append 2 (some .long) :: ([.constantLong RX3 47 (-9000000000000000003), .fieldLink RX3 13 "DraftSurvey" "bufferLength" "I", .constantLong RX3 49 (-9000000000000000006), .fieldLink RX3 9 "DraftSurvey" "buffer" "[I"] ++ wsX30)
def wsX3_clearBuffer : List Cond := .code yX3_clearBuffer cX3_clearBuffer 3 (some .long) :: ([.fieldLink RX3 13 "DraftSurvey" "bufferLength" "I"] ++ wsX30)
def wsX3_readBuffer_r1 : List Cond := [Cond.fieldLink RX3 20 "DraftSurvey" "reader" "LDraftSurvey$RowReader;", Cond.fieldLink RX3 13 "DraftSurvey" "bufferLength" "I", Cond.fieldLink RX3 9 "DraftSurvey" "buffer" "[I", Cond.methodLink RX3 184 yX0_begin, Cond.instanceMethod yX0_begin, Cond.selects RX0 yX0_begin yX0_begin, Cond.initialized RX0, Cond.code yX0_begin cX0_begin 1 none, Cond.fieldLink RX0 15 "DraftSurvey$RowReader" "place" "I", Cond.methodLink RX0 19 yX0_beginNumber, Cond.instanceMethod yX0_beginNumber, Cond.selects RX0 yX0_beginNumber yX0_beginNumber, Cond.code yX0_beginNumber cX0_beginNumber 1 none, Cond.fieldLink RX0 22 "DraftSurvey$RowReader" "digits" "I", Cond.fieldLink RX0 25 "DraftSurvey$RowReader" "negative" "Z", Cond.fieldLink RX0 29 "DraftSurvey$RowReader" "magnitude" "J", Cond.methodLink RX3 187 yX0_takes, Cond.instanceMethod yX0_takes, Cond.selects RX0 yX0_takes yX0_takes, Cond.code yX0_takes cX0_takes 2 (some .boolean), Cond.methodLink RX0 33 yX0_takesComma, Cond.instanceMethod yX0_takesComma, Cond.selects RX0 yX0_takesComma yX0_takesComma, Cond.code yX0_takesComma cX0_takesComma 1 (some .boolean)]
def wsX3_readBuffer_r2 : List Cond := [Cond.methodLink RX0 37 yX0_takesMinus, Cond.instanceMethod yX0_takesMinus, Cond.selects RX0 yX0_takesMinus yX0_takesMinus, Cond.code yX0_takesMinus cX0_takesMinus 1 (some .boolean), Cond.methodLink RX0 40 yX0_takesDigit, Cond.instanceMethod yX0_takesDigit, Cond.selects RX0 yX0_takesDigit yX0_takesDigit, Cond.code yX0_takesDigit cX0_takesDigit 6 (some .boolean), Cond.constantLong RX0 44 (10), Cond.fieldLink RX0 9 "DraftSurvey$RowReader" "numbers" "[J"]
def wsX3_readBuffer : List Cond := .code yX3_readBuffer cX3_readBuffer 2 (some .int) :: ((wsX3_readBuffer_r1 ++ wsX3_readBuffer_r2) ++ wsX30 ++ wsX00)
def wsX3_errorPosition_r1 : List Cond := [Cond.methodLink RX3 51 yX3_readBuffer, Cond.instanceMethod yX3_readBuffer, Cond.selects RX3 yX3_readBuffer yX3_readBuffer, Cond.initialized RX3, Cond.code yX3_readBuffer cX3_readBuffer 2 (some .int), Cond.fieldLink RX3 20 "DraftSurvey" "reader" "LDraftSurvey$RowReader;", Cond.fieldLink RX3 13 "DraftSurvey" "bufferLength" "I", Cond.fieldLink RX3 9 "DraftSurvey" "buffer" "[I", Cond.methodLink RX3 184 yX0_begin, Cond.instanceMethod yX0_begin, Cond.selects RX0 yX0_begin yX0_begin, Cond.initialized RX0, Cond.code yX0_begin cX0_begin 1 none, Cond.fieldLink RX0 15 "DraftSurvey$RowReader" "place" "I", Cond.methodLink RX0 19 yX0_beginNumber, Cond.instanceMethod yX0_beginNumber, Cond.selects RX0 yX0_beginNumber yX0_beginNumber, Cond.code yX0_beginNumber cX0_beginNumber 1 none, Cond.fieldLink RX0 22 "DraftSurvey$RowReader" "digits" "I", Cond.fieldLink RX0 25 "DraftSurvey$RowReader" "negative" "Z", Cond.fieldLink RX0 29 "DraftSurvey$RowReader" "magnitude" "J", Cond.methodLink RX3 187 yX0_takes, Cond.instanceMethod yX0_takes, Cond.selects RX0 yX0_takes yX0_takes]
def wsX3_errorPosition_r2 : List Cond := [Cond.code yX0_takes cX0_takes 2 (some .boolean), Cond.methodLink RX0 33 yX0_takesComma, Cond.instanceMethod yX0_takesComma, Cond.selects RX0 yX0_takesComma yX0_takesComma, Cond.code yX0_takesComma cX0_takesComma 1 (some .boolean), Cond.methodLink RX0 37 yX0_takesMinus, Cond.instanceMethod yX0_takesMinus, Cond.selects RX0 yX0_takesMinus yX0_takesMinus, Cond.code yX0_takesMinus cX0_takesMinus 1 (some .boolean), Cond.methodLink RX0 40 yX0_takesDigit, Cond.instanceMethod yX0_takesDigit, Cond.selects RX0 yX0_takesDigit yX0_takesDigit, Cond.code yX0_takesDigit cX0_takesDigit 6 (some .boolean), Cond.constantLong RX0 44 (10), Cond.fieldLink RX0 9 "DraftSurvey$RowReader" "numbers" "[J"]
def wsX3_errorPosition : List Cond := .code yX3_errorPosition cX3_errorPosition 1 (some .long) :: ((wsX3_errorPosition_r1 ++ wsX3_errorPosition_r2) ++ wsX30 ++ wsX00)
def wsX3_addRow_r1 : List Cond := [Cond.fieldLink RX3 13 "DraftSurvey" "bufferLength" "I", Cond.fieldLink RX3 20 "DraftSurvey" "reader" "LDraftSurvey$RowReader;", Cond.constantLong RX3 59 (-9000000000000000004), Cond.fieldLink RX3 27 "DraftSurvey" "table" "LDraftSurvey$Table;", Cond.constantLong RX3 49 (-9000000000000000006), Cond.constantLong RX3 72 (-9000000000000000005), Cond.methodLink RX3 51 yX3_readBuffer, Cond.instanceMethod yX3_readBuffer, Cond.selects RX3 yX3_readBuffer yX3_readBuffer, Cond.initialized RX3, Cond.code yX3_readBuffer cX3_readBuffer 2 (some .int), Cond.fieldLink RX3 9 "DraftSurvey" "buffer" "[I", Cond.methodLink RX3 184 yX0_begin, Cond.instanceMethod yX0_begin, Cond.selects RX0 yX0_begin yX0_begin, Cond.initialized RX0, Cond.code yX0_begin cX0_begin 1 none, Cond.fieldLink RX0 15 "DraftSurvey$RowReader" "place" "I", Cond.methodLink RX0 19 yX0_beginNumber, Cond.instanceMethod yX0_beginNumber, Cond.selects RX0 yX0_beginNumber yX0_beginNumber, Cond.code yX0_beginNumber cX0_beginNumber 1 none, Cond.fieldLink RX0 22 "DraftSurvey$RowReader" "digits" "I", Cond.fieldLink RX0 25 "DraftSurvey$RowReader" "negative" "Z"]
def wsX3_addRow_r2 : List Cond := [Cond.fieldLink RX0 29 "DraftSurvey$RowReader" "magnitude" "J", Cond.methodLink RX3 187 yX0_takes, Cond.instanceMethod yX0_takes, Cond.selects RX0 yX0_takes yX0_takes, Cond.code yX0_takes cX0_takes 2 (some .boolean), Cond.methodLink RX0 33 yX0_takesComma, Cond.instanceMethod yX0_takesComma, Cond.selects RX0 yX0_takesComma yX0_takesComma, Cond.code yX0_takesComma cX0_takesComma 1 (some .boolean), Cond.methodLink RX0 37 yX0_takesMinus, Cond.instanceMethod yX0_takesMinus, Cond.selects RX0 yX0_takesMinus yX0_takesMinus, Cond.code yX0_takesMinus cX0_takesMinus 1 (some .boolean), Cond.methodLink RX0 40 yX0_takesDigit, Cond.instanceMethod yX0_takesDigit, Cond.selects RX0 yX0_takesDigit yX0_takesDigit, Cond.code yX0_takesDigit cX0_takesDigit 6 (some .boolean), Cond.constantLong RX0 44 (10), Cond.fieldLink RX0 9 "DraftSurvey$RowReader" "numbers" "[J", Cond.methodLink RX3 55 yX0_isComplete, Cond.instanceMethod yX0_isComplete, Cond.selects RX0 yX0_isComplete yX0_isComplete, Cond.code yX0_isComplete cX0_isComplete 1 (some .boolean), Cond.methodLink RX3 61 yX2_isFull]
def wsX3_addRow_r3 : List Cond := [Cond.instanceMethod yX2_isFull, Cond.selects RX2 yX2_isFull yX2_isFull, Cond.initialized RX2, Cond.code yX2_isFull cX2_isFull 1 (some .boolean), Cond.fieldLink RX2 15 "DraftSurvey$Table" "rows" "I", Cond.methodLink RX3 64 yX0_numberAt, Cond.instanceMethod yX0_numberAt, Cond.selects RX0 yX0_numberAt yX0_numberAt, Cond.code yX0_numberAt cX0_numberAt 2 (some .long), Cond.methodLink RX3 68 yX2_canFollow, Cond.instanceMethod yX2_canFollow, Cond.selects RX2 yX2_canFollow yX2_canFollow, Cond.code yX2_canFollow cX2_canFollow 5 (some .boolean), Cond.methodLink RX2 19 yX2_lastDraft, Cond.instanceMethod yX2_lastDraft, Cond.selects RX2 yX2_lastDraft yX2_lastDraft, Cond.code yX2_lastDraft cX2_lastDraft 1 (some .long), Cond.methodLink RX2 23 yX2_cell, Cond.instanceMethod yX2_cell, Cond.selects RX2 yX2_cell yX2_cell, Cond.code yX2_cell cX2_cell 3 (some .long), Cond.fieldLink RX2 9 "DraftSurvey$Table" "cells" "[J", Cond.methodLink RX3 74 yX2_add, Cond.instanceMethod yX2_add]
def wsX3_addRow_r4 : List Cond := [Cond.selects RX2 yX2_add yX2_add, Cond.code yX2_add cX2_add 3 none, Cond.methodLink RX2 27 yX0_numberAt]
def wsX3_addRow : List Cond := .code yX3_addRow cX3_addRow 1 (some .long) :: ((wsX3_addRow_r1 ++ (wsX3_addRow_r2 ++ (wsX3_addRow_r3 ++ wsX3_addRow_r4))) ++ wsX30 ++ wsX20 ++ wsX00)
def wsX3_clearTable : List Cond := .code yX3_clearTable cX3_clearTable 3 (some .long) :: ([.fieldLink RX3 27 "DraftSurvey" "table" "LDraftSurvey$Table;"] ++ wsX30 ++ wsX20)
def wsX3_rowDraft : List Cond := .code yX3_rowDraft cX3_rowDraft 2 (some .long) :: ([.fieldLink RX3 27 "DraftSurvey" "table" "LDraftSurvey$Table;", .constantLong RX3 81 (-9000000000000000002), .methodLink RX3 83 yX2_cell, .instanceMethod yX2_cell, .selects RX2 yX2_cell yX2_cell, .initialized RX2, .code yX2_cell cX2_cell 3 (some .long), .fieldLink RX2 15 "DraftSurvey$Table" "rows" "I", .fieldLink RX2 9 "DraftSurvey$Table" "cells" "[J"] ++ wsX30 ++ wsX20)
def wsX3_tableValue : List Cond := .code yX3_tableValue cX3_tableValue 3 (some .long) :: ([.constantLong RX3 81 (-9000000000000000002), .fieldLink RX3 27 "DraftSurvey" "table" "LDraftSurvey$Table;", .methodLink RX3 87 yX2_valueAt, .instanceMethod yX2_valueAt, .selects RX2 yX2_valueAt yX2_valueAt, .initialized RX2, .code yX2_valueAt cX2_valueAt 17 (some .long), .fieldLink RX2 15 "DraftSurvey$Table" "rows" "I", .constantLong RX2 36 (-9000000000000000007), .methodLink RX2 23 yX2_cell, .instanceMethod yX2_cell, .selects RX2 yX2_cell yX2_cell, .code yX2_cell cX2_cell 3 (some .long), .fieldLink RX2 9 "DraftSurvey$Table" "cells" "[J", .methodLink RX2 38 yJ9_floorDiv_f86c9, .static yJ9_floorDiv_f86c9, .initialized RJ9, .code yJ9_floorDiv_f86c9 cJ9_floorDiv_f86c9 6 (some .long)] ++ wsX30 ++ wsX20)
def wsX3_setLength : List Cond := .code yX3_setLength cX3_setLength 4 (some .long) :: ([.constant RX3 91 (400000), .constantLong RX3 47 (-9000000000000000003), .fieldLink RX3 40 "DraftSurvey" "length" "J"] ++ wsX30)
def wsX3_setMargin : List Cond := .code yX3_setMargin cX3_setMargin 4 (some .long) :: ([.constantLong RX3 47 (-9000000000000000003), .fieldLink RX3 44 "DraftSurvey" "margin" "J"] ++ wsX30)
def wsX3_surveyAt : List Cond := .code yX3_surveyAt cX3_surveyAt 2 (some (.object "DraftSurvey$Survey")) :: ([.fieldLink RX3 33 "DraftSurvey" "surveys" "[LDraftSurvey$Survey;"] ++ wsX30)
def wsX3_setReading : List Cond := .code yX3_setReading cX3_setReading 7 (some .long) :: ([.constantLong RX3 96 (-9000000000000000001), .constantLong RX3 81 (-9000000000000000002), .constantLong RX3 47 (-9000000000000000003), .methodLink RX3 92 yX3_surveyAt, .instanceMethod yX3_surveyAt, .selects RX3 yX3_surveyAt yX3_surveyAt, .initialized RX3, .code yX3_surveyAt cX3_surveyAt 2 (some (.object "DraftSurvey$Survey")), .fieldLink RX3 33 "DraftSurvey" "surveys" "[LDraftSurvey$Survey;"] ++ wsX10 ++ wsX30)
def wsX3_reading : List Cond := .code yX3_reading cX3_reading 4 (some .long) :: ([.constantLong RX3 96 (-9000000000000000001), .constantLong RX3 81 (-9000000000000000002), .methodLink RX3 92 yX3_surveyAt, .instanceMethod yX3_surveyAt, .selects RX3 yX3_surveyAt yX3_surveyAt, .initialized RX3, .code yX3_surveyAt cX3_surveyAt 2 (some (.object "DraftSurvey$Survey")), .fieldLink RX3 33 "DraftSurvey" "surveys" "[LDraftSurvey$Survey;"] ++ wsX10 ++ wsX30)
def wsX3_setDensity : List Cond := .code yX3_setDensity cX3_setDensity 6 (some .long) :: ([.constantLong RX3 96 (-9000000000000000001), .constantLong RX3 47 (-9000000000000000003), .methodLink RX3 92 yX3_surveyAt, .instanceMethod yX3_surveyAt, .selects RX3 yX3_surveyAt yX3_surveyAt, .initialized RX3, .code yX3_surveyAt cX3_surveyAt 2 (some (.object "DraftSurvey$Survey")), .fieldLink RX3 33 "DraftSurvey" "surveys" "[LDraftSurvey$Survey;"] ++ wsX10 ++ wsX30)
def wsX3_setDeduction : List Cond := .code yX3_setDeduction cX3_setDeduction 7 (some .long) :: ([.constantLong RX3 96 (-9000000000000000001), .constantLong RX3 81 (-9000000000000000002), .constant RX3 105 (9999999), .constantLong RX3 47 (-9000000000000000003), .methodLink RX3 92 yX3_surveyAt, .instanceMethod yX3_surveyAt, .selects RX3 yX3_surveyAt yX3_surveyAt, .initialized RX3, .code yX3_surveyAt cX3_surveyAt 2 (some (.object "DraftSurvey$Survey")), .fieldLink RX3 33 "DraftSurvey" "surveys" "[LDraftSurvey$Survey;"] ++ wsX10 ++ wsX30)
def wsX3_trim_r1 : List Cond := [Cond.constantLong RX3 96 (-9000000000000000001), Cond.methodLink RX3 92 yX3_surveyAt, Cond.instanceMethod yX3_surveyAt, Cond.selects RX3 yX3_surveyAt yX3_surveyAt, Cond.initialized RX3, Cond.code yX3_surveyAt cX3_surveyAt 2 (some (.object "DraftSurvey$Survey")), Cond.fieldLink RX3 33 "DraftSurvey" "surveys" "[LDraftSurvey$Survey;", Cond.methodLink RX3 109 yX1_sternTrim, Cond.instanceMethod yX1_sternTrim, Cond.selects RX1 yX1_sternTrim yX1_sternTrim, Cond.initialized RX1, Cond.code yX1_sternTrim cX1_sternTrim 1 (some .long), Cond.methodLink RX1 32 yX1_aftDraft, Cond.instanceMethod yX1_aftDraft, Cond.selects RX1 yX1_aftDraft yX1_aftDraft, Cond.code yX1_aftDraft cX1_aftDraft 1 (some .long), Cond.fieldLink RX1 9 "DraftSurvey$Survey" "readings" "[J", Cond.constantLong RX1 24 (2), Cond.methodLink RX1 26 yJ9_floorDiv_f86c9, Cond.static yJ9_floorDiv_f86c9, Cond.initialized RJ9, Cond.code yJ9_floorDiv_f86c9 cJ9_floorDiv_f86c9 6 (some .long), Cond.methodLink RX1 36 yX1_forwardDraft, Cond.instanceMethod yX1_forwardDraft]
def wsX3_trim_r2 : List Cond := [Cond.selects RX1 yX1_forwardDraft yX1_forwardDraft, Cond.code yX1_forwardDraft cX1_forwardDraft 1 (some .long)]
def wsX3_trim : List Cond := .code yX3_trim cX3_trim 3 (some .long) :: ((wsX3_trim_r1 ++ wsX3_trim_r2) ++ wsX30 ++ wsX10)
def wsX3_deflection_r1 : List Cond := [Cond.constantLong RX3 96 (-9000000000000000001), Cond.methodLink RX3 92 yX3_surveyAt, Cond.instanceMethod yX3_surveyAt, Cond.selects RX3 yX3_surveyAt yX3_surveyAt, Cond.initialized RX3, Cond.code yX3_surveyAt cX3_surveyAt 2 (some (.object "DraftSurvey$Survey")), Cond.fieldLink RX3 33 "DraftSurvey" "surveys" "[LDraftSurvey$Survey;", Cond.methodLink RX3 113 yX1_hullDeflection, Cond.instanceMethod yX1_hullDeflection, Cond.selects RX1 yX1_hullDeflection yX1_hullDeflection, Cond.initialized RX1, Cond.code yX1_hullDeflection cX1_hullDeflection 1 (some .long), Cond.constantLong RX1 24 (2), Cond.methodLink RX1 39 yX1_midshipDraft, Cond.instanceMethod yX1_midshipDraft, Cond.selects RX1 yX1_midshipDraft yX1_midshipDraft, Cond.code yX1_midshipDraft cX1_midshipDraft 1 (some .long), Cond.fieldLink RX1 9 "DraftSurvey$Survey" "readings" "[J", Cond.methodLink RX1 26 yJ9_floorDiv_f86c9, Cond.static yJ9_floorDiv_f86c9, Cond.initialized RJ9, Cond.code yJ9_floorDiv_f86c9 cJ9_floorDiv_f86c9 6 (some .long), Cond.methodLink RX1 36 yX1_forwardDraft, Cond.instanceMethod yX1_forwardDraft]
def wsX3_deflection_r2 : List Cond := [Cond.selects RX1 yX1_forwardDraft yX1_forwardDraft, Cond.code yX1_forwardDraft cX1_forwardDraft 1 (some .long), Cond.methodLink RX1 32 yX1_aftDraft, Cond.instanceMethod yX1_aftDraft, Cond.selects RX1 yX1_aftDraft yX1_aftDraft, Cond.code yX1_aftDraft cX1_aftDraft 1 (some .long)]
def wsX3_deflection : List Cond := .code yX3_deflection cX3_deflection 3 (some .long) :: ((wsX3_deflection_r1 ++ wsX3_deflection_r2) ++ wsX30 ++ wsX10)
def wsX3_heel : List Cond := .code yX3_heel cX3_heel 3 (some .long) :: ([.constantLong RX3 96 (-9000000000000000001), .methodLink RX3 92 yX3_surveyAt, .instanceMethod yX3_surveyAt, .selects RX3 yX3_surveyAt yX3_surveyAt, .initialized RX3, .code yX3_surveyAt cX3_surveyAt 2 (some (.object "DraftSurvey$Survey")), .fieldLink RX3 33 "DraftSurvey" "surveys" "[LDraftSurvey$Survey;", .methodLink RX3 116 yX1_starboardHeel, .instanceMethod yX1_starboardHeel, .selects RX1 yX1_starboardHeel yX1_starboardHeel, .initialized RX1, .code yX1_starboardHeel cX1_starboardHeel 1 (some .long), .fieldLink RX1 9 "DraftSurvey$Survey" "readings" "[J"] ++ wsX30 ++ wsX10)
def wsX3_quarterMean_r1 : List Cond := [Cond.constantLong RX3 96 (-9000000000000000001), Cond.methodLink RX3 92 yX3_surveyAt, Cond.instanceMethod yX3_surveyAt, Cond.selects RX3 yX3_surveyAt yX3_surveyAt, Cond.initialized RX3, Cond.code yX3_surveyAt cX3_surveyAt 2 (some (.object "DraftSurvey$Survey")), Cond.fieldLink RX3 33 "DraftSurvey" "surveys" "[LDraftSurvey$Survey;", Cond.methodLink RX3 119 yX1_meanDraft, Cond.instanceMethod yX1_meanDraft, Cond.selects RX1 yX1_meanDraft yX1_meanDraft, Cond.initialized RX1, Cond.code yX1_meanDraft cX1_meanDraft 1 (some .long), Cond.constantLong RX1 42 (6), Cond.constantLong RX1 44 (8), Cond.methodLink RX1 36 yX1_forwardDraft, Cond.instanceMethod yX1_forwardDraft, Cond.selects RX1 yX1_forwardDraft yX1_forwardDraft, Cond.code yX1_forwardDraft cX1_forwardDraft 1 (some .long), Cond.fieldLink RX1 9 "DraftSurvey$Survey" "readings" "[J", Cond.constantLong RX1 24 (2), Cond.methodLink RX1 26 yJ9_floorDiv_f86c9, Cond.static yJ9_floorDiv_f86c9, Cond.initialized RJ9, Cond.code yJ9_floorDiv_f86c9 cJ9_floorDiv_f86c9 6 (some .long)]
def wsX3_quarterMean_r2 : List Cond := [Cond.methodLink RX1 39 yX1_midshipDraft, Cond.instanceMethod yX1_midshipDraft, Cond.selects RX1 yX1_midshipDraft yX1_midshipDraft, Cond.code yX1_midshipDraft cX1_midshipDraft 1 (some .long), Cond.methodLink RX1 32 yX1_aftDraft, Cond.instanceMethod yX1_aftDraft, Cond.selects RX1 yX1_aftDraft yX1_aftDraft, Cond.code yX1_aftDraft cX1_aftDraft 1 (some .long)]
def wsX3_quarterMean : List Cond := .code yX3_quarterMean cX3_quarterMean 3 (some .long) :: ((wsX3_quarterMean_r1 ++ wsX3_quarterMean_r2) ++ wsX30 ++ wsX10)
def wsX3_canCompute_r1 : List Cond := [Cond.fieldLink RX3 27 "DraftSurvey" "table" "LDraftSurvey$Table;", Cond.methodLink RX3 119 yX1_meanDraft, Cond.instanceMethod yX1_meanDraft, Cond.selects RX1 yX1_meanDraft yX1_meanDraft, Cond.initialized RX1, Cond.code yX1_meanDraft cX1_meanDraft 1 (some .long), Cond.constantLong RX1 42 (6), Cond.constantLong RX1 44 (8), Cond.methodLink RX1 36 yX1_forwardDraft, Cond.instanceMethod yX1_forwardDraft, Cond.selects RX1 yX1_forwardDraft yX1_forwardDraft, Cond.code yX1_forwardDraft cX1_forwardDraft 1 (some .long), Cond.fieldLink RX1 9 "DraftSurvey$Survey" "readings" "[J", Cond.constantLong RX1 24 (2), Cond.methodLink RX1 26 yJ9_floorDiv_f86c9, Cond.static yJ9_floorDiv_f86c9, Cond.initialized RJ9, Cond.code yJ9_floorDiv_f86c9 cJ9_floorDiv_f86c9 6 (some .long), Cond.methodLink RX1 39 yX1_midshipDraft, Cond.instanceMethod yX1_midshipDraft, Cond.selects RX1 yX1_midshipDraft yX1_midshipDraft, Cond.code yX1_midshipDraft cX1_midshipDraft 1 (some .long), Cond.methodLink RX1 32 yX1_aftDraft, Cond.instanceMethod yX1_aftDraft]
def wsX3_canCompute_r2 : List Cond := [Cond.selects RX1 yX1_aftDraft yX1_aftDraft, Cond.code yX1_aftDraft cX1_aftDraft 1 (some .long), Cond.methodLink RX3 191 yX2_covers, Cond.instanceMethod yX2_covers, Cond.selects RX2 yX2_covers yX2_covers, Cond.initialized RX2, Cond.code yX2_covers cX2_covers 3 (some .boolean), Cond.fieldLink RX2 15 "DraftSurvey$Table" "rows" "I", Cond.methodLink RX2 33 yX2_firstDraft, Cond.instanceMethod yX2_firstDraft, Cond.selects RX2 yX2_firstDraft yX2_firstDraft, Cond.code yX2_firstDraft cX2_firstDraft 1 (some .long), Cond.methodLink RX2 23 yX2_cell, Cond.instanceMethod yX2_cell, Cond.selects RX2 yX2_cell yX2_cell, Cond.code yX2_cell cX2_cell 3 (some .long), Cond.fieldLink RX2 9 "DraftSurvey$Table" "cells" "[J", Cond.methodLink RX2 19 yX2_lastDraft, Cond.instanceMethod yX2_lastDraft, Cond.selects RX2 yX2_lastDraft yX2_lastDraft, Cond.code yX2_lastDraft cX2_lastDraft 1 (some .long)]
def wsX3_canCompute : List Cond := .code yX3_canCompute cX3_canCompute 4 (some .boolean) :: ((wsX3_canCompute_r1 ++ wsX3_canCompute_r2) ++ wsX30 ++ wsX10 ++ wsX20)
def wsX3_firstCorrectionAt : List Cond := .code yX3_firstCorrectionAt cX3_firstCorrectionAt 7 (some .long) :: ([.fieldLink RX3 27 "DraftSurvey" "table" "LDraftSurvey$Table;", .constantLong RX3 195 (100), .fieldLink RX3 40 "DraftSurvey" "length" "J", .methodLink RX3 87 yX2_valueAt, .instanceMethod yX2_valueAt, .selects RX2 yX2_valueAt yX2_valueAt, .initialized RX2, .code yX2_valueAt cX2_valueAt 17 (some .long), .fieldLink RX2 15 "DraftSurvey$Table" "rows" "I", .constantLong RX2 36 (-9000000000000000007), .methodLink RX2 23 yX2_cell, .instanceMethod yX2_cell, .selects RX2 yX2_cell yX2_cell, .code yX2_cell cX2_cell 3 (some .long), .fieldLink RX2 9 "DraftSurvey$Table" "cells" "[J", .methodLink RX2 38 yJ9_floorDiv_f86c9, .static yJ9_floorDiv_f86c9, .initialized RJ9, .code yJ9_floorDiv_f86c9 cJ9_floorDiv_f86c9 6 (some .long), .methodLink RX3 197 yX3_quotient, .static yX3_quotient, .initialized RX3, .code yX3_quotient cX3_quotient 4 (some .long), .methodLink RX3 222 yJ9_floorDiv_f86c9] ++ wsX30 ++ wsX20)
def wsX3_firstCorrection_r1 : List Cond := [Cond.constantLong RX3 96 (-9000000000000000001), Cond.constantLong RX3 126 (-9000000000000000007), Cond.methodLink RX3 92 yX3_surveyAt, Cond.instanceMethod yX3_surveyAt, Cond.selects RX3 yX3_surveyAt yX3_surveyAt, Cond.initialized RX3, Cond.code yX3_surveyAt cX3_surveyAt 2 (some (.object "DraftSurvey$Survey")), Cond.fieldLink RX3 33 "DraftSurvey" "surveys" "[LDraftSurvey$Survey;", Cond.methodLink RX3 122 yX3_canCompute, Cond.instanceMethod yX3_canCompute, Cond.selects RX3 yX3_canCompute yX3_canCompute, Cond.code yX3_canCompute cX3_canCompute 4 (some .boolean), Cond.fieldLink RX3 27 "DraftSurvey" "table" "LDraftSurvey$Table;", Cond.methodLink RX3 119 yX1_meanDraft, Cond.instanceMethod yX1_meanDraft, Cond.selects RX1 yX1_meanDraft yX1_meanDraft, Cond.initialized RX1, Cond.code yX1_meanDraft cX1_meanDraft 1 (some .long), Cond.constantLong RX1 42 (6), Cond.constantLong RX1 44 (8), Cond.methodLink RX1 36 yX1_forwardDraft, Cond.instanceMethod yX1_forwardDraft, Cond.selects RX1 yX1_forwardDraft yX1_forwardDraft, Cond.code yX1_forwardDraft cX1_forwardDraft 1 (some .long)]
def wsX3_firstCorrection_r2 : List Cond := [Cond.fieldLink RX1 9 "DraftSurvey$Survey" "readings" "[J", Cond.constantLong RX1 24 (2), Cond.methodLink RX1 26 yJ9_floorDiv_f86c9, Cond.static yJ9_floorDiv_f86c9, Cond.initialized RJ9, Cond.code yJ9_floorDiv_f86c9 cJ9_floorDiv_f86c9 6 (some .long), Cond.methodLink RX1 39 yX1_midshipDraft, Cond.instanceMethod yX1_midshipDraft, Cond.selects RX1 yX1_midshipDraft yX1_midshipDraft, Cond.code yX1_midshipDraft cX1_midshipDraft 1 (some .long), Cond.methodLink RX1 32 yX1_aftDraft, Cond.instanceMethod yX1_aftDraft, Cond.selects RX1 yX1_aftDraft yX1_aftDraft, Cond.code yX1_aftDraft cX1_aftDraft 1 (some .long), Cond.methodLink RX3 191 yX2_covers, Cond.instanceMethod yX2_covers, Cond.selects RX2 yX2_covers yX2_covers, Cond.initialized RX2, Cond.code yX2_covers cX2_covers 3 (some .boolean), Cond.fieldLink RX2 15 "DraftSurvey$Table" "rows" "I", Cond.methodLink RX2 33 yX2_firstDraft, Cond.instanceMethod yX2_firstDraft, Cond.selects RX2 yX2_firstDraft yX2_firstDraft, Cond.code yX2_firstDraft cX2_firstDraft 1 (some .long)]
def wsX3_firstCorrection_r3 : List Cond := [Cond.methodLink RX2 23 yX2_cell, Cond.instanceMethod yX2_cell, Cond.selects RX2 yX2_cell yX2_cell, Cond.code yX2_cell cX2_cell 3 (some .long), Cond.fieldLink RX2 9 "DraftSurvey$Table" "cells" "[J", Cond.methodLink RX2 19 yX2_lastDraft, Cond.instanceMethod yX2_lastDraft, Cond.selects RX2 yX2_lastDraft yX2_lastDraft, Cond.code yX2_lastDraft cX2_lastDraft 1 (some .long), Cond.methodLink RX3 109 yX1_sternTrim, Cond.instanceMethod yX1_sternTrim, Cond.selects RX1 yX1_sternTrim yX1_sternTrim, Cond.code yX1_sternTrim cX1_sternTrim 1 (some .long), Cond.methodLink RX3 128 yX3_firstCorrectionAt, Cond.instanceMethod yX3_firstCorrectionAt, Cond.selects RX3 yX3_firstCorrectionAt yX3_firstCorrectionAt, Cond.code yX3_firstCorrectionAt cX3_firstCorrectionAt 7 (some .long), Cond.constantLong RX3 195 (100), Cond.fieldLink RX3 40 "DraftSurvey" "length" "J", Cond.methodLink RX3 87 yX2_valueAt, Cond.instanceMethod yX2_valueAt, Cond.selects RX2 yX2_valueAt yX2_valueAt, Cond.code yX2_valueAt cX2_valueAt 17 (some .long), Cond.constantLong RX2 36 (-9000000000000000007)]
def wsX3_firstCorrection_r4 : List Cond := [Cond.methodLink RX2 38 yJ9_floorDiv_f86c9, Cond.methodLink RX3 197 yX3_quotient, Cond.static yX3_quotient, Cond.code yX3_quotient cX3_quotient 4 (some .long), Cond.methodLink RX3 222 yJ9_floorDiv_f86c9]
def wsX3_firstCorrection : List Cond := .code yX3_firstCorrection cX3_firstCorrection 3 (some .long) :: ((wsX3_firstCorrection_r1 ++ (wsX3_firstCorrection_r2 ++ (wsX3_firstCorrection_r3 ++ wsX3_firstCorrection_r4))) ++ wsX30 ++ wsX10 ++ wsX20)
def wsX3_secondCorrectionAt_r1 : List Cond := [Cond.constantLong RX3 200 (500), Cond.fieldLink RX3 27 "DraftSurvey" "table" "LDraftSurvey$Table;", Cond.methodLink RX3 205 Lib.MathLoose.max_long.x, Cond.static Lib.MathLoose.max_long.x, Cond.initialized "java/lang/Math", Cond.code Lib.MathLoose.max_long.x Lib.MathLoose.max_long.code 4 (some .long), Cond.methodLink RX3 213 Lib.MathLoose.min_long.x, Cond.static Lib.MathLoose.min_long.x, Cond.code Lib.MathLoose.min_long.x Lib.MathLoose.min_long.code 4 (some .long), Cond.constantLong RX3 216 (50), Cond.constantLong RX3 218 (1000), Cond.fieldLink RX3 40 "DraftSurvey" "length" "J", Cond.methodLink RX3 202 yX2_firstDraft, Cond.instanceMethod yX2_firstDraft, Cond.selects RX2 yX2_firstDraft yX2_firstDraft, Cond.initialized RX2, Cond.code yX2_firstDraft cX2_firstDraft 1 (some .long), Cond.methodLink RX2 23 yX2_cell, Cond.instanceMethod yX2_cell, Cond.selects RX2 yX2_cell yX2_cell, Cond.code yX2_cell cX2_cell 3 (some .long), Cond.fieldLink RX2 15 "DraftSurvey$Table" "rows" "I", Cond.fieldLink RX2 9 "DraftSurvey$Table" "cells" "[J", Cond.methodLink RX3 210 yX2_lastDraft]
def wsX3_secondCorrectionAt_r2 : List Cond := [Cond.instanceMethod yX2_lastDraft, Cond.selects RX2 yX2_lastDraft yX2_lastDraft, Cond.code yX2_lastDraft cX2_lastDraft 1 (some .long), Cond.methodLink RX3 87 yX2_valueAt, Cond.instanceMethod yX2_valueAt, Cond.selects RX2 yX2_valueAt yX2_valueAt, Cond.code yX2_valueAt cX2_valueAt 17 (some .long), Cond.constantLong RX2 36 (-9000000000000000007), Cond.methodLink RX2 38 yJ9_floorDiv_f86c9, Cond.static yJ9_floorDiv_f86c9, Cond.initialized RJ9, Cond.code yJ9_floorDiv_f86c9 cJ9_floorDiv_f86c9 6 (some .long), Cond.methodLink RX3 197 yX3_quotient, Cond.static yX3_quotient, Cond.initialized RX3, Cond.code yX3_quotient cX3_quotient 4 (some .long), Cond.methodLink RX3 222 yJ9_floorDiv_f86c9]
def wsX3_secondCorrectionAt : List Cond := .code yX3_secondCorrectionAt cX3_secondCorrectionAt 11 (some .long) :: ((wsX3_secondCorrectionAt_r1 ++ wsX3_secondCorrectionAt_r2) ++ wsX30 ++ wsX20)
def wsX3_secondCorrection_r1 : List Cond := [Cond.constantLong RX3 96 (-9000000000000000001), Cond.constantLong RX3 126 (-9000000000000000007), Cond.methodLink RX3 92 yX3_surveyAt, Cond.instanceMethod yX3_surveyAt, Cond.selects RX3 yX3_surveyAt yX3_surveyAt, Cond.initialized RX3, Cond.code yX3_surveyAt cX3_surveyAt 2 (some (.object "DraftSurvey$Survey")), Cond.fieldLink RX3 33 "DraftSurvey" "surveys" "[LDraftSurvey$Survey;", Cond.methodLink RX3 122 yX3_canCompute, Cond.instanceMethod yX3_canCompute, Cond.selects RX3 yX3_canCompute yX3_canCompute, Cond.code yX3_canCompute cX3_canCompute 4 (some .boolean), Cond.fieldLink RX3 27 "DraftSurvey" "table" "LDraftSurvey$Table;", Cond.methodLink RX3 119 yX1_meanDraft, Cond.instanceMethod yX1_meanDraft, Cond.selects RX1 yX1_meanDraft yX1_meanDraft, Cond.initialized RX1, Cond.code yX1_meanDraft cX1_meanDraft 1 (some .long), Cond.constantLong RX1 42 (6), Cond.constantLong RX1 44 (8), Cond.methodLink RX1 36 yX1_forwardDraft, Cond.instanceMethod yX1_forwardDraft, Cond.selects RX1 yX1_forwardDraft yX1_forwardDraft, Cond.code yX1_forwardDraft cX1_forwardDraft 1 (some .long)]
def wsX3_secondCorrection_r2 : List Cond := [Cond.fieldLink RX1 9 "DraftSurvey$Survey" "readings" "[J", Cond.constantLong RX1 24 (2), Cond.methodLink RX1 26 yJ9_floorDiv_f86c9, Cond.static yJ9_floorDiv_f86c9, Cond.initialized RJ9, Cond.code yJ9_floorDiv_f86c9 cJ9_floorDiv_f86c9 6 (some .long), Cond.methodLink RX1 39 yX1_midshipDraft, Cond.instanceMethod yX1_midshipDraft, Cond.selects RX1 yX1_midshipDraft yX1_midshipDraft, Cond.code yX1_midshipDraft cX1_midshipDraft 1 (some .long), Cond.methodLink RX1 32 yX1_aftDraft, Cond.instanceMethod yX1_aftDraft, Cond.selects RX1 yX1_aftDraft yX1_aftDraft, Cond.code yX1_aftDraft cX1_aftDraft 1 (some .long), Cond.methodLink RX3 191 yX2_covers, Cond.instanceMethod yX2_covers, Cond.selects RX2 yX2_covers yX2_covers, Cond.initialized RX2, Cond.code yX2_covers cX2_covers 3 (some .boolean), Cond.fieldLink RX2 15 "DraftSurvey$Table" "rows" "I", Cond.methodLink RX2 33 yX2_firstDraft, Cond.instanceMethod yX2_firstDraft, Cond.selects RX2 yX2_firstDraft yX2_firstDraft, Cond.code yX2_firstDraft cX2_firstDraft 1 (some .long)]
def wsX3_secondCorrection_r3 : List Cond := [Cond.methodLink RX2 23 yX2_cell, Cond.instanceMethod yX2_cell, Cond.selects RX2 yX2_cell yX2_cell, Cond.code yX2_cell cX2_cell 3 (some .long), Cond.fieldLink RX2 9 "DraftSurvey$Table" "cells" "[J", Cond.methodLink RX2 19 yX2_lastDraft, Cond.instanceMethod yX2_lastDraft, Cond.selects RX2 yX2_lastDraft yX2_lastDraft, Cond.code yX2_lastDraft cX2_lastDraft 1 (some .long), Cond.methodLink RX3 109 yX1_sternTrim, Cond.instanceMethod yX1_sternTrim, Cond.selects RX1 yX1_sternTrim yX1_sternTrim, Cond.code yX1_sternTrim cX1_sternTrim 1 (some .long), Cond.methodLink RX3 132 yX3_secondCorrectionAt, Cond.instanceMethod yX3_secondCorrectionAt, Cond.selects RX3 yX3_secondCorrectionAt yX3_secondCorrectionAt, Cond.code yX3_secondCorrectionAt cX3_secondCorrectionAt 11 (some .long), Cond.constantLong RX3 200 (500), Cond.methodLink RX3 205 Lib.MathLoose.max_long.x, Cond.static Lib.MathLoose.max_long.x, Cond.initialized "java/lang/Math", Cond.code Lib.MathLoose.max_long.x Lib.MathLoose.max_long.code 4 (some .long), Cond.methodLink RX3 213 Lib.MathLoose.min_long.x, Cond.static Lib.MathLoose.min_long.x]
def wsX3_secondCorrection_r4 : List Cond := [Cond.code Lib.MathLoose.min_long.x Lib.MathLoose.min_long.code 4 (some .long), Cond.constantLong RX3 216 (50), Cond.constantLong RX3 218 (1000), Cond.fieldLink RX3 40 "DraftSurvey" "length" "J", Cond.methodLink RX3 202 yX2_firstDraft, Cond.methodLink RX3 210 yX2_lastDraft, Cond.methodLink RX3 87 yX2_valueAt, Cond.instanceMethod yX2_valueAt, Cond.selects RX2 yX2_valueAt yX2_valueAt, Cond.code yX2_valueAt cX2_valueAt 17 (some .long), Cond.constantLong RX2 36 (-9000000000000000007), Cond.methodLink RX2 38 yJ9_floorDiv_f86c9, Cond.methodLink RX3 197 yX3_quotient, Cond.static yX3_quotient, Cond.code yX3_quotient cX3_quotient 4 (some .long), Cond.methodLink RX3 222 yJ9_floorDiv_f86c9]
def wsX3_secondCorrection : List Cond := .code yX3_secondCorrection cX3_secondCorrection 3 (some .long) :: ((wsX3_secondCorrection_r1 ++ (wsX3_secondCorrection_r2 ++ (wsX3_secondCorrection_r3 ++ wsX3_secondCorrection_r4))) ++ wsX30 ++ wsX10 ++ wsX20)
def wsX3_displacementOf_r1 : List Cond := [Cond.fieldLink RX3 27 "DraftSurvey" "table" "LDraftSurvey$Table;", Cond.constantLong RX3 220 (1025), Cond.methodLink RX3 119 yX1_meanDraft, Cond.instanceMethod yX1_meanDraft, Cond.selects RX1 yX1_meanDraft yX1_meanDraft, Cond.initialized RX1, Cond.code yX1_meanDraft cX1_meanDraft 1 (some .long), Cond.constantLong RX1 42 (6), Cond.constantLong RX1 44 (8), Cond.methodLink RX1 36 yX1_forwardDraft, Cond.instanceMethod yX1_forwardDraft, Cond.selects RX1 yX1_forwardDraft yX1_forwardDraft, Cond.code yX1_forwardDraft cX1_forwardDraft 1 (some .long), Cond.fieldLink RX1 9 "DraftSurvey$Survey" "readings" "[J", Cond.constantLong RX1 24 (2), Cond.methodLink RX1 26 yJ9_floorDiv_f86c9, Cond.static yJ9_floorDiv_f86c9, Cond.initialized RJ9, Cond.code yJ9_floorDiv_f86c9 cJ9_floorDiv_f86c9 6 (some .long), Cond.methodLink RX1 39 yX1_midshipDraft, Cond.instanceMethod yX1_midshipDraft, Cond.selects RX1 yX1_midshipDraft yX1_midshipDraft, Cond.code yX1_midshipDraft cX1_midshipDraft 1 (some .long), Cond.methodLink RX1 32 yX1_aftDraft]
def wsX3_displacementOf_r2 : List Cond := [Cond.instanceMethod yX1_aftDraft, Cond.selects RX1 yX1_aftDraft yX1_aftDraft, Cond.code yX1_aftDraft cX1_aftDraft 1 (some .long), Cond.methodLink RX3 109 yX1_sternTrim, Cond.instanceMethod yX1_sternTrim, Cond.selects RX1 yX1_sternTrim yX1_sternTrim, Cond.code yX1_sternTrim cX1_sternTrim 1 (some .long), Cond.methodLink RX3 87 yX2_valueAt, Cond.instanceMethod yX2_valueAt, Cond.selects RX2 yX2_valueAt yX2_valueAt, Cond.initialized RX2, Cond.code yX2_valueAt cX2_valueAt 17 (some .long), Cond.fieldLink RX2 15 "DraftSurvey$Table" "rows" "I", Cond.constantLong RX2 36 (-9000000000000000007), Cond.methodLink RX2 23 yX2_cell, Cond.instanceMethod yX2_cell, Cond.selects RX2 yX2_cell yX2_cell, Cond.code yX2_cell cX2_cell 3 (some .long), Cond.fieldLink RX2 9 "DraftSurvey$Table" "cells" "[J", Cond.methodLink RX2 38 yJ9_floorDiv_f86c9, Cond.methodLink RX3 128 yX3_firstCorrectionAt, Cond.instanceMethod yX3_firstCorrectionAt, Cond.selects RX3 yX3_firstCorrectionAt yX3_firstCorrectionAt, Cond.initialized RX3]
end
section
def wsX3_displacementOf_r3 : List Cond := [Cond.code yX3_firstCorrectionAt cX3_firstCorrectionAt 7 (some .long), Cond.constantLong RX3 195 (100), Cond.fieldLink RX3 40 "DraftSurvey" "length" "J", Cond.methodLink RX3 197 yX3_quotient, Cond.static yX3_quotient, Cond.code yX3_quotient cX3_quotient 4 (some .long), Cond.methodLink RX3 222 yJ9_floorDiv_f86c9, Cond.methodLink RX3 132 yX3_secondCorrectionAt, Cond.instanceMethod yX3_secondCorrectionAt, Cond.selects RX3 yX3_secondCorrectionAt yX3_secondCorrectionAt, Cond.code yX3_secondCorrectionAt cX3_secondCorrectionAt 11 (some .long), Cond.constantLong RX3 200 (500), Cond.methodLink RX3 205 Lib.MathLoose.max_long.x, Cond.static Lib.MathLoose.max_long.x, Cond.initialized "java/lang/Math", Cond.code Lib.MathLoose.max_long.x Lib.MathLoose.max_long.code 4 (some .long), Cond.methodLink RX3 213 Lib.MathLoose.min_long.x, Cond.static Lib.MathLoose.min_long.x, Cond.code Lib.MathLoose.min_long.x Lib.MathLoose.min_long.code 4 (some .long), Cond.constantLong RX3 216 (50), Cond.constantLong RX3 218 (1000), Cond.methodLink RX3 202 yX2_firstDraft, Cond.instanceMethod yX2_firstDraft, Cond.selects RX2 yX2_firstDraft yX2_firstDraft]
def wsX3_displacementOf_r4 : List Cond := [Cond.code yX2_firstDraft cX2_firstDraft 1 (some .long), Cond.methodLink RX3 210 yX2_lastDraft, Cond.instanceMethod yX2_lastDraft, Cond.selects RX2 yX2_lastDraft yX2_lastDraft, Cond.code yX2_lastDraft cX2_lastDraft 1 (some .long)]
def wsX3_displacementOf : List Cond := .code yX3_displacementOf cX3_displacementOf 10 (some .long) :: ((wsX3_displacementOf_r1 ++ (wsX3_displacementOf_r2 ++ (wsX3_displacementOf_r3 ++ wsX3_displacementOf_r4))) ++ wsX30 ++ wsX10 ++ wsX20)
def wsX3_displacement_r1 : List Cond := [Cond.constantLong RX3 96 (-9000000000000000001), Cond.constantLong RX3 47 (-9000000000000000003), Cond.constantLong RX3 126 (-9000000000000000007), Cond.methodLink RX3 92 yX3_surveyAt, Cond.instanceMethod yX3_surveyAt, Cond.selects RX3 yX3_surveyAt yX3_surveyAt, Cond.initialized RX3, Cond.code yX3_surveyAt cX3_surveyAt 2 (some (.object "DraftSurvey$Survey")), Cond.fieldLink RX3 33 "DraftSurvey" "surveys" "[LDraftSurvey$Survey;", Cond.methodLink RX3 122 yX3_canCompute, Cond.instanceMethod yX3_canCompute, Cond.selects RX3 yX3_canCompute yX3_canCompute, Cond.code yX3_canCompute cX3_canCompute 4 (some .boolean), Cond.fieldLink RX3 27 "DraftSurvey" "table" "LDraftSurvey$Table;", Cond.methodLink RX3 119 yX1_meanDraft, Cond.instanceMethod yX1_meanDraft, Cond.selects RX1 yX1_meanDraft yX1_meanDraft, Cond.initialized RX1, Cond.code yX1_meanDraft cX1_meanDraft 1 (some .long), Cond.constantLong RX1 42 (6), Cond.constantLong RX1 44 (8), Cond.methodLink RX1 36 yX1_forwardDraft, Cond.instanceMethod yX1_forwardDraft, Cond.selects RX1 yX1_forwardDraft yX1_forwardDraft]
def wsX3_displacement_r2 : List Cond := [Cond.code yX1_forwardDraft cX1_forwardDraft 1 (some .long), Cond.fieldLink RX1 9 "DraftSurvey$Survey" "readings" "[J", Cond.constantLong RX1 24 (2), Cond.methodLink RX1 26 yJ9_floorDiv_f86c9, Cond.static yJ9_floorDiv_f86c9, Cond.initialized RJ9, Cond.code yJ9_floorDiv_f86c9 cJ9_floorDiv_f86c9 6 (some .long), Cond.methodLink RX1 39 yX1_midshipDraft, Cond.instanceMethod yX1_midshipDraft, Cond.selects RX1 yX1_midshipDraft yX1_midshipDraft, Cond.code yX1_midshipDraft cX1_midshipDraft 1 (some .long), Cond.methodLink RX1 32 yX1_aftDraft, Cond.instanceMethod yX1_aftDraft, Cond.selects RX1 yX1_aftDraft yX1_aftDraft, Cond.code yX1_aftDraft cX1_aftDraft 1 (some .long), Cond.methodLink RX3 191 yX2_covers, Cond.instanceMethod yX2_covers, Cond.selects RX2 yX2_covers yX2_covers, Cond.initialized RX2, Cond.code yX2_covers cX2_covers 3 (some .boolean), Cond.fieldLink RX2 15 "DraftSurvey$Table" "rows" "I", Cond.methodLink RX2 33 yX2_firstDraft, Cond.instanceMethod yX2_firstDraft, Cond.selects RX2 yX2_firstDraft yX2_firstDraft]
def wsX3_displacement_r3 : List Cond := [Cond.code yX2_firstDraft cX2_firstDraft 1 (some .long), Cond.methodLink RX2 23 yX2_cell, Cond.instanceMethod yX2_cell, Cond.selects RX2 yX2_cell yX2_cell, Cond.code yX2_cell cX2_cell 3 (some .long), Cond.fieldLink RX2 9 "DraftSurvey$Table" "cells" "[J", Cond.methodLink RX2 19 yX2_lastDraft, Cond.instanceMethod yX2_lastDraft, Cond.selects RX2 yX2_lastDraft yX2_lastDraft, Cond.code yX2_lastDraft cX2_lastDraft 1 (some .long), Cond.methodLink RX3 135 yX3_displacementOf, Cond.instanceMethod yX3_displacementOf, Cond.selects RX3 yX3_displacementOf yX3_displacementOf, Cond.code yX3_displacementOf cX3_displacementOf 10 (some .long), Cond.constantLong RX3 220 (1025), Cond.methodLink RX3 109 yX1_sternTrim, Cond.instanceMethod yX1_sternTrim, Cond.selects RX1 yX1_sternTrim yX1_sternTrim, Cond.code yX1_sternTrim cX1_sternTrim 1 (some .long), Cond.methodLink RX3 87 yX2_valueAt, Cond.instanceMethod yX2_valueAt, Cond.selects RX2 yX2_valueAt yX2_valueAt, Cond.code yX2_valueAt cX2_valueAt 17 (some .long), Cond.constantLong RX2 36 (-9000000000000000007)]
def wsX3_displacement_r4 : List Cond := [Cond.methodLink RX2 38 yJ9_floorDiv_f86c9, Cond.methodLink RX3 128 yX3_firstCorrectionAt, Cond.instanceMethod yX3_firstCorrectionAt, Cond.selects RX3 yX3_firstCorrectionAt yX3_firstCorrectionAt, Cond.code yX3_firstCorrectionAt cX3_firstCorrectionAt 7 (some .long), Cond.constantLong RX3 195 (100), Cond.fieldLink RX3 40 "DraftSurvey" "length" "J", Cond.methodLink RX3 197 yX3_quotient, Cond.static yX3_quotient, Cond.code yX3_quotient cX3_quotient 4 (some .long), Cond.methodLink RX3 222 yJ9_floorDiv_f86c9, Cond.methodLink RX3 132 yX3_secondCorrectionAt, Cond.instanceMethod yX3_secondCorrectionAt, Cond.selects RX3 yX3_secondCorrectionAt yX3_secondCorrectionAt, Cond.code yX3_secondCorrectionAt cX3_secondCorrectionAt 11 (some .long), Cond.constantLong RX3 200 (500), Cond.methodLink RX3 205 Lib.MathLoose.max_long.x, Cond.static Lib.MathLoose.max_long.x, Cond.initialized "java/lang/Math", Cond.code Lib.MathLoose.max_long.x Lib.MathLoose.max_long.code 4 (some .long), Cond.methodLink RX3 213 Lib.MathLoose.min_long.x, Cond.static Lib.MathLoose.min_long.x, Cond.code Lib.MathLoose.min_long.x Lib.MathLoose.min_long.code 4 (some .long), Cond.constantLong RX3 216 (50)]
def wsX3_displacement_r5 : List Cond := [Cond.constantLong RX3 218 (1000), Cond.methodLink RX3 202 yX2_firstDraft, Cond.methodLink RX3 210 yX2_lastDraft]
def wsX3_displacement : List Cond := .code yX3_displacement cX3_displacement 4 (some .long) :: ((wsX3_displacement_r1 ++ (wsX3_displacement_r2 ++ (wsX3_displacement_r3 ++ (wsX3_displacement_r4 ++ wsX3_displacement_r5)))) ++ wsX30 ++ wsX10 ++ wsX20)
def wsX3_netWeightOf_r1 : List Cond := [Cond.methodLink RX3 135 yX3_displacementOf, Cond.instanceMethod yX3_displacementOf, Cond.selects RX3 yX3_displacementOf yX3_displacementOf, Cond.initialized RX3, Cond.code yX3_displacementOf cX3_displacementOf 10 (some .long), Cond.fieldLink RX3 27 "DraftSurvey" "table" "LDraftSurvey$Table;", Cond.constantLong RX3 220 (1025), Cond.methodLink RX3 119 yX1_meanDraft, Cond.instanceMethod yX1_meanDraft, Cond.selects RX1 yX1_meanDraft yX1_meanDraft, Cond.initialized RX1, Cond.code yX1_meanDraft cX1_meanDraft 1 (some .long), Cond.constantLong RX1 42 (6), Cond.constantLong RX1 44 (8), Cond.methodLink RX1 36 yX1_forwardDraft, Cond.instanceMethod yX1_forwardDraft, Cond.selects RX1 yX1_forwardDraft yX1_forwardDraft, Cond.code yX1_forwardDraft cX1_forwardDraft 1 (some .long), Cond.fieldLink RX1 9 "DraftSurvey$Survey" "readings" "[J", Cond.constantLong RX1 24 (2), Cond.methodLink RX1 26 yJ9_floorDiv_f86c9, Cond.static yJ9_floorDiv_f86c9, Cond.initialized RJ9, Cond.code yJ9_floorDiv_f86c9 cJ9_floorDiv_f86c9 6 (some .long)]
def wsX3_netWeightOf_r2 : List Cond := [Cond.methodLink RX1 39 yX1_midshipDraft, Cond.instanceMethod yX1_midshipDraft, Cond.selects RX1 yX1_midshipDraft yX1_midshipDraft, Cond.code yX1_midshipDraft cX1_midshipDraft 1 (some .long), Cond.methodLink RX1 32 yX1_aftDraft, Cond.instanceMethod yX1_aftDraft, Cond.selects RX1 yX1_aftDraft yX1_aftDraft, Cond.code yX1_aftDraft cX1_aftDraft 1 (some .long), Cond.methodLink RX3 109 yX1_sternTrim, Cond.instanceMethod yX1_sternTrim, Cond.selects RX1 yX1_sternTrim yX1_sternTrim, Cond.code yX1_sternTrim cX1_sternTrim 1 (some .long), Cond.methodLink RX3 87 yX2_valueAt, Cond.instanceMethod yX2_valueAt, Cond.selects RX2 yX2_valueAt yX2_valueAt, Cond.initialized RX2, Cond.code yX2_valueAt cX2_valueAt 17 (some .long), Cond.fieldLink RX2 15 "DraftSurvey$Table" "rows" "I", Cond.constantLong RX2 36 (-9000000000000000007), Cond.methodLink RX2 23 yX2_cell, Cond.instanceMethod yX2_cell, Cond.selects RX2 yX2_cell yX2_cell, Cond.code yX2_cell cX2_cell 3 (some .long), Cond.fieldLink RX2 9 "DraftSurvey$Table" "cells" "[J"]
def wsX3_netWeightOf_r3 : List Cond := [Cond.methodLink RX2 38 yJ9_floorDiv_f86c9, Cond.methodLink RX3 128 yX3_firstCorrectionAt, Cond.instanceMethod yX3_firstCorrectionAt, Cond.selects RX3 yX3_firstCorrectionAt yX3_firstCorrectionAt, Cond.code yX3_firstCorrectionAt cX3_firstCorrectionAt 7 (some .long), Cond.constantLong RX3 195 (100), Cond.fieldLink RX3 40 "DraftSurvey" "length" "J", Cond.methodLink RX3 197 yX3_quotient, Cond.static yX3_quotient, Cond.code yX3_quotient cX3_quotient 4 (some .long), Cond.methodLink RX3 222 yJ9_floorDiv_f86c9, Cond.methodLink RX3 132 yX3_secondCorrectionAt, Cond.instanceMethod yX3_secondCorrectionAt, Cond.selects RX3 yX3_secondCorrectionAt yX3_secondCorrectionAt, Cond.code yX3_secondCorrectionAt cX3_secondCorrectionAt 11 (some .long), Cond.constantLong RX3 200 (500), Cond.methodLink RX3 205 Lib.MathLoose.max_long.x, Cond.static Lib.MathLoose.max_long.x, Cond.initialized "java/lang/Math", Cond.code Lib.MathLoose.max_long.x Lib.MathLoose.max_long.code 4 (some .long), Cond.methodLink RX3 213 Lib.MathLoose.min_long.x, Cond.static Lib.MathLoose.min_long.x, Cond.code Lib.MathLoose.min_long.x Lib.MathLoose.min_long.code 4 (some .long), Cond.constantLong RX3 216 (50)]
def wsX3_netWeightOf_r4 : List Cond := [Cond.constantLong RX3 218 (1000), Cond.methodLink RX3 202 yX2_firstDraft, Cond.instanceMethod yX2_firstDraft, Cond.selects RX2 yX2_firstDraft yX2_firstDraft, Cond.code yX2_firstDraft cX2_firstDraft 1 (some .long), Cond.methodLink RX3 210 yX2_lastDraft, Cond.instanceMethod yX2_lastDraft, Cond.selects RX2 yX2_lastDraft yX2_lastDraft, Cond.code yX2_lastDraft cX2_lastDraft 1 (some .long), Cond.methodLink RX3 225 yX1_deducted, Cond.instanceMethod yX1_deducted, Cond.selects RX1 yX1_deducted yX1_deducted, Cond.code yX1_deducted cX1_deducted 4 (some .long), Cond.fieldLink RX1 15 "DraftSurvey$Survey" "deductions" "[J"]
def wsX3_netWeightOf : List Cond := .code yX3_netWeightOf cX3_netWeightOf 4 (some .long) :: ((wsX3_netWeightOf_r1 ++ (wsX3_netWeightOf_r2 ++ (wsX3_netWeightOf_r3 ++ wsX3_netWeightOf_r4))) ++ wsX30 ++ wsX10 ++ wsX20)
def wsX3_netWeight_r1 : List Cond := [Cond.constantLong RX3 96 (-9000000000000000001), Cond.constantLong RX3 126 (-9000000000000000007), Cond.methodLink RX3 92 yX3_surveyAt, Cond.instanceMethod yX3_surveyAt, Cond.selects RX3 yX3_surveyAt yX3_surveyAt, Cond.initialized RX3, Cond.code yX3_surveyAt cX3_surveyAt 2 (some (.object "DraftSurvey$Survey")), Cond.fieldLink RX3 33 "DraftSurvey" "surveys" "[LDraftSurvey$Survey;", Cond.methodLink RX3 122 yX3_canCompute, Cond.instanceMethod yX3_canCompute, Cond.selects RX3 yX3_canCompute yX3_canCompute, Cond.code yX3_canCompute cX3_canCompute 4 (some .boolean), Cond.fieldLink RX3 27 "DraftSurvey" "table" "LDraftSurvey$Table;", Cond.methodLink RX3 119 yX1_meanDraft, Cond.instanceMethod yX1_meanDraft, Cond.selects RX1 yX1_meanDraft yX1_meanDraft, Cond.initialized RX1, Cond.code yX1_meanDraft cX1_meanDraft 1 (some .long), Cond.constantLong RX1 42 (6), Cond.constantLong RX1 44 (8), Cond.methodLink RX1 36 yX1_forwardDraft, Cond.instanceMethod yX1_forwardDraft, Cond.selects RX1 yX1_forwardDraft yX1_forwardDraft, Cond.code yX1_forwardDraft cX1_forwardDraft 1 (some .long)]
def wsX3_netWeight_r2 : List Cond := [Cond.fieldLink RX1 9 "DraftSurvey$Survey" "readings" "[J", Cond.constantLong RX1 24 (2), Cond.methodLink RX1 26 yJ9_floorDiv_f86c9, Cond.static yJ9_floorDiv_f86c9, Cond.initialized RJ9, Cond.code yJ9_floorDiv_f86c9 cJ9_floorDiv_f86c9 6 (some .long), Cond.methodLink RX1 39 yX1_midshipDraft, Cond.instanceMethod yX1_midshipDraft, Cond.selects RX1 yX1_midshipDraft yX1_midshipDraft, Cond.code yX1_midshipDraft cX1_midshipDraft 1 (some .long), Cond.methodLink RX1 32 yX1_aftDraft, Cond.instanceMethod yX1_aftDraft, Cond.selects RX1 yX1_aftDraft yX1_aftDraft, Cond.code yX1_aftDraft cX1_aftDraft 1 (some .long), Cond.methodLink RX3 191 yX2_covers, Cond.instanceMethod yX2_covers, Cond.selects RX2 yX2_covers yX2_covers, Cond.initialized RX2, Cond.code yX2_covers cX2_covers 3 (some .boolean), Cond.fieldLink RX2 15 "DraftSurvey$Table" "rows" "I", Cond.methodLink RX2 33 yX2_firstDraft, Cond.instanceMethod yX2_firstDraft, Cond.selects RX2 yX2_firstDraft yX2_firstDraft, Cond.code yX2_firstDraft cX2_firstDraft 1 (some .long)]
def wsX3_netWeight_r3 : List Cond := [Cond.methodLink RX2 23 yX2_cell, Cond.instanceMethod yX2_cell, Cond.selects RX2 yX2_cell yX2_cell, Cond.code yX2_cell cX2_cell 3 (some .long), Cond.fieldLink RX2 9 "DraftSurvey$Table" "cells" "[J", Cond.methodLink RX2 19 yX2_lastDraft, Cond.instanceMethod yX2_lastDraft, Cond.selects RX2 yX2_lastDraft yX2_lastDraft, Cond.code yX2_lastDraft cX2_lastDraft 1 (some .long), Cond.methodLink RX3 139 yX3_netWeightOf, Cond.instanceMethod yX3_netWeightOf, Cond.selects RX3 yX3_netWeightOf yX3_netWeightOf, Cond.code yX3_netWeightOf cX3_netWeightOf 4 (some .long), Cond.methodLink RX3 135 yX3_displacementOf, Cond.instanceMethod yX3_displacementOf, Cond.selects RX3 yX3_displacementOf yX3_displacementOf, Cond.code yX3_displacementOf cX3_displacementOf 10 (some .long), Cond.constantLong RX3 220 (1025), Cond.methodLink RX3 109 yX1_sternTrim, Cond.instanceMethod yX1_sternTrim, Cond.selects RX1 yX1_sternTrim yX1_sternTrim, Cond.code yX1_sternTrim cX1_sternTrim 1 (some .long), Cond.methodLink RX3 87 yX2_valueAt, Cond.instanceMethod yX2_valueAt]
def wsX3_netWeight_r4 : List Cond := [Cond.selects RX2 yX2_valueAt yX2_valueAt, Cond.code yX2_valueAt cX2_valueAt 17 (some .long), Cond.constantLong RX2 36 (-9000000000000000007), Cond.methodLink RX2 38 yJ9_floorDiv_f86c9, Cond.methodLink RX3 128 yX3_firstCorrectionAt, Cond.instanceMethod yX3_firstCorrectionAt, Cond.selects RX3 yX3_firstCorrectionAt yX3_firstCorrectionAt, Cond.code yX3_firstCorrectionAt cX3_firstCorrectionAt 7 (some .long), Cond.constantLong RX3 195 (100), Cond.fieldLink RX3 40 "DraftSurvey" "length" "J", Cond.methodLink RX3 197 yX3_quotient, Cond.static yX3_quotient, Cond.code yX3_quotient cX3_quotient 4 (some .long), Cond.methodLink RX3 222 yJ9_floorDiv_f86c9, Cond.methodLink RX3 132 yX3_secondCorrectionAt, Cond.instanceMethod yX3_secondCorrectionAt, Cond.selects RX3 yX3_secondCorrectionAt yX3_secondCorrectionAt, Cond.code yX3_secondCorrectionAt cX3_secondCorrectionAt 11 (some .long), Cond.constantLong RX3 200 (500), Cond.methodLink RX3 205 Lib.MathLoose.max_long.x, Cond.static Lib.MathLoose.max_long.x, Cond.initialized "java/lang/Math", Cond.code Lib.MathLoose.max_long.x Lib.MathLoose.max_long.code 4 (some .long), Cond.methodLink RX3 213 Lib.MathLoose.min_long.x]
def wsX3_netWeight_r5 : List Cond := [Cond.static Lib.MathLoose.min_long.x, Cond.code Lib.MathLoose.min_long.x Lib.MathLoose.min_long.code 4 (some .long), Cond.constantLong RX3 216 (50), Cond.constantLong RX3 218 (1000), Cond.methodLink RX3 202 yX2_firstDraft, Cond.methodLink RX3 210 yX2_lastDraft, Cond.methodLink RX3 225 yX1_deducted, Cond.instanceMethod yX1_deducted, Cond.selects RX1 yX1_deducted yX1_deducted, Cond.code yX1_deducted cX1_deducted 4 (some .long), Cond.fieldLink RX1 15 "DraftSurvey$Survey" "deductions" "[J"]
def wsX3_netWeight : List Cond := .code yX3_netWeight cX3_netWeight 3 (some .long) :: ((wsX3_netWeight_r1 ++ (wsX3_netWeight_r2 ++ (wsX3_netWeight_r3 ++ (wsX3_netWeight_r4 ++ wsX3_netWeight_r5)))) ++ wsX30 ++ wsX10 ++ wsX20)
def wsX3_cargo_r1 : List Cond := [Cond.constantLong RX3 96 (-9000000000000000001), Cond.constantLong RX3 126 (-9000000000000000007), Cond.methodLink RX3 92 yX3_surveyAt, Cond.instanceMethod yX3_surveyAt, Cond.selects RX3 yX3_surveyAt yX3_surveyAt, Cond.initialized RX3, Cond.code yX3_surveyAt cX3_surveyAt 2 (some (.object "DraftSurvey$Survey")), Cond.fieldLink RX3 33 "DraftSurvey" "surveys" "[LDraftSurvey$Survey;", Cond.methodLink RX3 122 yX3_canCompute, Cond.instanceMethod yX3_canCompute, Cond.selects RX3 yX3_canCompute yX3_canCompute, Cond.code yX3_canCompute cX3_canCompute 4 (some .boolean), Cond.fieldLink RX3 27 "DraftSurvey" "table" "LDraftSurvey$Table;", Cond.methodLink RX3 119 yX1_meanDraft, Cond.instanceMethod yX1_meanDraft, Cond.selects RX1 yX1_meanDraft yX1_meanDraft, Cond.initialized RX1, Cond.code yX1_meanDraft cX1_meanDraft 1 (some .long), Cond.constantLong RX1 42 (6), Cond.constantLong RX1 44 (8), Cond.methodLink RX1 36 yX1_forwardDraft, Cond.instanceMethod yX1_forwardDraft, Cond.selects RX1 yX1_forwardDraft yX1_forwardDraft, Cond.code yX1_forwardDraft cX1_forwardDraft 1 (some .long)]
def wsX3_cargo_r2 : List Cond := [Cond.fieldLink RX1 9 "DraftSurvey$Survey" "readings" "[J", Cond.constantLong RX1 24 (2), Cond.methodLink RX1 26 yJ9_floorDiv_f86c9, Cond.static yJ9_floorDiv_f86c9, Cond.initialized RJ9, Cond.code yJ9_floorDiv_f86c9 cJ9_floorDiv_f86c9 6 (some .long), Cond.methodLink RX1 39 yX1_midshipDraft, Cond.instanceMethod yX1_midshipDraft, Cond.selects RX1 yX1_midshipDraft yX1_midshipDraft, Cond.code yX1_midshipDraft cX1_midshipDraft 1 (some .long), Cond.methodLink RX1 32 yX1_aftDraft, Cond.instanceMethod yX1_aftDraft, Cond.selects RX1 yX1_aftDraft yX1_aftDraft, Cond.code yX1_aftDraft cX1_aftDraft 1 (some .long), Cond.methodLink RX3 191 yX2_covers, Cond.instanceMethod yX2_covers, Cond.selects RX2 yX2_covers yX2_covers, Cond.initialized RX2, Cond.code yX2_covers cX2_covers 3 (some .boolean), Cond.fieldLink RX2 15 "DraftSurvey$Table" "rows" "I", Cond.methodLink RX2 33 yX2_firstDraft, Cond.instanceMethod yX2_firstDraft, Cond.selects RX2 yX2_firstDraft yX2_firstDraft, Cond.code yX2_firstDraft cX2_firstDraft 1 (some .long)]
def wsX3_cargo_r3 : List Cond := [Cond.methodLink RX2 23 yX2_cell, Cond.instanceMethod yX2_cell, Cond.selects RX2 yX2_cell yX2_cell, Cond.code yX2_cell cX2_cell 3 (some .long), Cond.fieldLink RX2 9 "DraftSurvey$Table" "cells" "[J", Cond.methodLink RX2 19 yX2_lastDraft, Cond.instanceMethod yX2_lastDraft, Cond.selects RX2 yX2_lastDraft yX2_lastDraft, Cond.code yX2_lastDraft cX2_lastDraft 1 (some .long), Cond.methodLink RX3 139 yX3_netWeightOf, Cond.instanceMethod yX3_netWeightOf, Cond.selects RX3 yX3_netWeightOf yX3_netWeightOf, Cond.code yX3_netWeightOf cX3_netWeightOf 4 (some .long), Cond.methodLink RX3 135 yX3_displacementOf, Cond.instanceMethod yX3_displacementOf, Cond.selects RX3 yX3_displacementOf yX3_displacementOf, Cond.code yX3_displacementOf cX3_displacementOf 10 (some .long), Cond.constantLong RX3 220 (1025), Cond.methodLink RX3 109 yX1_sternTrim, Cond.instanceMethod yX1_sternTrim, Cond.selects RX1 yX1_sternTrim yX1_sternTrim, Cond.code yX1_sternTrim cX1_sternTrim 1 (some .long), Cond.methodLink RX3 87 yX2_valueAt, Cond.instanceMethod yX2_valueAt]
def wsX3_cargo_r4 : List Cond := [Cond.selects RX2 yX2_valueAt yX2_valueAt, Cond.code yX2_valueAt cX2_valueAt 17 (some .long), Cond.constantLong RX2 36 (-9000000000000000007), Cond.methodLink RX2 38 yJ9_floorDiv_f86c9, Cond.methodLink RX3 128 yX3_firstCorrectionAt, Cond.instanceMethod yX3_firstCorrectionAt, Cond.selects RX3 yX3_firstCorrectionAt yX3_firstCorrectionAt, Cond.code yX3_firstCorrectionAt cX3_firstCorrectionAt 7 (some .long), Cond.constantLong RX3 195 (100), Cond.fieldLink RX3 40 "DraftSurvey" "length" "J", Cond.methodLink RX3 197 yX3_quotient, Cond.static yX3_quotient, Cond.code yX3_quotient cX3_quotient 4 (some .long), Cond.methodLink RX3 222 yJ9_floorDiv_f86c9, Cond.methodLink RX3 132 yX3_secondCorrectionAt, Cond.instanceMethod yX3_secondCorrectionAt, Cond.selects RX3 yX3_secondCorrectionAt yX3_secondCorrectionAt, Cond.code yX3_secondCorrectionAt cX3_secondCorrectionAt 11 (some .long), Cond.constantLong RX3 200 (500), Cond.methodLink RX3 205 Lib.MathLoose.max_long.x, Cond.static Lib.MathLoose.max_long.x, Cond.initialized "java/lang/Math", Cond.code Lib.MathLoose.max_long.x Lib.MathLoose.max_long.code 4 (some .long), Cond.methodLink RX3 213 Lib.MathLoose.min_long.x]
def wsX3_cargo_r5 : List Cond := [Cond.static Lib.MathLoose.min_long.x, Cond.code Lib.MathLoose.min_long.x Lib.MathLoose.min_long.code 4 (some .long), Cond.constantLong RX3 216 (50), Cond.constantLong RX3 218 (1000), Cond.methodLink RX3 202 yX2_firstDraft, Cond.methodLink RX3 210 yX2_lastDraft, Cond.methodLink RX3 225 yX1_deducted, Cond.instanceMethod yX1_deducted, Cond.selects RX1 yX1_deducted yX1_deducted, Cond.code yX1_deducted cX1_deducted 4 (some .long), Cond.fieldLink RX1 15 "DraftSurvey$Survey" "deductions" "[J"]
def wsX3_cargo : List Cond := .code yX3_cargo cX3_cargo 5 (some .long) :: ((wsX3_cargo_r1 ++ (wsX3_cargo_r2 ++ (wsX3_cargo_r3 ++ (wsX3_cargo_r4 ++ wsX3_cargo_r5)))) ++ wsX30 ++ wsX10 ++ wsX20)
def wsX3_canComputeMargins_r1 : List Cond := [Cond.fieldLink RX3 44 "DraftSurvey" "margin" "J", Cond.methodLink RX3 122 yX3_canCompute, Cond.instanceMethod yX3_canCompute, Cond.selects RX3 yX3_canCompute yX3_canCompute, Cond.initialized RX3, Cond.code yX3_canCompute cX3_canCompute 4 (some .boolean), Cond.fieldLink RX3 27 "DraftSurvey" "table" "LDraftSurvey$Table;", Cond.methodLink RX3 119 yX1_meanDraft, Cond.instanceMethod yX1_meanDraft, Cond.selects RX1 yX1_meanDraft yX1_meanDraft, Cond.initialized RX1, Cond.code yX1_meanDraft cX1_meanDraft 1 (some .long), Cond.constantLong RX1 42 (6), Cond.constantLong RX1 44 (8), Cond.methodLink RX1 36 yX1_forwardDraft, Cond.instanceMethod yX1_forwardDraft, Cond.selects RX1 yX1_forwardDraft yX1_forwardDraft, Cond.code yX1_forwardDraft cX1_forwardDraft 1 (some .long), Cond.fieldLink RX1 9 "DraftSurvey$Survey" "readings" "[J", Cond.constantLong RX1 24 (2), Cond.methodLink RX1 26 yJ9_floorDiv_f86c9, Cond.static yJ9_floorDiv_f86c9, Cond.initialized RJ9, Cond.code yJ9_floorDiv_f86c9 cJ9_floorDiv_f86c9 6 (some .long)]
def wsX3_canComputeMargins_r2 : List Cond := [Cond.methodLink RX1 39 yX1_midshipDraft, Cond.instanceMethod yX1_midshipDraft, Cond.selects RX1 yX1_midshipDraft yX1_midshipDraft, Cond.code yX1_midshipDraft cX1_midshipDraft 1 (some .long), Cond.methodLink RX1 32 yX1_aftDraft, Cond.instanceMethod yX1_aftDraft, Cond.selects RX1 yX1_aftDraft yX1_aftDraft, Cond.code yX1_aftDraft cX1_aftDraft 1 (some .long), Cond.methodLink RX3 191 yX2_covers, Cond.instanceMethod yX2_covers, Cond.selects RX2 yX2_covers yX2_covers, Cond.initialized RX2, Cond.code yX2_covers cX2_covers 3 (some .boolean), Cond.fieldLink RX2 15 "DraftSurvey$Table" "rows" "I", Cond.methodLink RX2 33 yX2_firstDraft, Cond.instanceMethod yX2_firstDraft, Cond.selects RX2 yX2_firstDraft yX2_firstDraft, Cond.code yX2_firstDraft cX2_firstDraft 1 (some .long), Cond.methodLink RX2 23 yX2_cell, Cond.instanceMethod yX2_cell, Cond.selects RX2 yX2_cell yX2_cell, Cond.code yX2_cell cX2_cell 3 (some .long), Cond.fieldLink RX2 9 "DraftSurvey$Table" "cells" "[J", Cond.methodLink RX2 19 yX2_lastDraft]
def wsX3_canComputeMargins_r3 : List Cond := [Cond.instanceMethod yX2_lastDraft, Cond.selects RX2 yX2_lastDraft yX2_lastDraft, Cond.code yX2_lastDraft cX2_lastDraft 1 (some .long)]
def wsX3_canComputeMargins : List Cond := .code yX3_canComputeMargins cX3_canComputeMargins 2 (some .boolean) :: ((wsX3_canComputeMargins_r1 ++ (wsX3_canComputeMargins_r2 ++ wsX3_canComputeMargins_r3)) ++ wsX30 ++ wsX10 ++ wsX20)
def wsX3_lightWeight_r1 : List Cond := [Cond.fieldLink RX3 44 "DraftSurvey" "margin" "J", Cond.methodLink RX3 213 Lib.MathLoose.min_long.x, Cond.static Lib.MathLoose.min_long.x, Cond.initialized "java/lang/Math", Cond.code Lib.MathLoose.min_long.x Lib.MathLoose.min_long.code 4 (some .long), Cond.methodLink RX3 139 yX3_netWeightOf, Cond.instanceMethod yX3_netWeightOf, Cond.selects RX3 yX3_netWeightOf yX3_netWeightOf, Cond.initialized RX3, Cond.code yX3_netWeightOf cX3_netWeightOf 4 (some .long), Cond.methodLink RX3 135 yX3_displacementOf, Cond.instanceMethod yX3_displacementOf, Cond.selects RX3 yX3_displacementOf yX3_displacementOf, Cond.code yX3_displacementOf cX3_displacementOf 10 (some .long), Cond.fieldLink RX3 27 "DraftSurvey" "table" "LDraftSurvey$Table;", Cond.constantLong RX3 220 (1025), Cond.methodLink RX3 119 yX1_meanDraft, Cond.instanceMethod yX1_meanDraft, Cond.selects RX1 yX1_meanDraft yX1_meanDraft, Cond.initialized RX1, Cond.code yX1_meanDraft cX1_meanDraft 1 (some .long), Cond.constantLong RX1 42 (6), Cond.constantLong RX1 44 (8), Cond.methodLink RX1 36 yX1_forwardDraft]
def wsX3_lightWeight_r2 : List Cond := [Cond.instanceMethod yX1_forwardDraft, Cond.selects RX1 yX1_forwardDraft yX1_forwardDraft, Cond.code yX1_forwardDraft cX1_forwardDraft 1 (some .long), Cond.fieldLink RX1 9 "DraftSurvey$Survey" "readings" "[J", Cond.constantLong RX1 24 (2), Cond.methodLink RX1 26 yJ9_floorDiv_f86c9, Cond.static yJ9_floorDiv_f86c9, Cond.initialized RJ9, Cond.code yJ9_floorDiv_f86c9 cJ9_floorDiv_f86c9 6 (some .long), Cond.methodLink RX1 39 yX1_midshipDraft, Cond.instanceMethod yX1_midshipDraft, Cond.selects RX1 yX1_midshipDraft yX1_midshipDraft, Cond.code yX1_midshipDraft cX1_midshipDraft 1 (some .long), Cond.methodLink RX1 32 yX1_aftDraft, Cond.instanceMethod yX1_aftDraft, Cond.selects RX1 yX1_aftDraft yX1_aftDraft, Cond.code yX1_aftDraft cX1_aftDraft 1 (some .long), Cond.methodLink RX3 109 yX1_sternTrim, Cond.instanceMethod yX1_sternTrim, Cond.selects RX1 yX1_sternTrim yX1_sternTrim, Cond.code yX1_sternTrim cX1_sternTrim 1 (some .long), Cond.methodLink RX3 87 yX2_valueAt, Cond.instanceMethod yX2_valueAt, Cond.selects RX2 yX2_valueAt yX2_valueAt]
def wsX3_lightWeight_r3 : List Cond := [Cond.initialized RX2, Cond.code yX2_valueAt cX2_valueAt 17 (some .long), Cond.fieldLink RX2 15 "DraftSurvey$Table" "rows" "I", Cond.constantLong RX2 36 (-9000000000000000007), Cond.methodLink RX2 23 yX2_cell, Cond.instanceMethod yX2_cell, Cond.selects RX2 yX2_cell yX2_cell, Cond.code yX2_cell cX2_cell 3 (some .long), Cond.fieldLink RX2 9 "DraftSurvey$Table" "cells" "[J", Cond.methodLink RX2 38 yJ9_floorDiv_f86c9, Cond.methodLink RX3 128 yX3_firstCorrectionAt, Cond.instanceMethod yX3_firstCorrectionAt, Cond.selects RX3 yX3_firstCorrectionAt yX3_firstCorrectionAt, Cond.code yX3_firstCorrectionAt cX3_firstCorrectionAt 7 (some .long), Cond.constantLong RX3 195 (100), Cond.fieldLink RX3 40 "DraftSurvey" "length" "J", Cond.methodLink RX3 197 yX3_quotient, Cond.static yX3_quotient, Cond.code yX3_quotient cX3_quotient 4 (some .long), Cond.methodLink RX3 222 yJ9_floorDiv_f86c9, Cond.methodLink RX3 132 yX3_secondCorrectionAt, Cond.instanceMethod yX3_secondCorrectionAt, Cond.selects RX3 yX3_secondCorrectionAt yX3_secondCorrectionAt, Cond.code yX3_secondCorrectionAt cX3_secondCorrectionAt 11 (some .long)]
def wsX3_lightWeight_r4 : List Cond := [Cond.constantLong RX3 200 (500), Cond.methodLink RX3 205 Lib.MathLoose.max_long.x, Cond.static Lib.MathLoose.max_long.x, Cond.code Lib.MathLoose.max_long.x Lib.MathLoose.max_long.code 4 (some .long), Cond.constantLong RX3 216 (50), Cond.constantLong RX3 218 (1000), Cond.methodLink RX3 202 yX2_firstDraft, Cond.instanceMethod yX2_firstDraft, Cond.selects RX2 yX2_firstDraft yX2_firstDraft, Cond.code yX2_firstDraft cX2_firstDraft 1 (some .long), Cond.methodLink RX3 210 yX2_lastDraft, Cond.instanceMethod yX2_lastDraft, Cond.selects RX2 yX2_lastDraft yX2_lastDraft, Cond.code yX2_lastDraft cX2_lastDraft 1 (some .long), Cond.methodLink RX3 225 yX1_deducted, Cond.instanceMethod yX1_deducted, Cond.selects RX1 yX1_deducted yX1_deducted, Cond.code yX1_deducted cX1_deducted 4 (some .long), Cond.fieldLink RX1 15 "DraftSurvey$Survey" "deductions" "[J"]
def wsX3_lightWeight : List Cond := .code yX3_lightWeight cX3_lightWeight 2 (some .long) :: ((wsX3_lightWeight_r1 ++ (wsX3_lightWeight_r2 ++ (wsX3_lightWeight_r3 ++ wsX3_lightWeight_r4))) ++ wsX30 ++ wsX10 ++ wsX20)
def wsX3_heavyWeight_r1 : List Cond := [Cond.fieldLink RX3 44 "DraftSurvey" "margin" "J", Cond.methodLink RX3 205 Lib.MathLoose.max_long.x, Cond.static Lib.MathLoose.max_long.x, Cond.initialized "java/lang/Math", Cond.code Lib.MathLoose.max_long.x Lib.MathLoose.max_long.code 4 (some .long), Cond.methodLink RX3 139 yX3_netWeightOf, Cond.instanceMethod yX3_netWeightOf, Cond.selects RX3 yX3_netWeightOf yX3_netWeightOf, Cond.initialized RX3, Cond.code yX3_netWeightOf cX3_netWeightOf 4 (some .long), Cond.methodLink RX3 135 yX3_displacementOf, Cond.instanceMethod yX3_displacementOf, Cond.selects RX3 yX3_displacementOf yX3_displacementOf, Cond.code yX3_displacementOf cX3_displacementOf 10 (some .long), Cond.fieldLink RX3 27 "DraftSurvey" "table" "LDraftSurvey$Table;", Cond.constantLong RX3 220 (1025), Cond.methodLink RX3 119 yX1_meanDraft, Cond.instanceMethod yX1_meanDraft, Cond.selects RX1 yX1_meanDraft yX1_meanDraft, Cond.initialized RX1, Cond.code yX1_meanDraft cX1_meanDraft 1 (some .long), Cond.constantLong RX1 42 (6), Cond.constantLong RX1 44 (8), Cond.methodLink RX1 36 yX1_forwardDraft]
def wsX3_heavyWeight_r2 : List Cond := [Cond.instanceMethod yX1_forwardDraft, Cond.selects RX1 yX1_forwardDraft yX1_forwardDraft, Cond.code yX1_forwardDraft cX1_forwardDraft 1 (some .long), Cond.fieldLink RX1 9 "DraftSurvey$Survey" "readings" "[J", Cond.constantLong RX1 24 (2), Cond.methodLink RX1 26 yJ9_floorDiv_f86c9, Cond.static yJ9_floorDiv_f86c9, Cond.initialized RJ9, Cond.code yJ9_floorDiv_f86c9 cJ9_floorDiv_f86c9 6 (some .long), Cond.methodLink RX1 39 yX1_midshipDraft, Cond.instanceMethod yX1_midshipDraft, Cond.selects RX1 yX1_midshipDraft yX1_midshipDraft, Cond.code yX1_midshipDraft cX1_midshipDraft 1 (some .long), Cond.methodLink RX1 32 yX1_aftDraft, Cond.instanceMethod yX1_aftDraft, Cond.selects RX1 yX1_aftDraft yX1_aftDraft, Cond.code yX1_aftDraft cX1_aftDraft 1 (some .long), Cond.methodLink RX3 109 yX1_sternTrim, Cond.instanceMethod yX1_sternTrim, Cond.selects RX1 yX1_sternTrim yX1_sternTrim, Cond.code yX1_sternTrim cX1_sternTrim 1 (some .long), Cond.methodLink RX3 87 yX2_valueAt, Cond.instanceMethod yX2_valueAt, Cond.selects RX2 yX2_valueAt yX2_valueAt]
def wsX3_heavyWeight_r3 : List Cond := [Cond.initialized RX2, Cond.code yX2_valueAt cX2_valueAt 17 (some .long), Cond.fieldLink RX2 15 "DraftSurvey$Table" "rows" "I", Cond.constantLong RX2 36 (-9000000000000000007), Cond.methodLink RX2 23 yX2_cell, Cond.instanceMethod yX2_cell, Cond.selects RX2 yX2_cell yX2_cell, Cond.code yX2_cell cX2_cell 3 (some .long), Cond.fieldLink RX2 9 "DraftSurvey$Table" "cells" "[J", Cond.methodLink RX2 38 yJ9_floorDiv_f86c9, Cond.methodLink RX3 128 yX3_firstCorrectionAt, Cond.instanceMethod yX3_firstCorrectionAt, Cond.selects RX3 yX3_firstCorrectionAt yX3_firstCorrectionAt, Cond.code yX3_firstCorrectionAt cX3_firstCorrectionAt 7 (some .long), Cond.constantLong RX3 195 (100), Cond.fieldLink RX3 40 "DraftSurvey" "length" "J", Cond.methodLink RX3 197 yX3_quotient, Cond.static yX3_quotient, Cond.code yX3_quotient cX3_quotient 4 (some .long), Cond.methodLink RX3 222 yJ9_floorDiv_f86c9, Cond.methodLink RX3 132 yX3_secondCorrectionAt, Cond.instanceMethod yX3_secondCorrectionAt, Cond.selects RX3 yX3_secondCorrectionAt yX3_secondCorrectionAt, Cond.code yX3_secondCorrectionAt cX3_secondCorrectionAt 11 (some .long)]
def wsX3_heavyWeight_r4 : List Cond := [Cond.constantLong RX3 200 (500), Cond.methodLink RX3 213 Lib.MathLoose.min_long.x, Cond.static Lib.MathLoose.min_long.x, Cond.code Lib.MathLoose.min_long.x Lib.MathLoose.min_long.code 4 (some .long), Cond.constantLong RX3 216 (50), Cond.constantLong RX3 218 (1000), Cond.methodLink RX3 202 yX2_firstDraft, Cond.instanceMethod yX2_firstDraft, Cond.selects RX2 yX2_firstDraft yX2_firstDraft, Cond.code yX2_firstDraft cX2_firstDraft 1 (some .long), Cond.methodLink RX3 210 yX2_lastDraft, Cond.instanceMethod yX2_lastDraft, Cond.selects RX2 yX2_lastDraft yX2_lastDraft, Cond.code yX2_lastDraft cX2_lastDraft 1 (some .long), Cond.methodLink RX3 225 yX1_deducted, Cond.instanceMethod yX1_deducted, Cond.selects RX1 yX1_deducted yX1_deducted, Cond.code yX1_deducted cX1_deducted 4 (some .long), Cond.fieldLink RX1 15 "DraftSurvey$Survey" "deductions" "[J"]
def wsX3_heavyWeight : List Cond := .code yX3_heavyWeight cX3_heavyWeight 2 (some .long) :: ((wsX3_heavyWeight_r1 ++ (wsX3_heavyWeight_r2 ++ (wsX3_heavyWeight_r3 ++ wsX3_heavyWeight_r4))) ++ wsX30 ++ wsX10 ++ wsX20)
def wsX3_cargoLow_r1 : List Cond := [Cond.constantLong RX3 96 (-9000000000000000001), Cond.constantLong RX3 126 (-9000000000000000007), Cond.methodLink RX3 92 yX3_surveyAt, Cond.instanceMethod yX3_surveyAt, Cond.selects RX3 yX3_surveyAt yX3_surveyAt, Cond.initialized RX3, Cond.code yX3_surveyAt cX3_surveyAt 2 (some (.object "DraftSurvey$Survey")), Cond.fieldLink RX3 33 "DraftSurvey" "surveys" "[LDraftSurvey$Survey;", Cond.methodLink RX3 142 yX3_canComputeMargins, Cond.instanceMethod yX3_canComputeMargins, Cond.selects RX3 yX3_canComputeMargins yX3_canComputeMargins, Cond.code yX3_canComputeMargins cX3_canComputeMargins 2 (some .boolean), Cond.fieldLink RX3 44 "DraftSurvey" "margin" "J", Cond.methodLink RX3 122 yX3_canCompute, Cond.instanceMethod yX3_canCompute, Cond.selects RX3 yX3_canCompute yX3_canCompute, Cond.code yX3_canCompute cX3_canCompute 4 (some .boolean), Cond.fieldLink RX3 27 "DraftSurvey" "table" "LDraftSurvey$Table;", Cond.methodLink RX3 119 yX1_meanDraft, Cond.instanceMethod yX1_meanDraft, Cond.selects RX1 yX1_meanDraft yX1_meanDraft, Cond.initialized RX1, Cond.code yX1_meanDraft cX1_meanDraft 1 (some .long), Cond.constantLong RX1 42 (6)]
def wsX3_cargoLow_r2 : List Cond := [Cond.constantLong RX1 44 (8), Cond.methodLink RX1 36 yX1_forwardDraft, Cond.instanceMethod yX1_forwardDraft, Cond.selects RX1 yX1_forwardDraft yX1_forwardDraft, Cond.code yX1_forwardDraft cX1_forwardDraft 1 (some .long), Cond.fieldLink RX1 9 "DraftSurvey$Survey" "readings" "[J", Cond.constantLong RX1 24 (2), Cond.methodLink RX1 26 yJ9_floorDiv_f86c9, Cond.static yJ9_floorDiv_f86c9, Cond.initialized RJ9, Cond.code yJ9_floorDiv_f86c9 cJ9_floorDiv_f86c9 6 (some .long), Cond.methodLink RX1 39 yX1_midshipDraft, Cond.instanceMethod yX1_midshipDraft, Cond.selects RX1 yX1_midshipDraft yX1_midshipDraft, Cond.code yX1_midshipDraft cX1_midshipDraft 1 (some .long), Cond.methodLink RX1 32 yX1_aftDraft, Cond.instanceMethod yX1_aftDraft, Cond.selects RX1 yX1_aftDraft yX1_aftDraft, Cond.code yX1_aftDraft cX1_aftDraft 1 (some .long), Cond.methodLink RX3 191 yX2_covers, Cond.instanceMethod yX2_covers, Cond.selects RX2 yX2_covers yX2_covers, Cond.initialized RX2, Cond.code yX2_covers cX2_covers 3 (some .boolean)]
def wsX3_cargoLow_r3 : List Cond := [Cond.fieldLink RX2 15 "DraftSurvey$Table" "rows" "I", Cond.methodLink RX2 33 yX2_firstDraft, Cond.instanceMethod yX2_firstDraft, Cond.selects RX2 yX2_firstDraft yX2_firstDraft, Cond.code yX2_firstDraft cX2_firstDraft 1 (some .long), Cond.methodLink RX2 23 yX2_cell, Cond.instanceMethod yX2_cell, Cond.selects RX2 yX2_cell yX2_cell, Cond.code yX2_cell cX2_cell 3 (some .long), Cond.fieldLink RX2 9 "DraftSurvey$Table" "cells" "[J", Cond.methodLink RX2 19 yX2_lastDraft, Cond.instanceMethod yX2_lastDraft, Cond.selects RX2 yX2_lastDraft yX2_lastDraft, Cond.code yX2_lastDraft cX2_lastDraft 1 (some .long), Cond.methodLink RX3 146 yX3_lightWeight, Cond.instanceMethod yX3_lightWeight, Cond.selects RX3 yX3_lightWeight yX3_lightWeight, Cond.code yX3_lightWeight cX3_lightWeight 2 (some .long), Cond.methodLink RX3 213 Lib.MathLoose.min_long.x, Cond.static Lib.MathLoose.min_long.x, Cond.initialized "java/lang/Math", Cond.code Lib.MathLoose.min_long.x Lib.MathLoose.min_long.code 4 (some .long), Cond.methodLink RX3 139 yX3_netWeightOf, Cond.instanceMethod yX3_netWeightOf]
def wsX3_cargoLow_r4 : List Cond := [Cond.selects RX3 yX3_netWeightOf yX3_netWeightOf, Cond.code yX3_netWeightOf cX3_netWeightOf 4 (some .long), Cond.methodLink RX3 135 yX3_displacementOf, Cond.instanceMethod yX3_displacementOf, Cond.selects RX3 yX3_displacementOf yX3_displacementOf, Cond.code yX3_displacementOf cX3_displacementOf 10 (some .long), Cond.constantLong RX3 220 (1025), Cond.methodLink RX3 109 yX1_sternTrim, Cond.instanceMethod yX1_sternTrim, Cond.selects RX1 yX1_sternTrim yX1_sternTrim, Cond.code yX1_sternTrim cX1_sternTrim 1 (some .long), Cond.methodLink RX3 87 yX2_valueAt, Cond.instanceMethod yX2_valueAt, Cond.selects RX2 yX2_valueAt yX2_valueAt, Cond.code yX2_valueAt cX2_valueAt 17 (some .long), Cond.constantLong RX2 36 (-9000000000000000007), Cond.methodLink RX2 38 yJ9_floorDiv_f86c9, Cond.methodLink RX3 128 yX3_firstCorrectionAt, Cond.instanceMethod yX3_firstCorrectionAt, Cond.selects RX3 yX3_firstCorrectionAt yX3_firstCorrectionAt, Cond.code yX3_firstCorrectionAt cX3_firstCorrectionAt 7 (some .long), Cond.constantLong RX3 195 (100), Cond.fieldLink RX3 40 "DraftSurvey" "length" "J", Cond.methodLink RX3 197 yX3_quotient]
def wsX3_cargoLow_r5 : List Cond := [Cond.static yX3_quotient, Cond.code yX3_quotient cX3_quotient 4 (some .long), Cond.methodLink RX3 222 yJ9_floorDiv_f86c9, Cond.methodLink RX3 132 yX3_secondCorrectionAt, Cond.instanceMethod yX3_secondCorrectionAt, Cond.selects RX3 yX3_secondCorrectionAt yX3_secondCorrectionAt, Cond.code yX3_secondCorrectionAt cX3_secondCorrectionAt 11 (some .long), Cond.constantLong RX3 200 (500), Cond.methodLink RX3 205 Lib.MathLoose.max_long.x, Cond.static Lib.MathLoose.max_long.x, Cond.code Lib.MathLoose.max_long.x Lib.MathLoose.max_long.code 4 (some .long), Cond.constantLong RX3 216 (50), Cond.constantLong RX3 218 (1000), Cond.methodLink RX3 202 yX2_firstDraft, Cond.methodLink RX3 210 yX2_lastDraft, Cond.methodLink RX3 225 yX1_deducted, Cond.instanceMethod yX1_deducted, Cond.selects RX1 yX1_deducted yX1_deducted, Cond.code yX1_deducted cX1_deducted 4 (some .long), Cond.fieldLink RX1 15 "DraftSurvey$Survey" "deductions" "[J", Cond.methodLink RX3 150 yX3_heavyWeight, Cond.instanceMethod yX3_heavyWeight, Cond.selects RX3 yX3_heavyWeight yX3_heavyWeight, Cond.code yX3_heavyWeight cX3_heavyWeight 2 (some .long)]
def wsX3_cargoLow : List Cond := .code yX3_cargoLow cX3_cargoLow 5 (some .long) :: ((wsX3_cargoLow_r1 ++ (wsX3_cargoLow_r2 ++ (wsX3_cargoLow_r3 ++ (wsX3_cargoLow_r4 ++ wsX3_cargoLow_r5)))) ++ wsX30 ++ wsX10 ++ wsX20)
def wsX3_cargoHigh_r1 : List Cond := [Cond.constantLong RX3 96 (-9000000000000000001), Cond.constantLong RX3 126 (-9000000000000000007), Cond.methodLink RX3 92 yX3_surveyAt, Cond.instanceMethod yX3_surveyAt, Cond.selects RX3 yX3_surveyAt yX3_surveyAt, Cond.initialized RX3, Cond.code yX3_surveyAt cX3_surveyAt 2 (some (.object "DraftSurvey$Survey")), Cond.fieldLink RX3 33 "DraftSurvey" "surveys" "[LDraftSurvey$Survey;", Cond.methodLink RX3 142 yX3_canComputeMargins, Cond.instanceMethod yX3_canComputeMargins, Cond.selects RX3 yX3_canComputeMargins yX3_canComputeMargins, Cond.code yX3_canComputeMargins cX3_canComputeMargins 2 (some .boolean), Cond.fieldLink RX3 44 "DraftSurvey" "margin" "J", Cond.methodLink RX3 122 yX3_canCompute, Cond.instanceMethod yX3_canCompute, Cond.selects RX3 yX3_canCompute yX3_canCompute, Cond.code yX3_canCompute cX3_canCompute 4 (some .boolean), Cond.fieldLink RX3 27 "DraftSurvey" "table" "LDraftSurvey$Table;", Cond.methodLink RX3 119 yX1_meanDraft, Cond.instanceMethod yX1_meanDraft, Cond.selects RX1 yX1_meanDraft yX1_meanDraft, Cond.initialized RX1, Cond.code yX1_meanDraft cX1_meanDraft 1 (some .long), Cond.constantLong RX1 42 (6)]
def wsX3_cargoHigh_r2 : List Cond := [Cond.constantLong RX1 44 (8), Cond.methodLink RX1 36 yX1_forwardDraft, Cond.instanceMethod yX1_forwardDraft, Cond.selects RX1 yX1_forwardDraft yX1_forwardDraft, Cond.code yX1_forwardDraft cX1_forwardDraft 1 (some .long), Cond.fieldLink RX1 9 "DraftSurvey$Survey" "readings" "[J", Cond.constantLong RX1 24 (2), Cond.methodLink RX1 26 yJ9_floorDiv_f86c9, Cond.static yJ9_floorDiv_f86c9, Cond.initialized RJ9, Cond.code yJ9_floorDiv_f86c9 cJ9_floorDiv_f86c9 6 (some .long), Cond.methodLink RX1 39 yX1_midshipDraft, Cond.instanceMethod yX1_midshipDraft, Cond.selects RX1 yX1_midshipDraft yX1_midshipDraft, Cond.code yX1_midshipDraft cX1_midshipDraft 1 (some .long), Cond.methodLink RX1 32 yX1_aftDraft, Cond.instanceMethod yX1_aftDraft, Cond.selects RX1 yX1_aftDraft yX1_aftDraft, Cond.code yX1_aftDraft cX1_aftDraft 1 (some .long), Cond.methodLink RX3 191 yX2_covers, Cond.instanceMethod yX2_covers, Cond.selects RX2 yX2_covers yX2_covers, Cond.initialized RX2, Cond.code yX2_covers cX2_covers 3 (some .boolean)]
def wsX3_cargoHigh_r3 : List Cond := [Cond.fieldLink RX2 15 "DraftSurvey$Table" "rows" "I", Cond.methodLink RX2 33 yX2_firstDraft, Cond.instanceMethod yX2_firstDraft, Cond.selects RX2 yX2_firstDraft yX2_firstDraft, Cond.code yX2_firstDraft cX2_firstDraft 1 (some .long), Cond.methodLink RX2 23 yX2_cell, Cond.instanceMethod yX2_cell, Cond.selects RX2 yX2_cell yX2_cell, Cond.code yX2_cell cX2_cell 3 (some .long), Cond.fieldLink RX2 9 "DraftSurvey$Table" "cells" "[J", Cond.methodLink RX2 19 yX2_lastDraft, Cond.instanceMethod yX2_lastDraft, Cond.selects RX2 yX2_lastDraft yX2_lastDraft, Cond.code yX2_lastDraft cX2_lastDraft 1 (some .long), Cond.methodLink RX3 150 yX3_heavyWeight, Cond.instanceMethod yX3_heavyWeight, Cond.selects RX3 yX3_heavyWeight yX3_heavyWeight, Cond.code yX3_heavyWeight cX3_heavyWeight 2 (some .long), Cond.methodLink RX3 205 Lib.MathLoose.max_long.x, Cond.static Lib.MathLoose.max_long.x, Cond.initialized "java/lang/Math", Cond.code Lib.MathLoose.max_long.x Lib.MathLoose.max_long.code 4 (some .long), Cond.methodLink RX3 139 yX3_netWeightOf, Cond.instanceMethod yX3_netWeightOf]
def wsX3_cargoHigh_r4 : List Cond := [Cond.selects RX3 yX3_netWeightOf yX3_netWeightOf, Cond.code yX3_netWeightOf cX3_netWeightOf 4 (some .long), Cond.methodLink RX3 135 yX3_displacementOf, Cond.instanceMethod yX3_displacementOf, Cond.selects RX3 yX3_displacementOf yX3_displacementOf, Cond.code yX3_displacementOf cX3_displacementOf 10 (some .long), Cond.constantLong RX3 220 (1025), Cond.methodLink RX3 109 yX1_sternTrim, Cond.instanceMethod yX1_sternTrim, Cond.selects RX1 yX1_sternTrim yX1_sternTrim, Cond.code yX1_sternTrim cX1_sternTrim 1 (some .long), Cond.methodLink RX3 87 yX2_valueAt, Cond.instanceMethod yX2_valueAt, Cond.selects RX2 yX2_valueAt yX2_valueAt, Cond.code yX2_valueAt cX2_valueAt 17 (some .long), Cond.constantLong RX2 36 (-9000000000000000007), Cond.methodLink RX2 38 yJ9_floorDiv_f86c9, Cond.methodLink RX3 128 yX3_firstCorrectionAt, Cond.instanceMethod yX3_firstCorrectionAt, Cond.selects RX3 yX3_firstCorrectionAt yX3_firstCorrectionAt, Cond.code yX3_firstCorrectionAt cX3_firstCorrectionAt 7 (some .long), Cond.constantLong RX3 195 (100), Cond.fieldLink RX3 40 "DraftSurvey" "length" "J", Cond.methodLink RX3 197 yX3_quotient]
def wsX3_cargoHigh_r5 : List Cond := [Cond.static yX3_quotient, Cond.code yX3_quotient cX3_quotient 4 (some .long), Cond.methodLink RX3 222 yJ9_floorDiv_f86c9, Cond.methodLink RX3 132 yX3_secondCorrectionAt, Cond.instanceMethod yX3_secondCorrectionAt, Cond.selects RX3 yX3_secondCorrectionAt yX3_secondCorrectionAt, Cond.code yX3_secondCorrectionAt cX3_secondCorrectionAt 11 (some .long), Cond.constantLong RX3 200 (500), Cond.methodLink RX3 213 Lib.MathLoose.min_long.x, Cond.static Lib.MathLoose.min_long.x, Cond.code Lib.MathLoose.min_long.x Lib.MathLoose.min_long.code 4 (some .long), Cond.constantLong RX3 216 (50), Cond.constantLong RX3 218 (1000), Cond.methodLink RX3 202 yX2_firstDraft, Cond.methodLink RX3 210 yX2_lastDraft, Cond.methodLink RX3 225 yX1_deducted, Cond.instanceMethod yX1_deducted, Cond.selects RX1 yX1_deducted yX1_deducted, Cond.code yX1_deducted cX1_deducted 4 (some .long), Cond.fieldLink RX1 15 "DraftSurvey$Survey" "deductions" "[J", Cond.methodLink RX3 146 yX3_lightWeight, Cond.instanceMethod yX3_lightWeight, Cond.selects RX3 yX3_lightWeight yX3_lightWeight, Cond.code yX3_lightWeight cX3_lightWeight 2 (some .long)]
def wsX3_cargoHigh : List Cond := .code yX3_cargoHigh cX3_cargoHigh 5 (some .long) :: ((wsX3_cargoHigh_r1 ++ (wsX3_cargoHigh_r2 ++ (wsX3_cargoHigh_r3 ++ (wsX3_cargoHigh_r4 ++ wsX3_cargoHigh_r5)))) ++ wsX30 ++ wsX10 ++ wsX20)
def wsX3_draftFor : List Cond := .code yX3_draftFor cX3_draftFor 2 (some .long) :: ([.fieldLink RX3 27 "DraftSurvey" "table" "LDraftSurvey$Table;", .methodLink RX3 153 yX2_leastDraftFor, .instanceMethod yX2_leastDraftFor, .selects RX2 yX2_leastDraftFor yX2_leastDraftFor, .initialized RX2, .code yX2_leastDraftFor cX2_leastDraftFor 14 (some .long), .fieldLink RX2 15 "DraftSurvey$Table" "rows" "I", .constantLong RX2 36 (-9000000000000000007), .methodLink RX2 23 yX2_cell, .instanceMethod yX2_cell, .selects RX2 yX2_cell yX2_cell, .code yX2_cell cX2_cell 3 (some .long), .fieldLink RX2 9 "DraftSurvey$Table" "cells" "[J", .methodLink RX2 33 yX2_firstDraft, .instanceMethod yX2_firstDraft, .selects RX2 yX2_firstDraft yX2_firstDraft, .code yX2_firstDraft cX2_firstDraft 1 (some .long), .static yX3_quotient, .initialized RX3, .code yX3_quotient cX3_quotient 4 (some .long), .methodLink RX3 222 yJ9_floorDiv_f86c9, .static yJ9_floorDiv_f86c9, .initialized RJ9, .code yJ9_floorDiv_f86c9 cJ9_floorDiv_f86c9 6 (some .long)] ++ wsX30 ++ wsX20)
def wsX3_heaviest_r1 : List Cond := [Cond.constantLong RX3 126 (-9000000000000000007), Cond.methodLink RX3 92 yX3_surveyAt, Cond.instanceMethod yX3_surveyAt, Cond.selects RX3 yX3_surveyAt yX3_surveyAt, Cond.initialized RX3, Cond.code yX3_surveyAt cX3_surveyAt 2 (some (.object "DraftSurvey$Survey")), Cond.fieldLink RX3 33 "DraftSurvey" "surveys" "[LDraftSurvey$Survey;", Cond.methodLink RX3 122 yX3_canCompute, Cond.instanceMethod yX3_canCompute, Cond.selects RX3 yX3_canCompute yX3_canCompute, Cond.code yX3_canCompute cX3_canCompute 4 (some .boolean), Cond.fieldLink RX3 27 "DraftSurvey" "table" "LDraftSurvey$Table;", Cond.methodLink RX3 119 yX1_meanDraft, Cond.instanceMethod yX1_meanDraft, Cond.selects RX1 yX1_meanDraft yX1_meanDraft, Cond.initialized RX1, Cond.code yX1_meanDraft cX1_meanDraft 1 (some .long), Cond.constantLong RX1 42 (6), Cond.constantLong RX1 44 (8), Cond.methodLink RX1 36 yX1_forwardDraft, Cond.instanceMethod yX1_forwardDraft, Cond.selects RX1 yX1_forwardDraft yX1_forwardDraft, Cond.code yX1_forwardDraft cX1_forwardDraft 1 (some .long), Cond.fieldLink RX1 9 "DraftSurvey$Survey" "readings" "[J"]
def wsX3_heaviest_r2 : List Cond := [Cond.constantLong RX1 24 (2), Cond.methodLink RX1 26 yJ9_floorDiv_f86c9, Cond.static yJ9_floorDiv_f86c9, Cond.initialized RJ9, Cond.code yJ9_floorDiv_f86c9 cJ9_floorDiv_f86c9 6 (some .long), Cond.methodLink RX1 39 yX1_midshipDraft, Cond.instanceMethod yX1_midshipDraft, Cond.selects RX1 yX1_midshipDraft yX1_midshipDraft, Cond.code yX1_midshipDraft cX1_midshipDraft 1 (some .long), Cond.methodLink RX1 32 yX1_aftDraft, Cond.instanceMethod yX1_aftDraft, Cond.selects RX1 yX1_aftDraft yX1_aftDraft, Cond.code yX1_aftDraft cX1_aftDraft 1 (some .long), Cond.methodLink RX3 191 yX2_covers, Cond.instanceMethod yX2_covers, Cond.selects RX2 yX2_covers yX2_covers, Cond.initialized RX2, Cond.code yX2_covers cX2_covers 3 (some .boolean), Cond.fieldLink RX2 15 "DraftSurvey$Table" "rows" "I", Cond.methodLink RX2 33 yX2_firstDraft, Cond.instanceMethod yX2_firstDraft, Cond.selects RX2 yX2_firstDraft yX2_firstDraft, Cond.code yX2_firstDraft cX2_firstDraft 1 (some .long), Cond.methodLink RX2 23 yX2_cell]
def wsX3_heaviest_r3 : List Cond := [Cond.instanceMethod yX2_cell, Cond.selects RX2 yX2_cell yX2_cell, Cond.code yX2_cell cX2_cell 3 (some .long), Cond.fieldLink RX2 9 "DraftSurvey$Table" "cells" "[J", Cond.methodLink RX2 19 yX2_lastDraft, Cond.instanceMethod yX2_lastDraft, Cond.selects RX2 yX2_lastDraft yX2_lastDraft, Cond.code yX2_lastDraft cX2_lastDraft 1 (some .long), Cond.methodLink RX3 139 yX3_netWeightOf, Cond.instanceMethod yX3_netWeightOf, Cond.selects RX3 yX3_netWeightOf yX3_netWeightOf, Cond.code yX3_netWeightOf cX3_netWeightOf 4 (some .long), Cond.methodLink RX3 135 yX3_displacementOf, Cond.instanceMethod yX3_displacementOf, Cond.selects RX3 yX3_displacementOf yX3_displacementOf, Cond.code yX3_displacementOf cX3_displacementOf 10 (some .long), Cond.constantLong RX3 220 (1025), Cond.methodLink RX3 109 yX1_sternTrim, Cond.instanceMethod yX1_sternTrim, Cond.selects RX1 yX1_sternTrim yX1_sternTrim, Cond.code yX1_sternTrim cX1_sternTrim 1 (some .long), Cond.methodLink RX3 87 yX2_valueAt, Cond.instanceMethod yX2_valueAt, Cond.selects RX2 yX2_valueAt yX2_valueAt]
def wsX3_heaviest_r4 : List Cond := [Cond.code yX2_valueAt cX2_valueAt 17 (some .long), Cond.constantLong RX2 36 (-9000000000000000007), Cond.methodLink RX2 38 yJ9_floorDiv_f86c9, Cond.methodLink RX3 128 yX3_firstCorrectionAt, Cond.instanceMethod yX3_firstCorrectionAt, Cond.selects RX3 yX3_firstCorrectionAt yX3_firstCorrectionAt, Cond.code yX3_firstCorrectionAt cX3_firstCorrectionAt 7 (some .long), Cond.constantLong RX3 195 (100), Cond.fieldLink RX3 40 "DraftSurvey" "length" "J", Cond.methodLink RX3 197 yX3_quotient, Cond.static yX3_quotient, Cond.code yX3_quotient cX3_quotient 4 (some .long), Cond.methodLink RX3 222 yJ9_floorDiv_f86c9, Cond.methodLink RX3 132 yX3_secondCorrectionAt, Cond.instanceMethod yX3_secondCorrectionAt, Cond.selects RX3 yX3_secondCorrectionAt yX3_secondCorrectionAt, Cond.code yX3_secondCorrectionAt cX3_secondCorrectionAt 11 (some .long), Cond.constantLong RX3 200 (500), Cond.methodLink RX3 205 Lib.MathLoose.max_long.x, Cond.static Lib.MathLoose.max_long.x, Cond.initialized "java/lang/Math", Cond.code Lib.MathLoose.max_long.x Lib.MathLoose.max_long.code 4 (some .long), Cond.methodLink RX3 213 Lib.MathLoose.min_long.x, Cond.static Lib.MathLoose.min_long.x]
def wsX3_heaviest_r5 : List Cond := [Cond.code Lib.MathLoose.min_long.x Lib.MathLoose.min_long.code 4 (some .long), Cond.constantLong RX3 216 (50), Cond.constantLong RX3 218 (1000), Cond.methodLink RX3 202 yX2_firstDraft, Cond.methodLink RX3 210 yX2_lastDraft, Cond.methodLink RX3 225 yX1_deducted, Cond.instanceMethod yX1_deducted, Cond.selects RX1 yX1_deducted yX1_deducted, Cond.code yX1_deducted cX1_deducted 4 (some .long), Cond.fieldLink RX1 15 "DraftSurvey$Survey" "deductions" "[J"]
def wsX3_heaviest : List Cond := .code yX3_heaviest cX3_heaviest 9 (some .long) :: ((wsX3_heaviest_r1 ++ (wsX3_heaviest_r2 ++ (wsX3_heaviest_r3 ++ (wsX3_heaviest_r4 ++ wsX3_heaviest_r5)))) ++ wsX30 ++ wsX10 ++ wsX20)
def wsX3_rowCount : List Cond := .code yX3_rowCount cX3_rowCount 1 (some .long) :: ([.fieldLink RX3 27 "DraftSurvey" "table" "LDraftSurvey$Table;"] ++ wsX30 ++ wsX20)
def wsX3_hashWith : List Cond := .code yX3_hashWith cX3_hashWith 4 (some .long) :: ([.constantLong RX3 228 (31)])
def wsX3_hashOfTable : List Cond := .code yX3_hashOfTable cX3_hashOfTable 7 (some .long) :: ([.fieldLink RX3 27 "DraftSurvey" "table" "LDraftSurvey$Table;", .methodLink RX3 169 yX3_hashWith, .static yX3_hashWith, .initialized RX3, .code yX3_hashWith cX3_hashWith 4 (some .long), .constantLong RX3 228 (31), .methodLink RX3 83 yX2_cell, .instanceMethod yX2_cell, .selects RX2 yX2_cell yX2_cell, .initialized RX2, .code yX2_cell cX2_cell 3 (some .long), .fieldLink RX2 15 "DraftSurvey$Table" "rows" "I", .fieldLink RX2 9 "DraftSurvey$Table" "cells" "[J"] ++ wsX30 ++ wsX20)
def wsX3_hashOfSurvey_r1 : List Cond := [Cond.methodLink RX3 230 yX3_reading, Cond.instanceMethod yX3_reading, Cond.selects RX3 yX3_reading yX3_reading, Cond.initialized RX3, Cond.code yX3_reading cX3_reading 4 (some .long), Cond.constantLong RX3 96 (-9000000000000000001), Cond.constantLong RX3 81 (-9000000000000000002), Cond.methodLink RX3 92 yX3_surveyAt, Cond.instanceMethod yX3_surveyAt, Cond.selects RX3 yX3_surveyAt yX3_surveyAt, Cond.code yX3_surveyAt cX3_surveyAt 2 (some (.object "DraftSurvey$Survey")), Cond.fieldLink RX3 33 "DraftSurvey" "surveys" "[LDraftSurvey$Survey;", Cond.methodLink RX3 169 yX3_hashWith, Cond.static yX3_hashWith, Cond.code yX3_hashWith cX3_hashWith 4 (some .long), Cond.constantLong RX3 228 (31), Cond.methodLink RX3 233 yX3_trim, Cond.instanceMethod yX3_trim, Cond.selects RX3 yX3_trim yX3_trim, Cond.code yX3_trim cX3_trim 3 (some .long), Cond.methodLink RX3 109 yX1_sternTrim, Cond.instanceMethod yX1_sternTrim, Cond.selects RX1 yX1_sternTrim yX1_sternTrim, Cond.initialized RX1]
def wsX3_hashOfSurvey_r2 : List Cond := [Cond.code yX1_sternTrim cX1_sternTrim 1 (some .long), Cond.methodLink RX1 32 yX1_aftDraft, Cond.instanceMethod yX1_aftDraft, Cond.selects RX1 yX1_aftDraft yX1_aftDraft, Cond.code yX1_aftDraft cX1_aftDraft 1 (some .long), Cond.fieldLink RX1 9 "DraftSurvey$Survey" "readings" "[J", Cond.constantLong RX1 24 (2), Cond.methodLink RX1 26 yJ9_floorDiv_f86c9, Cond.static yJ9_floorDiv_f86c9, Cond.initialized RJ9, Cond.code yJ9_floorDiv_f86c9 cJ9_floorDiv_f86c9 6 (some .long), Cond.methodLink RX1 36 yX1_forwardDraft, Cond.instanceMethod yX1_forwardDraft, Cond.selects RX1 yX1_forwardDraft yX1_forwardDraft, Cond.code yX1_forwardDraft cX1_forwardDraft 1 (some .long), Cond.methodLink RX3 236 yX3_deflection, Cond.instanceMethod yX3_deflection, Cond.selects RX3 yX3_deflection yX3_deflection, Cond.code yX3_deflection cX3_deflection 3 (some .long), Cond.methodLink RX3 113 yX1_hullDeflection, Cond.instanceMethod yX1_hullDeflection, Cond.selects RX1 yX1_hullDeflection yX1_hullDeflection, Cond.code yX1_hullDeflection cX1_hullDeflection 1 (some .long), Cond.methodLink RX1 39 yX1_midshipDraft]
def wsX3_hashOfSurvey_r3 : List Cond := [Cond.instanceMethod yX1_midshipDraft, Cond.selects RX1 yX1_midshipDraft yX1_midshipDraft, Cond.code yX1_midshipDraft cX1_midshipDraft 1 (some .long), Cond.methodLink RX3 239 yX3_heel, Cond.instanceMethod yX3_heel, Cond.selects RX3 yX3_heel yX3_heel, Cond.code yX3_heel cX3_heel 3 (some .long), Cond.methodLink RX3 116 yX1_starboardHeel, Cond.instanceMethod yX1_starboardHeel, Cond.selects RX1 yX1_starboardHeel yX1_starboardHeel, Cond.code yX1_starboardHeel cX1_starboardHeel 1 (some .long), Cond.methodLink RX3 242 yX3_quarterMean, Cond.instanceMethod yX3_quarterMean, Cond.selects RX3 yX3_quarterMean yX3_quarterMean, Cond.code yX3_quarterMean cX3_quarterMean 3 (some .long), Cond.methodLink RX3 119 yX1_meanDraft, Cond.instanceMethod yX1_meanDraft, Cond.selects RX1 yX1_meanDraft yX1_meanDraft, Cond.code yX1_meanDraft cX1_meanDraft 1 (some .long), Cond.constantLong RX1 42 (6), Cond.constantLong RX1 44 (8), Cond.methodLink RX3 245 yX3_firstCorrection, Cond.instanceMethod yX3_firstCorrection, Cond.selects RX3 yX3_firstCorrection yX3_firstCorrection]
def wsX3_hashOfSurvey_r4 : List Cond := [Cond.code yX3_firstCorrection cX3_firstCorrection 3 (some .long), Cond.constantLong RX3 126 (-9000000000000000007), Cond.methodLink RX3 122 yX3_canCompute, Cond.instanceMethod yX3_canCompute, Cond.selects RX3 yX3_canCompute yX3_canCompute, Cond.code yX3_canCompute cX3_canCompute 4 (some .boolean), Cond.fieldLink RX3 27 "DraftSurvey" "table" "LDraftSurvey$Table;", Cond.methodLink RX3 191 yX2_covers, Cond.instanceMethod yX2_covers, Cond.selects RX2 yX2_covers yX2_covers, Cond.initialized RX2, Cond.code yX2_covers cX2_covers 3 (some .boolean), Cond.fieldLink RX2 15 "DraftSurvey$Table" "rows" "I", Cond.methodLink RX2 33 yX2_firstDraft, Cond.instanceMethod yX2_firstDraft, Cond.selects RX2 yX2_firstDraft yX2_firstDraft, Cond.code yX2_firstDraft cX2_firstDraft 1 (some .long), Cond.methodLink RX2 23 yX2_cell, Cond.instanceMethod yX2_cell, Cond.selects RX2 yX2_cell yX2_cell, Cond.code yX2_cell cX2_cell 3 (some .long), Cond.fieldLink RX2 9 "DraftSurvey$Table" "cells" "[J", Cond.methodLink RX2 19 yX2_lastDraft, Cond.instanceMethod yX2_lastDraft]
def wsX3_hashOfSurvey_r5 : List Cond := [Cond.selects RX2 yX2_lastDraft yX2_lastDraft, Cond.code yX2_lastDraft cX2_lastDraft 1 (some .long), Cond.methodLink RX3 128 yX3_firstCorrectionAt, Cond.instanceMethod yX3_firstCorrectionAt, Cond.selects RX3 yX3_firstCorrectionAt yX3_firstCorrectionAt, Cond.code yX3_firstCorrectionAt cX3_firstCorrectionAt 7 (some .long), Cond.constantLong RX3 195 (100), Cond.fieldLink RX3 40 "DraftSurvey" "length" "J", Cond.methodLink RX3 87 yX2_valueAt, Cond.instanceMethod yX2_valueAt, Cond.selects RX2 yX2_valueAt yX2_valueAt, Cond.code yX2_valueAt cX2_valueAt 17 (some .long), Cond.constantLong RX2 36 (-9000000000000000007), Cond.methodLink RX2 38 yJ9_floorDiv_f86c9, Cond.methodLink RX3 197 yX3_quotient, Cond.static yX3_quotient, Cond.code yX3_quotient cX3_quotient 4 (some .long), Cond.methodLink RX3 222 yJ9_floorDiv_f86c9, Cond.methodLink RX3 248 yX3_secondCorrection, Cond.instanceMethod yX3_secondCorrection, Cond.selects RX3 yX3_secondCorrection yX3_secondCorrection, Cond.code yX3_secondCorrection cX3_secondCorrection 3 (some .long), Cond.methodLink RX3 132 yX3_secondCorrectionAt, Cond.instanceMethod yX3_secondCorrectionAt]
def wsX3_hashOfSurvey_r6 : List Cond := [Cond.selects RX3 yX3_secondCorrectionAt yX3_secondCorrectionAt, Cond.code yX3_secondCorrectionAt cX3_secondCorrectionAt 11 (some .long), Cond.constantLong RX3 200 (500), Cond.methodLink RX3 205 Lib.MathLoose.max_long.x, Cond.static Lib.MathLoose.max_long.x, Cond.initialized "java/lang/Math", Cond.code Lib.MathLoose.max_long.x Lib.MathLoose.max_long.code 4 (some .long), Cond.methodLink RX3 213 Lib.MathLoose.min_long.x, Cond.static Lib.MathLoose.min_long.x, Cond.code Lib.MathLoose.min_long.x Lib.MathLoose.min_long.code 4 (some .long), Cond.constantLong RX3 216 (50), Cond.constantLong RX3 218 (1000), Cond.methodLink RX3 202 yX2_firstDraft, Cond.methodLink RX3 210 yX2_lastDraft, Cond.methodLink RX3 251 yX3_displacement, Cond.instanceMethod yX3_displacement, Cond.selects RX3 yX3_displacement yX3_displacement, Cond.code yX3_displacement cX3_displacement 4 (some .long), Cond.constantLong RX3 47 (-9000000000000000003), Cond.methodLink RX3 135 yX3_displacementOf, Cond.instanceMethod yX3_displacementOf, Cond.selects RX3 yX3_displacementOf yX3_displacementOf, Cond.code yX3_displacementOf cX3_displacementOf 10 (some .long), Cond.constantLong RX3 220 (1025)]
def wsX3_hashOfSurvey_r7 : List Cond := [Cond.methodLink RX3 254 yX3_netWeight, Cond.instanceMethod yX3_netWeight, Cond.selects RX3 yX3_netWeight yX3_netWeight, Cond.code yX3_netWeight cX3_netWeight 3 (some .long), Cond.methodLink RX3 139 yX3_netWeightOf, Cond.instanceMethod yX3_netWeightOf, Cond.selects RX3 yX3_netWeightOf yX3_netWeightOf, Cond.code yX3_netWeightOf cX3_netWeightOf 4 (some .long), Cond.methodLink RX3 225 yX1_deducted, Cond.instanceMethod yX1_deducted, Cond.selects RX1 yX1_deducted yX1_deducted, Cond.code yX1_deducted cX1_deducted 4 (some .long), Cond.fieldLink RX1 15 "DraftSurvey$Survey" "deductions" "[J"]
def wsX3_hashOfSurvey : List Cond := .code yX3_hashOfSurvey cX3_hashOfSurvey 7 (some .long) :: ((wsX3_hashOfSurvey_r1 ++ (wsX3_hashOfSurvey_r2 ++ (wsX3_hashOfSurvey_r3 ++ (wsX3_hashOfSurvey_r4 ++ (wsX3_hashOfSurvey_r5 ++ (wsX3_hashOfSurvey_r6 ++ wsX3_hashOfSurvey_r7)))))) ++ wsX10 ++ wsX30 ++ wsX20)
def wsX3_hashOfBuffer : List Cond := .code yX3_hashOfBuffer cX3_hashOfBuffer 6 (some .long) :: ([.fieldLink RX3 13 "DraftSurvey" "bufferLength" "I", .fieldLink RX3 9 "DraftSurvey" "buffer" "[I", .methodLink RX3 169 yX3_hashWith, .static yX3_hashWith, .initialized RX3, .code yX3_hashWith cX3_hashWith 4 (some .long), .constantLong RX3 228 (31)] ++ wsX30)
def wsX3_digest_r1 : List Cond := [Cond.constantLong RX3 157 (1759), Cond.fieldLink RX3 40 "DraftSurvey" "length" "J", Cond.fieldLink RX3 44 "DraftSurvey" "margin" "J", Cond.methodLink RX3 159 yX3_hashOfTable, Cond.instanceMethod yX3_hashOfTable, Cond.selects RX3 yX3_hashOfTable yX3_hashOfTable, Cond.initialized RX3, Cond.code yX3_hashOfTable cX3_hashOfTable 7 (some .long), Cond.fieldLink RX3 27 "DraftSurvey" "table" "LDraftSurvey$Table;", Cond.methodLink RX3 169 yX3_hashWith, Cond.static yX3_hashWith, Cond.code yX3_hashWith cX3_hashWith 4 (some .long), Cond.constantLong RX3 228 (31), Cond.methodLink RX3 83 yX2_cell, Cond.instanceMethod yX2_cell, Cond.selects RX2 yX2_cell yX2_cell, Cond.initialized RX2, Cond.code yX2_cell cX2_cell 3 (some .long), Cond.fieldLink RX2 15 "DraftSurvey$Table" "rows" "I", Cond.fieldLink RX2 9 "DraftSurvey$Table" "cells" "[J", Cond.methodLink RX3 162 yX3_hashOfSurvey, Cond.instanceMethod yX3_hashOfSurvey, Cond.selects RX3 yX3_hashOfSurvey yX3_hashOfSurvey, Cond.code yX3_hashOfSurvey cX3_hashOfSurvey 7 (some .long)]
def wsX3_digest_r2 : List Cond := [Cond.methodLink RX3 230 yX3_reading, Cond.instanceMethod yX3_reading, Cond.selects RX3 yX3_reading yX3_reading, Cond.code yX3_reading cX3_reading 4 (some .long), Cond.constantLong RX3 96 (-9000000000000000001), Cond.constantLong RX3 81 (-9000000000000000002), Cond.methodLink RX3 92 yX3_surveyAt, Cond.instanceMethod yX3_surveyAt, Cond.selects RX3 yX3_surveyAt yX3_surveyAt, Cond.code yX3_surveyAt cX3_surveyAt 2 (some (.object "DraftSurvey$Survey")), Cond.fieldLink RX3 33 "DraftSurvey" "surveys" "[LDraftSurvey$Survey;", Cond.methodLink RX3 233 yX3_trim, Cond.instanceMethod yX3_trim, Cond.selects RX3 yX3_trim yX3_trim, Cond.code yX3_trim cX3_trim 3 (some .long), Cond.methodLink RX3 109 yX1_sternTrim, Cond.instanceMethod yX1_sternTrim, Cond.selects RX1 yX1_sternTrim yX1_sternTrim, Cond.initialized RX1, Cond.code yX1_sternTrim cX1_sternTrim 1 (some .long), Cond.methodLink RX1 32 yX1_aftDraft, Cond.instanceMethod yX1_aftDraft, Cond.selects RX1 yX1_aftDraft yX1_aftDraft, Cond.code yX1_aftDraft cX1_aftDraft 1 (some .long)]
def wsX3_digest_r3 : List Cond := [Cond.fieldLink RX1 9 "DraftSurvey$Survey" "readings" "[J", Cond.constantLong RX1 24 (2), Cond.methodLink RX1 26 yJ9_floorDiv_f86c9, Cond.static yJ9_floorDiv_f86c9, Cond.initialized RJ9, Cond.code yJ9_floorDiv_f86c9 cJ9_floorDiv_f86c9 6 (some .long), Cond.methodLink RX1 36 yX1_forwardDraft, Cond.instanceMethod yX1_forwardDraft, Cond.selects RX1 yX1_forwardDraft yX1_forwardDraft, Cond.code yX1_forwardDraft cX1_forwardDraft 1 (some .long), Cond.methodLink RX3 236 yX3_deflection, Cond.instanceMethod yX3_deflection, Cond.selects RX3 yX3_deflection yX3_deflection, Cond.code yX3_deflection cX3_deflection 3 (some .long), Cond.methodLink RX3 113 yX1_hullDeflection, Cond.instanceMethod yX1_hullDeflection, Cond.selects RX1 yX1_hullDeflection yX1_hullDeflection, Cond.code yX1_hullDeflection cX1_hullDeflection 1 (some .long), Cond.methodLink RX1 39 yX1_midshipDraft, Cond.instanceMethod yX1_midshipDraft, Cond.selects RX1 yX1_midshipDraft yX1_midshipDraft, Cond.code yX1_midshipDraft cX1_midshipDraft 1 (some .long), Cond.methodLink RX3 239 yX3_heel, Cond.instanceMethod yX3_heel]
def wsX3_digest_r4 : List Cond := [Cond.selects RX3 yX3_heel yX3_heel, Cond.code yX3_heel cX3_heel 3 (some .long), Cond.methodLink RX3 116 yX1_starboardHeel, Cond.instanceMethod yX1_starboardHeel, Cond.selects RX1 yX1_starboardHeel yX1_starboardHeel, Cond.code yX1_starboardHeel cX1_starboardHeel 1 (some .long), Cond.methodLink RX3 242 yX3_quarterMean, Cond.instanceMethod yX3_quarterMean, Cond.selects RX3 yX3_quarterMean yX3_quarterMean, Cond.code yX3_quarterMean cX3_quarterMean 3 (some .long), Cond.methodLink RX3 119 yX1_meanDraft, Cond.instanceMethod yX1_meanDraft, Cond.selects RX1 yX1_meanDraft yX1_meanDraft, Cond.code yX1_meanDraft cX1_meanDraft 1 (some .long), Cond.constantLong RX1 42 (6), Cond.constantLong RX1 44 (8), Cond.methodLink RX3 245 yX3_firstCorrection, Cond.instanceMethod yX3_firstCorrection, Cond.selects RX3 yX3_firstCorrection yX3_firstCorrection, Cond.code yX3_firstCorrection cX3_firstCorrection 3 (some .long), Cond.constantLong RX3 126 (-9000000000000000007), Cond.methodLink RX3 122 yX3_canCompute, Cond.instanceMethod yX3_canCompute, Cond.selects RX3 yX3_canCompute yX3_canCompute]
def wsX3_digest_r5 : List Cond := [Cond.code yX3_canCompute cX3_canCompute 4 (some .boolean), Cond.methodLink RX3 191 yX2_covers, Cond.instanceMethod yX2_covers, Cond.selects RX2 yX2_covers yX2_covers, Cond.code yX2_covers cX2_covers 3 (some .boolean), Cond.methodLink RX2 33 yX2_firstDraft, Cond.instanceMethod yX2_firstDraft, Cond.selects RX2 yX2_firstDraft yX2_firstDraft, Cond.code yX2_firstDraft cX2_firstDraft 1 (some .long), Cond.methodLink RX2 23 yX2_cell, Cond.methodLink RX2 19 yX2_lastDraft, Cond.instanceMethod yX2_lastDraft, Cond.selects RX2 yX2_lastDraft yX2_lastDraft, Cond.code yX2_lastDraft cX2_lastDraft 1 (some .long), Cond.methodLink RX3 128 yX3_firstCorrectionAt, Cond.instanceMethod yX3_firstCorrectionAt, Cond.selects RX3 yX3_firstCorrectionAt yX3_firstCorrectionAt, Cond.code yX3_firstCorrectionAt cX3_firstCorrectionAt 7 (some .long), Cond.constantLong RX3 195 (100), Cond.methodLink RX3 87 yX2_valueAt, Cond.instanceMethod yX2_valueAt, Cond.selects RX2 yX2_valueAt yX2_valueAt, Cond.code yX2_valueAt cX2_valueAt 17 (some .long), Cond.constantLong RX2 36 (-9000000000000000007)]
def wsX3_digest_r6 : List Cond := [Cond.methodLink RX2 38 yJ9_floorDiv_f86c9, Cond.methodLink RX3 197 yX3_quotient, Cond.static yX3_quotient, Cond.code yX3_quotient cX3_quotient 4 (some .long), Cond.methodLink RX3 222 yJ9_floorDiv_f86c9, Cond.methodLink RX3 248 yX3_secondCorrection, Cond.instanceMethod yX3_secondCorrection, Cond.selects RX3 yX3_secondCorrection yX3_secondCorrection, Cond.code yX3_secondCorrection cX3_secondCorrection 3 (some .long), Cond.methodLink RX3 132 yX3_secondCorrectionAt, Cond.instanceMethod yX3_secondCorrectionAt, Cond.selects RX3 yX3_secondCorrectionAt yX3_secondCorrectionAt, Cond.code yX3_secondCorrectionAt cX3_secondCorrectionAt 11 (some .long), Cond.constantLong RX3 200 (500), Cond.methodLink RX3 205 Lib.MathLoose.max_long.x, Cond.static Lib.MathLoose.max_long.x, Cond.initialized "java/lang/Math", Cond.code Lib.MathLoose.max_long.x Lib.MathLoose.max_long.code 4 (some .long), Cond.methodLink RX3 213 Lib.MathLoose.min_long.x, Cond.static Lib.MathLoose.min_long.x, Cond.code Lib.MathLoose.min_long.x Lib.MathLoose.min_long.code 4 (some .long), Cond.constantLong RX3 216 (50), Cond.constantLong RX3 218 (1000), Cond.methodLink RX3 202 yX2_firstDraft]
def wsX3_digest_r7 : List Cond := [Cond.methodLink RX3 210 yX2_lastDraft, Cond.methodLink RX3 251 yX3_displacement, Cond.instanceMethod yX3_displacement, Cond.selects RX3 yX3_displacement yX3_displacement, Cond.code yX3_displacement cX3_displacement 4 (some .long), Cond.constantLong RX3 47 (-9000000000000000003), Cond.methodLink RX3 135 yX3_displacementOf, Cond.instanceMethod yX3_displacementOf, Cond.selects RX3 yX3_displacementOf yX3_displacementOf, Cond.code yX3_displacementOf cX3_displacementOf 10 (some .long), Cond.constantLong RX3 220 (1025), Cond.methodLink RX3 254 yX3_netWeight, Cond.instanceMethod yX3_netWeight, Cond.selects RX3 yX3_netWeight yX3_netWeight, Cond.code yX3_netWeight cX3_netWeight 3 (some .long), Cond.methodLink RX3 139 yX3_netWeightOf, Cond.instanceMethod yX3_netWeightOf, Cond.selects RX3 yX3_netWeightOf yX3_netWeightOf, Cond.code yX3_netWeightOf cX3_netWeightOf 4 (some .long), Cond.methodLink RX3 225 yX1_deducted, Cond.instanceMethod yX1_deducted, Cond.selects RX1 yX1_deducted yX1_deducted, Cond.code yX1_deducted cX1_deducted 4 (some .long), Cond.fieldLink RX1 15 "DraftSurvey$Survey" "deductions" "[J"]
def wsX3_digest_r8 : List Cond := [Cond.methodLink RX3 166 yX3_cargo, Cond.instanceMethod yX3_cargo, Cond.selects RX3 yX3_cargo yX3_cargo, Cond.code yX3_cargo cX3_cargo 5 (some .long), Cond.methodLink RX3 172 yX3_cargoLow, Cond.instanceMethod yX3_cargoLow, Cond.selects RX3 yX3_cargoLow yX3_cargoLow, Cond.code yX3_cargoLow cX3_cargoLow 5 (some .long), Cond.methodLink RX3 142 yX3_canComputeMargins, Cond.instanceMethod yX3_canComputeMargins, Cond.selects RX3 yX3_canComputeMargins yX3_canComputeMargins, Cond.code yX3_canComputeMargins cX3_canComputeMargins 2 (some .boolean), Cond.methodLink RX3 146 yX3_lightWeight, Cond.instanceMethod yX3_lightWeight, Cond.selects RX3 yX3_lightWeight yX3_lightWeight, Cond.code yX3_lightWeight cX3_lightWeight 2 (some .long), Cond.methodLink RX3 150 yX3_heavyWeight, Cond.instanceMethod yX3_heavyWeight, Cond.selects RX3 yX3_heavyWeight yX3_heavyWeight, Cond.code yX3_heavyWeight cX3_heavyWeight 2 (some .long), Cond.methodLink RX3 175 yX3_cargoHigh, Cond.instanceMethod yX3_cargoHigh, Cond.selects RX3 yX3_cargoHigh yX3_cargoHigh, Cond.code yX3_cargoHigh cX3_cargoHigh 5 (some .long)]
def wsX3_digest_r9 : List Cond := [Cond.methodLink RX3 178 yX3_heaviest, Cond.instanceMethod yX3_heaviest, Cond.selects RX3 yX3_heaviest yX3_heaviest, Cond.code yX3_heaviest cX3_heaviest 9 (some .long), Cond.methodLink RX3 181 yX3_hashOfBuffer, Cond.instanceMethod yX3_hashOfBuffer, Cond.selects RX3 yX3_hashOfBuffer yX3_hashOfBuffer, Cond.code yX3_hashOfBuffer cX3_hashOfBuffer 6 (some .long), Cond.fieldLink RX3 13 "DraftSurvey" "bufferLength" "I", Cond.fieldLink RX3 9 "DraftSurvey" "buffer" "[I"]
def wsX3_digest : List Cond := .code yX3_digest cX3_digest 4 (some .long) :: ((wsX3_digest_r1 ++ (wsX3_digest_r2 ++ (wsX3_digest_r3 ++ (wsX3_digest_r4 ++ (wsX3_digest_r5 ++ (wsX3_digest_r6 ++ (wsX3_digest_r7 ++ (wsX3_digest_r8 ++ wsX3_digest_r9)))))))) ++ wsX30 ++ wsX20 ++ wsX10)
def wsX4_init : List Cond := .code yX4_init cX4_init 2 none :: ([.methodLink RX4 1 objectInit, .instanceMethod objectInit, .code objectInit ⟨#[0xb1]⟩ 1 none, .arrayClass .int, .fieldLink RX4 7 "DraftSurveyModel" "buffer" "[I", .arrayClass .long, .fieldLink RX4 13 "DraftSurveyModel" "table" "[J", .fieldLink RX4 17 "DraftSurveyModel" "readings" "[J", .fieldLink RX4 20 "DraftSurveyModel" "densities" "[J", .fieldLink RX4 23 "DraftSurveyModel" "deductions" "[J", .constantLong RX4 26 (180000), .fieldLink RX4 28 "DraftSurveyModel" "length" "J", .fieldLink RX4 32 "DraftSurveyModel" "read" "[J", .constantLong RX4 35 (1025)] ++ wsX40)
def wsX4_within : List Cond := .code yX4_within cX4_within 6 (some .boolean) :: ([])
def wsX4_quotient : List Cond := .code yX4_quotient cX4_quotient 6 (some .long) :: ([])
def wsX4_append : List Cond := .code yX4_append cX4_append 2 (some .long) :: ([.constantLong RX4 37 (32), .constantLong RX4 39 (126), .constantLong RX4 45 (-9000000000000000003), .fieldLink RX4 47 "DraftSurveyModel" "bufferLength" "I", .constantLong RX4 51 (-9000000000000000006), .fieldLink RX4 7 "DraftSurveyModel" "buffer" "[I", .methodLink RX4 41 yX4_within, .static yX4_within, .initialized RX4, .code yX4_within cX4_within 6 (some .boolean)] ++ wsX40)
def wsX4_clearBuffer : List Cond := .code yX4_clearBuffer cX4_clearBuffer 2 (some .long) :: ([.fieldLink RX4 47 "DraftSurveyModel" "bufferLength" "I"] ++ wsX40)
def wsX4_greatest : List Cond := .code yX4_greatest cX4_greatest 1 (some .long) :: ([.constantLong RX4 53 (30000), .constantLong RX4 55 (9999999), .constantLong RX4 57 (20000), .constantLong RX4 59 (100000), .constantLong RX4 61 (200000)])
def wsX4_parse : List Cond := .code yX4_parse cX4_parse 10 none :: ([.fieldLink RX4 63 "DraftSurveyModel" "errorAt" "I", .fieldLink RX4 47 "DraftSurveyModel" "bufferLength" "I", .fieldLink RX4 7 "DraftSurveyModel" "buffer" "[I", .constantLong RX4 66 (48), .constantLong RX4 68 (57), .constantLong RX4 70 (10), .fieldLink RX4 32 "DraftSurveyModel" "read" "[J", .fieldLink RX4 76 "DraftSurveyModel" "isRow" "Z", .methodLink RX4 41 yX4_within, .static yX4_within, .initialized RX4, .code yX4_within cX4_within 6 (some .boolean), .methodLink RX4 72 yX4_greatest, .static yX4_greatest, .code yX4_greatest cX4_greatest 1 (some .long), .constantLong RX4 53 (30000), .constantLong RX4 55 (9999999), .constantLong RX4 57 (20000), .constantLong RX4 59 (100000), .constantLong RX4 61 (200000)] ++ wsX40)
def wsX4_errorPosition : List Cond := .code yX4_errorPosition cX4_errorPosition 1 (some .long) :: ([.fieldLink RX4 63 "DraftSurveyModel" "errorAt" "I", .methodLink RX4 80 yX4_parse, .instanceMethod yX4_parse, .selects RX4 yX4_parse yX4_parse, .initialized RX4, .code yX4_parse cX4_parse 10 none, .fieldLink RX4 47 "DraftSurveyModel" "bufferLength" "I", .fieldLink RX4 7 "DraftSurveyModel" "buffer" "[I", .constantLong RX4 66 (48), .constantLong RX4 68 (57), .constantLong RX4 70 (10), .fieldLink RX4 32 "DraftSurveyModel" "read" "[J", .fieldLink RX4 76 "DraftSurveyModel" "isRow" "Z", .methodLink RX4 41 yX4_within, .static yX4_within, .code yX4_within cX4_within 6 (some .boolean), .methodLink RX4 72 yX4_greatest, .static yX4_greatest, .code yX4_greatest cX4_greatest 1 (some .long), .constantLong RX4 53 (30000), .constantLong RX4 55 (9999999), .constantLong RX4 57 (20000), .constantLong RX4 59 (100000), .constantLong RX4 61 (200000)] ++ wsX40)
def wsX4_cell : List Cond := .code yX4_cell cX4_cell 3 (some .long) :: ([.fieldLink RX4 13 "DraftSurveyModel" "table" "[J"] ++ wsX40)
def wsX4_addRow_r1 : List Cond := [Cond.fieldLink RX4 76 "DraftSurveyModel" "isRow" "Z", Cond.constantLong RX4 83 (-9000000000000000004), Cond.fieldLink RX4 85 "DraftSurveyModel" "rows" "I", Cond.constantLong RX4 51 (-9000000000000000006), Cond.fieldLink RX4 32 "DraftSurveyModel" "read" "[J", Cond.constantLong RX4 92 (-9000000000000000005), Cond.fieldLink RX4 13 "DraftSurveyModel" "table" "[J", Cond.fieldLink RX4 47 "DraftSurveyModel" "bufferLength" "I", Cond.methodLink RX4 80 yX4_parse, Cond.instanceMethod yX4_parse, Cond.selects RX4 yX4_parse yX4_parse, Cond.initialized RX4, Cond.code yX4_parse cX4_parse 10 none, Cond.fieldLink RX4 63 "DraftSurveyModel" "errorAt" "I", Cond.fieldLink RX4 7 "DraftSurveyModel" "buffer" "[I", Cond.constantLong RX4 66 (48), Cond.constantLong RX4 68 (57), Cond.constantLong RX4 70 (10), Cond.methodLink RX4 41 yX4_within, Cond.static yX4_within, Cond.code yX4_within cX4_within 6 (some .boolean), Cond.methodLink RX4 72 yX4_greatest, Cond.static yX4_greatest, Cond.code yX4_greatest cX4_greatest 1 (some .long)]
def wsX4_addRow_r2 : List Cond := [Cond.constantLong RX4 53 (30000), Cond.constantLong RX4 55 (9999999), Cond.constantLong RX4 57 (20000), Cond.constantLong RX4 59 (100000), Cond.constantLong RX4 61 (200000), Cond.methodLink RX4 88 yX4_cell, Cond.instanceMethod yX4_cell, Cond.selects RX4 yX4_cell yX4_cell, Cond.code yX4_cell cX4_cell 3 (some .long)]
def wsX4_addRow : List Cond := .code yX4_addRow cX4_addRow 2 (some .long) :: ((wsX4_addRow_r1 ++ wsX4_addRow_r2) ++ wsX40)
def wsX4_clearTable : List Cond := .code yX4_clearTable cX4_clearTable 2 (some .long) :: ([.fieldLink RX4 85 "DraftSurveyModel" "rows" "I"] ++ wsX40)
def wsX4_rowDraft : List Cond := .code yX4_rowDraft cX4_rowDraft 2 (some .long) :: ([.fieldLink RX4 85 "DraftSurveyModel" "rows" "I", .constantLong RX4 94 (-9000000000000000002), .methodLink RX4 41 yX4_within, .static yX4_within, .initialized RX4, .code yX4_within cX4_within 6 (some .boolean), .methodLink RX4 88 yX4_cell, .instanceMethod yX4_cell, .selects RX4 yX4_cell yX4_cell, .code yX4_cell cX4_cell 3 (some .long), .fieldLink RX4 13 "DraftSurveyModel" "table" "[J"] ++ wsX40)
def wsX4_isCovered : List Cond := .code yX4_isCovered cX4_isCovered 3 (some .boolean) :: ([.fieldLink RX4 85 "DraftSurveyModel" "rows" "I", .methodLink RX4 88 yX4_cell, .instanceMethod yX4_cell, .selects RX4 yX4_cell yX4_cell, .initialized RX4, .code yX4_cell cX4_cell 3 (some .long), .fieldLink RX4 13 "DraftSurveyModel" "table" "[J", .methodLink RX4 41 yX4_within, .static yX4_within, .code yX4_within cX4_within 6 (some .boolean)] ++ wsX40)
def wsX4_at : List Cond := .code yX4_at cX4_at 7 (some .long) :: ([.fieldLink RX4 85 "DraftSurveyModel" "rows" "I", .methodLink RX4 88 yX4_cell, .instanceMethod yX4_cell, .selects RX4 yX4_cell yX4_cell, .initialized RX4, .code yX4_cell cX4_cell 3 (some .long), .fieldLink RX4 13 "DraftSurveyModel" "table" "[J", .methodLink RX4 96 yX4_quotient, .static yX4_quotient, .code yX4_quotient cX4_quotient 6 (some .long)] ++ wsX40)
def wsX4_tableValue : List Cond := .code yX4_tableValue cX4_tableValue 3 (some .long) :: ([.constantLong RX4 100 (3), .constantLong RX4 94 (-9000000000000000002), .constantLong RX4 110 (-9000000000000000007), .methodLink RX4 41 yX4_within, .static yX4_within, .initialized RX4, .code yX4_within cX4_within 6 (some .boolean), .methodLink RX4 102 yX4_isCovered, .instanceMethod yX4_isCovered, .selects RX4 yX4_isCovered yX4_isCovered, .code yX4_isCovered cX4_isCovered 3 (some .boolean), .fieldLink RX4 85 "DraftSurveyModel" "rows" "I", .methodLink RX4 88 yX4_cell, .instanceMethod yX4_cell, .selects RX4 yX4_cell yX4_cell, .code yX4_cell cX4_cell 3 (some .long), .fieldLink RX4 13 "DraftSurveyModel" "table" "[J", .methodLink RX4 106 yX4_at, .instanceMethod yX4_at, .selects RX4 yX4_at yX4_at, .code yX4_at cX4_at 7 (some .long), .methodLink RX4 96 yX4_quotient, .static yX4_quotient, .code yX4_quotient cX4_quotient 6 (some .long)] ++ wsX40)
def wsX4_setLength : List Cond := .code yX4_setLength cX4_setLength 4 (some .long) :: ([.constantLong RX4 112 (10000), .constantLong RX4 114 (400000), .constantLong RX4 45 (-9000000000000000003), .fieldLink RX4 28 "DraftSurveyModel" "length" "J", .methodLink RX4 41 yX4_within, .static yX4_within, .initialized RX4, .code yX4_within cX4_within 6 (some .boolean)] ++ wsX40)
def wsX4_setMargin : List Cond := .code yX4_setMargin cX4_setMargin 4 (some .long) :: ([.constantLong RX4 116 (100), .constantLong RX4 45 (-9000000000000000003), .fieldLink RX4 118 "DraftSurveyModel" "margin" "J", .methodLink RX4 41 yX4_within, .static yX4_within, .initialized RX4, .code yX4_within cX4_within 6 (some .boolean)] ++ wsX40)
def wsX4_isSurvey : List Cond := .code yX4_isSurvey cX4_isSurvey 1 (some .boolean) :: ([.constantLong RX4 100 (3), .methodLink RX4 41 yX4_within, .static yX4_within, .initialized RX4, .code yX4_within cX4_within 6 (some .boolean)])
def wsX4_setReading : List Cond := .code yX4_setReading cX4_setReading 6 (some .long) :: ([.constantLong RX4 125 (-9000000000000000001), .constantLong RX4 127 (5), .constantLong RX4 94 (-9000000000000000002), .constantLong RX4 53 (30000), .constantLong RX4 45 (-9000000000000000003), .fieldLink RX4 17 "DraftSurveyModel" "readings" "[J", .methodLink RX4 121 yX4_isSurvey, .static yX4_isSurvey, .initialized RX4, .code yX4_isSurvey cX4_isSurvey 1 (some .boolean), .constantLong RX4 100 (3), .methodLink RX4 41 yX4_within, .static yX4_within, .code yX4_within cX4_within 6 (some .boolean)] ++ wsX40)
def wsX4_reading : List Cond := .code yX4_reading cX4_reading 3 (some .long) :: ([.constantLong RX4 125 (-9000000000000000001), .constantLong RX4 127 (5), .fieldLink RX4 17 "DraftSurveyModel" "readings" "[J", .constantLong RX4 94 (-9000000000000000002), .methodLink RX4 121 yX4_isSurvey, .static yX4_isSurvey, .initialized RX4, .code yX4_isSurvey cX4_isSurvey 1 (some .boolean), .constantLong RX4 100 (3), .methodLink RX4 41 yX4_within, .static yX4_within, .code yX4_within cX4_within 6 (some .boolean)] ++ wsX40)
def wsX4_setDensity : List Cond := .code yX4_setDensity cX4_setDensity 5 (some .long) :: ([.constantLong RX4 125 (-9000000000000000001), .constantLong RX4 129 (950), .constantLong RX4 131 (1050), .constantLong RX4 45 (-9000000000000000003), .fieldLink RX4 20 "DraftSurveyModel" "densities" "[J", .methodLink RX4 121 yX4_isSurvey, .static yX4_isSurvey, .initialized RX4, .code yX4_isSurvey cX4_isSurvey 1 (some .boolean), .constantLong RX4 100 (3), .methodLink RX4 41 yX4_within, .static yX4_within, .code yX4_within cX4_within 6 (some .boolean)] ++ wsX40)
def wsX4_setDeduction : List Cond := .code yX4_setDeduction cX4_setDeduction 6 (some .long) :: ([.constantLong RX4 125 (-9000000000000000001), .constantLong RX4 100 (3), .constantLong RX4 94 (-9000000000000000002), .constantLong RX4 55 (9999999), .constantLong RX4 45 (-9000000000000000003), .fieldLink RX4 23 "DraftSurveyModel" "deductions" "[J", .methodLink RX4 121 yX4_isSurvey, .static yX4_isSurvey, .initialized RX4, .code yX4_isSurvey cX4_isSurvey 1 (some .boolean), .methodLink RX4 41 yX4_within, .static yX4_within, .code yX4_within cX4_within 6 (some .boolean)] ++ wsX40)
def wsX4_mean : List Cond := .code yX4_mean cX4_mean 9 (some .long) :: ([.fieldLink RX4 17 "DraftSurveyModel" "readings" "[J", .constantLong RX4 133 (2), .methodLink RX4 96 yX4_quotient, .static yX4_quotient, .initialized RX4, .code yX4_quotient cX4_quotient 6 (some .long)] ++ wsX40)
def wsX4_trimOf : List Cond := .code yX4_trimOf cX4_trimOf 4 (some .long) :: ([.methodLink RX4 135 yX4_mean, .instanceMethod yX4_mean, .selects RX4 yX4_mean yX4_mean, .initialized RX4, .code yX4_mean cX4_mean 9 (some .long), .fieldLink RX4 17 "DraftSurveyModel" "readings" "[J", .constantLong RX4 133 (2), .methodLink RX4 96 yX4_quotient, .static yX4_quotient, .code yX4_quotient cX4_quotient 6 (some .long)] ++ wsX40)
def wsX4_quarter : List Cond := .code yX4_quarter cX4_quarter 4 (some .long) :: ([.constantLong RX4 139 (6), .constantLong RX4 141 (8), .methodLink RX4 135 yX4_mean, .instanceMethod yX4_mean, .selects RX4 yX4_mean yX4_mean, .initialized RX4, .code yX4_mean cX4_mean 9 (some .long), .fieldLink RX4 17 "DraftSurveyModel" "readings" "[J", .constantLong RX4 133 (2), .methodLink RX4 96 yX4_quotient, .static yX4_quotient, .code yX4_quotient cX4_quotient 6 (some .long)] ++ wsX40)
def wsX4_deflectionOf : List Cond := .code yX4_deflectionOf cX4_deflectionOf 2 (some .long) :: ([.constantLong RX4 133 (2), .methodLink RX4 135 yX4_mean, .instanceMethod yX4_mean, .selects RX4 yX4_mean yX4_mean, .initialized RX4, .code yX4_mean cX4_mean 9 (some .long), .fieldLink RX4 17 "DraftSurveyModel" "readings" "[J", .methodLink RX4 96 yX4_quotient, .static yX4_quotient, .code yX4_quotient cX4_quotient 6 (some .long)] ++ wsX40)
def wsX4_heelOf : List Cond := .code yX4_heelOf cX4_heelOf 2 (some .long) :: ([.fieldLink RX4 17 "DraftSurveyModel" "readings" "[J"] ++ wsX40)
def wsX4_trim : List Cond := .code yX4_trim cX4_trim 2 (some .long) :: ([.constantLong RX4 125 (-9000000000000000001), .methodLink RX4 121 yX4_isSurvey, .static yX4_isSurvey, .initialized RX4, .code yX4_isSurvey cX4_isSurvey 1 (some .boolean), .constantLong RX4 100 (3), .methodLink RX4 41 yX4_within, .static yX4_within, .code yX4_within cX4_within 6 (some .boolean), .methodLink RX4 143 yX4_trimOf, .instanceMethod yX4_trimOf, .selects RX4 yX4_trimOf yX4_trimOf, .code yX4_trimOf cX4_trimOf 4 (some .long), .methodLink RX4 135 yX4_mean, .instanceMethod yX4_mean, .selects RX4 yX4_mean yX4_mean, .code yX4_mean cX4_mean 9 (some .long), .fieldLink RX4 17 "DraftSurveyModel" "readings" "[J", .constantLong RX4 133 (2), .methodLink RX4 96 yX4_quotient, .static yX4_quotient, .code yX4_quotient cX4_quotient 6 (some .long)] ++ wsX40)
def wsX4_deflection : List Cond := .code yX4_deflection cX4_deflection 2 (some .long) :: ([.constantLong RX4 125 (-9000000000000000001), .methodLink RX4 121 yX4_isSurvey, .static yX4_isSurvey, .initialized RX4, .code yX4_isSurvey cX4_isSurvey 1 (some .boolean), .constantLong RX4 100 (3), .methodLink RX4 41 yX4_within, .static yX4_within, .code yX4_within cX4_within 6 (some .boolean), .methodLink RX4 146 yX4_deflectionOf, .instanceMethod yX4_deflectionOf, .selects RX4 yX4_deflectionOf yX4_deflectionOf, .code yX4_deflectionOf cX4_deflectionOf 2 (some .long), .constantLong RX4 133 (2), .methodLink RX4 135 yX4_mean, .instanceMethod yX4_mean, .selects RX4 yX4_mean yX4_mean, .code yX4_mean cX4_mean 9 (some .long), .fieldLink RX4 17 "DraftSurveyModel" "readings" "[J", .methodLink RX4 96 yX4_quotient, .static yX4_quotient, .code yX4_quotient cX4_quotient 6 (some .long)] ++ wsX40)
def wsX4_heel : List Cond := .code yX4_heel cX4_heel 2 (some .long) :: ([.constantLong RX4 125 (-9000000000000000001), .methodLink RX4 121 yX4_isSurvey, .static yX4_isSurvey, .initialized RX4, .code yX4_isSurvey cX4_isSurvey 1 (some .boolean), .constantLong RX4 100 (3), .methodLink RX4 41 yX4_within, .static yX4_within, .code yX4_within cX4_within 6 (some .boolean), .methodLink RX4 149 yX4_heelOf, .instanceMethod yX4_heelOf, .selects RX4 yX4_heelOf yX4_heelOf, .code yX4_heelOf cX4_heelOf 2 (some .long), .fieldLink RX4 17 "DraftSurveyModel" "readings" "[J"] ++ wsX40)
def wsX4_quarterMean : List Cond := .code yX4_quarterMean cX4_quarterMean 2 (some .long) :: ([.constantLong RX4 125 (-9000000000000000001), .methodLink RX4 121 yX4_isSurvey, .static yX4_isSurvey, .initialized RX4, .code yX4_isSurvey cX4_isSurvey 1 (some .boolean), .constantLong RX4 100 (3), .methodLink RX4 41 yX4_within, .static yX4_within, .code yX4_within cX4_within 6 (some .boolean), .methodLink RX4 152 yX4_quarter, .instanceMethod yX4_quarter, .selects RX4 yX4_quarter yX4_quarter, .code yX4_quarter cX4_quarter 4 (some .long), .constantLong RX4 139 (6), .constantLong RX4 141 (8), .methodLink RX4 135 yX4_mean, .instanceMethod yX4_mean, .selects RX4 yX4_mean yX4_mean, .code yX4_mean cX4_mean 9 (some .long), .fieldLink RX4 17 "DraftSurveyModel" "readings" "[J", .constantLong RX4 133 (2), .methodLink RX4 96 yX4_quotient, .static yX4_quotient, .code yX4_quotient cX4_quotient 6 (some .long)] ++ wsX40)
def wsX4_isComputable_r1 : List Cond := [Cond.methodLink RX4 152 yX4_quarter, Cond.instanceMethod yX4_quarter, Cond.selects RX4 yX4_quarter yX4_quarter, Cond.initialized RX4, Cond.code yX4_quarter cX4_quarter 4 (some .long), Cond.constantLong RX4 139 (6), Cond.constantLong RX4 141 (8), Cond.methodLink RX4 135 yX4_mean, Cond.instanceMethod yX4_mean, Cond.selects RX4 yX4_mean yX4_mean, Cond.code yX4_mean cX4_mean 9 (some .long), Cond.fieldLink RX4 17 "DraftSurveyModel" "readings" "[J", Cond.constantLong RX4 133 (2), Cond.methodLink RX4 96 yX4_quotient, Cond.static yX4_quotient, Cond.code yX4_quotient cX4_quotient 6 (some .long), Cond.methodLink RX4 102 yX4_isCovered, Cond.instanceMethod yX4_isCovered, Cond.selects RX4 yX4_isCovered yX4_isCovered, Cond.code yX4_isCovered cX4_isCovered 3 (some .boolean), Cond.fieldLink RX4 85 "DraftSurveyModel" "rows" "I", Cond.methodLink RX4 88 yX4_cell, Cond.instanceMethod yX4_cell, Cond.selects RX4 yX4_cell yX4_cell]
def wsX4_isComputable_r2 : List Cond := [Cond.code yX4_cell cX4_cell 3 (some .long), Cond.fieldLink RX4 13 "DraftSurveyModel" "table" "[J", Cond.methodLink RX4 41 yX4_within, Cond.static yX4_within, Cond.code yX4_within cX4_within 6 (some .boolean)]
def wsX4_isComputable : List Cond := .code yX4_isComputable cX4_isComputable 4 (some .boolean) :: ((wsX4_isComputable_r1 ++ wsX4_isComputable_r2) ++ wsX40)
def wsX4_first_r1 : List Cond := [Cond.constantLong RX4 116 (100), Cond.fieldLink RX4 28 "DraftSurveyModel" "length" "J", Cond.methodLink RX4 152 yX4_quarter, Cond.instanceMethod yX4_quarter, Cond.selects RX4 yX4_quarter yX4_quarter, Cond.initialized RX4, Cond.code yX4_quarter cX4_quarter 4 (some .long), Cond.constantLong RX4 139 (6), Cond.constantLong RX4 141 (8), Cond.methodLink RX4 135 yX4_mean, Cond.instanceMethod yX4_mean, Cond.selects RX4 yX4_mean yX4_mean, Cond.code yX4_mean cX4_mean 9 (some .long), Cond.fieldLink RX4 17 "DraftSurveyModel" "readings" "[J", Cond.constantLong RX4 133 (2), Cond.methodLink RX4 96 yX4_quotient, Cond.static yX4_quotient, Cond.code yX4_quotient cX4_quotient 6 (some .long), Cond.methodLink RX4 143 yX4_trimOf, Cond.instanceMethod yX4_trimOf, Cond.selects RX4 yX4_trimOf yX4_trimOf, Cond.code yX4_trimOf cX4_trimOf 4 (some .long), Cond.methodLink RX4 106 yX4_at, Cond.instanceMethod yX4_at]
def wsX4_first_r2 : List Cond := [Cond.selects RX4 yX4_at yX4_at, Cond.code yX4_at cX4_at 7 (some .long), Cond.fieldLink RX4 85 "DraftSurveyModel" "rows" "I", Cond.methodLink RX4 88 yX4_cell, Cond.instanceMethod yX4_cell, Cond.selects RX4 yX4_cell yX4_cell, Cond.code yX4_cell cX4_cell 3 (some .long), Cond.fieldLink RX4 13 "DraftSurveyModel" "table" "[J"]
def wsX4_first : List Cond := .code yX4_first cX4_first 6 (some .long) :: ((wsX4_first_r1 ++ wsX4_first_r2) ++ wsX40)
def wsX4_second_r1 : List Cond := [Cond.constantLong RX4 155 (500), Cond.fieldLink RX4 85 "DraftSurveyModel" "rows" "I", Cond.constantLong RX4 157 (50), Cond.constantLong RX4 159 (1000), Cond.fieldLink RX4 28 "DraftSurveyModel" "length" "J", Cond.methodLink RX4 152 yX4_quarter, Cond.instanceMethod yX4_quarter, Cond.selects RX4 yX4_quarter yX4_quarter, Cond.initialized RX4, Cond.code yX4_quarter cX4_quarter 4 (some .long), Cond.constantLong RX4 139 (6), Cond.constantLong RX4 141 (8), Cond.methodLink RX4 135 yX4_mean, Cond.instanceMethod yX4_mean, Cond.selects RX4 yX4_mean yX4_mean, Cond.code yX4_mean cX4_mean 9 (some .long), Cond.fieldLink RX4 17 "DraftSurveyModel" "readings" "[J", Cond.constantLong RX4 133 (2), Cond.methodLink RX4 96 yX4_quotient, Cond.static yX4_quotient, Cond.code yX4_quotient cX4_quotient 6 (some .long), Cond.methodLink RX4 88 yX4_cell, Cond.instanceMethod yX4_cell, Cond.selects RX4 yX4_cell yX4_cell]
def wsX4_second_r2 : List Cond := [Cond.code yX4_cell cX4_cell 3 (some .long), Cond.fieldLink RX4 13 "DraftSurveyModel" "table" "[J", Cond.methodLink RX4 143 yX4_trimOf, Cond.instanceMethod yX4_trimOf, Cond.selects RX4 yX4_trimOf yX4_trimOf, Cond.code yX4_trimOf cX4_trimOf 4 (some .long), Cond.methodLink RX4 106 yX4_at, Cond.instanceMethod yX4_at, Cond.selects RX4 yX4_at yX4_at, Cond.code yX4_at cX4_at 7 (some .long)]
def wsX4_second : List Cond := .code yX4_second cX4_second 12 (some .long) :: ((wsX4_second_r1 ++ wsX4_second_r2) ++ wsX40)
def wsX4_displaced_r1 : List Cond := [Cond.fieldLink RX4 20 "DraftSurveyModel" "densities" "[J", Cond.constantLong RX4 35 (1025), Cond.methodLink RX4 152 yX4_quarter, Cond.instanceMethod yX4_quarter, Cond.selects RX4 yX4_quarter yX4_quarter, Cond.initialized RX4, Cond.code yX4_quarter cX4_quarter 4 (some .long), Cond.constantLong RX4 139 (6), Cond.constantLong RX4 141 (8), Cond.methodLink RX4 135 yX4_mean, Cond.instanceMethod yX4_mean, Cond.selects RX4 yX4_mean yX4_mean, Cond.code yX4_mean cX4_mean 9 (some .long), Cond.fieldLink RX4 17 "DraftSurveyModel" "readings" "[J", Cond.constantLong RX4 133 (2), Cond.methodLink RX4 96 yX4_quotient, Cond.static yX4_quotient, Cond.code yX4_quotient cX4_quotient 6 (some .long), Cond.methodLink RX4 106 yX4_at, Cond.instanceMethod yX4_at, Cond.selects RX4 yX4_at yX4_at, Cond.code yX4_at cX4_at 7 (some .long), Cond.fieldLink RX4 85 "DraftSurveyModel" "rows" "I", Cond.methodLink RX4 88 yX4_cell]
def wsX4_displaced_r2 : List Cond := [Cond.instanceMethod yX4_cell, Cond.selects RX4 yX4_cell yX4_cell, Cond.code yX4_cell cX4_cell 3 (some .long), Cond.fieldLink RX4 13 "DraftSurveyModel" "table" "[J", Cond.methodLink RX4 161 yX4_first, Cond.instanceMethod yX4_first, Cond.selects RX4 yX4_first yX4_first, Cond.code yX4_first cX4_first 6 (some .long), Cond.constantLong RX4 116 (100), Cond.fieldLink RX4 28 "DraftSurveyModel" "length" "J", Cond.methodLink RX4 143 yX4_trimOf, Cond.instanceMethod yX4_trimOf, Cond.selects RX4 yX4_trimOf yX4_trimOf, Cond.code yX4_trimOf cX4_trimOf 4 (some .long), Cond.methodLink RX4 164 yX4_second, Cond.instanceMethod yX4_second, Cond.selects RX4 yX4_second yX4_second, Cond.code yX4_second cX4_second 12 (some .long), Cond.constantLong RX4 155 (500), Cond.constantLong RX4 157 (50), Cond.constantLong RX4 159 (1000)]
def wsX4_displaced : List Cond := .code yX4_displaced cX4_displaced 6 (some .long) :: ((wsX4_displaced_r1 ++ wsX4_displaced_r2) ++ wsX40)
def wsX4_net_r1 : List Cond := [Cond.fieldLink RX4 23 "DraftSurveyModel" "deductions" "[J", Cond.methodLink RX4 167 yX4_displaced, Cond.instanceMethod yX4_displaced, Cond.selects RX4 yX4_displaced yX4_displaced, Cond.initialized RX4, Cond.code yX4_displaced cX4_displaced 6 (some .long), Cond.fieldLink RX4 20 "DraftSurveyModel" "densities" "[J", Cond.constantLong RX4 35 (1025), Cond.methodLink RX4 152 yX4_quarter, Cond.instanceMethod yX4_quarter, Cond.selects RX4 yX4_quarter yX4_quarter, Cond.code yX4_quarter cX4_quarter 4 (some .long), Cond.constantLong RX4 139 (6), Cond.constantLong RX4 141 (8), Cond.methodLink RX4 135 yX4_mean, Cond.instanceMethod yX4_mean, Cond.selects RX4 yX4_mean yX4_mean, Cond.code yX4_mean cX4_mean 9 (some .long), Cond.fieldLink RX4 17 "DraftSurveyModel" "readings" "[J", Cond.constantLong RX4 133 (2), Cond.methodLink RX4 96 yX4_quotient, Cond.static yX4_quotient, Cond.code yX4_quotient cX4_quotient 6 (some .long), Cond.methodLink RX4 106 yX4_at]
def wsX4_net_r2 : List Cond := [Cond.instanceMethod yX4_at, Cond.selects RX4 yX4_at yX4_at, Cond.code yX4_at cX4_at 7 (some .long), Cond.fieldLink RX4 85 "DraftSurveyModel" "rows" "I", Cond.methodLink RX4 88 yX4_cell, Cond.instanceMethod yX4_cell, Cond.selects RX4 yX4_cell yX4_cell, Cond.code yX4_cell cX4_cell 3 (some .long), Cond.fieldLink RX4 13 "DraftSurveyModel" "table" "[J", Cond.methodLink RX4 161 yX4_first, Cond.instanceMethod yX4_first, Cond.selects RX4 yX4_first yX4_first, Cond.code yX4_first cX4_first 6 (some .long), Cond.constantLong RX4 116 (100), Cond.fieldLink RX4 28 "DraftSurveyModel" "length" "J", Cond.methodLink RX4 143 yX4_trimOf, Cond.instanceMethod yX4_trimOf, Cond.selects RX4 yX4_trimOf yX4_trimOf, Cond.code yX4_trimOf cX4_trimOf 4 (some .long), Cond.methodLink RX4 164 yX4_second, Cond.instanceMethod yX4_second, Cond.selects RX4 yX4_second yX4_second, Cond.code yX4_second cX4_second 12 (some .long), Cond.constantLong RX4 155 (500)]
def wsX4_net_r3 : List Cond := [Cond.constantLong RX4 157 (50), Cond.constantLong RX4 159 (1000)]
def wsX4_net : List Cond := .code yX4_net cX4_net 7 (some .long) :: ((wsX4_net_r1 ++ (wsX4_net_r2 ++ wsX4_net_r3)) ++ wsX40)
def wsX4_firstTold_r1 : List Cond := [Cond.constantLong RX4 110 (-9000000000000000007), Cond.methodLink RX4 170 yX4_isComputable, Cond.instanceMethod yX4_isComputable, Cond.selects RX4 yX4_isComputable yX4_isComputable, Cond.initialized RX4, Cond.code yX4_isComputable cX4_isComputable 4 (some .boolean), Cond.methodLink RX4 152 yX4_quarter, Cond.instanceMethod yX4_quarter, Cond.selects RX4 yX4_quarter yX4_quarter, Cond.code yX4_quarter cX4_quarter 4 (some .long), Cond.constantLong RX4 139 (6), Cond.constantLong RX4 141 (8), Cond.methodLink RX4 135 yX4_mean, Cond.instanceMethod yX4_mean, Cond.selects RX4 yX4_mean yX4_mean, Cond.code yX4_mean cX4_mean 9 (some .long), Cond.fieldLink RX4 17 "DraftSurveyModel" "readings" "[J", Cond.constantLong RX4 133 (2), Cond.methodLink RX4 96 yX4_quotient, Cond.static yX4_quotient, Cond.code yX4_quotient cX4_quotient 6 (some .long), Cond.methodLink RX4 102 yX4_isCovered, Cond.instanceMethod yX4_isCovered, Cond.selects RX4 yX4_isCovered yX4_isCovered]
def wsX4_firstTold_r2 : List Cond := [Cond.code yX4_isCovered cX4_isCovered 3 (some .boolean), Cond.fieldLink RX4 85 "DraftSurveyModel" "rows" "I", Cond.methodLink RX4 88 yX4_cell, Cond.instanceMethod yX4_cell, Cond.selects RX4 yX4_cell yX4_cell, Cond.code yX4_cell cX4_cell 3 (some .long), Cond.fieldLink RX4 13 "DraftSurveyModel" "table" "[J", Cond.methodLink RX4 41 yX4_within, Cond.static yX4_within, Cond.code yX4_within cX4_within 6 (some .boolean), Cond.methodLink RX4 161 yX4_first, Cond.instanceMethod yX4_first, Cond.selects RX4 yX4_first yX4_first, Cond.code yX4_first cX4_first 6 (some .long), Cond.constantLong RX4 116 (100), Cond.fieldLink RX4 28 "DraftSurveyModel" "length" "J", Cond.methodLink RX4 143 yX4_trimOf, Cond.instanceMethod yX4_trimOf, Cond.selects RX4 yX4_trimOf yX4_trimOf, Cond.code yX4_trimOf cX4_trimOf 4 (some .long), Cond.methodLink RX4 106 yX4_at, Cond.instanceMethod yX4_at, Cond.selects RX4 yX4_at yX4_at, Cond.code yX4_at cX4_at 7 (some .long)]
def wsX4_firstTold : List Cond := .code yX4_firstTold cX4_firstTold 2 (some .long) :: ((wsX4_firstTold_r1 ++ wsX4_firstTold_r2) ++ wsX40)
def wsX4_secondTold_r1 : List Cond := [Cond.constantLong RX4 110 (-9000000000000000007), Cond.methodLink RX4 170 yX4_isComputable, Cond.instanceMethod yX4_isComputable, Cond.selects RX4 yX4_isComputable yX4_isComputable, Cond.initialized RX4, Cond.code yX4_isComputable cX4_isComputable 4 (some .boolean), Cond.methodLink RX4 152 yX4_quarter, Cond.instanceMethod yX4_quarter, Cond.selects RX4 yX4_quarter yX4_quarter, Cond.code yX4_quarter cX4_quarter 4 (some .long), Cond.constantLong RX4 139 (6), Cond.constantLong RX4 141 (8), Cond.methodLink RX4 135 yX4_mean, Cond.instanceMethod yX4_mean, Cond.selects RX4 yX4_mean yX4_mean, Cond.code yX4_mean cX4_mean 9 (some .long), Cond.fieldLink RX4 17 "DraftSurveyModel" "readings" "[J", Cond.constantLong RX4 133 (2), Cond.methodLink RX4 96 yX4_quotient, Cond.static yX4_quotient, Cond.code yX4_quotient cX4_quotient 6 (some .long), Cond.methodLink RX4 102 yX4_isCovered, Cond.instanceMethod yX4_isCovered, Cond.selects RX4 yX4_isCovered yX4_isCovered]
def wsX4_secondTold_r2 : List Cond := [Cond.code yX4_isCovered cX4_isCovered 3 (some .boolean), Cond.fieldLink RX4 85 "DraftSurveyModel" "rows" "I", Cond.methodLink RX4 88 yX4_cell, Cond.instanceMethod yX4_cell, Cond.selects RX4 yX4_cell yX4_cell, Cond.code yX4_cell cX4_cell 3 (some .long), Cond.fieldLink RX4 13 "DraftSurveyModel" "table" "[J", Cond.methodLink RX4 41 yX4_within, Cond.static yX4_within, Cond.code yX4_within cX4_within 6 (some .boolean), Cond.methodLink RX4 164 yX4_second, Cond.instanceMethod yX4_second, Cond.selects RX4 yX4_second yX4_second, Cond.code yX4_second cX4_second 12 (some .long), Cond.constantLong RX4 155 (500), Cond.constantLong RX4 157 (50), Cond.constantLong RX4 159 (1000), Cond.fieldLink RX4 28 "DraftSurveyModel" "length" "J", Cond.methodLink RX4 143 yX4_trimOf, Cond.instanceMethod yX4_trimOf, Cond.selects RX4 yX4_trimOf yX4_trimOf, Cond.code yX4_trimOf cX4_trimOf 4 (some .long), Cond.methodLink RX4 106 yX4_at, Cond.instanceMethod yX4_at]
def wsX4_secondTold_r3 : List Cond := [Cond.selects RX4 yX4_at yX4_at, Cond.code yX4_at cX4_at 7 (some .long)]
def wsX4_secondTold : List Cond := .code yX4_secondTold cX4_secondTold 2 (some .long) :: ((wsX4_secondTold_r1 ++ (wsX4_secondTold_r2 ++ wsX4_secondTold_r3)) ++ wsX40)
def wsX4_displacedTold_r1 : List Cond := [Cond.constantLong RX4 110 (-9000000000000000007), Cond.methodLink RX4 170 yX4_isComputable, Cond.instanceMethod yX4_isComputable, Cond.selects RX4 yX4_isComputable yX4_isComputable, Cond.initialized RX4, Cond.code yX4_isComputable cX4_isComputable 4 (some .boolean), Cond.methodLink RX4 152 yX4_quarter, Cond.instanceMethod yX4_quarter, Cond.selects RX4 yX4_quarter yX4_quarter, Cond.code yX4_quarter cX4_quarter 4 (some .long), Cond.constantLong RX4 139 (6), Cond.constantLong RX4 141 (8), Cond.methodLink RX4 135 yX4_mean, Cond.instanceMethod yX4_mean, Cond.selects RX4 yX4_mean yX4_mean, Cond.code yX4_mean cX4_mean 9 (some .long), Cond.fieldLink RX4 17 "DraftSurveyModel" "readings" "[J", Cond.constantLong RX4 133 (2), Cond.methodLink RX4 96 yX4_quotient, Cond.static yX4_quotient, Cond.code yX4_quotient cX4_quotient 6 (some .long), Cond.methodLink RX4 102 yX4_isCovered, Cond.instanceMethod yX4_isCovered, Cond.selects RX4 yX4_isCovered yX4_isCovered]
def wsX4_displacedTold_r2 : List Cond := [Cond.code yX4_isCovered cX4_isCovered 3 (some .boolean), Cond.fieldLink RX4 85 "DraftSurveyModel" "rows" "I", Cond.methodLink RX4 88 yX4_cell, Cond.instanceMethod yX4_cell, Cond.selects RX4 yX4_cell yX4_cell, Cond.code yX4_cell cX4_cell 3 (some .long), Cond.fieldLink RX4 13 "DraftSurveyModel" "table" "[J", Cond.methodLink RX4 41 yX4_within, Cond.static yX4_within, Cond.code yX4_within cX4_within 6 (some .boolean), Cond.methodLink RX4 167 yX4_displaced, Cond.instanceMethod yX4_displaced, Cond.selects RX4 yX4_displaced yX4_displaced, Cond.code yX4_displaced cX4_displaced 6 (some .long), Cond.fieldLink RX4 20 "DraftSurveyModel" "densities" "[J", Cond.constantLong RX4 35 (1025), Cond.methodLink RX4 106 yX4_at, Cond.instanceMethod yX4_at, Cond.selects RX4 yX4_at yX4_at, Cond.code yX4_at cX4_at 7 (some .long), Cond.methodLink RX4 161 yX4_first, Cond.instanceMethod yX4_first, Cond.selects RX4 yX4_first yX4_first, Cond.code yX4_first cX4_first 6 (some .long)]
def wsX4_displacedTold_r3 : List Cond := [Cond.constantLong RX4 116 (100), Cond.fieldLink RX4 28 "DraftSurveyModel" "length" "J", Cond.methodLink RX4 143 yX4_trimOf, Cond.instanceMethod yX4_trimOf, Cond.selects RX4 yX4_trimOf yX4_trimOf, Cond.code yX4_trimOf cX4_trimOf 4 (some .long), Cond.methodLink RX4 164 yX4_second, Cond.instanceMethod yX4_second, Cond.selects RX4 yX4_second yX4_second, Cond.code yX4_second cX4_second 12 (some .long), Cond.constantLong RX4 155 (500), Cond.constantLong RX4 157 (50), Cond.constantLong RX4 159 (1000)]
def wsX4_displacedTold : List Cond := .code yX4_displacedTold cX4_displacedTold 4 (some .long) :: ((wsX4_displacedTold_r1 ++ (wsX4_displacedTold_r2 ++ wsX4_displacedTold_r3)) ++ wsX40)
def wsX4_netTold_r1 : List Cond := [Cond.constantLong RX4 110 (-9000000000000000007), Cond.methodLink RX4 170 yX4_isComputable, Cond.instanceMethod yX4_isComputable, Cond.selects RX4 yX4_isComputable yX4_isComputable, Cond.initialized RX4, Cond.code yX4_isComputable cX4_isComputable 4 (some .boolean), Cond.methodLink RX4 152 yX4_quarter, Cond.instanceMethod yX4_quarter, Cond.selects RX4 yX4_quarter yX4_quarter, Cond.code yX4_quarter cX4_quarter 4 (some .long), Cond.constantLong RX4 139 (6), Cond.constantLong RX4 141 (8), Cond.methodLink RX4 135 yX4_mean, Cond.instanceMethod yX4_mean, Cond.selects RX4 yX4_mean yX4_mean, Cond.code yX4_mean cX4_mean 9 (some .long), Cond.fieldLink RX4 17 "DraftSurveyModel" "readings" "[J", Cond.constantLong RX4 133 (2), Cond.methodLink RX4 96 yX4_quotient, Cond.static yX4_quotient, Cond.code yX4_quotient cX4_quotient 6 (some .long), Cond.methodLink RX4 102 yX4_isCovered, Cond.instanceMethod yX4_isCovered, Cond.selects RX4 yX4_isCovered yX4_isCovered]
def wsX4_netTold_r2 : List Cond := [Cond.code yX4_isCovered cX4_isCovered 3 (some .boolean), Cond.fieldLink RX4 85 "DraftSurveyModel" "rows" "I", Cond.methodLink RX4 88 yX4_cell, Cond.instanceMethod yX4_cell, Cond.selects RX4 yX4_cell yX4_cell, Cond.code yX4_cell cX4_cell 3 (some .long), Cond.fieldLink RX4 13 "DraftSurveyModel" "table" "[J", Cond.methodLink RX4 41 yX4_within, Cond.static yX4_within, Cond.code yX4_within cX4_within 6 (some .boolean), Cond.methodLink RX4 174 yX4_net, Cond.instanceMethod yX4_net, Cond.selects RX4 yX4_net yX4_net, Cond.code yX4_net cX4_net 7 (some .long), Cond.fieldLink RX4 23 "DraftSurveyModel" "deductions" "[J", Cond.methodLink RX4 167 yX4_displaced, Cond.instanceMethod yX4_displaced, Cond.selects RX4 yX4_displaced yX4_displaced, Cond.code yX4_displaced cX4_displaced 6 (some .long), Cond.fieldLink RX4 20 "DraftSurveyModel" "densities" "[J", Cond.constantLong RX4 35 (1025), Cond.methodLink RX4 106 yX4_at, Cond.instanceMethod yX4_at, Cond.selects RX4 yX4_at yX4_at]
def wsX4_netTold_r3 : List Cond := [Cond.code yX4_at cX4_at 7 (some .long), Cond.methodLink RX4 161 yX4_first, Cond.instanceMethod yX4_first, Cond.selects RX4 yX4_first yX4_first, Cond.code yX4_first cX4_first 6 (some .long), Cond.constantLong RX4 116 (100), Cond.fieldLink RX4 28 "DraftSurveyModel" "length" "J", Cond.methodLink RX4 143 yX4_trimOf, Cond.instanceMethod yX4_trimOf, Cond.selects RX4 yX4_trimOf yX4_trimOf, Cond.code yX4_trimOf cX4_trimOf 4 (some .long), Cond.methodLink RX4 164 yX4_second, Cond.instanceMethod yX4_second, Cond.selects RX4 yX4_second yX4_second, Cond.code yX4_second cX4_second 12 (some .long), Cond.constantLong RX4 155 (500), Cond.constantLong RX4 157 (50), Cond.constantLong RX4 159 (1000)]
def wsX4_netTold : List Cond := .code yX4_netTold cX4_netTold 2 (some .long) :: ((wsX4_netTold_r1 ++ (wsX4_netTold_r2 ++ wsX4_netTold_r3)) ++ wsX40)
def wsX4_firstCorrection_r1 : List Cond := [Cond.constantLong RX4 125 (-9000000000000000001), Cond.methodLink RX4 121 yX4_isSurvey, Cond.static yX4_isSurvey, Cond.initialized RX4, Cond.code yX4_isSurvey cX4_isSurvey 1 (some .boolean), Cond.constantLong RX4 100 (3), Cond.methodLink RX4 41 yX4_within, Cond.static yX4_within, Cond.code yX4_within cX4_within 6 (some .boolean), Cond.methodLink RX4 177 yX4_firstTold, Cond.instanceMethod yX4_firstTold, Cond.selects RX4 yX4_firstTold yX4_firstTold, Cond.code yX4_firstTold cX4_firstTold 2 (some .long), Cond.constantLong RX4 110 (-9000000000000000007), Cond.methodLink RX4 170 yX4_isComputable, Cond.instanceMethod yX4_isComputable, Cond.selects RX4 yX4_isComputable yX4_isComputable, Cond.code yX4_isComputable cX4_isComputable 4 (some .boolean), Cond.methodLink RX4 152 yX4_quarter, Cond.instanceMethod yX4_quarter, Cond.selects RX4 yX4_quarter yX4_quarter, Cond.code yX4_quarter cX4_quarter 4 (some .long), Cond.constantLong RX4 139 (6), Cond.constantLong RX4 141 (8)]
def wsX4_firstCorrection_r2 : List Cond := [Cond.methodLink RX4 135 yX4_mean, Cond.instanceMethod yX4_mean, Cond.selects RX4 yX4_mean yX4_mean, Cond.code yX4_mean cX4_mean 9 (some .long), Cond.fieldLink RX4 17 "DraftSurveyModel" "readings" "[J", Cond.constantLong RX4 133 (2), Cond.methodLink RX4 96 yX4_quotient, Cond.static yX4_quotient, Cond.code yX4_quotient cX4_quotient 6 (some .long), Cond.methodLink RX4 102 yX4_isCovered, Cond.instanceMethod yX4_isCovered, Cond.selects RX4 yX4_isCovered yX4_isCovered, Cond.code yX4_isCovered cX4_isCovered 3 (some .boolean), Cond.fieldLink RX4 85 "DraftSurveyModel" "rows" "I", Cond.methodLink RX4 88 yX4_cell, Cond.instanceMethod yX4_cell, Cond.selects RX4 yX4_cell yX4_cell, Cond.code yX4_cell cX4_cell 3 (some .long), Cond.fieldLink RX4 13 "DraftSurveyModel" "table" "[J", Cond.methodLink RX4 161 yX4_first, Cond.instanceMethod yX4_first, Cond.selects RX4 yX4_first yX4_first, Cond.code yX4_first cX4_first 6 (some .long), Cond.constantLong RX4 116 (100)]
def wsX4_firstCorrection_r3 : List Cond := [Cond.fieldLink RX4 28 "DraftSurveyModel" "length" "J", Cond.methodLink RX4 143 yX4_trimOf, Cond.instanceMethod yX4_trimOf, Cond.selects RX4 yX4_trimOf yX4_trimOf, Cond.code yX4_trimOf cX4_trimOf 4 (some .long), Cond.methodLink RX4 106 yX4_at, Cond.instanceMethod yX4_at, Cond.selects RX4 yX4_at yX4_at, Cond.code yX4_at cX4_at 7 (some .long)]
def wsX4_firstCorrection : List Cond := .code yX4_firstCorrection cX4_firstCorrection 2 (some .long) :: ((wsX4_firstCorrection_r1 ++ (wsX4_firstCorrection_r2 ++ wsX4_firstCorrection_r3)) ++ wsX40)
def wsX4_secondCorrection_r1 : List Cond := [Cond.constantLong RX4 125 (-9000000000000000001), Cond.methodLink RX4 121 yX4_isSurvey, Cond.static yX4_isSurvey, Cond.initialized RX4, Cond.code yX4_isSurvey cX4_isSurvey 1 (some .boolean), Cond.constantLong RX4 100 (3), Cond.methodLink RX4 41 yX4_within, Cond.static yX4_within, Cond.code yX4_within cX4_within 6 (some .boolean), Cond.methodLink RX4 180 yX4_secondTold, Cond.instanceMethod yX4_secondTold, Cond.selects RX4 yX4_secondTold yX4_secondTold, Cond.code yX4_secondTold cX4_secondTold 2 (some .long), Cond.constantLong RX4 110 (-9000000000000000007), Cond.methodLink RX4 170 yX4_isComputable, Cond.instanceMethod yX4_isComputable, Cond.selects RX4 yX4_isComputable yX4_isComputable, Cond.code yX4_isComputable cX4_isComputable 4 (some .boolean), Cond.methodLink RX4 152 yX4_quarter, Cond.instanceMethod yX4_quarter, Cond.selects RX4 yX4_quarter yX4_quarter, Cond.code yX4_quarter cX4_quarter 4 (some .long), Cond.constantLong RX4 139 (6), Cond.constantLong RX4 141 (8)]
def wsX4_secondCorrection_r2 : List Cond := [Cond.methodLink RX4 135 yX4_mean, Cond.instanceMethod yX4_mean, Cond.selects RX4 yX4_mean yX4_mean, Cond.code yX4_mean cX4_mean 9 (some .long), Cond.fieldLink RX4 17 "DraftSurveyModel" "readings" "[J", Cond.constantLong RX4 133 (2), Cond.methodLink RX4 96 yX4_quotient, Cond.static yX4_quotient, Cond.code yX4_quotient cX4_quotient 6 (some .long), Cond.methodLink RX4 102 yX4_isCovered, Cond.instanceMethod yX4_isCovered, Cond.selects RX4 yX4_isCovered yX4_isCovered, Cond.code yX4_isCovered cX4_isCovered 3 (some .boolean), Cond.fieldLink RX4 85 "DraftSurveyModel" "rows" "I", Cond.methodLink RX4 88 yX4_cell, Cond.instanceMethod yX4_cell, Cond.selects RX4 yX4_cell yX4_cell, Cond.code yX4_cell cX4_cell 3 (some .long), Cond.fieldLink RX4 13 "DraftSurveyModel" "table" "[J", Cond.methodLink RX4 164 yX4_second, Cond.instanceMethod yX4_second, Cond.selects RX4 yX4_second yX4_second, Cond.code yX4_second cX4_second 12 (some .long), Cond.constantLong RX4 155 (500)]
def wsX4_secondCorrection_r3 : List Cond := [Cond.constantLong RX4 157 (50), Cond.constantLong RX4 159 (1000), Cond.fieldLink RX4 28 "DraftSurveyModel" "length" "J", Cond.methodLink RX4 143 yX4_trimOf, Cond.instanceMethod yX4_trimOf, Cond.selects RX4 yX4_trimOf yX4_trimOf, Cond.code yX4_trimOf cX4_trimOf 4 (some .long), Cond.methodLink RX4 106 yX4_at, Cond.instanceMethod yX4_at, Cond.selects RX4 yX4_at yX4_at, Cond.code yX4_at cX4_at 7 (some .long)]
def wsX4_secondCorrection : List Cond := .code yX4_secondCorrection cX4_secondCorrection 2 (some .long) :: ((wsX4_secondCorrection_r1 ++ (wsX4_secondCorrection_r2 ++ wsX4_secondCorrection_r3)) ++ wsX40)
def wsX4_displacement_r1 : List Cond := [Cond.constantLong RX4 125 (-9000000000000000001), Cond.constantLong RX4 183 (-1000), Cond.constantLong RX4 159 (1000), Cond.constantLong RX4 45 (-9000000000000000003), Cond.methodLink RX4 121 yX4_isSurvey, Cond.static yX4_isSurvey, Cond.initialized RX4, Cond.code yX4_isSurvey cX4_isSurvey 1 (some .boolean), Cond.constantLong RX4 100 (3), Cond.methodLink RX4 41 yX4_within, Cond.static yX4_within, Cond.code yX4_within cX4_within 6 (some .boolean), Cond.methodLink RX4 185 yX4_displacedTold, Cond.instanceMethod yX4_displacedTold, Cond.selects RX4 yX4_displacedTold yX4_displacedTold, Cond.code yX4_displacedTold cX4_displacedTold 4 (some .long), Cond.constantLong RX4 110 (-9000000000000000007), Cond.methodLink RX4 170 yX4_isComputable, Cond.instanceMethod yX4_isComputable, Cond.selects RX4 yX4_isComputable yX4_isComputable, Cond.code yX4_isComputable cX4_isComputable 4 (some .boolean), Cond.methodLink RX4 152 yX4_quarter, Cond.instanceMethod yX4_quarter, Cond.selects RX4 yX4_quarter yX4_quarter]
def wsX4_displacement_r2 : List Cond := [Cond.code yX4_quarter cX4_quarter 4 (some .long), Cond.constantLong RX4 139 (6), Cond.constantLong RX4 141 (8), Cond.methodLink RX4 135 yX4_mean, Cond.instanceMethod yX4_mean, Cond.selects RX4 yX4_mean yX4_mean, Cond.code yX4_mean cX4_mean 9 (some .long), Cond.fieldLink RX4 17 "DraftSurveyModel" "readings" "[J", Cond.constantLong RX4 133 (2), Cond.methodLink RX4 96 yX4_quotient, Cond.static yX4_quotient, Cond.code yX4_quotient cX4_quotient 6 (some .long), Cond.methodLink RX4 102 yX4_isCovered, Cond.instanceMethod yX4_isCovered, Cond.selects RX4 yX4_isCovered yX4_isCovered, Cond.code yX4_isCovered cX4_isCovered 3 (some .boolean), Cond.fieldLink RX4 85 "DraftSurveyModel" "rows" "I", Cond.methodLink RX4 88 yX4_cell, Cond.instanceMethod yX4_cell, Cond.selects RX4 yX4_cell yX4_cell, Cond.code yX4_cell cX4_cell 3 (some .long), Cond.fieldLink RX4 13 "DraftSurveyModel" "table" "[J", Cond.methodLink RX4 167 yX4_displaced, Cond.instanceMethod yX4_displaced]
def wsX4_displacement_r3 : List Cond := [Cond.selects RX4 yX4_displaced yX4_displaced, Cond.code yX4_displaced cX4_displaced 6 (some .long), Cond.fieldLink RX4 20 "DraftSurveyModel" "densities" "[J", Cond.constantLong RX4 35 (1025), Cond.methodLink RX4 106 yX4_at, Cond.instanceMethod yX4_at, Cond.selects RX4 yX4_at yX4_at, Cond.code yX4_at cX4_at 7 (some .long), Cond.methodLink RX4 161 yX4_first, Cond.instanceMethod yX4_first, Cond.selects RX4 yX4_first yX4_first, Cond.code yX4_first cX4_first 6 (some .long), Cond.constantLong RX4 116 (100), Cond.fieldLink RX4 28 "DraftSurveyModel" "length" "J", Cond.methodLink RX4 143 yX4_trimOf, Cond.instanceMethod yX4_trimOf, Cond.selects RX4 yX4_trimOf yX4_trimOf, Cond.code yX4_trimOf cX4_trimOf 4 (some .long), Cond.methodLink RX4 164 yX4_second, Cond.instanceMethod yX4_second, Cond.selects RX4 yX4_second yX4_second, Cond.code yX4_second cX4_second 12 (some .long), Cond.constantLong RX4 155 (500), Cond.constantLong RX4 157 (50)]
def wsX4_displacement : List Cond := .code yX4_displacement cX4_displacement 3 (some .long) :: ((wsX4_displacement_r1 ++ (wsX4_displacement_r2 ++ wsX4_displacement_r3)) ++ wsX40)
def wsX4_netWeight_r1 : List Cond := [Cond.constantLong RX4 125 (-9000000000000000001), Cond.methodLink RX4 121 yX4_isSurvey, Cond.static yX4_isSurvey, Cond.initialized RX4, Cond.code yX4_isSurvey cX4_isSurvey 1 (some .boolean), Cond.constantLong RX4 100 (3), Cond.methodLink RX4 41 yX4_within, Cond.static yX4_within, Cond.code yX4_within cX4_within 6 (some .boolean), Cond.methodLink RX4 188 yX4_netTold, Cond.instanceMethod yX4_netTold, Cond.selects RX4 yX4_netTold yX4_netTold, Cond.code yX4_netTold cX4_netTold 2 (some .long), Cond.constantLong RX4 110 (-9000000000000000007), Cond.methodLink RX4 170 yX4_isComputable, Cond.instanceMethod yX4_isComputable, Cond.selects RX4 yX4_isComputable yX4_isComputable, Cond.code yX4_isComputable cX4_isComputable 4 (some .boolean), Cond.methodLink RX4 152 yX4_quarter, Cond.instanceMethod yX4_quarter, Cond.selects RX4 yX4_quarter yX4_quarter, Cond.code yX4_quarter cX4_quarter 4 (some .long), Cond.constantLong RX4 139 (6), Cond.constantLong RX4 141 (8)]
def wsX4_netWeight_r2 : List Cond := [Cond.methodLink RX4 135 yX4_mean, Cond.instanceMethod yX4_mean, Cond.selects RX4 yX4_mean yX4_mean, Cond.code yX4_mean cX4_mean 9 (some .long), Cond.fieldLink RX4 17 "DraftSurveyModel" "readings" "[J", Cond.constantLong RX4 133 (2), Cond.methodLink RX4 96 yX4_quotient, Cond.static yX4_quotient, Cond.code yX4_quotient cX4_quotient 6 (some .long), Cond.methodLink RX4 102 yX4_isCovered, Cond.instanceMethod yX4_isCovered, Cond.selects RX4 yX4_isCovered yX4_isCovered, Cond.code yX4_isCovered cX4_isCovered 3 (some .boolean), Cond.fieldLink RX4 85 "DraftSurveyModel" "rows" "I", Cond.methodLink RX4 88 yX4_cell, Cond.instanceMethod yX4_cell, Cond.selects RX4 yX4_cell yX4_cell, Cond.code yX4_cell cX4_cell 3 (some .long), Cond.fieldLink RX4 13 "DraftSurveyModel" "table" "[J", Cond.methodLink RX4 174 yX4_net, Cond.instanceMethod yX4_net, Cond.selects RX4 yX4_net yX4_net, Cond.code yX4_net cX4_net 7 (some .long), Cond.fieldLink RX4 23 "DraftSurveyModel" "deductions" "[J"]
def wsX4_netWeight_r3 : List Cond := [Cond.methodLink RX4 167 yX4_displaced, Cond.instanceMethod yX4_displaced, Cond.selects RX4 yX4_displaced yX4_displaced, Cond.code yX4_displaced cX4_displaced 6 (some .long), Cond.fieldLink RX4 20 "DraftSurveyModel" "densities" "[J", Cond.constantLong RX4 35 (1025), Cond.methodLink RX4 106 yX4_at, Cond.instanceMethod yX4_at, Cond.selects RX4 yX4_at yX4_at, Cond.code yX4_at cX4_at 7 (some .long), Cond.methodLink RX4 161 yX4_first, Cond.instanceMethod yX4_first, Cond.selects RX4 yX4_first yX4_first, Cond.code yX4_first cX4_first 6 (some .long), Cond.constantLong RX4 116 (100), Cond.fieldLink RX4 28 "DraftSurveyModel" "length" "J", Cond.methodLink RX4 143 yX4_trimOf, Cond.instanceMethod yX4_trimOf, Cond.selects RX4 yX4_trimOf yX4_trimOf, Cond.code yX4_trimOf cX4_trimOf 4 (some .long), Cond.methodLink RX4 164 yX4_second, Cond.instanceMethod yX4_second, Cond.selects RX4 yX4_second yX4_second, Cond.code yX4_second cX4_second 12 (some .long)]
def wsX4_netWeight_r4 : List Cond := [Cond.constantLong RX4 155 (500), Cond.constantLong RX4 157 (50), Cond.constantLong RX4 159 (1000)]
def wsX4_netWeight : List Cond := .code yX4_netWeight cX4_netWeight 2 (some .long) :: ((wsX4_netWeight_r1 ++ (wsX4_netWeight_r2 ++ (wsX4_netWeight_r3 ++ wsX4_netWeight_r4))) ++ wsX40)
def wsX4_cargoTold_r1 : List Cond := [Cond.constantLong RX4 110 (-9000000000000000007), Cond.methodLink RX4 170 yX4_isComputable, Cond.instanceMethod yX4_isComputable, Cond.selects RX4 yX4_isComputable yX4_isComputable, Cond.initialized RX4, Cond.code yX4_isComputable cX4_isComputable 4 (some .boolean), Cond.methodLink RX4 152 yX4_quarter, Cond.instanceMethod yX4_quarter, Cond.selects RX4 yX4_quarter yX4_quarter, Cond.code yX4_quarter cX4_quarter 4 (some .long), Cond.constantLong RX4 139 (6), Cond.constantLong RX4 141 (8), Cond.methodLink RX4 135 yX4_mean, Cond.instanceMethod yX4_mean, Cond.selects RX4 yX4_mean yX4_mean, Cond.code yX4_mean cX4_mean 9 (some .long), Cond.fieldLink RX4 17 "DraftSurveyModel" "readings" "[J", Cond.constantLong RX4 133 (2), Cond.methodLink RX4 96 yX4_quotient, Cond.static yX4_quotient, Cond.code yX4_quotient cX4_quotient 6 (some .long), Cond.methodLink RX4 102 yX4_isCovered, Cond.instanceMethod yX4_isCovered, Cond.selects RX4 yX4_isCovered yX4_isCovered]
def wsX4_cargoTold_r2 : List Cond := [Cond.code yX4_isCovered cX4_isCovered 3 (some .boolean), Cond.fieldLink RX4 85 "DraftSurveyModel" "rows" "I", Cond.methodLink RX4 88 yX4_cell, Cond.instanceMethod yX4_cell, Cond.selects RX4 yX4_cell yX4_cell, Cond.code yX4_cell cX4_cell 3 (some .long), Cond.fieldLink RX4 13 "DraftSurveyModel" "table" "[J", Cond.methodLink RX4 41 yX4_within, Cond.static yX4_within, Cond.code yX4_within cX4_within 6 (some .boolean), Cond.methodLink RX4 174 yX4_net, Cond.instanceMethod yX4_net, Cond.selects RX4 yX4_net yX4_net, Cond.code yX4_net cX4_net 7 (some .long), Cond.fieldLink RX4 23 "DraftSurveyModel" "deductions" "[J", Cond.methodLink RX4 167 yX4_displaced, Cond.instanceMethod yX4_displaced, Cond.selects RX4 yX4_displaced yX4_displaced, Cond.code yX4_displaced cX4_displaced 6 (some .long), Cond.fieldLink RX4 20 "DraftSurveyModel" "densities" "[J", Cond.constantLong RX4 35 (1025), Cond.methodLink RX4 106 yX4_at, Cond.instanceMethod yX4_at, Cond.selects RX4 yX4_at yX4_at]
def wsX4_cargoTold_r3 : List Cond := [Cond.code yX4_at cX4_at 7 (some .long), Cond.methodLink RX4 161 yX4_first, Cond.instanceMethod yX4_first, Cond.selects RX4 yX4_first yX4_first, Cond.code yX4_first cX4_first 6 (some .long), Cond.constantLong RX4 116 (100), Cond.fieldLink RX4 28 "DraftSurveyModel" "length" "J", Cond.methodLink RX4 143 yX4_trimOf, Cond.instanceMethod yX4_trimOf, Cond.selects RX4 yX4_trimOf yX4_trimOf, Cond.code yX4_trimOf cX4_trimOf 4 (some .long), Cond.methodLink RX4 164 yX4_second, Cond.instanceMethod yX4_second, Cond.selects RX4 yX4_second yX4_second, Cond.code yX4_second cX4_second 12 (some .long), Cond.constantLong RX4 155 (500), Cond.constantLong RX4 157 (50), Cond.constantLong RX4 159 (1000)]
def wsX4_cargoTold : List Cond := .code yX4_cargoTold cX4_cargoTold 3 (some .long) :: ((wsX4_cargoTold_r1 ++ (wsX4_cargoTold_r2 ++ wsX4_cargoTold_r3)) ++ wsX40)
def wsX4_cargo_r1 : List Cond := [Cond.constantLong RX4 125 (-9000000000000000001), Cond.methodLink RX4 121 yX4_isSurvey, Cond.static yX4_isSurvey, Cond.initialized RX4, Cond.code yX4_isSurvey cX4_isSurvey 1 (some .boolean), Cond.constantLong RX4 100 (3), Cond.methodLink RX4 41 yX4_within, Cond.static yX4_within, Cond.code yX4_within cX4_within 6 (some .boolean), Cond.methodLink RX4 191 yX4_cargoTold, Cond.instanceMethod yX4_cargoTold, Cond.selects RX4 yX4_cargoTold yX4_cargoTold, Cond.code yX4_cargoTold cX4_cargoTold 3 (some .long), Cond.constantLong RX4 110 (-9000000000000000007), Cond.methodLink RX4 170 yX4_isComputable, Cond.instanceMethod yX4_isComputable, Cond.selects RX4 yX4_isComputable yX4_isComputable, Cond.code yX4_isComputable cX4_isComputable 4 (some .boolean), Cond.methodLink RX4 152 yX4_quarter, Cond.instanceMethod yX4_quarter, Cond.selects RX4 yX4_quarter yX4_quarter, Cond.code yX4_quarter cX4_quarter 4 (some .long), Cond.constantLong RX4 139 (6), Cond.constantLong RX4 141 (8)]
def wsX4_cargo_r2 : List Cond := [Cond.methodLink RX4 135 yX4_mean, Cond.instanceMethod yX4_mean, Cond.selects RX4 yX4_mean yX4_mean, Cond.code yX4_mean cX4_mean 9 (some .long), Cond.fieldLink RX4 17 "DraftSurveyModel" "readings" "[J", Cond.constantLong RX4 133 (2), Cond.methodLink RX4 96 yX4_quotient, Cond.static yX4_quotient, Cond.code yX4_quotient cX4_quotient 6 (some .long), Cond.methodLink RX4 102 yX4_isCovered, Cond.instanceMethod yX4_isCovered, Cond.selects RX4 yX4_isCovered yX4_isCovered, Cond.code yX4_isCovered cX4_isCovered 3 (some .boolean), Cond.fieldLink RX4 85 "DraftSurveyModel" "rows" "I", Cond.methodLink RX4 88 yX4_cell, Cond.instanceMethod yX4_cell, Cond.selects RX4 yX4_cell yX4_cell, Cond.code yX4_cell cX4_cell 3 (some .long), Cond.fieldLink RX4 13 "DraftSurveyModel" "table" "[J", Cond.methodLink RX4 174 yX4_net, Cond.instanceMethod yX4_net, Cond.selects RX4 yX4_net yX4_net, Cond.code yX4_net cX4_net 7 (some .long), Cond.fieldLink RX4 23 "DraftSurveyModel" "deductions" "[J"]
def wsX4_cargo_r3 : List Cond := [Cond.methodLink RX4 167 yX4_displaced, Cond.instanceMethod yX4_displaced, Cond.selects RX4 yX4_displaced yX4_displaced, Cond.code yX4_displaced cX4_displaced 6 (some .long), Cond.fieldLink RX4 20 "DraftSurveyModel" "densities" "[J", Cond.constantLong RX4 35 (1025), Cond.methodLink RX4 106 yX4_at, Cond.instanceMethod yX4_at, Cond.selects RX4 yX4_at yX4_at, Cond.code yX4_at cX4_at 7 (some .long), Cond.methodLink RX4 161 yX4_first, Cond.instanceMethod yX4_first, Cond.selects RX4 yX4_first yX4_first, Cond.code yX4_first cX4_first 6 (some .long), Cond.constantLong RX4 116 (100), Cond.fieldLink RX4 28 "DraftSurveyModel" "length" "J", Cond.methodLink RX4 143 yX4_trimOf, Cond.instanceMethod yX4_trimOf, Cond.selects RX4 yX4_trimOf yX4_trimOf, Cond.code yX4_trimOf cX4_trimOf 4 (some .long), Cond.methodLink RX4 164 yX4_second, Cond.instanceMethod yX4_second, Cond.selects RX4 yX4_second yX4_second, Cond.code yX4_second cX4_second 12 (some .long)]
def wsX4_cargo_r4 : List Cond := [Cond.constantLong RX4 155 (500), Cond.constantLong RX4 157 (50), Cond.constantLong RX4 159 (1000)]
def wsX4_cargo : List Cond := .code yX4_cargo cX4_cargo 3 (some .long) :: ((wsX4_cargo_r1 ++ (wsX4_cargo_r2 ++ (wsX4_cargo_r3 ++ wsX4_cargo_r4))) ++ wsX40)
def wsX4_hasBounds_r1 : List Cond := [Cond.fieldLink RX4 118 "DraftSurveyModel" "margin" "J", Cond.methodLink RX4 170 yX4_isComputable, Cond.instanceMethod yX4_isComputable, Cond.selects RX4 yX4_isComputable yX4_isComputable, Cond.initialized RX4, Cond.code yX4_isComputable cX4_isComputable 4 (some .boolean), Cond.methodLink RX4 152 yX4_quarter, Cond.instanceMethod yX4_quarter, Cond.selects RX4 yX4_quarter yX4_quarter, Cond.code yX4_quarter cX4_quarter 4 (some .long), Cond.constantLong RX4 139 (6), Cond.constantLong RX4 141 (8), Cond.methodLink RX4 135 yX4_mean, Cond.instanceMethod yX4_mean, Cond.selects RX4 yX4_mean yX4_mean, Cond.code yX4_mean cX4_mean 9 (some .long), Cond.fieldLink RX4 17 "DraftSurveyModel" "readings" "[J", Cond.constantLong RX4 133 (2), Cond.methodLink RX4 96 yX4_quotient, Cond.static yX4_quotient, Cond.code yX4_quotient cX4_quotient 6 (some .long), Cond.methodLink RX4 102 yX4_isCovered, Cond.instanceMethod yX4_isCovered, Cond.selects RX4 yX4_isCovered yX4_isCovered]
def wsX4_hasBounds_r2 : List Cond := [Cond.code yX4_isCovered cX4_isCovered 3 (some .boolean), Cond.fieldLink RX4 85 "DraftSurveyModel" "rows" "I", Cond.methodLink RX4 88 yX4_cell, Cond.instanceMethod yX4_cell, Cond.selects RX4 yX4_cell yX4_cell, Cond.code yX4_cell cX4_cell 3 (some .long), Cond.fieldLink RX4 13 "DraftSurveyModel" "table" "[J", Cond.methodLink RX4 41 yX4_within, Cond.static yX4_within, Cond.code yX4_within cX4_within 6 (some .boolean)]
def wsX4_hasBounds : List Cond := .code yX4_hasBounds cX4_hasBounds 2 (some .boolean) :: ((wsX4_hasBounds_r1 ++ wsX4_hasBounds_r2) ++ wsX40)
def wsX4_light_r1 : List Cond := [Cond.fieldLink RX4 118 "DraftSurveyModel" "margin" "J", Cond.methodLink RX4 174 yX4_net, Cond.instanceMethod yX4_net, Cond.selects RX4 yX4_net yX4_net, Cond.initialized RX4, Cond.code yX4_net cX4_net 7 (some .long), Cond.fieldLink RX4 23 "DraftSurveyModel" "deductions" "[J", Cond.methodLink RX4 167 yX4_displaced, Cond.instanceMethod yX4_displaced, Cond.selects RX4 yX4_displaced yX4_displaced, Cond.code yX4_displaced cX4_displaced 6 (some .long), Cond.fieldLink RX4 20 "DraftSurveyModel" "densities" "[J", Cond.constantLong RX4 35 (1025), Cond.methodLink RX4 152 yX4_quarter, Cond.instanceMethod yX4_quarter, Cond.selects RX4 yX4_quarter yX4_quarter, Cond.code yX4_quarter cX4_quarter 4 (some .long), Cond.constantLong RX4 139 (6), Cond.constantLong RX4 141 (8), Cond.methodLink RX4 135 yX4_mean, Cond.instanceMethod yX4_mean, Cond.selects RX4 yX4_mean yX4_mean, Cond.code yX4_mean cX4_mean 9 (some .long), Cond.fieldLink RX4 17 "DraftSurveyModel" "readings" "[J"]
def wsX4_light_r2 : List Cond := [Cond.constantLong RX4 133 (2), Cond.methodLink RX4 96 yX4_quotient, Cond.static yX4_quotient, Cond.code yX4_quotient cX4_quotient 6 (some .long), Cond.methodLink RX4 106 yX4_at, Cond.instanceMethod yX4_at, Cond.selects RX4 yX4_at yX4_at, Cond.code yX4_at cX4_at 7 (some .long), Cond.fieldLink RX4 85 "DraftSurveyModel" "rows" "I", Cond.methodLink RX4 88 yX4_cell, Cond.instanceMethod yX4_cell, Cond.selects RX4 yX4_cell yX4_cell, Cond.code yX4_cell cX4_cell 3 (some .long), Cond.fieldLink RX4 13 "DraftSurveyModel" "table" "[J", Cond.methodLink RX4 161 yX4_first, Cond.instanceMethod yX4_first, Cond.selects RX4 yX4_first yX4_first, Cond.code yX4_first cX4_first 6 (some .long), Cond.constantLong RX4 116 (100), Cond.fieldLink RX4 28 "DraftSurveyModel" "length" "J", Cond.methodLink RX4 143 yX4_trimOf, Cond.instanceMethod yX4_trimOf, Cond.selects RX4 yX4_trimOf yX4_trimOf, Cond.code yX4_trimOf cX4_trimOf 4 (some .long)]
def wsX4_light_r3 : List Cond := [Cond.methodLink RX4 164 yX4_second, Cond.instanceMethod yX4_second, Cond.selects RX4 yX4_second yX4_second, Cond.code yX4_second cX4_second 12 (some .long), Cond.constantLong RX4 155 (500), Cond.constantLong RX4 157 (50), Cond.constantLong RX4 159 (1000)]
def wsX4_light : List Cond := .code yX4_light cX4_light 6 (some .long) :: ((wsX4_light_r1 ++ (wsX4_light_r2 ++ wsX4_light_r3)) ++ wsX40)
def wsX4_heavy_r1 : List Cond := [Cond.fieldLink RX4 118 "DraftSurveyModel" "margin" "J", Cond.methodLink RX4 174 yX4_net, Cond.instanceMethod yX4_net, Cond.selects RX4 yX4_net yX4_net, Cond.initialized RX4, Cond.code yX4_net cX4_net 7 (some .long), Cond.fieldLink RX4 23 "DraftSurveyModel" "deductions" "[J", Cond.methodLink RX4 167 yX4_displaced, Cond.instanceMethod yX4_displaced, Cond.selects RX4 yX4_displaced yX4_displaced, Cond.code yX4_displaced cX4_displaced 6 (some .long), Cond.fieldLink RX4 20 "DraftSurveyModel" "densities" "[J", Cond.constantLong RX4 35 (1025), Cond.methodLink RX4 152 yX4_quarter, Cond.instanceMethod yX4_quarter, Cond.selects RX4 yX4_quarter yX4_quarter, Cond.code yX4_quarter cX4_quarter 4 (some .long), Cond.constantLong RX4 139 (6), Cond.constantLong RX4 141 (8), Cond.methodLink RX4 135 yX4_mean, Cond.instanceMethod yX4_mean, Cond.selects RX4 yX4_mean yX4_mean, Cond.code yX4_mean cX4_mean 9 (some .long), Cond.fieldLink RX4 17 "DraftSurveyModel" "readings" "[J"]
def wsX4_heavy_r2 : List Cond := [Cond.constantLong RX4 133 (2), Cond.methodLink RX4 96 yX4_quotient, Cond.static yX4_quotient, Cond.code yX4_quotient cX4_quotient 6 (some .long), Cond.methodLink RX4 106 yX4_at, Cond.instanceMethod yX4_at, Cond.selects RX4 yX4_at yX4_at, Cond.code yX4_at cX4_at 7 (some .long), Cond.fieldLink RX4 85 "DraftSurveyModel" "rows" "I", Cond.methodLink RX4 88 yX4_cell, Cond.instanceMethod yX4_cell, Cond.selects RX4 yX4_cell yX4_cell, Cond.code yX4_cell cX4_cell 3 (some .long), Cond.fieldLink RX4 13 "DraftSurveyModel" "table" "[J", Cond.methodLink RX4 161 yX4_first, Cond.instanceMethod yX4_first, Cond.selects RX4 yX4_first yX4_first, Cond.code yX4_first cX4_first 6 (some .long), Cond.constantLong RX4 116 (100), Cond.fieldLink RX4 28 "DraftSurveyModel" "length" "J", Cond.methodLink RX4 143 yX4_trimOf, Cond.instanceMethod yX4_trimOf, Cond.selects RX4 yX4_trimOf yX4_trimOf, Cond.code yX4_trimOf cX4_trimOf 4 (some .long)]
def wsX4_heavy_r3 : List Cond := [Cond.methodLink RX4 164 yX4_second, Cond.instanceMethod yX4_second, Cond.selects RX4 yX4_second yX4_second, Cond.code yX4_second cX4_second 12 (some .long), Cond.constantLong RX4 155 (500), Cond.constantLong RX4 157 (50), Cond.constantLong RX4 159 (1000)]
def wsX4_heavy : List Cond := .code yX4_heavy cX4_heavy 6 (some .long) :: ((wsX4_heavy_r1 ++ (wsX4_heavy_r2 ++ wsX4_heavy_r3)) ++ wsX40)
def wsX4_lowTold_r1 : List Cond := [Cond.constantLong RX4 110 (-9000000000000000007), Cond.methodLink RX4 194 yX4_hasBounds, Cond.instanceMethod yX4_hasBounds, Cond.selects RX4 yX4_hasBounds yX4_hasBounds, Cond.initialized RX4, Cond.code yX4_hasBounds cX4_hasBounds 2 (some .boolean), Cond.fieldLink RX4 118 "DraftSurveyModel" "margin" "J", Cond.methodLink RX4 170 yX4_isComputable, Cond.instanceMethod yX4_isComputable, Cond.selects RX4 yX4_isComputable yX4_isComputable, Cond.code yX4_isComputable cX4_isComputable 4 (some .boolean), Cond.methodLink RX4 152 yX4_quarter, Cond.instanceMethod yX4_quarter, Cond.selects RX4 yX4_quarter yX4_quarter, Cond.code yX4_quarter cX4_quarter 4 (some .long), Cond.constantLong RX4 139 (6), Cond.constantLong RX4 141 (8), Cond.methodLink RX4 135 yX4_mean, Cond.instanceMethod yX4_mean, Cond.selects RX4 yX4_mean yX4_mean, Cond.code yX4_mean cX4_mean 9 (some .long), Cond.fieldLink RX4 17 "DraftSurveyModel" "readings" "[J", Cond.constantLong RX4 133 (2), Cond.methodLink RX4 96 yX4_quotient]
def wsX4_lowTold_r2 : List Cond := [Cond.static yX4_quotient, Cond.code yX4_quotient cX4_quotient 6 (some .long), Cond.methodLink RX4 102 yX4_isCovered, Cond.instanceMethod yX4_isCovered, Cond.selects RX4 yX4_isCovered yX4_isCovered, Cond.code yX4_isCovered cX4_isCovered 3 (some .boolean), Cond.fieldLink RX4 85 "DraftSurveyModel" "rows" "I", Cond.methodLink RX4 88 yX4_cell, Cond.instanceMethod yX4_cell, Cond.selects RX4 yX4_cell yX4_cell, Cond.code yX4_cell cX4_cell 3 (some .long), Cond.fieldLink RX4 13 "DraftSurveyModel" "table" "[J", Cond.methodLink RX4 41 yX4_within, Cond.static yX4_within, Cond.code yX4_within cX4_within 6 (some .boolean), Cond.methodLink RX4 197 yX4_light, Cond.instanceMethod yX4_light, Cond.selects RX4 yX4_light yX4_light, Cond.code yX4_light cX4_light 6 (some .long), Cond.methodLink RX4 174 yX4_net, Cond.instanceMethod yX4_net, Cond.selects RX4 yX4_net yX4_net, Cond.code yX4_net cX4_net 7 (some .long), Cond.fieldLink RX4 23 "DraftSurveyModel" "deductions" "[J"]
def wsX4_lowTold_r3 : List Cond := [Cond.methodLink RX4 167 yX4_displaced, Cond.instanceMethod yX4_displaced, Cond.selects RX4 yX4_displaced yX4_displaced, Cond.code yX4_displaced cX4_displaced 6 (some .long), Cond.fieldLink RX4 20 "DraftSurveyModel" "densities" "[J", Cond.constantLong RX4 35 (1025), Cond.methodLink RX4 106 yX4_at, Cond.instanceMethod yX4_at, Cond.selects RX4 yX4_at yX4_at, Cond.code yX4_at cX4_at 7 (some .long), Cond.methodLink RX4 161 yX4_first, Cond.instanceMethod yX4_first, Cond.selects RX4 yX4_first yX4_first, Cond.code yX4_first cX4_first 6 (some .long), Cond.constantLong RX4 116 (100), Cond.fieldLink RX4 28 "DraftSurveyModel" "length" "J", Cond.methodLink RX4 143 yX4_trimOf, Cond.instanceMethod yX4_trimOf, Cond.selects RX4 yX4_trimOf yX4_trimOf, Cond.code yX4_trimOf cX4_trimOf 4 (some .long), Cond.methodLink RX4 164 yX4_second, Cond.instanceMethod yX4_second, Cond.selects RX4 yX4_second yX4_second, Cond.code yX4_second cX4_second 12 (some .long)]
def wsX4_lowTold_r4 : List Cond := [Cond.constantLong RX4 155 (500), Cond.constantLong RX4 157 (50), Cond.constantLong RX4 159 (1000), Cond.methodLink RX4 200 yX4_heavy, Cond.instanceMethod yX4_heavy, Cond.selects RX4 yX4_heavy yX4_heavy, Cond.code yX4_heavy cX4_heavy 6 (some .long)]
def wsX4_lowTold : List Cond := .code yX4_lowTold cX4_lowTold 3 (some .long) :: ((wsX4_lowTold_r1 ++ (wsX4_lowTold_r2 ++ (wsX4_lowTold_r3 ++ wsX4_lowTold_r4))) ++ wsX40)
def wsX4_highTold_r1 : List Cond := [Cond.constantLong RX4 110 (-9000000000000000007), Cond.methodLink RX4 194 yX4_hasBounds, Cond.instanceMethod yX4_hasBounds, Cond.selects RX4 yX4_hasBounds yX4_hasBounds, Cond.initialized RX4, Cond.code yX4_hasBounds cX4_hasBounds 2 (some .boolean), Cond.fieldLink RX4 118 "DraftSurveyModel" "margin" "J", Cond.methodLink RX4 170 yX4_isComputable, Cond.instanceMethod yX4_isComputable, Cond.selects RX4 yX4_isComputable yX4_isComputable, Cond.code yX4_isComputable cX4_isComputable 4 (some .boolean), Cond.methodLink RX4 152 yX4_quarter, Cond.instanceMethod yX4_quarter, Cond.selects RX4 yX4_quarter yX4_quarter, Cond.code yX4_quarter cX4_quarter 4 (some .long), Cond.constantLong RX4 139 (6), Cond.constantLong RX4 141 (8), Cond.methodLink RX4 135 yX4_mean, Cond.instanceMethod yX4_mean, Cond.selects RX4 yX4_mean yX4_mean, Cond.code yX4_mean cX4_mean 9 (some .long), Cond.fieldLink RX4 17 "DraftSurveyModel" "readings" "[J", Cond.constantLong RX4 133 (2), Cond.methodLink RX4 96 yX4_quotient]
def wsX4_highTold_r2 : List Cond := [Cond.static yX4_quotient, Cond.code yX4_quotient cX4_quotient 6 (some .long), Cond.methodLink RX4 102 yX4_isCovered, Cond.instanceMethod yX4_isCovered, Cond.selects RX4 yX4_isCovered yX4_isCovered, Cond.code yX4_isCovered cX4_isCovered 3 (some .boolean), Cond.fieldLink RX4 85 "DraftSurveyModel" "rows" "I", Cond.methodLink RX4 88 yX4_cell, Cond.instanceMethod yX4_cell, Cond.selects RX4 yX4_cell yX4_cell, Cond.code yX4_cell cX4_cell 3 (some .long), Cond.fieldLink RX4 13 "DraftSurveyModel" "table" "[J", Cond.methodLink RX4 41 yX4_within, Cond.static yX4_within, Cond.code yX4_within cX4_within 6 (some .boolean), Cond.methodLink RX4 200 yX4_heavy, Cond.instanceMethod yX4_heavy, Cond.selects RX4 yX4_heavy yX4_heavy, Cond.code yX4_heavy cX4_heavy 6 (some .long), Cond.methodLink RX4 174 yX4_net, Cond.instanceMethod yX4_net, Cond.selects RX4 yX4_net yX4_net, Cond.code yX4_net cX4_net 7 (some .long), Cond.fieldLink RX4 23 "DraftSurveyModel" "deductions" "[J"]
def wsX4_highTold_r3 : List Cond := [Cond.methodLink RX4 167 yX4_displaced, Cond.instanceMethod yX4_displaced, Cond.selects RX4 yX4_displaced yX4_displaced, Cond.code yX4_displaced cX4_displaced 6 (some .long), Cond.fieldLink RX4 20 "DraftSurveyModel" "densities" "[J", Cond.constantLong RX4 35 (1025), Cond.methodLink RX4 106 yX4_at, Cond.instanceMethod yX4_at, Cond.selects RX4 yX4_at yX4_at, Cond.code yX4_at cX4_at 7 (some .long), Cond.methodLink RX4 161 yX4_first, Cond.instanceMethod yX4_first, Cond.selects RX4 yX4_first yX4_first, Cond.code yX4_first cX4_first 6 (some .long), Cond.constantLong RX4 116 (100), Cond.fieldLink RX4 28 "DraftSurveyModel" "length" "J", Cond.methodLink RX4 143 yX4_trimOf, Cond.instanceMethod yX4_trimOf, Cond.selects RX4 yX4_trimOf yX4_trimOf, Cond.code yX4_trimOf cX4_trimOf 4 (some .long), Cond.methodLink RX4 164 yX4_second, Cond.instanceMethod yX4_second, Cond.selects RX4 yX4_second yX4_second, Cond.code yX4_second cX4_second 12 (some .long)]
def wsX4_highTold_r4 : List Cond := [Cond.constantLong RX4 155 (500), Cond.constantLong RX4 157 (50), Cond.constantLong RX4 159 (1000), Cond.methodLink RX4 197 yX4_light, Cond.instanceMethod yX4_light, Cond.selects RX4 yX4_light yX4_light, Cond.code yX4_light cX4_light 6 (some .long)]
def wsX4_highTold : List Cond := .code yX4_highTold cX4_highTold 3 (some .long) :: ((wsX4_highTold_r1 ++ (wsX4_highTold_r2 ++ (wsX4_highTold_r3 ++ wsX4_highTold_r4))) ++ wsX40)
def wsX4_cargoLow_r1 : List Cond := [Cond.constantLong RX4 125 (-9000000000000000001), Cond.methodLink RX4 121 yX4_isSurvey, Cond.static yX4_isSurvey, Cond.initialized RX4, Cond.code yX4_isSurvey cX4_isSurvey 1 (some .boolean), Cond.constantLong RX4 100 (3), Cond.methodLink RX4 41 yX4_within, Cond.static yX4_within, Cond.code yX4_within cX4_within 6 (some .boolean), Cond.methodLink RX4 203 yX4_lowTold, Cond.instanceMethod yX4_lowTold, Cond.selects RX4 yX4_lowTold yX4_lowTold, Cond.code yX4_lowTold cX4_lowTold 3 (some .long), Cond.constantLong RX4 110 (-9000000000000000007), Cond.methodLink RX4 194 yX4_hasBounds, Cond.instanceMethod yX4_hasBounds, Cond.selects RX4 yX4_hasBounds yX4_hasBounds, Cond.code yX4_hasBounds cX4_hasBounds 2 (some .boolean), Cond.fieldLink RX4 118 "DraftSurveyModel" "margin" "J", Cond.methodLink RX4 170 yX4_isComputable, Cond.instanceMethod yX4_isComputable, Cond.selects RX4 yX4_isComputable yX4_isComputable, Cond.code yX4_isComputable cX4_isComputable 4 (some .boolean), Cond.methodLink RX4 152 yX4_quarter]
def wsX4_cargoLow_r2 : List Cond := [Cond.instanceMethod yX4_quarter, Cond.selects RX4 yX4_quarter yX4_quarter, Cond.code yX4_quarter cX4_quarter 4 (some .long), Cond.constantLong RX4 139 (6), Cond.constantLong RX4 141 (8), Cond.methodLink RX4 135 yX4_mean, Cond.instanceMethod yX4_mean, Cond.selects RX4 yX4_mean yX4_mean, Cond.code yX4_mean cX4_mean 9 (some .long), Cond.fieldLink RX4 17 "DraftSurveyModel" "readings" "[J", Cond.constantLong RX4 133 (2), Cond.methodLink RX4 96 yX4_quotient, Cond.static yX4_quotient, Cond.code yX4_quotient cX4_quotient 6 (some .long), Cond.methodLink RX4 102 yX4_isCovered, Cond.instanceMethod yX4_isCovered, Cond.selects RX4 yX4_isCovered yX4_isCovered, Cond.code yX4_isCovered cX4_isCovered 3 (some .boolean), Cond.fieldLink RX4 85 "DraftSurveyModel" "rows" "I", Cond.methodLink RX4 88 yX4_cell, Cond.instanceMethod yX4_cell, Cond.selects RX4 yX4_cell yX4_cell, Cond.code yX4_cell cX4_cell 3 (some .long), Cond.fieldLink RX4 13 "DraftSurveyModel" "table" "[J"]
def wsX4_cargoLow_r3 : List Cond := [Cond.methodLink RX4 197 yX4_light, Cond.instanceMethod yX4_light, Cond.selects RX4 yX4_light yX4_light, Cond.code yX4_light cX4_light 6 (some .long), Cond.methodLink RX4 174 yX4_net, Cond.instanceMethod yX4_net, Cond.selects RX4 yX4_net yX4_net, Cond.code yX4_net cX4_net 7 (some .long), Cond.fieldLink RX4 23 "DraftSurveyModel" "deductions" "[J", Cond.methodLink RX4 167 yX4_displaced, Cond.instanceMethod yX4_displaced, Cond.selects RX4 yX4_displaced yX4_displaced, Cond.code yX4_displaced cX4_displaced 6 (some .long), Cond.fieldLink RX4 20 "DraftSurveyModel" "densities" "[J", Cond.constantLong RX4 35 (1025), Cond.methodLink RX4 106 yX4_at, Cond.instanceMethod yX4_at, Cond.selects RX4 yX4_at yX4_at, Cond.code yX4_at cX4_at 7 (some .long), Cond.methodLink RX4 161 yX4_first, Cond.instanceMethod yX4_first, Cond.selects RX4 yX4_first yX4_first, Cond.code yX4_first cX4_first 6 (some .long), Cond.constantLong RX4 116 (100)]
def wsX4_cargoLow_r4 : List Cond := [Cond.fieldLink RX4 28 "DraftSurveyModel" "length" "J", Cond.methodLink RX4 143 yX4_trimOf, Cond.instanceMethod yX4_trimOf, Cond.selects RX4 yX4_trimOf yX4_trimOf, Cond.code yX4_trimOf cX4_trimOf 4 (some .long), Cond.methodLink RX4 164 yX4_second, Cond.instanceMethod yX4_second, Cond.selects RX4 yX4_second yX4_second, Cond.code yX4_second cX4_second 12 (some .long), Cond.constantLong RX4 155 (500), Cond.constantLong RX4 157 (50), Cond.constantLong RX4 159 (1000), Cond.methodLink RX4 200 yX4_heavy, Cond.instanceMethod yX4_heavy, Cond.selects RX4 yX4_heavy yX4_heavy, Cond.code yX4_heavy cX4_heavy 6 (some .long)]
def wsX4_cargoLow : List Cond := .code yX4_cargoLow cX4_cargoLow 3 (some .long) :: ((wsX4_cargoLow_r1 ++ (wsX4_cargoLow_r2 ++ (wsX4_cargoLow_r3 ++ wsX4_cargoLow_r4))) ++ wsX40)
def wsX4_cargoHigh_r1 : List Cond := [Cond.constantLong RX4 125 (-9000000000000000001), Cond.methodLink RX4 121 yX4_isSurvey, Cond.static yX4_isSurvey, Cond.initialized RX4, Cond.code yX4_isSurvey cX4_isSurvey 1 (some .boolean), Cond.constantLong RX4 100 (3), Cond.methodLink RX4 41 yX4_within, Cond.static yX4_within, Cond.code yX4_within cX4_within 6 (some .boolean), Cond.methodLink RX4 206 yX4_highTold, Cond.instanceMethod yX4_highTold, Cond.selects RX4 yX4_highTold yX4_highTold, Cond.code yX4_highTold cX4_highTold 3 (some .long), Cond.constantLong RX4 110 (-9000000000000000007), Cond.methodLink RX4 194 yX4_hasBounds, Cond.instanceMethod yX4_hasBounds, Cond.selects RX4 yX4_hasBounds yX4_hasBounds, Cond.code yX4_hasBounds cX4_hasBounds 2 (some .boolean), Cond.fieldLink RX4 118 "DraftSurveyModel" "margin" "J", Cond.methodLink RX4 170 yX4_isComputable, Cond.instanceMethod yX4_isComputable, Cond.selects RX4 yX4_isComputable yX4_isComputable, Cond.code yX4_isComputable cX4_isComputable 4 (some .boolean), Cond.methodLink RX4 152 yX4_quarter]
def wsX4_cargoHigh_r2 : List Cond := [Cond.instanceMethod yX4_quarter, Cond.selects RX4 yX4_quarter yX4_quarter, Cond.code yX4_quarter cX4_quarter 4 (some .long), Cond.constantLong RX4 139 (6), Cond.constantLong RX4 141 (8), Cond.methodLink RX4 135 yX4_mean, Cond.instanceMethod yX4_mean, Cond.selects RX4 yX4_mean yX4_mean, Cond.code yX4_mean cX4_mean 9 (some .long), Cond.fieldLink RX4 17 "DraftSurveyModel" "readings" "[J", Cond.constantLong RX4 133 (2), Cond.methodLink RX4 96 yX4_quotient, Cond.static yX4_quotient, Cond.code yX4_quotient cX4_quotient 6 (some .long), Cond.methodLink RX4 102 yX4_isCovered, Cond.instanceMethod yX4_isCovered, Cond.selects RX4 yX4_isCovered yX4_isCovered, Cond.code yX4_isCovered cX4_isCovered 3 (some .boolean), Cond.fieldLink RX4 85 "DraftSurveyModel" "rows" "I", Cond.methodLink RX4 88 yX4_cell, Cond.instanceMethod yX4_cell, Cond.selects RX4 yX4_cell yX4_cell, Cond.code yX4_cell cX4_cell 3 (some .long), Cond.fieldLink RX4 13 "DraftSurveyModel" "table" "[J"]
def wsX4_cargoHigh_r3 : List Cond := [Cond.methodLink RX4 200 yX4_heavy, Cond.instanceMethod yX4_heavy, Cond.selects RX4 yX4_heavy yX4_heavy, Cond.code yX4_heavy cX4_heavy 6 (some .long), Cond.methodLink RX4 174 yX4_net, Cond.instanceMethod yX4_net, Cond.selects RX4 yX4_net yX4_net, Cond.code yX4_net cX4_net 7 (some .long), Cond.fieldLink RX4 23 "DraftSurveyModel" "deductions" "[J", Cond.methodLink RX4 167 yX4_displaced, Cond.instanceMethod yX4_displaced, Cond.selects RX4 yX4_displaced yX4_displaced, Cond.code yX4_displaced cX4_displaced 6 (some .long), Cond.fieldLink RX4 20 "DraftSurveyModel" "densities" "[J", Cond.constantLong RX4 35 (1025), Cond.methodLink RX4 106 yX4_at, Cond.instanceMethod yX4_at, Cond.selects RX4 yX4_at yX4_at, Cond.code yX4_at cX4_at 7 (some .long), Cond.methodLink RX4 161 yX4_first, Cond.instanceMethod yX4_first, Cond.selects RX4 yX4_first yX4_first, Cond.code yX4_first cX4_first 6 (some .long), Cond.constantLong RX4 116 (100)]
def wsX4_cargoHigh_r4 : List Cond := [Cond.fieldLink RX4 28 "DraftSurveyModel" "length" "J", Cond.methodLink RX4 143 yX4_trimOf, Cond.instanceMethod yX4_trimOf, Cond.selects RX4 yX4_trimOf yX4_trimOf, Cond.code yX4_trimOf cX4_trimOf 4 (some .long), Cond.methodLink RX4 164 yX4_second, Cond.instanceMethod yX4_second, Cond.selects RX4 yX4_second yX4_second, Cond.code yX4_second cX4_second 12 (some .long), Cond.constantLong RX4 155 (500), Cond.constantLong RX4 157 (50), Cond.constantLong RX4 159 (1000), Cond.methodLink RX4 197 yX4_light, Cond.instanceMethod yX4_light, Cond.selects RX4 yX4_light yX4_light, Cond.code yX4_light cX4_light 6 (some .long)]
def wsX4_cargoHigh : List Cond := .code yX4_cargoHigh cX4_cargoHigh 3 (some .long) :: ((wsX4_cargoHigh_r1 ++ (wsX4_cargoHigh_r2 ++ (wsX4_cargoHigh_r3 ++ wsX4_cargoHigh_r4))) ++ wsX40)
def wsX4_draftFor : List Cond := .code yX4_draftFor cX4_draftFor 8 (some .long) :: ([.fieldLink RX4 85 "DraftSurveyModel" "rows" "I", .constantLong RX4 110 (-9000000000000000007), .constantLong RX4 133 (2), .methodLink RX4 88 yX4_cell, .instanceMethod yX4_cell, .selects RX4 yX4_cell yX4_cell, .initialized RX4, .code yX4_cell cX4_cell 3 (some .long), .fieldLink RX4 13 "DraftSurveyModel" "table" "[J", .methodLink RX4 106 yX4_at, .instanceMethod yX4_at, .selects RX4 yX4_at yX4_at, .code yX4_at cX4_at 7 (some .long), .methodLink RX4 96 yX4_quotient, .static yX4_quotient, .code yX4_quotient cX4_quotient 6 (some .long)] ++ wsX40)
def wsX4_heaviestNow_r1 : List Cond := [Cond.constantLong RX4 110 (-9000000000000000007), Cond.methodLink RX4 170 yX4_isComputable, Cond.instanceMethod yX4_isComputable, Cond.selects RX4 yX4_isComputable yX4_isComputable, Cond.initialized RX4, Cond.code yX4_isComputable cX4_isComputable 4 (some .boolean), Cond.methodLink RX4 152 yX4_quarter, Cond.instanceMethod yX4_quarter, Cond.selects RX4 yX4_quarter yX4_quarter, Cond.code yX4_quarter cX4_quarter 4 (some .long), Cond.constantLong RX4 139 (6), Cond.constantLong RX4 141 (8), Cond.methodLink RX4 135 yX4_mean, Cond.instanceMethod yX4_mean, Cond.selects RX4 yX4_mean yX4_mean, Cond.code yX4_mean cX4_mean 9 (some .long), Cond.fieldLink RX4 17 "DraftSurveyModel" "readings" "[J", Cond.constantLong RX4 133 (2), Cond.methodLink RX4 96 yX4_quotient, Cond.static yX4_quotient, Cond.code yX4_quotient cX4_quotient 6 (some .long), Cond.methodLink RX4 102 yX4_isCovered, Cond.instanceMethod yX4_isCovered, Cond.selects RX4 yX4_isCovered yX4_isCovered]
def wsX4_heaviestNow_r2 : List Cond := [Cond.code yX4_isCovered cX4_isCovered 3 (some .boolean), Cond.fieldLink RX4 85 "DraftSurveyModel" "rows" "I", Cond.methodLink RX4 88 yX4_cell, Cond.instanceMethod yX4_cell, Cond.selects RX4 yX4_cell yX4_cell, Cond.code yX4_cell cX4_cell 3 (some .long), Cond.fieldLink RX4 13 "DraftSurveyModel" "table" "[J", Cond.methodLink RX4 41 yX4_within, Cond.static yX4_within, Cond.code yX4_within cX4_within 6 (some .boolean), Cond.methodLink RX4 174 yX4_net, Cond.instanceMethod yX4_net, Cond.selects RX4 yX4_net yX4_net, Cond.code yX4_net cX4_net 7 (some .long), Cond.fieldLink RX4 23 "DraftSurveyModel" "deductions" "[J", Cond.methodLink RX4 167 yX4_displaced, Cond.instanceMethod yX4_displaced, Cond.selects RX4 yX4_displaced yX4_displaced, Cond.code yX4_displaced cX4_displaced 6 (some .long), Cond.fieldLink RX4 20 "DraftSurveyModel" "densities" "[J", Cond.constantLong RX4 35 (1025), Cond.methodLink RX4 106 yX4_at, Cond.instanceMethod yX4_at, Cond.selects RX4 yX4_at yX4_at]
def wsX4_heaviestNow_r3 : List Cond := [Cond.code yX4_at cX4_at 7 (some .long), Cond.methodLink RX4 161 yX4_first, Cond.instanceMethod yX4_first, Cond.selects RX4 yX4_first yX4_first, Cond.code yX4_first cX4_first 6 (some .long), Cond.constantLong RX4 116 (100), Cond.fieldLink RX4 28 "DraftSurveyModel" "length" "J", Cond.methodLink RX4 143 yX4_trimOf, Cond.instanceMethod yX4_trimOf, Cond.selects RX4 yX4_trimOf yX4_trimOf, Cond.code yX4_trimOf cX4_trimOf 4 (some .long), Cond.methodLink RX4 164 yX4_second, Cond.instanceMethod yX4_second, Cond.selects RX4 yX4_second yX4_second, Cond.code yX4_second cX4_second 12 (some .long), Cond.constantLong RX4 155 (500), Cond.constantLong RX4 157 (50), Cond.constantLong RX4 159 (1000)]
def wsX4_heaviestNow : List Cond := .code yX4_heaviestNow cX4_heaviestNow 4 (some .long) :: ((wsX4_heaviestNow_r1 ++ (wsX4_heaviestNow_r2 ++ wsX4_heaviestNow_r3)) ++ wsX40)
def wsX4_heaviest_r1 : List Cond := [Cond.methodLink RX4 209 yX4_heaviestNow, Cond.instanceMethod yX4_heaviestNow, Cond.selects RX4 yX4_heaviestNow yX4_heaviestNow, Cond.initialized RX4, Cond.code yX4_heaviestNow cX4_heaviestNow 4 (some .long), Cond.constantLong RX4 110 (-9000000000000000007), Cond.methodLink RX4 170 yX4_isComputable, Cond.instanceMethod yX4_isComputable, Cond.selects RX4 yX4_isComputable yX4_isComputable, Cond.code yX4_isComputable cX4_isComputable 4 (some .boolean), Cond.methodLink RX4 152 yX4_quarter, Cond.instanceMethod yX4_quarter, Cond.selects RX4 yX4_quarter yX4_quarter, Cond.code yX4_quarter cX4_quarter 4 (some .long), Cond.constantLong RX4 139 (6), Cond.constantLong RX4 141 (8), Cond.methodLink RX4 135 yX4_mean, Cond.instanceMethod yX4_mean, Cond.selects RX4 yX4_mean yX4_mean, Cond.code yX4_mean cX4_mean 9 (some .long), Cond.fieldLink RX4 17 "DraftSurveyModel" "readings" "[J", Cond.constantLong RX4 133 (2), Cond.methodLink RX4 96 yX4_quotient, Cond.static yX4_quotient]
def wsX4_heaviest_r2 : List Cond := [Cond.code yX4_quotient cX4_quotient 6 (some .long), Cond.methodLink RX4 102 yX4_isCovered, Cond.instanceMethod yX4_isCovered, Cond.selects RX4 yX4_isCovered yX4_isCovered, Cond.code yX4_isCovered cX4_isCovered 3 (some .boolean), Cond.fieldLink RX4 85 "DraftSurveyModel" "rows" "I", Cond.methodLink RX4 88 yX4_cell, Cond.instanceMethod yX4_cell, Cond.selects RX4 yX4_cell yX4_cell, Cond.code yX4_cell cX4_cell 3 (some .long), Cond.fieldLink RX4 13 "DraftSurveyModel" "table" "[J", Cond.methodLink RX4 41 yX4_within, Cond.static yX4_within, Cond.code yX4_within cX4_within 6 (some .boolean), Cond.methodLink RX4 174 yX4_net, Cond.instanceMethod yX4_net, Cond.selects RX4 yX4_net yX4_net, Cond.code yX4_net cX4_net 7 (some .long), Cond.fieldLink RX4 23 "DraftSurveyModel" "deductions" "[J", Cond.methodLink RX4 167 yX4_displaced, Cond.instanceMethod yX4_displaced, Cond.selects RX4 yX4_displaced yX4_displaced, Cond.code yX4_displaced cX4_displaced 6 (some .long), Cond.fieldLink RX4 20 "DraftSurveyModel" "densities" "[J"]
def wsX4_heaviest_r3 : List Cond := [Cond.constantLong RX4 35 (1025), Cond.methodLink RX4 106 yX4_at, Cond.instanceMethod yX4_at, Cond.selects RX4 yX4_at yX4_at, Cond.code yX4_at cX4_at 7 (some .long), Cond.methodLink RX4 161 yX4_first, Cond.instanceMethod yX4_first, Cond.selects RX4 yX4_first yX4_first, Cond.code yX4_first cX4_first 6 (some .long), Cond.constantLong RX4 116 (100), Cond.fieldLink RX4 28 "DraftSurveyModel" "length" "J", Cond.methodLink RX4 143 yX4_trimOf, Cond.instanceMethod yX4_trimOf, Cond.selects RX4 yX4_trimOf yX4_trimOf, Cond.code yX4_trimOf cX4_trimOf 4 (some .long), Cond.methodLink RX4 164 yX4_second, Cond.instanceMethod yX4_second, Cond.selects RX4 yX4_second yX4_second, Cond.code yX4_second cX4_second 12 (some .long), Cond.constantLong RX4 155 (500), Cond.constantLong RX4 157 (50), Cond.constantLong RX4 159 (1000)]
def wsX4_heaviest : List Cond := .code yX4_heaviest cX4_heaviest 1 (some .long) :: ((wsX4_heaviest_r1 ++ (wsX4_heaviest_r2 ++ wsX4_heaviest_r3)) ++ wsX40)
def wsX4_rowCount : List Cond := .code yX4_rowCount cX4_rowCount 1 (some .long) :: ([.fieldLink RX4 85 "DraftSurveyModel" "rows" "I"] ++ wsX40)
def wsX4_mix : List Cond := .code yX4_mix cX4_mix 3 none :: ([.constantLong RX4 213 (31), .fieldLink RX4 215 "DraftSurveyModel" "h" "J"] ++ wsX40)
def wsX4_mixSurvey_r1 : List Cond := [Cond.fieldLink RX4 17 "DraftSurveyModel" "readings" "[J", Cond.constantLong RX4 222 (-500), Cond.constantLong RX4 155 (500), Cond.methodLink RX4 218 yX4_mix, Cond.instanceMethod yX4_mix, Cond.selects RX4 yX4_mix yX4_mix, Cond.initialized RX4, Cond.code yX4_mix cX4_mix 3 none, Cond.constantLong RX4 213 (31), Cond.fieldLink RX4 215 "DraftSurveyModel" "h" "J", Cond.methodLink RX4 143 yX4_trimOf, Cond.instanceMethod yX4_trimOf, Cond.selects RX4 yX4_trimOf yX4_trimOf, Cond.code yX4_trimOf cX4_trimOf 4 (some .long), Cond.methodLink RX4 135 yX4_mean, Cond.instanceMethod yX4_mean, Cond.selects RX4 yX4_mean yX4_mean, Cond.code yX4_mean cX4_mean 9 (some .long), Cond.constantLong RX4 133 (2), Cond.methodLink RX4 96 yX4_quotient, Cond.static yX4_quotient, Cond.code yX4_quotient cX4_quotient 6 (some .long), Cond.methodLink RX4 146 yX4_deflectionOf, Cond.instanceMethod yX4_deflectionOf]
def wsX4_mixSurvey_r2 : List Cond := [Cond.selects RX4 yX4_deflectionOf yX4_deflectionOf, Cond.code yX4_deflectionOf cX4_deflectionOf 2 (some .long), Cond.methodLink RX4 149 yX4_heelOf, Cond.instanceMethod yX4_heelOf, Cond.selects RX4 yX4_heelOf yX4_heelOf, Cond.code yX4_heelOf cX4_heelOf 2 (some .long), Cond.methodLink RX4 152 yX4_quarter, Cond.instanceMethod yX4_quarter, Cond.selects RX4 yX4_quarter yX4_quarter, Cond.code yX4_quarter cX4_quarter 4 (some .long), Cond.constantLong RX4 139 (6), Cond.constantLong RX4 141 (8), Cond.methodLink RX4 177 yX4_firstTold, Cond.instanceMethod yX4_firstTold, Cond.selects RX4 yX4_firstTold yX4_firstTold, Cond.code yX4_firstTold cX4_firstTold 2 (some .long), Cond.constantLong RX4 110 (-9000000000000000007), Cond.methodLink RX4 170 yX4_isComputable, Cond.instanceMethod yX4_isComputable, Cond.selects RX4 yX4_isComputable yX4_isComputable, Cond.code yX4_isComputable cX4_isComputable 4 (some .boolean), Cond.methodLink RX4 102 yX4_isCovered, Cond.instanceMethod yX4_isCovered, Cond.selects RX4 yX4_isCovered yX4_isCovered]
def wsX4_mixSurvey_r3 : List Cond := [Cond.code yX4_isCovered cX4_isCovered 3 (some .boolean), Cond.fieldLink RX4 85 "DraftSurveyModel" "rows" "I", Cond.methodLink RX4 88 yX4_cell, Cond.instanceMethod yX4_cell, Cond.selects RX4 yX4_cell yX4_cell, Cond.code yX4_cell cX4_cell 3 (some .long), Cond.fieldLink RX4 13 "DraftSurveyModel" "table" "[J", Cond.methodLink RX4 41 yX4_within, Cond.static yX4_within, Cond.code yX4_within cX4_within 6 (some .boolean), Cond.methodLink RX4 161 yX4_first, Cond.instanceMethod yX4_first, Cond.selects RX4 yX4_first yX4_first, Cond.code yX4_first cX4_first 6 (some .long), Cond.constantLong RX4 116 (100), Cond.fieldLink RX4 28 "DraftSurveyModel" "length" "J", Cond.methodLink RX4 106 yX4_at, Cond.instanceMethod yX4_at, Cond.selects RX4 yX4_at yX4_at, Cond.code yX4_at cX4_at 7 (some .long), Cond.methodLink RX4 180 yX4_secondTold, Cond.instanceMethod yX4_secondTold, Cond.selects RX4 yX4_secondTold yX4_secondTold, Cond.code yX4_secondTold cX4_secondTold 2 (some .long)]
def wsX4_mixSurvey_r4 : List Cond := [Cond.methodLink RX4 164 yX4_second, Cond.instanceMethod yX4_second, Cond.selects RX4 yX4_second yX4_second, Cond.code yX4_second cX4_second 12 (some .long), Cond.constantLong RX4 157 (50), Cond.constantLong RX4 159 (1000), Cond.methodLink RX4 185 yX4_displacedTold, Cond.instanceMethod yX4_displacedTold, Cond.selects RX4 yX4_displacedTold yX4_displacedTold, Cond.code yX4_displacedTold cX4_displacedTold 4 (some .long), Cond.methodLink RX4 167 yX4_displaced, Cond.instanceMethod yX4_displaced, Cond.selects RX4 yX4_displaced yX4_displaced, Cond.code yX4_displaced cX4_displaced 6 (some .long), Cond.fieldLink RX4 20 "DraftSurveyModel" "densities" "[J", Cond.constantLong RX4 35 (1025), Cond.methodLink RX4 188 yX4_netTold, Cond.instanceMethod yX4_netTold, Cond.selects RX4 yX4_netTold yX4_netTold, Cond.code yX4_netTold cX4_netTold 2 (some .long), Cond.methodLink RX4 174 yX4_net, Cond.instanceMethod yX4_net, Cond.selects RX4 yX4_net yX4_net, Cond.code yX4_net cX4_net 7 (some .long)]
def wsX4_mixSurvey_r5 : List Cond := [Cond.fieldLink RX4 23 "DraftSurveyModel" "deductions" "[J"]
def wsX4_mixSurvey : List Cond := .code yX4_mixSurvey cX4_mixSurvey 3 none :: ((wsX4_mixSurvey_r1 ++ (wsX4_mixSurvey_r2 ++ (wsX4_mixSurvey_r3 ++ (wsX4_mixSurvey_r4 ++ wsX4_mixSurvey_r5)))) ++ wsX40)
def wsX4_digest_r1 : List Cond := [Cond.constantLong RX4 224 (1759), Cond.fieldLink RX4 215 "DraftSurveyModel" "h" "J", Cond.fieldLink RX4 85 "DraftSurveyModel" "rows" "I", Cond.fieldLink RX4 13 "DraftSurveyModel" "table" "[J", Cond.fieldLink RX4 28 "DraftSurveyModel" "length" "J", Cond.fieldLink RX4 118 "DraftSurveyModel" "margin" "J", Cond.fieldLink RX4 47 "DraftSurveyModel" "bufferLength" "I", Cond.fieldLink RX4 7 "DraftSurveyModel" "buffer" "[I", Cond.methodLink RX4 218 yX4_mix, Cond.instanceMethod yX4_mix, Cond.selects RX4 yX4_mix yX4_mix, Cond.initialized RX4, Cond.code yX4_mix cX4_mix 3 none, Cond.constantLong RX4 213 (31), Cond.methodLink RX4 226 yX4_mixSurvey, Cond.instanceMethod yX4_mixSurvey, Cond.selects RX4 yX4_mixSurvey yX4_mixSurvey, Cond.code yX4_mixSurvey cX4_mixSurvey 3 none, Cond.fieldLink RX4 17 "DraftSurveyModel" "readings" "[J", Cond.constantLong RX4 222 (-500), Cond.constantLong RX4 155 (500), Cond.methodLink RX4 143 yX4_trimOf, Cond.instanceMethod yX4_trimOf, Cond.selects RX4 yX4_trimOf yX4_trimOf]
def wsX4_digest_r2 : List Cond := [Cond.code yX4_trimOf cX4_trimOf 4 (some .long), Cond.methodLink RX4 135 yX4_mean, Cond.instanceMethod yX4_mean, Cond.selects RX4 yX4_mean yX4_mean, Cond.code yX4_mean cX4_mean 9 (some .long), Cond.constantLong RX4 133 (2), Cond.methodLink RX4 96 yX4_quotient, Cond.static yX4_quotient, Cond.code yX4_quotient cX4_quotient 6 (some .long), Cond.methodLink RX4 146 yX4_deflectionOf, Cond.instanceMethod yX4_deflectionOf, Cond.selects RX4 yX4_deflectionOf yX4_deflectionOf, Cond.code yX4_deflectionOf cX4_deflectionOf 2 (some .long), Cond.methodLink RX4 149 yX4_heelOf, Cond.instanceMethod yX4_heelOf, Cond.selects RX4 yX4_heelOf yX4_heelOf, Cond.code yX4_heelOf cX4_heelOf 2 (some .long), Cond.methodLink RX4 152 yX4_quarter, Cond.instanceMethod yX4_quarter, Cond.selects RX4 yX4_quarter yX4_quarter, Cond.code yX4_quarter cX4_quarter 4 (some .long), Cond.constantLong RX4 139 (6), Cond.constantLong RX4 141 (8), Cond.methodLink RX4 177 yX4_firstTold]
def wsX4_digest_r3 : List Cond := [Cond.instanceMethod yX4_firstTold, Cond.selects RX4 yX4_firstTold yX4_firstTold, Cond.code yX4_firstTold cX4_firstTold 2 (some .long), Cond.constantLong RX4 110 (-9000000000000000007), Cond.methodLink RX4 170 yX4_isComputable, Cond.instanceMethod yX4_isComputable, Cond.selects RX4 yX4_isComputable yX4_isComputable, Cond.code yX4_isComputable cX4_isComputable 4 (some .boolean), Cond.methodLink RX4 102 yX4_isCovered, Cond.instanceMethod yX4_isCovered, Cond.selects RX4 yX4_isCovered yX4_isCovered, Cond.code yX4_isCovered cX4_isCovered 3 (some .boolean), Cond.methodLink RX4 88 yX4_cell, Cond.instanceMethod yX4_cell, Cond.selects RX4 yX4_cell yX4_cell, Cond.code yX4_cell cX4_cell 3 (some .long), Cond.methodLink RX4 41 yX4_within, Cond.static yX4_within, Cond.code yX4_within cX4_within 6 (some .boolean), Cond.methodLink RX4 161 yX4_first, Cond.instanceMethod yX4_first, Cond.selects RX4 yX4_first yX4_first, Cond.code yX4_first cX4_first 6 (some .long), Cond.constantLong RX4 116 (100)]
def wsX4_digest_r4 : List Cond := [Cond.methodLink RX4 106 yX4_at, Cond.instanceMethod yX4_at, Cond.selects RX4 yX4_at yX4_at, Cond.code yX4_at cX4_at 7 (some .long), Cond.methodLink RX4 180 yX4_secondTold, Cond.instanceMethod yX4_secondTold, Cond.selects RX4 yX4_secondTold yX4_secondTold, Cond.code yX4_secondTold cX4_secondTold 2 (some .long), Cond.methodLink RX4 164 yX4_second, Cond.instanceMethod yX4_second, Cond.selects RX4 yX4_second yX4_second, Cond.code yX4_second cX4_second 12 (some .long), Cond.constantLong RX4 157 (50), Cond.constantLong RX4 159 (1000), Cond.methodLink RX4 185 yX4_displacedTold, Cond.instanceMethod yX4_displacedTold, Cond.selects RX4 yX4_displacedTold yX4_displacedTold, Cond.code yX4_displacedTold cX4_displacedTold 4 (some .long), Cond.methodLink RX4 167 yX4_displaced, Cond.instanceMethod yX4_displaced, Cond.selects RX4 yX4_displaced yX4_displaced, Cond.code yX4_displaced cX4_displaced 6 (some .long), Cond.fieldLink RX4 20 "DraftSurveyModel" "densities" "[J", Cond.constantLong RX4 35 (1025)]
def wsX4_digest_r5 : List Cond := [Cond.methodLink RX4 188 yX4_netTold, Cond.instanceMethod yX4_netTold, Cond.selects RX4 yX4_netTold yX4_netTold, Cond.code yX4_netTold cX4_netTold 2 (some .long), Cond.methodLink RX4 174 yX4_net, Cond.instanceMethod yX4_net, Cond.selects RX4 yX4_net yX4_net, Cond.code yX4_net cX4_net 7 (some .long), Cond.fieldLink RX4 23 "DraftSurveyModel" "deductions" "[J", Cond.methodLink RX4 191 yX4_cargoTold, Cond.instanceMethod yX4_cargoTold, Cond.selects RX4 yX4_cargoTold yX4_cargoTold, Cond.code yX4_cargoTold cX4_cargoTold 3 (some .long), Cond.methodLink RX4 203 yX4_lowTold, Cond.instanceMethod yX4_lowTold, Cond.selects RX4 yX4_lowTold yX4_lowTold, Cond.code yX4_lowTold cX4_lowTold 3 (some .long), Cond.methodLink RX4 194 yX4_hasBounds, Cond.instanceMethod yX4_hasBounds, Cond.selects RX4 yX4_hasBounds yX4_hasBounds, Cond.code yX4_hasBounds cX4_hasBounds 2 (some .boolean), Cond.methodLink RX4 197 yX4_light, Cond.instanceMethod yX4_light, Cond.selects RX4 yX4_light yX4_light]
def wsX4_digest_r6 : List Cond := [Cond.code yX4_light cX4_light 6 (some .long), Cond.methodLink RX4 200 yX4_heavy, Cond.instanceMethod yX4_heavy, Cond.selects RX4 yX4_heavy yX4_heavy, Cond.code yX4_heavy cX4_heavy 6 (some .long), Cond.methodLink RX4 206 yX4_highTold, Cond.instanceMethod yX4_highTold, Cond.selects RX4 yX4_highTold yX4_highTold, Cond.code yX4_highTold cX4_highTold 3 (some .long), Cond.methodLink RX4 209 yX4_heaviestNow, Cond.instanceMethod yX4_heaviestNow, Cond.selects RX4 yX4_heaviestNow yX4_heaviestNow, Cond.code yX4_heaviestNow cX4_heaviestNow 4 (some .long)]
def wsX4_digest : List Cond := .code yX4_digest cX4_digest 2 (some .long) :: ((wsX4_digest_r1 ++ (wsX4_digest_r2 ++ (wsX4_digest_r3 ++ (wsX4_digest_r4 ++ (wsX4_digest_r5 ++ wsX4_digest_r6))))) ++ wsX40)
def wsJ9_max_f86c9 : List Cond := .code yJ9_max_f86c9 cJ9_max_f86c9 4 (some .long) :: ([])
def wsJ9_min_f86c9 : List Cond := .code yJ9_min_f86c9 cJ9_min_f86c9 4 (some .long) :: ([])
def wsL_law_r1 : List Cond := [Cond.classLink RL 7 RX3, Cond.instantiable RX3 7, Cond.initialized RX3, Cond.classLink RL 10 RX4, Cond.instantiable RX4 13, Cond.initialized RX4, Cond.methodLink RL 9 yX3_init, Cond.instanceMethod yX3_init, Cond.code yX3_init cX3_init 2 none, Cond.methodLink RX3 1 objectInit, Cond.instanceMethod objectInit, Cond.code objectInit ⟨#[0xb1]⟩ 1 none, Cond.arrayClass .int, Cond.fieldLink RX3 9 "DraftSurvey" "buffer" "[I", Cond.fieldLink RX3 13 "DraftSurvey" "bufferLength" "I", Cond.classLink RX3 17 RX0, Cond.instantiable RX0 5, Cond.initialized RX0, Cond.fieldLink RX3 20 "DraftSurvey" "reader" "LDraftSurvey$RowReader;", Cond.classLink RX3 24 RX2, Cond.instantiable RX2 2, Cond.initialized RX2, Cond.fieldLink RX3 27 "DraftSurvey" "table" "LDraftSurvey$Table;", Cond.classLink RX3 31 RX1]
def wsL_law_r2 : List Cond := [Cond.fieldLink RX3 33 "DraftSurvey" "surveys" "[LDraftSurvey$Survey;", Cond.instantiable RX1 3, Cond.initialized RX1, Cond.constantLong RX3 38 (180000), Cond.fieldLink RX3 40 "DraftSurvey" "length" "J", Cond.fieldLink RX3 44 "DraftSurvey" "margin" "J", Cond.instanceMethod yX0_init, Cond.code yX0_init cX0_init 1 none, Cond.methodLink RX0 3 objectInit, Cond.arrayClass .long, Cond.fieldLink RX0 9 "DraftSurvey$RowReader" "numbers" "[J", Cond.instanceMethod yX2_init, Cond.code yX2_init cX2_init 1 none, Cond.methodLink RX2 3 objectInit, Cond.fieldLink RX2 9 "DraftSurvey$Table" "cells" "[J", Cond.instanceMethod yX1_init, Cond.code yX1_init cX1_init 1 none, Cond.methodLink RX1 3 objectInit, Cond.fieldLink RX1 9 "DraftSurvey$Survey" "readings" "[J", Cond.fieldLink RX1 15 "DraftSurvey$Survey" "deductions" "[J", Cond.constantLong RX1 18 (1025), Cond.fieldLink RX1 20 "DraftSurvey$Survey" "density" "J", Cond.methodLink RL 12 yX4_init, Cond.instanceMethod yX4_init]
def wsL_law_r3 : List Cond := [Cond.code yX4_init cX4_init 2 none, Cond.methodLink RX4 1 objectInit, Cond.fieldLink RX4 7 "DraftSurveyModel" "buffer" "[I", Cond.fieldLink RX4 13 "DraftSurveyModel" "table" "[J", Cond.fieldLink RX4 17 "DraftSurveyModel" "readings" "[J", Cond.fieldLink RX4 20 "DraftSurveyModel" "densities" "[J", Cond.fieldLink RX4 23 "DraftSurveyModel" "deductions" "[J", Cond.constantLong RX4 26 (180000), Cond.fieldLink RX4 28 "DraftSurveyModel" "length" "J", Cond.fieldLink RX4 32 "DraftSurveyModel" "read" "[J", Cond.constantLong RX4 35 (1025), Cond.methodLink RL 13 yX3_append, Cond.instanceMethod yX3_append, Cond.selects RX3 yX3_append yX3_append, Cond.code yX3_append cX3_append 2 (some .long), Cond.constantLong RX3 47 (-9000000000000000003), Cond.constantLong RX3 49 (-9000000000000000006), Cond.methodLink RL 17 yX4_append, Cond.instanceMethod yX4_append, Cond.selects RX4 yX4_append yX4_append, Cond.code yX4_append cX4_append 2 (some .long), Cond.constantLong RX4 37 (32), Cond.constantLong RX4 39 (126), Cond.constantLong RX4 45 (-9000000000000000003)]
def wsL_law_r4 : List Cond := [Cond.fieldLink RX4 47 "DraftSurveyModel" "bufferLength" "I", Cond.constantLong RX4 51 (-9000000000000000006), Cond.methodLink RX4 41 yX4_within, Cond.static yX4_within, Cond.code yX4_within cX4_within 6 (some .boolean), Cond.methodLink RL 18 yX3_clearBuffer, Cond.instanceMethod yX3_clearBuffer, Cond.selects RX3 yX3_clearBuffer yX3_clearBuffer, Cond.code yX3_clearBuffer cX3_clearBuffer 3 (some .long), Cond.methodLink RL 22 yX4_clearBuffer, Cond.instanceMethod yX4_clearBuffer, Cond.selects RX4 yX4_clearBuffer yX4_clearBuffer, Cond.code yX4_clearBuffer cX4_clearBuffer 2 (some .long), Cond.methodLink RL 23 yX3_errorPosition, Cond.instanceMethod yX3_errorPosition, Cond.selects RX3 yX3_errorPosition yX3_errorPosition, Cond.code yX3_errorPosition cX3_errorPosition 1 (some .long), Cond.methodLink RX3 51 yX3_readBuffer, Cond.instanceMethod yX3_readBuffer, Cond.selects RX3 yX3_readBuffer yX3_readBuffer, Cond.code yX3_readBuffer cX3_readBuffer 2 (some .int), Cond.methodLink RX3 184 yX0_begin, Cond.instanceMethod yX0_begin, Cond.selects RX0 yX0_begin yX0_begin]
def wsL_law_r5 : List Cond := [Cond.code yX0_begin cX0_begin 1 none, Cond.fieldLink RX0 15 "DraftSurvey$RowReader" "place" "I", Cond.methodLink RX0 19 yX0_beginNumber, Cond.instanceMethod yX0_beginNumber, Cond.selects RX0 yX0_beginNumber yX0_beginNumber, Cond.code yX0_beginNumber cX0_beginNumber 1 none, Cond.fieldLink RX0 22 "DraftSurvey$RowReader" "digits" "I", Cond.fieldLink RX0 25 "DraftSurvey$RowReader" "negative" "Z", Cond.fieldLink RX0 29 "DraftSurvey$RowReader" "magnitude" "J", Cond.methodLink RX3 187 yX0_takes, Cond.instanceMethod yX0_takes, Cond.selects RX0 yX0_takes yX0_takes, Cond.code yX0_takes cX0_takes 2 (some .boolean), Cond.methodLink RX0 33 yX0_takesComma, Cond.instanceMethod yX0_takesComma, Cond.selects RX0 yX0_takesComma yX0_takesComma, Cond.code yX0_takesComma cX0_takesComma 1 (some .boolean), Cond.methodLink RX0 37 yX0_takesMinus, Cond.instanceMethod yX0_takesMinus, Cond.selects RX0 yX0_takesMinus yX0_takesMinus, Cond.code yX0_takesMinus cX0_takesMinus 1 (some .boolean), Cond.methodLink RX0 40 yX0_takesDigit, Cond.instanceMethod yX0_takesDigit, Cond.selects RX0 yX0_takesDigit yX0_takesDigit]
def wsL_law_r6 : List Cond := [Cond.code yX0_takesDigit cX0_takesDigit 6 (some .boolean), Cond.constantLong RX0 44 (10), Cond.methodLink RL 26 yX4_errorPosition, Cond.instanceMethod yX4_errorPosition, Cond.selects RX4 yX4_errorPosition yX4_errorPosition, Cond.code yX4_errorPosition cX4_errorPosition 1 (some .long), Cond.fieldLink RX4 63 "DraftSurveyModel" "errorAt" "I", Cond.methodLink RX4 80 yX4_parse, Cond.instanceMethod yX4_parse, Cond.selects RX4 yX4_parse yX4_parse, Cond.code yX4_parse cX4_parse 10 none, Cond.constantLong RX4 66 (48), Cond.constantLong RX4 68 (57), Cond.constantLong RX4 70 (10), Cond.fieldLink RX4 76 "DraftSurveyModel" "isRow" "Z", Cond.methodLink RX4 72 yX4_greatest, Cond.static yX4_greatest, Cond.code yX4_greatest cX4_greatest 1 (some .long), Cond.constantLong RX4 53 (30000), Cond.constantLong RX4 55 (9999999), Cond.constantLong RX4 57 (20000), Cond.constantLong RX4 59 (100000), Cond.constantLong RX4 61 (200000), Cond.methodLink RL 27 yX3_addRow]
def wsL_law_r7 : List Cond := [Cond.instanceMethod yX3_addRow, Cond.selects RX3 yX3_addRow yX3_addRow, Cond.code yX3_addRow cX3_addRow 1 (some .long), Cond.constantLong RX3 59 (-9000000000000000004), Cond.constantLong RX3 72 (-9000000000000000005), Cond.methodLink RX3 55 yX0_isComplete, Cond.instanceMethod yX0_isComplete, Cond.selects RX0 yX0_isComplete yX0_isComplete, Cond.code yX0_isComplete cX0_isComplete 1 (some .boolean), Cond.methodLink RX3 61 yX2_isFull, Cond.instanceMethod yX2_isFull, Cond.selects RX2 yX2_isFull yX2_isFull, Cond.code yX2_isFull cX2_isFull 1 (some .boolean), Cond.fieldLink RX2 15 "DraftSurvey$Table" "rows" "I", Cond.methodLink RX3 64 yX0_numberAt, Cond.instanceMethod yX0_numberAt, Cond.selects RX0 yX0_numberAt yX0_numberAt, Cond.code yX0_numberAt cX0_numberAt 2 (some .long), Cond.methodLink RX3 68 yX2_canFollow, Cond.instanceMethod yX2_canFollow, Cond.selects RX2 yX2_canFollow yX2_canFollow, Cond.code yX2_canFollow cX2_canFollow 5 (some .boolean), Cond.methodLink RX2 19 yX2_lastDraft, Cond.instanceMethod yX2_lastDraft]
def wsL_law_r8 : List Cond := [Cond.selects RX2 yX2_lastDraft yX2_lastDraft, Cond.code yX2_lastDraft cX2_lastDraft 1 (some .long), Cond.methodLink RX2 23 yX2_cell, Cond.instanceMethod yX2_cell, Cond.selects RX2 yX2_cell yX2_cell, Cond.code yX2_cell cX2_cell 3 (some .long), Cond.methodLink RX3 74 yX2_add, Cond.instanceMethod yX2_add, Cond.selects RX2 yX2_add yX2_add, Cond.code yX2_add cX2_add 3 none, Cond.methodLink RX2 27 yX0_numberAt, Cond.methodLink RL 30 yX4_addRow, Cond.instanceMethod yX4_addRow, Cond.selects RX4 yX4_addRow yX4_addRow, Cond.code yX4_addRow cX4_addRow 2 (some .long), Cond.constantLong RX4 83 (-9000000000000000004), Cond.fieldLink RX4 85 "DraftSurveyModel" "rows" "I", Cond.constantLong RX4 92 (-9000000000000000005), Cond.methodLink RX4 88 yX4_cell, Cond.instanceMethod yX4_cell, Cond.selects RX4 yX4_cell yX4_cell, Cond.code yX4_cell cX4_cell 3 (some .long), Cond.methodLink RL 31 yX3_clearTable, Cond.instanceMethod yX3_clearTable]
def wsL_law_r9 : List Cond := [Cond.selects RX3 yX3_clearTable yX3_clearTable, Cond.code yX3_clearTable cX3_clearTable 3 (some .long), Cond.methodLink RL 34 yX4_clearTable, Cond.instanceMethod yX4_clearTable, Cond.selects RX4 yX4_clearTable yX4_clearTable, Cond.code yX4_clearTable cX4_clearTable 2 (some .long), Cond.methodLink RL 35 yX3_rowDraft, Cond.instanceMethod yX3_rowDraft, Cond.selects RX3 yX3_rowDraft yX3_rowDraft, Cond.code yX3_rowDraft cX3_rowDraft 2 (some .long), Cond.constantLong RX3 81 (-9000000000000000002), Cond.methodLink RX3 83 yX2_cell, Cond.methodLink RL 38 yX4_rowDraft, Cond.instanceMethod yX4_rowDraft, Cond.selects RX4 yX4_rowDraft yX4_rowDraft, Cond.code yX4_rowDraft cX4_rowDraft 2 (some .long), Cond.constantLong RX4 94 (-9000000000000000002), Cond.methodLink RL 39 yX3_tableValue, Cond.instanceMethod yX3_tableValue, Cond.selects RX3 yX3_tableValue yX3_tableValue, Cond.code yX3_tableValue cX3_tableValue 3 (some .long), Cond.methodLink RX3 87 yX2_valueAt, Cond.instanceMethod yX2_valueAt, Cond.selects RX2 yX2_valueAt yX2_valueAt]
def wsL_law_r10 : List Cond := [Cond.code yX2_valueAt cX2_valueAt 17 (some .long), Cond.constantLong RX2 36 (-9000000000000000007), Cond.methodLink RX2 38 yJ9_floorDiv_f86c9, Cond.static yJ9_floorDiv_f86c9, Cond.initialized RJ9, Cond.code yJ9_floorDiv_f86c9 cJ9_floorDiv_f86c9 6 (some .long), Cond.methodLink RL 43 yX4_tableValue, Cond.instanceMethod yX4_tableValue, Cond.selects RX4 yX4_tableValue yX4_tableValue, Cond.code yX4_tableValue cX4_tableValue 3 (some .long), Cond.constantLong RX4 100 (3), Cond.constantLong RX4 110 (-9000000000000000007), Cond.methodLink RX4 102 yX4_isCovered, Cond.instanceMethod yX4_isCovered, Cond.selects RX4 yX4_isCovered yX4_isCovered, Cond.code yX4_isCovered cX4_isCovered 3 (some .boolean), Cond.methodLink RX4 106 yX4_at, Cond.instanceMethod yX4_at, Cond.selects RX4 yX4_at yX4_at, Cond.code yX4_at cX4_at 7 (some .long), Cond.methodLink RX4 96 yX4_quotient, Cond.static yX4_quotient, Cond.code yX4_quotient cX4_quotient 6 (some .long), Cond.methodLink RL 44 yX3_setLength]
def wsL_law_r11 : List Cond := [Cond.instanceMethod yX3_setLength, Cond.selects RX3 yX3_setLength yX3_setLength, Cond.code yX3_setLength cX3_setLength 4 (some .long), Cond.constant RX3 91 (400000), Cond.methodLink RL 47 yX4_setLength, Cond.instanceMethod yX4_setLength, Cond.selects RX4 yX4_setLength yX4_setLength, Cond.code yX4_setLength cX4_setLength 4 (some .long), Cond.constantLong RX4 112 (10000), Cond.constantLong RX4 114 (400000), Cond.methodLink RL 48 yX3_setMargin, Cond.instanceMethod yX3_setMargin, Cond.selects RX3 yX3_setMargin yX3_setMargin, Cond.code yX3_setMargin cX3_setMargin 4 (some .long), Cond.methodLink RL 51 yX4_setMargin, Cond.instanceMethod yX4_setMargin, Cond.selects RX4 yX4_setMargin yX4_setMargin, Cond.code yX4_setMargin cX4_setMargin 4 (some .long), Cond.constantLong RX4 116 (100), Cond.fieldLink RX4 118 "DraftSurveyModel" "margin" "J", Cond.methodLink RL 52 yX3_setReading, Cond.instanceMethod yX3_setReading, Cond.selects RX3 yX3_setReading yX3_setReading, Cond.code yX3_setReading cX3_setReading 7 (some .long)]
def wsL_law_r12 : List Cond := [Cond.constantLong RX3 96 (-9000000000000000001), Cond.methodLink RX3 92 yX3_surveyAt, Cond.instanceMethod yX3_surveyAt, Cond.selects RX3 yX3_surveyAt yX3_surveyAt, Cond.code yX3_surveyAt cX3_surveyAt 2 (some (.object "DraftSurvey$Survey")), Cond.methodLink RL 56 yX4_setReading, Cond.instanceMethod yX4_setReading, Cond.selects RX4 yX4_setReading yX4_setReading, Cond.code yX4_setReading cX4_setReading 6 (some .long), Cond.constantLong RX4 125 (-9000000000000000001), Cond.constantLong RX4 127 (5), Cond.methodLink RX4 121 yX4_isSurvey, Cond.static yX4_isSurvey, Cond.code yX4_isSurvey cX4_isSurvey 1 (some .boolean), Cond.methodLink RL 57 yX3_reading, Cond.instanceMethod yX3_reading, Cond.selects RX3 yX3_reading yX3_reading, Cond.code yX3_reading cX3_reading 4 (some .long), Cond.methodLink RL 60 yX4_reading, Cond.instanceMethod yX4_reading, Cond.selects RX4 yX4_reading yX4_reading, Cond.code yX4_reading cX4_reading 3 (some .long), Cond.methodLink RL 61 yX3_setDensity, Cond.instanceMethod yX3_setDensity]
def wsL_law_r13 : List Cond := [Cond.selects RX3 yX3_setDensity yX3_setDensity, Cond.code yX3_setDensity cX3_setDensity 6 (some .long), Cond.methodLink RL 64 yX4_setDensity, Cond.instanceMethod yX4_setDensity, Cond.selects RX4 yX4_setDensity yX4_setDensity, Cond.code yX4_setDensity cX4_setDensity 5 (some .long), Cond.constantLong RX4 129 (950), Cond.constantLong RX4 131 (1050), Cond.methodLink RL 65 yX3_setDeduction, Cond.instanceMethod yX3_setDeduction, Cond.selects RX3 yX3_setDeduction yX3_setDeduction, Cond.code yX3_setDeduction cX3_setDeduction 7 (some .long), Cond.constant RX3 105 (9999999), Cond.methodLink RL 68 yX4_setDeduction, Cond.instanceMethod yX4_setDeduction, Cond.selects RX4 yX4_setDeduction yX4_setDeduction, Cond.code yX4_setDeduction cX4_setDeduction 6 (some .long), Cond.methodLink RL 69 yX3_trim, Cond.instanceMethod yX3_trim, Cond.selects RX3 yX3_trim yX3_trim, Cond.code yX3_trim cX3_trim 3 (some .long), Cond.methodLink RX3 109 yX1_sternTrim, Cond.instanceMethod yX1_sternTrim, Cond.selects RX1 yX1_sternTrim yX1_sternTrim]
def wsL_law_r14 : List Cond := [Cond.code yX1_sternTrim cX1_sternTrim 1 (some .long), Cond.methodLink RX1 32 yX1_aftDraft, Cond.instanceMethod yX1_aftDraft, Cond.selects RX1 yX1_aftDraft yX1_aftDraft, Cond.code yX1_aftDraft cX1_aftDraft 1 (some .long), Cond.constantLong RX1 24 (2), Cond.methodLink RX1 26 yJ9_floorDiv_f86c9, Cond.methodLink RX1 36 yX1_forwardDraft, Cond.instanceMethod yX1_forwardDraft, Cond.selects RX1 yX1_forwardDraft yX1_forwardDraft, Cond.code yX1_forwardDraft cX1_forwardDraft 1 (some .long), Cond.methodLink RL 72 yX4_trim, Cond.instanceMethod yX4_trim, Cond.selects RX4 yX4_trim yX4_trim, Cond.code yX4_trim cX4_trim 2 (some .long), Cond.methodLink RX4 143 yX4_trimOf, Cond.instanceMethod yX4_trimOf, Cond.selects RX4 yX4_trimOf yX4_trimOf, Cond.code yX4_trimOf cX4_trimOf 4 (some .long), Cond.methodLink RX4 135 yX4_mean, Cond.instanceMethod yX4_mean, Cond.selects RX4 yX4_mean yX4_mean, Cond.code yX4_mean cX4_mean 9 (some .long), Cond.constantLong RX4 133 (2)]
def wsL_law_r15 : List Cond := [Cond.methodLink RL 73 yX3_deflection, Cond.instanceMethod yX3_deflection, Cond.selects RX3 yX3_deflection yX3_deflection, Cond.code yX3_deflection cX3_deflection 3 (some .long), Cond.methodLink RX3 113 yX1_hullDeflection, Cond.instanceMethod yX1_hullDeflection, Cond.selects RX1 yX1_hullDeflection yX1_hullDeflection, Cond.code yX1_hullDeflection cX1_hullDeflection 1 (some .long), Cond.methodLink RX1 39 yX1_midshipDraft, Cond.instanceMethod yX1_midshipDraft, Cond.selects RX1 yX1_midshipDraft yX1_midshipDraft, Cond.code yX1_midshipDraft cX1_midshipDraft 1 (some .long), Cond.methodLink RL 76 yX4_deflection, Cond.instanceMethod yX4_deflection, Cond.selects RX4 yX4_deflection yX4_deflection, Cond.code yX4_deflection cX4_deflection 2 (some .long), Cond.methodLink RX4 146 yX4_deflectionOf, Cond.instanceMethod yX4_deflectionOf, Cond.selects RX4 yX4_deflectionOf yX4_deflectionOf, Cond.code yX4_deflectionOf cX4_deflectionOf 2 (some .long), Cond.methodLink RL 77 yX3_heel, Cond.instanceMethod yX3_heel, Cond.selects RX3 yX3_heel yX3_heel, Cond.code yX3_heel cX3_heel 3 (some .long)]
def wsL_law_r16 : List Cond := [Cond.methodLink RX3 116 yX1_starboardHeel, Cond.instanceMethod yX1_starboardHeel, Cond.selects RX1 yX1_starboardHeel yX1_starboardHeel, Cond.code yX1_starboardHeel cX1_starboardHeel 1 (some .long), Cond.methodLink RL 80 yX4_heel, Cond.instanceMethod yX4_heel, Cond.selects RX4 yX4_heel yX4_heel, Cond.code yX4_heel cX4_heel 2 (some .long), Cond.methodLink RX4 149 yX4_heelOf, Cond.instanceMethod yX4_heelOf, Cond.selects RX4 yX4_heelOf yX4_heelOf, Cond.code yX4_heelOf cX4_heelOf 2 (some .long), Cond.methodLink RL 81 yX3_quarterMean, Cond.instanceMethod yX3_quarterMean, Cond.selects RX3 yX3_quarterMean yX3_quarterMean, Cond.code yX3_quarterMean cX3_quarterMean 3 (some .long), Cond.methodLink RX3 119 yX1_meanDraft, Cond.instanceMethod yX1_meanDraft, Cond.selects RX1 yX1_meanDraft yX1_meanDraft, Cond.code yX1_meanDraft cX1_meanDraft 1 (some .long), Cond.constantLong RX1 42 (6), Cond.constantLong RX1 44 (8), Cond.methodLink RL 84 yX4_quarterMean, Cond.instanceMethod yX4_quarterMean]
def wsL_law_r17 : List Cond := [Cond.selects RX4 yX4_quarterMean yX4_quarterMean, Cond.code yX4_quarterMean cX4_quarterMean 2 (some .long), Cond.methodLink RX4 152 yX4_quarter, Cond.instanceMethod yX4_quarter, Cond.selects RX4 yX4_quarter yX4_quarter, Cond.code yX4_quarter cX4_quarter 4 (some .long), Cond.constantLong RX4 139 (6), Cond.constantLong RX4 141 (8), Cond.methodLink RL 85 yX3_firstCorrection, Cond.instanceMethod yX3_firstCorrection, Cond.selects RX3 yX3_firstCorrection yX3_firstCorrection, Cond.code yX3_firstCorrection cX3_firstCorrection 3 (some .long), Cond.constantLong RX3 126 (-9000000000000000007), Cond.methodLink RX3 122 yX3_canCompute, Cond.instanceMethod yX3_canCompute, Cond.selects RX3 yX3_canCompute yX3_canCompute, Cond.code yX3_canCompute cX3_canCompute 4 (some .boolean), Cond.methodLink RX3 191 yX2_covers, Cond.instanceMethod yX2_covers, Cond.selects RX2 yX2_covers yX2_covers, Cond.code yX2_covers cX2_covers 3 (some .boolean), Cond.methodLink RX2 33 yX2_firstDraft, Cond.instanceMethod yX2_firstDraft, Cond.selects RX2 yX2_firstDraft yX2_firstDraft]
def wsL_law_r18 : List Cond := [Cond.code yX2_firstDraft cX2_firstDraft 1 (some .long), Cond.methodLink RX3 128 yX3_firstCorrectionAt, Cond.instanceMethod yX3_firstCorrectionAt, Cond.selects RX3 yX3_firstCorrectionAt yX3_firstCorrectionAt, Cond.code yX3_firstCorrectionAt cX3_firstCorrectionAt 7 (some .long), Cond.constantLong RX3 195 (100), Cond.methodLink RX3 197 yX3_quotient, Cond.static yX3_quotient, Cond.code yX3_quotient cX3_quotient 4 (some .long), Cond.methodLink RX3 222 yJ9_floorDiv_f86c9, Cond.methodLink RL 88 yX4_firstCorrection, Cond.instanceMethod yX4_firstCorrection, Cond.selects RX4 yX4_firstCorrection yX4_firstCorrection, Cond.code yX4_firstCorrection cX4_firstCorrection 2 (some .long), Cond.methodLink RX4 177 yX4_firstTold, Cond.instanceMethod yX4_firstTold, Cond.selects RX4 yX4_firstTold yX4_firstTold, Cond.code yX4_firstTold cX4_firstTold 2 (some .long), Cond.methodLink RX4 170 yX4_isComputable, Cond.instanceMethod yX4_isComputable, Cond.selects RX4 yX4_isComputable yX4_isComputable, Cond.code yX4_isComputable cX4_isComputable 4 (some .boolean), Cond.methodLink RX4 161 yX4_first, Cond.instanceMethod yX4_first]
def wsL_law_r19 : List Cond := [Cond.selects RX4 yX4_first yX4_first, Cond.code yX4_first cX4_first 6 (some .long), Cond.methodLink RL 89 yX3_secondCorrection, Cond.instanceMethod yX3_secondCorrection, Cond.selects RX3 yX3_secondCorrection yX3_secondCorrection, Cond.code yX3_secondCorrection cX3_secondCorrection 3 (some .long), Cond.methodLink RX3 132 yX3_secondCorrectionAt, Cond.instanceMethod yX3_secondCorrectionAt, Cond.selects RX3 yX3_secondCorrectionAt yX3_secondCorrectionAt, Cond.code yX3_secondCorrectionAt cX3_secondCorrectionAt 11 (some .long), Cond.constantLong RX3 200 (500), Cond.methodLink RX3 205 Lib.MathLoose.max_long.x, Cond.static Lib.MathLoose.max_long.x, Cond.initialized "java/lang/Math", Cond.code Lib.MathLoose.max_long.x Lib.MathLoose.max_long.code 4 (some .long), Cond.methodLink RX3 213 Lib.MathLoose.min_long.x, Cond.static Lib.MathLoose.min_long.x, Cond.code Lib.MathLoose.min_long.x Lib.MathLoose.min_long.code 4 (some .long), Cond.constantLong RX3 216 (50), Cond.constantLong RX3 218 (1000), Cond.methodLink RX3 202 yX2_firstDraft, Cond.methodLink RX3 210 yX2_lastDraft, Cond.methodLink RL 92 yX4_secondCorrection, Cond.instanceMethod yX4_secondCorrection]
def wsL_law_r20 : List Cond := [Cond.selects RX4 yX4_secondCorrection yX4_secondCorrection, Cond.code yX4_secondCorrection cX4_secondCorrection 2 (some .long), Cond.methodLink RX4 180 yX4_secondTold, Cond.instanceMethod yX4_secondTold, Cond.selects RX4 yX4_secondTold yX4_secondTold, Cond.code yX4_secondTold cX4_secondTold 2 (some .long), Cond.methodLink RX4 164 yX4_second, Cond.instanceMethod yX4_second, Cond.selects RX4 yX4_second yX4_second, Cond.code yX4_second cX4_second 12 (some .long), Cond.constantLong RX4 155 (500), Cond.constantLong RX4 157 (50), Cond.constantLong RX4 159 (1000), Cond.methodLink RL 93 yX3_displacement, Cond.instanceMethod yX3_displacement, Cond.selects RX3 yX3_displacement yX3_displacement, Cond.code yX3_displacement cX3_displacement 4 (some .long), Cond.methodLink RX3 135 yX3_displacementOf, Cond.instanceMethod yX3_displacementOf, Cond.selects RX3 yX3_displacementOf yX3_displacementOf, Cond.code yX3_displacementOf cX3_displacementOf 10 (some .long), Cond.constantLong RX3 220 (1025), Cond.methodLink RL 96 yX4_displacement, Cond.instanceMethod yX4_displacement]
def wsL_law_r21 : List Cond := [Cond.selects RX4 yX4_displacement yX4_displacement, Cond.code yX4_displacement cX4_displacement 3 (some .long), Cond.constantLong RX4 183 (-1000), Cond.methodLink RX4 185 yX4_displacedTold, Cond.instanceMethod yX4_displacedTold, Cond.selects RX4 yX4_displacedTold yX4_displacedTold, Cond.code yX4_displacedTold cX4_displacedTold 4 (some .long), Cond.methodLink RX4 167 yX4_displaced, Cond.instanceMethod yX4_displaced, Cond.selects RX4 yX4_displaced yX4_displaced, Cond.code yX4_displaced cX4_displaced 6 (some .long), Cond.methodLink RL 97 yX3_netWeight, Cond.instanceMethod yX3_netWeight, Cond.selects RX3 yX3_netWeight yX3_netWeight, Cond.code yX3_netWeight cX3_netWeight 3 (some .long), Cond.methodLink RX3 139 yX3_netWeightOf, Cond.instanceMethod yX3_netWeightOf, Cond.selects RX3 yX3_netWeightOf yX3_netWeightOf, Cond.code yX3_netWeightOf cX3_netWeightOf 4 (some .long), Cond.methodLink RX3 225 yX1_deducted, Cond.instanceMethod yX1_deducted, Cond.selects RX1 yX1_deducted yX1_deducted, Cond.code yX1_deducted cX1_deducted 4 (some .long), Cond.methodLink RL 100 yX4_netWeight]
def wsL_law_r22 : List Cond := [Cond.instanceMethod yX4_netWeight, Cond.selects RX4 yX4_netWeight yX4_netWeight, Cond.code yX4_netWeight cX4_netWeight 2 (some .long), Cond.methodLink RX4 188 yX4_netTold, Cond.instanceMethod yX4_netTold, Cond.selects RX4 yX4_netTold yX4_netTold, Cond.code yX4_netTold cX4_netTold 2 (some .long), Cond.methodLink RX4 174 yX4_net, Cond.instanceMethod yX4_net, Cond.selects RX4 yX4_net yX4_net, Cond.code yX4_net cX4_net 7 (some .long), Cond.methodLink RL 101 yX3_cargo, Cond.instanceMethod yX3_cargo, Cond.selects RX3 yX3_cargo yX3_cargo, Cond.code yX3_cargo cX3_cargo 5 (some .long), Cond.methodLink RL 104 yX4_cargo, Cond.instanceMethod yX4_cargo, Cond.selects RX4 yX4_cargo yX4_cargo, Cond.code yX4_cargo cX4_cargo 3 (some .long), Cond.methodLink RX4 191 yX4_cargoTold, Cond.instanceMethod yX4_cargoTold, Cond.selects RX4 yX4_cargoTold yX4_cargoTold, Cond.code yX4_cargoTold cX4_cargoTold 3 (some .long), Cond.methodLink RL 105 yX3_cargoLow]
def wsL_law_r23 : List Cond := [Cond.instanceMethod yX3_cargoLow, Cond.selects RX3 yX3_cargoLow yX3_cargoLow, Cond.code yX3_cargoLow cX3_cargoLow 5 (some .long), Cond.methodLink RX3 142 yX3_canComputeMargins, Cond.instanceMethod yX3_canComputeMargins, Cond.selects RX3 yX3_canComputeMargins yX3_canComputeMargins, Cond.code yX3_canComputeMargins cX3_canComputeMargins 2 (some .boolean), Cond.methodLink RX3 146 yX3_lightWeight, Cond.instanceMethod yX3_lightWeight, Cond.selects RX3 yX3_lightWeight yX3_lightWeight, Cond.code yX3_lightWeight cX3_lightWeight 2 (some .long), Cond.methodLink RX3 150 yX3_heavyWeight, Cond.instanceMethod yX3_heavyWeight, Cond.selects RX3 yX3_heavyWeight yX3_heavyWeight, Cond.code yX3_heavyWeight cX3_heavyWeight 2 (some .long), Cond.methodLink RL 108 yX4_cargoLow, Cond.instanceMethod yX4_cargoLow, Cond.selects RX4 yX4_cargoLow yX4_cargoLow, Cond.code yX4_cargoLow cX4_cargoLow 3 (some .long), Cond.methodLink RX4 203 yX4_lowTold, Cond.instanceMethod yX4_lowTold, Cond.selects RX4 yX4_lowTold yX4_lowTold, Cond.code yX4_lowTold cX4_lowTold 3 (some .long), Cond.methodLink RX4 194 yX4_hasBounds]
def wsL_law_r24 : List Cond := [Cond.instanceMethod yX4_hasBounds, Cond.selects RX4 yX4_hasBounds yX4_hasBounds, Cond.code yX4_hasBounds cX4_hasBounds 2 (some .boolean), Cond.methodLink RX4 197 yX4_light, Cond.instanceMethod yX4_light, Cond.selects RX4 yX4_light yX4_light, Cond.code yX4_light cX4_light 6 (some .long), Cond.methodLink RX4 200 yX4_heavy, Cond.instanceMethod yX4_heavy, Cond.selects RX4 yX4_heavy yX4_heavy, Cond.code yX4_heavy cX4_heavy 6 (some .long), Cond.methodLink RL 109 yX3_cargoHigh, Cond.instanceMethod yX3_cargoHigh, Cond.selects RX3 yX3_cargoHigh yX3_cargoHigh, Cond.code yX3_cargoHigh cX3_cargoHigh 5 (some .long), Cond.methodLink RL 112 yX4_cargoHigh, Cond.instanceMethod yX4_cargoHigh, Cond.selects RX4 yX4_cargoHigh yX4_cargoHigh, Cond.code yX4_cargoHigh cX4_cargoHigh 3 (some .long), Cond.methodLink RX4 206 yX4_highTold, Cond.instanceMethod yX4_highTold, Cond.selects RX4 yX4_highTold yX4_highTold, Cond.code yX4_highTold cX4_highTold 3 (some .long), Cond.methodLink RL 113 yX3_draftFor]
def wsL_law_r25 : List Cond := [Cond.instanceMethod yX3_draftFor, Cond.selects RX3 yX3_draftFor yX3_draftFor, Cond.code yX3_draftFor cX3_draftFor 2 (some .long), Cond.methodLink RX3 153 yX2_leastDraftFor, Cond.instanceMethod yX2_leastDraftFor, Cond.selects RX2 yX2_leastDraftFor yX2_leastDraftFor, Cond.code yX2_leastDraftFor cX2_leastDraftFor 14 (some .long), Cond.methodLink RL 116 yX4_draftFor, Cond.instanceMethod yX4_draftFor, Cond.selects RX4 yX4_draftFor yX4_draftFor, Cond.code yX4_draftFor cX4_draftFor 8 (some .long), Cond.methodLink RL 117 yX3_heaviest, Cond.instanceMethod yX3_heaviest, Cond.selects RX3 yX3_heaviest yX3_heaviest, Cond.code yX3_heaviest cX3_heaviest 9 (some .long), Cond.methodLink RL 120 yX4_heaviest, Cond.instanceMethod yX4_heaviest, Cond.selects RX4 yX4_heaviest yX4_heaviest, Cond.code yX4_heaviest cX4_heaviest 1 (some .long), Cond.methodLink RX4 209 yX4_heaviestNow, Cond.instanceMethod yX4_heaviestNow, Cond.selects RX4 yX4_heaviestNow yX4_heaviestNow, Cond.code yX4_heaviestNow cX4_heaviestNow 4 (some .long), Cond.methodLink RL 121 yX3_rowCount]
def wsL_law_r26 : List Cond := [Cond.instanceMethod yX3_rowCount, Cond.selects RX3 yX3_rowCount yX3_rowCount, Cond.code yX3_rowCount cX3_rowCount 1 (some .long), Cond.methodLink RL 124 yX4_rowCount, Cond.instanceMethod yX4_rowCount, Cond.selects RX4 yX4_rowCount yX4_rowCount, Cond.code yX4_rowCount cX4_rowCount 1 (some .long), Cond.methodLink RL 125 yX3_digest, Cond.instanceMethod yX3_digest, Cond.selects RX3 yX3_digest yX3_digest, Cond.code yX3_digest cX3_digest 4 (some .long), Cond.constantLong RX3 157 (1759), Cond.methodLink RX3 159 yX3_hashOfTable, Cond.instanceMethod yX3_hashOfTable, Cond.selects RX3 yX3_hashOfTable yX3_hashOfTable, Cond.code yX3_hashOfTable cX3_hashOfTable 7 (some .long), Cond.methodLink RX3 169 yX3_hashWith, Cond.static yX3_hashWith, Cond.code yX3_hashWith cX3_hashWith 4 (some .long), Cond.constantLong RX3 228 (31), Cond.methodLink RX3 162 yX3_hashOfSurvey, Cond.instanceMethod yX3_hashOfSurvey, Cond.selects RX3 yX3_hashOfSurvey yX3_hashOfSurvey, Cond.code yX3_hashOfSurvey cX3_hashOfSurvey 7 (some .long)]
def wsL_law_r27 : List Cond := [Cond.methodLink RX3 230 yX3_reading, Cond.methodLink RX3 233 yX3_trim, Cond.methodLink RX3 236 yX3_deflection, Cond.methodLink RX3 239 yX3_heel, Cond.methodLink RX3 242 yX3_quarterMean, Cond.methodLink RX3 245 yX3_firstCorrection, Cond.methodLink RX3 248 yX3_secondCorrection, Cond.methodLink RX3 251 yX3_displacement, Cond.methodLink RX3 254 yX3_netWeight, Cond.methodLink RX3 166 yX3_cargo, Cond.methodLink RX3 172 yX3_cargoLow, Cond.methodLink RX3 175 yX3_cargoHigh, Cond.methodLink RX3 178 yX3_heaviest, Cond.methodLink RX3 181 yX3_hashOfBuffer, Cond.instanceMethod yX3_hashOfBuffer, Cond.selects RX3 yX3_hashOfBuffer yX3_hashOfBuffer, Cond.code yX3_hashOfBuffer cX3_hashOfBuffer 6 (some .long), Cond.methodLink RL 128 yX4_digest, Cond.instanceMethod yX4_digest, Cond.selects RX4 yX4_digest yX4_digest, Cond.code yX4_digest cX4_digest 2 (some .long), Cond.constantLong RX4 224 (1759), Cond.fieldLink RX4 215 "DraftSurveyModel" "h" "J", Cond.methodLink RX4 218 yX4_mix]
def wsL_law_r28 : List Cond := [Cond.instanceMethod yX4_mix, Cond.selects RX4 yX4_mix yX4_mix, Cond.code yX4_mix cX4_mix 3 none, Cond.constantLong RX4 213 (31), Cond.methodLink RX4 226 yX4_mixSurvey, Cond.instanceMethod yX4_mixSurvey, Cond.selects RX4 yX4_mixSurvey yX4_mixSurvey, Cond.code yX4_mixSurvey cX4_mixSurvey 3 none, Cond.constantLong RX4 222 (-500)]
def wsL_law : List Cond := (wsL_law_r1 ++ (wsL_law_r2 ++ (wsL_law_r3 ++ (wsL_law_r4 ++ (wsL_law_r5 ++ (wsL_law_r6 ++ (wsL_law_r7 ++ (wsL_law_r8 ++ (wsL_law_r9 ++ (wsL_law_r10 ++ (wsL_law_r11 ++ (wsL_law_r12 ++ (wsL_law_r13 ++ (wsL_law_r14 ++ (wsL_law_r15 ++ (wsL_law_r16 ++ (wsL_law_r17 ++ (wsL_law_r18 ++ (wsL_law_r19 ++ (wsL_law_r20 ++ (wsL_law_r21 ++ (wsL_law_r22 ++ (wsL_law_r23 ++ (wsL_law_r24 ++ (wsL_law_r25 ++ (wsL_law_r26 ++ (wsL_law_r27 ++ wsL_law_r28))))))))))))))))))))))))))) ++ wsX30 ++ wsX40 ++ wsX00 ++ wsX20 ++ wsX10 ++ ([] : List Cond)
theorem wt_1 {w : Cond} {i : Nat} (h : tables_1_1[i]? = some w) : w ∈ lw_tbl := List.mem_append_right _ (List.mem_append_left _ (List.mem_of_getElem? h))
theorem wt_2 {w : Cond} {i : Nat} (h : tables_1_2[i]? = some w) : w ∈ lw_tbl := List.mem_append_right _ (List.mem_append_right _ (List.mem_append_left _ (List.mem_of_getElem? h)))
theorem wt_3 {w : Cond} {i : Nat} (h : tables_1_3[i]? = some w) : w ∈ lw_tbl := List.mem_append_right _ (List.mem_append_right _ (List.mem_append_right _ (List.mem_append_left _ (List.mem_of_getElem? h))))
theorem wt_4 {w : Cond} {i : Nat} (h : tables_1_4[i]? = some w) : w ∈ lw_tbl := List.mem_append_right _ (List.mem_append_right _ (List.mem_append_right _ (List.mem_append_right _ (List.mem_of_getElem? h))))
theorem wt_S {w : Cond} {i : Nat} (h : (k2_sels lw_privs)[i]? = some w) : w ∈ lw_tbl := List.mem_append_left _ (List.mem_of_getElem? h)
set_option maxRecDepth 20000 in
theorem wl_in_1 : ∀ w ∈ wsL_law_r1, w ∈ lw_tbl := List.forall_mem_cons.mpr ⟨wt_1 (i := 7) rfl, List.forall_mem_cons.mpr ⟨wt_1 (i := 8) rfl, List.forall_mem_cons.mpr ⟨wt_1 (i := 1) rfl, List.forall_mem_cons.mpr ⟨wt_2 (i := 179) rfl, List.forall_mem_cons.mpr ⟨wt_2 (i := 180) rfl, List.forall_mem_cons.mpr ⟨wt_1 (i := 5) rfl, List.forall_mem_cons.mpr ⟨wt_1 (i := 9) rfl, List.forall_mem_cons.mpr ⟨wt_1 (i := 10) rfl, List.forall_mem_cons.mpr ⟨wt_1 (i := 11) rfl, List.forall_mem_cons.mpr ⟨wt_1 (i := 12) rfl, List.forall_mem_cons.mpr ⟨wt_1 (i := 13) rfl, List.forall_mem_cons.mpr ⟨wt_1 (i := 14) rfl, List.forall_mem_cons.mpr ⟨wt_1 (i := 37) rfl, List.forall_mem_cons.mpr ⟨wt_1 (i := 75) rfl, List.forall_mem_cons.mpr ⟨wt_1 (i := 76) rfl, List.forall_mem_cons.mpr ⟨wt_1 (i := 15) rfl, List.forall_mem_cons.mpr ⟨wt_1 (i := 16) rfl, List.forall_mem_cons.mpr ⟨wt_1 (i := 2) rfl, List.forall_mem_cons.mpr ⟨wt_1 (i := 77) rfl, List.forall_mem_cons.mpr ⟨wt_1 (i := 39) rfl, List.forall_mem_cons.mpr ⟨wt_1 (i := 40) rfl, List.forall_mem_cons.mpr ⟨wt_1 (i := 3) rfl, List.forall_mem_cons.mpr ⟨wt_1 (i := 78) rfl, List.forall_mem_cons.mpr ⟨wt_1 (i := 53) rfl, fun _ h => absurd h List.not_mem_nil⟩⟩⟩⟩⟩⟩⟩⟩⟩⟩⟩⟩⟩⟩⟩⟩⟩⟩⟩⟩⟩⟩⟩⟩
set_option maxRecDepth 20000 in
theorem wl_in_2 : ∀ w ∈ wsL_law_r2, w ∈ lw_tbl := List.forall_mem_cons.mpr ⟨wt_1 (i := 79) rfl, List.forall_mem_cons.mpr ⟨wt_1 (i := 55) rfl, List.forall_mem_cons.mpr ⟨wt_1 (i := 4) rfl, List.forall_mem_cons.mpr ⟨wt_1 (i := 74) rfl, List.forall_mem_cons.mpr ⟨wt_1 (i := 80) rfl, List.forall_mem_cons.mpr ⟨wt_1 (i := 81) rfl, List.forall_mem_cons.mpr ⟨wt_1 (i := 18) rfl, List.forall_mem_cons.mpr ⟨wt_1 (i := 19) rfl, List.forall_mem_cons.mpr ⟨wt_1 (i := 20) rfl, List.forall_mem_cons.mpr ⟨wt_1 (i := 38) rfl, List.forall_mem_cons.mpr ⟨wt_1 (i := 21) rfl, List.forall_mem_cons.mpr ⟨wt_1 (i := 42) rfl, List.forall_mem_cons.mpr ⟨wt_1 (i := 43) rfl, List.forall_mem_cons.mpr ⟨wt_1 (i := 44) rfl, List.forall_mem_cons.mpr ⟨wt_1 (i := 45) rfl, List.forall_mem_cons.mpr ⟨wt_1 (i := 57) rfl, List.forall_mem_cons.mpr ⟨wt_1 (i := 58) rfl, List.forall_mem_cons.mpr ⟨wt_1 (i := 59) rfl, List.forall_mem_cons.mpr ⟨wt_1 (i := 61) rfl, List.forall_mem_cons.mpr ⟨wt_1 (i := 63) rfl, List.forall_mem_cons.mpr ⟨wt_1 (i := 60) rfl, List.forall_mem_cons.mpr ⟨wt_1 (i := 65) rfl, List.forall_mem_cons.mpr ⟨wt_2 (i := 181) rfl, List.forall_mem_cons.mpr ⟨wt_2 (i := 182) rfl, fun _ h => absurd h List.not_mem_nil⟩⟩⟩⟩⟩⟩⟩⟩⟩⟩⟩⟩⟩⟩⟩⟩⟩⟩⟩⟩⟩⟩⟩⟩
set_option maxRecDepth 20000 in
theorem wl_in_3 : ∀ w ∈ wsL_law_r3, w ∈ lw_tbl := List.forall_mem_cons.mpr ⟨wt_2 (i := 183) rfl, List.forall_mem_cons.mpr ⟨wt_2 (i := 184) rfl, List.forall_mem_cons.mpr ⟨wt_2 (i := 188) rfl, List.forall_mem_cons.mpr ⟨wt_2 (i := 190) rfl, List.forall_mem_cons.mpr ⟨wt_2 (i := 191) rfl, List.forall_mem_cons.mpr ⟨wt_2 (i := 192) rfl, List.forall_mem_cons.mpr ⟨wt_2 (i := 193) rfl, List.forall_mem_cons.mpr ⟨wt_2 (i := 185) rfl, List.forall_mem_cons.mpr ⟨wt_2 (i := 194) rfl, List.forall_mem_cons.mpr ⟨wt_2 (i := 196) rfl, List.forall_mem_cons.mpr ⟨wt_2 (i := 186) rfl, List.forall_mem_cons.mpr ⟨wt_1 (i := 97) rfl, List.forall_mem_cons.mpr ⟨wt_1 (i := 98) rfl, List.forall_mem_cons.mpr ⟨wt_1 (i := 99) rfl, List.forall_mem_cons.mpr ⟨wt_1 (i := 100) rfl, List.forall_mem_cons.mpr ⟨wt_1 (i := 101) rfl, List.forall_mem_cons.mpr ⟨wt_1 (i := 102) rfl, List.forall_mem_cons.mpr ⟨wt_2 (i := 227) rfl, List.forall_mem_cons.mpr ⟨wt_2 (i := 228) rfl, List.forall_mem_cons.mpr ⟨wt_2 (i := 229) rfl, List.forall_mem_cons.mpr ⟨wt_2 (i := 230) rfl, List.forall_mem_cons.mpr ⟨wt_2 (i := 231) rfl, List.forall_mem_cons.mpr ⟨wt_2 (i := 232) rfl, List.forall_mem_cons.mpr ⟨wt_2 (i := 236) rfl, fun _ h => absurd h List.not_mem_nil⟩⟩⟩⟩⟩⟩⟩⟩⟩⟩⟩⟩⟩⟩⟩⟩⟩⟩⟩⟩⟩⟩⟩⟩
set_option maxRecDepth 20000 in
theorem wl_in_4 : ∀ w ∈ wsL_law_r4, w ∈ lw_tbl := List.forall_mem_cons.mpr ⟨wt_2 (i := 187) rfl, List.forall_mem_cons.mpr ⟨wt_2 (i := 237) rfl, List.forall_mem_cons.mpr ⟨wt_2 (i := 233) rfl, List.forall_mem_cons.mpr ⟨wt_2 (i := 234) rfl, List.forall_mem_cons.mpr ⟨wt_2 (i := 235) rfl, List.forall_mem_cons.mpr ⟨wt_1 (i := 103) rfl, List.forall_mem_cons.mpr ⟨wt_1 (i := 104) rfl, List.forall_mem_cons.mpr ⟨wt_1 (i := 105) rfl, List.forall_mem_cons.mpr ⟨wt_1 (i := 106) rfl, List.forall_mem_cons.mpr ⟨wt_2 (i := 238) rfl, List.forall_mem_cons.mpr ⟨wt_2 (i := 239) rfl, List.forall_mem_cons.mpr ⟨wt_3 (i := 0) rfl, List.forall_mem_cons.mpr ⟨wt_3 (i := 1) rfl, List.forall_mem_cons.mpr ⟨wt_1 (i := 107) rfl, List.forall_mem_cons.mpr ⟨wt_1 (i := 108) rfl, List.forall_mem_cons.mpr ⟨wt_1 (i := 109) rfl, List.forall_mem_cons.mpr ⟨wt_1 (i := 110) rfl, List.forall_mem_cons.mpr ⟨wt_1 (i := 111) rfl, List.forall_mem_cons.mpr ⟨wt_1 (i := 113) rfl, List.forall_mem_cons.mpr ⟨wt_S (i := 0) rfl, List.forall_mem_cons.mpr ⟨wt_1 (i := 114) rfl, List.forall_mem_cons.mpr ⟨wt_1 (i := 115) rfl, List.forall_mem_cons.mpr ⟨wt_1 (i := 116) rfl, List.forall_mem_cons.mpr ⟨wt_1 (i := 117) rfl, fun _ h => absurd h List.not_mem_nil⟩⟩⟩⟩⟩⟩⟩⟩⟩⟩⟩⟩⟩⟩⟩⟩⟩⟩⟩⟩⟩⟩⟩⟩
set_option maxRecDepth 20000 in
theorem wl_in_5 : ∀ w ∈ wsL_law_r5, w ∈ lw_tbl := List.forall_mem_cons.mpr ⟨wt_1 (i := 118) rfl, List.forall_mem_cons.mpr ⟨wt_1 (i := 22) rfl, List.forall_mem_cons.mpr ⟨wt_1 (i := 119) rfl, List.forall_mem_cons.mpr ⟨wt_1 (i := 121) rfl, List.forall_mem_cons.mpr ⟨wt_S (i := 1) rfl, List.forall_mem_cons.mpr ⟨wt_1 (i := 122) rfl, List.forall_mem_cons.mpr ⟨wt_1 (i := 23) rfl, List.forall_mem_cons.mpr ⟨wt_1 (i := 24) rfl, List.forall_mem_cons.mpr ⟨wt_1 (i := 25) rfl, List.forall_mem_cons.mpr ⟨wt_1 (i := 123) rfl, List.forall_mem_cons.mpr ⟨wt_1 (i := 124) rfl, List.forall_mem_cons.mpr ⟨wt_1 (i := 125) rfl, List.forall_mem_cons.mpr ⟨wt_1 (i := 126) rfl, List.forall_mem_cons.mpr ⟨wt_1 (i := 127) rfl, List.forall_mem_cons.mpr ⟨wt_1 (i := 129) rfl, List.forall_mem_cons.mpr ⟨wt_S (i := 2) rfl, List.forall_mem_cons.mpr ⟨wt_1 (i := 130) rfl, List.forall_mem_cons.mpr ⟨wt_1 (i := 131) rfl, List.forall_mem_cons.mpr ⟨wt_1 (i := 133) rfl, List.forall_mem_cons.mpr ⟨wt_S (i := 3) rfl, List.forall_mem_cons.mpr ⟨wt_1 (i := 134) rfl, List.forall_mem_cons.mpr ⟨wt_1 (i := 135) rfl, List.forall_mem_cons.mpr ⟨wt_1 (i := 137) rfl, List.forall_mem_cons.mpr ⟨wt_S (i := 4) rfl, fun _ h => absurd h List.not_mem_nil⟩⟩⟩⟩⟩⟩⟩⟩⟩⟩⟩⟩⟩⟩⟩⟩⟩⟩⟩⟩⟩⟩⟩⟩
set_option maxRecDepth 20000 in
theorem wl_in_6 : ∀ w ∈ wsL_law_r6, w ∈ lw_tbl := List.forall_mem_cons.mpr ⟨wt_1 (i := 138) rfl, List.forall_mem_cons.mpr ⟨wt_1 (i := 139) rfl, List.forall_mem_cons.mpr ⟨wt_3 (i := 2) rfl, List.forall_mem_cons.mpr ⟨wt_3 (i := 3) rfl, List.forall_mem_cons.mpr ⟨wt_3 (i := 4) rfl, List.forall_mem_cons.mpr ⟨wt_3 (i := 5) rfl, List.forall_mem_cons.mpr ⟨wt_2 (i := 197) rfl, List.forall_mem_cons.mpr ⟨wt_3 (i := 6) rfl, List.forall_mem_cons.mpr ⟨wt_3 (i := 8) rfl, List.forall_mem_cons.mpr ⟨wt_S (i := 17) rfl, List.forall_mem_cons.mpr ⟨wt_3 (i := 9) rfl, List.forall_mem_cons.mpr ⟨wt_3 (i := 10) rfl, List.forall_mem_cons.mpr ⟨wt_3 (i := 11) rfl, List.forall_mem_cons.mpr ⟨wt_3 (i := 12) rfl, List.forall_mem_cons.mpr ⟨wt_2 (i := 198) rfl, List.forall_mem_cons.mpr ⟨wt_3 (i := 13) rfl, List.forall_mem_cons.mpr ⟨wt_3 (i := 14) rfl, List.forall_mem_cons.mpr ⟨wt_3 (i := 15) rfl, List.forall_mem_cons.mpr ⟨wt_3 (i := 16) rfl, List.forall_mem_cons.mpr ⟨wt_3 (i := 17) rfl, List.forall_mem_cons.mpr ⟨wt_3 (i := 18) rfl, List.forall_mem_cons.mpr ⟨wt_3 (i := 19) rfl, List.forall_mem_cons.mpr ⟨wt_3 (i := 20) rfl, List.forall_mem_cons.mpr ⟨wt_1 (i := 142) rfl, fun _ h => absurd h List.not_mem_nil⟩⟩⟩⟩⟩⟩⟩⟩⟩⟩⟩⟩⟩⟩⟩⟩⟩⟩⟩⟩⟩⟩⟩⟩
set_option maxRecDepth 20000 in
theorem wl_in_7 : ∀ w ∈ wsL_law_r7, w ∈ lw_tbl := List.forall_mem_cons.mpr ⟨wt_1 (i := 143) rfl, List.forall_mem_cons.mpr ⟨wt_1 (i := 144) rfl, List.forall_mem_cons.mpr ⟨wt_1 (i := 145) rfl, List.forall_mem_cons.mpr ⟨wt_1 (i := 150) rfl, List.forall_mem_cons.mpr ⟨wt_1 (i := 171) rfl, List.forall_mem_cons.mpr ⟨wt_1 (i := 146) rfl, List.forall_mem_cons.mpr ⟨wt_1 (i := 147) rfl, List.forall_mem_cons.mpr ⟨wt_1 (i := 148) rfl, List.forall_mem_cons.mpr ⟨wt_1 (i := 149) rfl, List.forall_mem_cons.mpr ⟨wt_1 (i := 151) rfl, List.forall_mem_cons.mpr ⟨wt_1 (i := 152) rfl, List.forall_mem_cons.mpr ⟨wt_1 (i := 153) rfl, List.forall_mem_cons.mpr ⟨wt_1 (i := 154) rfl, List.forall_mem_cons.mpr ⟨wt_1 (i := 46) rfl, List.forall_mem_cons.mpr ⟨wt_1 (i := 155) rfl, List.forall_mem_cons.mpr ⟨wt_1 (i := 156) rfl, List.forall_mem_cons.mpr ⟨wt_1 (i := 157) rfl, List.forall_mem_cons.mpr ⟨wt_1 (i := 158) rfl, List.forall_mem_cons.mpr ⟨wt_1 (i := 159) rfl, List.forall_mem_cons.mpr ⟨wt_1 (i := 160) rfl, List.forall_mem_cons.mpr ⟨wt_1 (i := 161) rfl, List.forall_mem_cons.mpr ⟨wt_1 (i := 162) rfl, List.forall_mem_cons.mpr ⟨wt_1 (i := 163) rfl, List.forall_mem_cons.mpr ⟨wt_1 (i := 164) rfl, fun _ h => absurd h List.not_mem_nil⟩⟩⟩⟩⟩⟩⟩⟩⟩⟩⟩⟩⟩⟩⟩⟩⟩⟩⟩⟩⟩⟩⟩⟩
set_option maxRecDepth 20000 in
theorem wl_in_8 : ∀ w ∈ wsL_law_r8, w ∈ lw_tbl := List.forall_mem_cons.mpr ⟨wt_1 (i := 165) rfl, List.forall_mem_cons.mpr ⟨wt_1 (i := 166) rfl, List.forall_mem_cons.mpr ⟨wt_1 (i := 167) rfl, List.forall_mem_cons.mpr ⟨wt_1 (i := 168) rfl, List.forall_mem_cons.mpr ⟨wt_1 (i := 169) rfl, List.forall_mem_cons.mpr ⟨wt_1 (i := 170) rfl, List.forall_mem_cons.mpr ⟨wt_1 (i := 172) rfl, List.forall_mem_cons.mpr ⟨wt_1 (i := 173) rfl, List.forall_mem_cons.mpr ⟨wt_1 (i := 174) rfl, List.forall_mem_cons.mpr ⟨wt_1 (i := 175) rfl, List.forall_mem_cons.mpr ⟨wt_1 (i := 176) rfl, List.forall_mem_cons.mpr ⟨wt_3 (i := 21) rfl, List.forall_mem_cons.mpr ⟨wt_3 (i := 22) rfl, List.forall_mem_cons.mpr ⟨wt_3 (i := 23) rfl, List.forall_mem_cons.mpr ⟨wt_3 (i := 24) rfl, List.forall_mem_cons.mpr ⟨wt_3 (i := 25) rfl, List.forall_mem_cons.mpr ⟨wt_2 (i := 189) rfl, List.forall_mem_cons.mpr ⟨wt_3 (i := 30) rfl, List.forall_mem_cons.mpr ⟨wt_3 (i := 26) rfl, List.forall_mem_cons.mpr ⟨wt_3 (i := 28) rfl, List.forall_mem_cons.mpr ⟨wt_S (i := 18) rfl, List.forall_mem_cons.mpr ⟨wt_3 (i := 29) rfl, List.forall_mem_cons.mpr ⟨wt_1 (i := 177) rfl, List.forall_mem_cons.mpr ⟨wt_1 (i := 178) rfl, fun _ h => absurd h List.not_mem_nil⟩⟩⟩⟩⟩⟩⟩⟩⟩⟩⟩⟩⟩⟩⟩⟩⟩⟩⟩⟩⟩⟩⟩⟩
set_option maxRecDepth 20000 in
theorem wl_in_9 : ∀ w ∈ wsL_law_r9, w ∈ lw_tbl := List.forall_mem_cons.mpr ⟨wt_1 (i := 179) rfl, List.forall_mem_cons.mpr ⟨wt_1 (i := 180) rfl, List.forall_mem_cons.mpr ⟨wt_3 (i := 31) rfl, List.forall_mem_cons.mpr ⟨wt_3 (i := 32) rfl, List.forall_mem_cons.mpr ⟨wt_3 (i := 33) rfl, List.forall_mem_cons.mpr ⟨wt_3 (i := 34) rfl, List.forall_mem_cons.mpr ⟨wt_1 (i := 181) rfl, List.forall_mem_cons.mpr ⟨wt_1 (i := 182) rfl, List.forall_mem_cons.mpr ⟨wt_1 (i := 183) rfl, List.forall_mem_cons.mpr ⟨wt_1 (i := 184) rfl, List.forall_mem_cons.mpr ⟨wt_1 (i := 185) rfl, List.forall_mem_cons.mpr ⟨wt_1 (i := 186) rfl, List.forall_mem_cons.mpr ⟨wt_3 (i := 35) rfl, List.forall_mem_cons.mpr ⟨wt_3 (i := 36) rfl, List.forall_mem_cons.mpr ⟨wt_3 (i := 37) rfl, List.forall_mem_cons.mpr ⟨wt_3 (i := 38) rfl, List.forall_mem_cons.mpr ⟨wt_3 (i := 39) rfl, List.forall_mem_cons.mpr ⟨wt_1 (i := 187) rfl, List.forall_mem_cons.mpr ⟨wt_1 (i := 188) rfl, List.forall_mem_cons.mpr ⟨wt_1 (i := 189) rfl, List.forall_mem_cons.mpr ⟨wt_1 (i := 190) rfl, List.forall_mem_cons.mpr ⟨wt_1 (i := 191) rfl, List.forall_mem_cons.mpr ⟨wt_1 (i := 192) rfl, List.forall_mem_cons.mpr ⟨wt_1 (i := 193) rfl, fun _ h => absurd h List.not_mem_nil⟩⟩⟩⟩⟩⟩⟩⟩⟩⟩⟩⟩⟩⟩⟩⟩⟩⟩⟩⟩⟩⟩⟩⟩
set_option maxRecDepth 20000 in
theorem wl_in_10 : ∀ w ∈ wsL_law_r10, w ∈ lw_tbl := List.forall_mem_cons.mpr ⟨wt_1 (i := 194) rfl, List.forall_mem_cons.mpr ⟨wt_1 (i := 195) rfl, List.forall_mem_cons.mpr ⟨wt_1 (i := 196) rfl, List.forall_mem_cons.mpr ⟨wt_1 (i := 197) rfl, List.forall_mem_cons.mpr ⟨wt_1 (i := 6) rfl, List.forall_mem_cons.mpr ⟨wt_1 (i := 198) rfl, List.forall_mem_cons.mpr ⟨wt_3 (i := 40) rfl, List.forall_mem_cons.mpr ⟨wt_3 (i := 41) rfl, List.forall_mem_cons.mpr ⟨wt_3 (i := 42) rfl, List.forall_mem_cons.mpr ⟨wt_3 (i := 43) rfl, List.forall_mem_cons.mpr ⟨wt_3 (i := 44) rfl, List.forall_mem_cons.mpr ⟨wt_3 (i := 56) rfl, List.forall_mem_cons.mpr ⟨wt_3 (i := 45) rfl, List.forall_mem_cons.mpr ⟨wt_3 (i := 47) rfl, List.forall_mem_cons.mpr ⟨wt_S (i := 19) rfl, List.forall_mem_cons.mpr ⟨wt_3 (i := 48) rfl, List.forall_mem_cons.mpr ⟨wt_3 (i := 49) rfl, List.forall_mem_cons.mpr ⟨wt_3 (i := 51) rfl, List.forall_mem_cons.mpr ⟨wt_S (i := 20) rfl, List.forall_mem_cons.mpr ⟨wt_3 (i := 52) rfl, List.forall_mem_cons.mpr ⟨wt_3 (i := 53) rfl, List.forall_mem_cons.mpr ⟨wt_3 (i := 54) rfl, List.forall_mem_cons.mpr ⟨wt_3 (i := 55) rfl, List.forall_mem_cons.mpr ⟨wt_1 (i := 199) rfl, fun _ h => absurd h List.not_mem_nil⟩⟩⟩⟩⟩⟩⟩⟩⟩⟩⟩⟩⟩⟩⟩⟩⟩⟩⟩⟩⟩⟩⟩⟩
set_option maxRecDepth 20000 in
theorem wl_in_11 : ∀ w ∈ wsL_law_r11, w ∈ lw_tbl := List.forall_mem_cons.mpr ⟨wt_1 (i := 200) rfl, List.forall_mem_cons.mpr ⟨wt_1 (i := 201) rfl, List.forall_mem_cons.mpr ⟨wt_1 (i := 202) rfl, List.forall_mem_cons.mpr ⟨wt_1 (i := 203) rfl, List.forall_mem_cons.mpr ⟨wt_3 (i := 57) rfl, List.forall_mem_cons.mpr ⟨wt_3 (i := 58) rfl, List.forall_mem_cons.mpr ⟨wt_3 (i := 59) rfl, List.forall_mem_cons.mpr ⟨wt_3 (i := 60) rfl, List.forall_mem_cons.mpr ⟨wt_3 (i := 61) rfl, List.forall_mem_cons.mpr ⟨wt_3 (i := 62) rfl, List.forall_mem_cons.mpr ⟨wt_1 (i := 204) rfl, List.forall_mem_cons.mpr ⟨wt_1 (i := 205) rfl, List.forall_mem_cons.mpr ⟨wt_1 (i := 206) rfl, List.forall_mem_cons.mpr ⟨wt_1 (i := 207) rfl, List.forall_mem_cons.mpr ⟨wt_3 (i := 63) rfl, List.forall_mem_cons.mpr ⟨wt_3 (i := 64) rfl, List.forall_mem_cons.mpr ⟨wt_3 (i := 65) rfl, List.forall_mem_cons.mpr ⟨wt_3 (i := 66) rfl, List.forall_mem_cons.mpr ⟨wt_3 (i := 67) rfl, List.forall_mem_cons.mpr ⟨wt_2 (i := 195) rfl, List.forall_mem_cons.mpr ⟨wt_1 (i := 208) rfl, List.forall_mem_cons.mpr ⟨wt_1 (i := 209) rfl, List.forall_mem_cons.mpr ⟨wt_1 (i := 210) rfl, List.forall_mem_cons.mpr ⟨wt_1 (i := 211) rfl, fun _ h => absurd h List.not_mem_nil⟩⟩⟩⟩⟩⟩⟩⟩⟩⟩⟩⟩⟩⟩⟩⟩⟩⟩⟩⟩⟩⟩⟩⟩
set_option maxRecDepth 20000 in
theorem wl_in_12 : ∀ w ∈ wsL_law_r12, w ∈ lw_tbl := List.forall_mem_cons.mpr ⟨wt_1 (i := 216) rfl, List.forall_mem_cons.mpr ⟨wt_1 (i := 212) rfl, List.forall_mem_cons.mpr ⟨wt_1 (i := 214) rfl, List.forall_mem_cons.mpr ⟨wt_S (i := 5) rfl, List.forall_mem_cons.mpr ⟨wt_1 (i := 215) rfl, List.forall_mem_cons.mpr ⟨wt_3 (i := 68) rfl, List.forall_mem_cons.mpr ⟨wt_3 (i := 69) rfl, List.forall_mem_cons.mpr ⟨wt_3 (i := 70) rfl, List.forall_mem_cons.mpr ⟨wt_3 (i := 71) rfl, List.forall_mem_cons.mpr ⟨wt_3 (i := 75) rfl, List.forall_mem_cons.mpr ⟨wt_3 (i := 76) rfl, List.forall_mem_cons.mpr ⟨wt_3 (i := 72) rfl, List.forall_mem_cons.mpr ⟨wt_3 (i := 73) rfl, List.forall_mem_cons.mpr ⟨wt_3 (i := 74) rfl, List.forall_mem_cons.mpr ⟨wt_1 (i := 217) rfl, List.forall_mem_cons.mpr ⟨wt_1 (i := 218) rfl, List.forall_mem_cons.mpr ⟨wt_1 (i := 219) rfl, List.forall_mem_cons.mpr ⟨wt_1 (i := 220) rfl, List.forall_mem_cons.mpr ⟨wt_3 (i := 77) rfl, List.forall_mem_cons.mpr ⟨wt_3 (i := 78) rfl, List.forall_mem_cons.mpr ⟨wt_3 (i := 79) rfl, List.forall_mem_cons.mpr ⟨wt_3 (i := 80) rfl, List.forall_mem_cons.mpr ⟨wt_1 (i := 221) rfl, List.forall_mem_cons.mpr ⟨wt_1 (i := 222) rfl, fun _ h => absurd h List.not_mem_nil⟩⟩⟩⟩⟩⟩⟩⟩⟩⟩⟩⟩⟩⟩⟩⟩⟩⟩⟩⟩⟩⟩⟩⟩
set_option maxRecDepth 20000 in
theorem wl_in_13 : ∀ w ∈ wsL_law_r13, w ∈ lw_tbl := List.forall_mem_cons.mpr ⟨wt_1 (i := 223) rfl, List.forall_mem_cons.mpr ⟨wt_1 (i := 224) rfl, List.forall_mem_cons.mpr ⟨wt_3 (i := 81) rfl, List.forall_mem_cons.mpr ⟨wt_3 (i := 82) rfl, List.forall_mem_cons.mpr ⟨wt_3 (i := 83) rfl, List.forall_mem_cons.mpr ⟨wt_3 (i := 84) rfl, List.forall_mem_cons.mpr ⟨wt_3 (i := 85) rfl, List.forall_mem_cons.mpr ⟨wt_3 (i := 86) rfl, List.forall_mem_cons.mpr ⟨wt_1 (i := 225) rfl, List.forall_mem_cons.mpr ⟨wt_1 (i := 226) rfl, List.forall_mem_cons.mpr ⟨wt_1 (i := 227) rfl, List.forall_mem_cons.mpr ⟨wt_1 (i := 228) rfl, List.forall_mem_cons.mpr ⟨wt_1 (i := 229) rfl, List.forall_mem_cons.mpr ⟨wt_3 (i := 87) rfl, List.forall_mem_cons.mpr ⟨wt_3 (i := 88) rfl, List.forall_mem_cons.mpr ⟨wt_3 (i := 89) rfl, List.forall_mem_cons.mpr ⟨wt_3 (i := 90) rfl, List.forall_mem_cons.mpr ⟨wt_1 (i := 230) rfl, List.forall_mem_cons.mpr ⟨wt_1 (i := 231) rfl, List.forall_mem_cons.mpr ⟨wt_1 (i := 232) rfl, List.forall_mem_cons.mpr ⟨wt_1 (i := 233) rfl, List.forall_mem_cons.mpr ⟨wt_1 (i := 234) rfl, List.forall_mem_cons.mpr ⟨wt_1 (i := 235) rfl, List.forall_mem_cons.mpr ⟨wt_1 (i := 236) rfl, fun _ h => absurd h List.not_mem_nil⟩⟩⟩⟩⟩⟩⟩⟩⟩⟩⟩⟩⟩⟩⟩⟩⟩⟩⟩⟩⟩⟩⟩⟩
set_option maxRecDepth 20000 in
theorem wl_in_14 : ∀ w ∈ wsL_law_r14, w ∈ lw_tbl := List.forall_mem_cons.mpr ⟨wt_1 (i := 237) rfl, List.forall_mem_cons.mpr ⟨wt_1 (i := 238) rfl, List.forall_mem_cons.mpr ⟨wt_1 (i := 239) rfl, List.forall_mem_cons.mpr ⟨wt_2 (i := 0) rfl, List.forall_mem_cons.mpr ⟨wt_2 (i := 1) rfl, List.forall_mem_cons.mpr ⟨wt_2 (i := 2) rfl, List.forall_mem_cons.mpr ⟨wt_2 (i := 3) rfl, List.forall_mem_cons.mpr ⟨wt_2 (i := 4) rfl, List.forall_mem_cons.mpr ⟨wt_2 (i := 5) rfl, List.forall_mem_cons.mpr ⟨wt_2 (i := 6) rfl, List.forall_mem_cons.mpr ⟨wt_2 (i := 7) rfl, List.forall_mem_cons.mpr ⟨wt_3 (i := 91) rfl, List.forall_mem_cons.mpr ⟨wt_3 (i := 92) rfl, List.forall_mem_cons.mpr ⟨wt_3 (i := 93) rfl, List.forall_mem_cons.mpr ⟨wt_3 (i := 94) rfl, List.forall_mem_cons.mpr ⟨wt_3 (i := 95) rfl, List.forall_mem_cons.mpr ⟨wt_3 (i := 97) rfl, List.forall_mem_cons.mpr ⟨wt_S (i := 21) rfl, List.forall_mem_cons.mpr ⟨wt_3 (i := 98) rfl, List.forall_mem_cons.mpr ⟨wt_3 (i := 99) rfl, List.forall_mem_cons.mpr ⟨wt_3 (i := 101) rfl, List.forall_mem_cons.mpr ⟨wt_S (i := 22) rfl, List.forall_mem_cons.mpr ⟨wt_3 (i := 102) rfl, List.forall_mem_cons.mpr ⟨wt_3 (i := 103) rfl, fun _ h => absurd h List.not_mem_nil⟩⟩⟩⟩⟩⟩⟩⟩⟩⟩⟩⟩⟩⟩⟩⟩⟩⟩⟩⟩⟩⟩⟩⟩
set_option maxRecDepth 20000 in
theorem wl_in_15 : ∀ w ∈ wsL_law_r15, w ∈ lw_tbl := List.forall_mem_cons.mpr ⟨wt_2 (i := 8) rfl, List.forall_mem_cons.mpr ⟨wt_2 (i := 9) rfl, List.forall_mem_cons.mpr ⟨wt_2 (i := 10) rfl, List.forall_mem_cons.mpr ⟨wt_2 (i := 11) rfl, List.forall_mem_cons.mpr ⟨wt_2 (i := 12) rfl, List.forall_mem_cons.mpr ⟨wt_2 (i := 13) rfl, List.forall_mem_cons.mpr ⟨wt_2 (i := 14) rfl, List.forall_mem_cons.mpr ⟨wt_2 (i := 15) rfl, List.forall_mem_cons.mpr ⟨wt_2 (i := 16) rfl, List.forall_mem_cons.mpr ⟨wt_2 (i := 17) rfl, List.forall_mem_cons.mpr ⟨wt_2 (i := 18) rfl, List.forall_mem_cons.mpr ⟨wt_2 (i := 19) rfl, List.forall_mem_cons.mpr ⟨wt_3 (i := 104) rfl, List.forall_mem_cons.mpr ⟨wt_3 (i := 105) rfl, List.forall_mem_cons.mpr ⟨wt_3 (i := 106) rfl, List.forall_mem_cons.mpr ⟨wt_3 (i := 107) rfl, List.forall_mem_cons.mpr ⟨wt_3 (i := 108) rfl, List.forall_mem_cons.mpr ⟨wt_3 (i := 110) rfl, List.forall_mem_cons.mpr ⟨wt_S (i := 23) rfl, List.forall_mem_cons.mpr ⟨wt_3 (i := 111) rfl, List.forall_mem_cons.mpr ⟨wt_2 (i := 20) rfl, List.forall_mem_cons.mpr ⟨wt_2 (i := 21) rfl, List.forall_mem_cons.mpr ⟨wt_2 (i := 22) rfl, List.forall_mem_cons.mpr ⟨wt_2 (i := 23) rfl, fun _ h => absurd h List.not_mem_nil⟩⟩⟩⟩⟩⟩⟩⟩⟩⟩⟩⟩⟩⟩⟩⟩⟩⟩⟩⟩⟩⟩⟩⟩
set_option maxRecDepth 20000 in
theorem wl_in_16 : ∀ w ∈ wsL_law_r16, w ∈ lw_tbl := List.forall_mem_cons.mpr ⟨wt_2 (i := 24) rfl, List.forall_mem_cons.mpr ⟨wt_2 (i := 25) rfl, List.forall_mem_cons.mpr ⟨wt_2 (i := 26) rfl, List.forall_mem_cons.mpr ⟨wt_2 (i := 27) rfl, List.forall_mem_cons.mpr ⟨wt_3 (i := 112) rfl, List.forall_mem_cons.mpr ⟨wt_3 (i := 113) rfl, List.forall_mem_cons.mpr ⟨wt_3 (i := 114) rfl, List.forall_mem_cons.mpr ⟨wt_3 (i := 115) rfl, List.forall_mem_cons.mpr ⟨wt_3 (i := 116) rfl, List.forall_mem_cons.mpr ⟨wt_3 (i := 118) rfl, List.forall_mem_cons.mpr ⟨wt_S (i := 24) rfl, List.forall_mem_cons.mpr ⟨wt_3 (i := 119) rfl, List.forall_mem_cons.mpr ⟨wt_2 (i := 28) rfl, List.forall_mem_cons.mpr ⟨wt_2 (i := 29) rfl, List.forall_mem_cons.mpr ⟨wt_2 (i := 30) rfl, List.forall_mem_cons.mpr ⟨wt_2 (i := 31) rfl, List.forall_mem_cons.mpr ⟨wt_2 (i := 32) rfl, List.forall_mem_cons.mpr ⟨wt_2 (i := 33) rfl, List.forall_mem_cons.mpr ⟨wt_2 (i := 34) rfl, List.forall_mem_cons.mpr ⟨wt_2 (i := 35) rfl, List.forall_mem_cons.mpr ⟨wt_2 (i := 36) rfl, List.forall_mem_cons.mpr ⟨wt_2 (i := 37) rfl, List.forall_mem_cons.mpr ⟨wt_3 (i := 120) rfl, List.forall_mem_cons.mpr ⟨wt_3 (i := 121) rfl, fun _ h => absurd h List.not_mem_nil⟩⟩⟩⟩⟩⟩⟩⟩⟩⟩⟩⟩⟩⟩⟩⟩⟩⟩⟩⟩⟩⟩⟩⟩
set_option maxRecDepth 20000 in
theorem wl_in_17 : ∀ w ∈ wsL_law_r17, w ∈ lw_tbl := List.forall_mem_cons.mpr ⟨wt_3 (i := 122) rfl, List.forall_mem_cons.mpr ⟨wt_3 (i := 123) rfl, List.forall_mem_cons.mpr ⟨wt_3 (i := 124) rfl, List.forall_mem_cons.mpr ⟨wt_3 (i := 126) rfl, List.forall_mem_cons.mpr ⟨wt_S (i := 25) rfl, List.forall_mem_cons.mpr ⟨wt_3 (i := 127) rfl, List.forall_mem_cons.mpr ⟨wt_3 (i := 128) rfl, List.forall_mem_cons.mpr ⟨wt_3 (i := 129) rfl, List.forall_mem_cons.mpr ⟨wt_2 (i := 38) rfl, List.forall_mem_cons.mpr ⟨wt_2 (i := 39) rfl, List.forall_mem_cons.mpr ⟨wt_2 (i := 40) rfl, List.forall_mem_cons.mpr ⟨wt_2 (i := 41) rfl, List.forall_mem_cons.mpr ⟨wt_2 (i := 54) rfl, List.forall_mem_cons.mpr ⟨wt_2 (i := 42) rfl, List.forall_mem_cons.mpr ⟨wt_2 (i := 44) rfl, List.forall_mem_cons.mpr ⟨wt_S (i := 6) rfl, List.forall_mem_cons.mpr ⟨wt_2 (i := 45) rfl, List.forall_mem_cons.mpr ⟨wt_2 (i := 46) rfl, List.forall_mem_cons.mpr ⟨wt_2 (i := 47) rfl, List.forall_mem_cons.mpr ⟨wt_2 (i := 48) rfl, List.forall_mem_cons.mpr ⟨wt_2 (i := 49) rfl, List.forall_mem_cons.mpr ⟨wt_2 (i := 50) rfl, List.forall_mem_cons.mpr ⟨wt_2 (i := 51) rfl, List.forall_mem_cons.mpr ⟨wt_2 (i := 52) rfl, fun _ h => absurd h List.not_mem_nil⟩⟩⟩⟩⟩⟩⟩⟩⟩⟩⟩⟩⟩⟩⟩⟩⟩⟩⟩⟩⟩⟩⟩⟩
set_option maxRecDepth 20000 in
theorem wl_in_18 : ∀ w ∈ wsL_law_r18, w ∈ lw_tbl := List.forall_mem_cons.mpr ⟨wt_2 (i := 53) rfl, List.forall_mem_cons.mpr ⟨wt_2 (i := 55) rfl, List.forall_mem_cons.mpr ⟨wt_2 (i := 57) rfl, List.forall_mem_cons.mpr ⟨wt_S (i := 7) rfl, List.forall_mem_cons.mpr ⟨wt_2 (i := 58) rfl, List.forall_mem_cons.mpr ⟨wt_2 (i := 59) rfl, List.forall_mem_cons.mpr ⟨wt_2 (i := 60) rfl, List.forall_mem_cons.mpr ⟨wt_2 (i := 61) rfl, List.forall_mem_cons.mpr ⟨wt_2 (i := 62) rfl, List.forall_mem_cons.mpr ⟨wt_2 (i := 63) rfl, List.forall_mem_cons.mpr ⟨wt_3 (i := 130) rfl, List.forall_mem_cons.mpr ⟨wt_3 (i := 131) rfl, List.forall_mem_cons.mpr ⟨wt_3 (i := 132) rfl, List.forall_mem_cons.mpr ⟨wt_3 (i := 133) rfl, List.forall_mem_cons.mpr ⟨wt_3 (i := 134) rfl, List.forall_mem_cons.mpr ⟨wt_3 (i := 136) rfl, List.forall_mem_cons.mpr ⟨wt_S (i := 26) rfl, List.forall_mem_cons.mpr ⟨wt_3 (i := 137) rfl, List.forall_mem_cons.mpr ⟨wt_3 (i := 138) rfl, List.forall_mem_cons.mpr ⟨wt_3 (i := 140) rfl, List.forall_mem_cons.mpr ⟨wt_S (i := 27) rfl, List.forall_mem_cons.mpr ⟨wt_3 (i := 141) rfl, List.forall_mem_cons.mpr ⟨wt_3 (i := 142) rfl, List.forall_mem_cons.mpr ⟨wt_3 (i := 144) rfl, fun _ h => absurd h List.not_mem_nil⟩⟩⟩⟩⟩⟩⟩⟩⟩⟩⟩⟩⟩⟩⟩⟩⟩⟩⟩⟩⟩⟩⟩⟩
set_option maxRecDepth 20000 in
theorem wl_in_19 : ∀ w ∈ wsL_law_r19, w ∈ lw_tbl := List.forall_mem_cons.mpr ⟨wt_S (i := 28) rfl, List.forall_mem_cons.mpr ⟨wt_3 (i := 145) rfl, List.forall_mem_cons.mpr ⟨wt_2 (i := 64) rfl, List.forall_mem_cons.mpr ⟨wt_2 (i := 65) rfl, List.forall_mem_cons.mpr ⟨wt_2 (i := 66) rfl, List.forall_mem_cons.mpr ⟨wt_2 (i := 67) rfl, List.forall_mem_cons.mpr ⟨wt_2 (i := 68) rfl, List.forall_mem_cons.mpr ⟨wt_2 (i := 70) rfl, List.forall_mem_cons.mpr ⟨wt_S (i := 8) rfl, List.forall_mem_cons.mpr ⟨wt_2 (i := 71) rfl, List.forall_mem_cons.mpr ⟨wt_2 (i := 72) rfl, List.forall_mem_cons.mpr ⟨(by decide +kernel), List.forall_mem_cons.mpr ⟨(by decide +kernel), List.forall_mem_cons.mpr ⟨wt_1 (i := 6) rfl, List.forall_mem_cons.mpr ⟨(by decide +kernel), List.forall_mem_cons.mpr ⟨(by decide +kernel), List.forall_mem_cons.mpr ⟨(by decide +kernel), List.forall_mem_cons.mpr ⟨(by decide +kernel), List.forall_mem_cons.mpr ⟨wt_2 (i := 81) rfl, List.forall_mem_cons.mpr ⟨wt_2 (i := 82) rfl, List.forall_mem_cons.mpr ⟨wt_2 (i := 73) rfl, List.forall_mem_cons.mpr ⟨wt_2 (i := 77) rfl, List.forall_mem_cons.mpr ⟨wt_3 (i := 146) rfl, List.forall_mem_cons.mpr ⟨wt_3 (i := 147) rfl, fun _ h => absurd h List.not_mem_nil⟩⟩⟩⟩⟩⟩⟩⟩⟩⟩⟩⟩⟩⟩⟩⟩⟩⟩⟩⟩⟩⟩⟩⟩
set_option maxRecDepth 20000 in
theorem wl_in_20 : ∀ w ∈ wsL_law_r20, w ∈ lw_tbl := List.forall_mem_cons.mpr ⟨wt_3 (i := 148) rfl, List.forall_mem_cons.mpr ⟨wt_3 (i := 149) rfl, List.forall_mem_cons.mpr ⟨wt_3 (i := 150) rfl, List.forall_mem_cons.mpr ⟨wt_3 (i := 152) rfl, List.forall_mem_cons.mpr ⟨wt_S (i := 29) rfl, List.forall_mem_cons.mpr ⟨wt_3 (i := 153) rfl, List.forall_mem_cons.mpr ⟨wt_3 (i := 154) rfl, List.forall_mem_cons.mpr ⟨wt_3 (i := 156) rfl, List.forall_mem_cons.mpr ⟨wt_S (i := 30) rfl, List.forall_mem_cons.mpr ⟨wt_3 (i := 157) rfl, List.forall_mem_cons.mpr ⟨wt_3 (i := 158) rfl, List.forall_mem_cons.mpr ⟨wt_3 (i := 159) rfl, List.forall_mem_cons.mpr ⟨wt_3 (i := 160) rfl, List.forall_mem_cons.mpr ⟨wt_2 (i := 83) rfl, List.forall_mem_cons.mpr ⟨wt_2 (i := 84) rfl, List.forall_mem_cons.mpr ⟨wt_2 (i := 85) rfl, List.forall_mem_cons.mpr ⟨wt_2 (i := 86) rfl, List.forall_mem_cons.mpr ⟨wt_2 (i := 87) rfl, List.forall_mem_cons.mpr ⟨wt_2 (i := 89) rfl, List.forall_mem_cons.mpr ⟨wt_S (i := 9) rfl, List.forall_mem_cons.mpr ⟨wt_2 (i := 90) rfl, List.forall_mem_cons.mpr ⟨wt_2 (i := 91) rfl, List.forall_mem_cons.mpr ⟨wt_3 (i := 161) rfl, List.forall_mem_cons.mpr ⟨wt_3 (i := 162) rfl, fun _ h => absurd h List.not_mem_nil⟩⟩⟩⟩⟩⟩⟩⟩⟩⟩⟩⟩⟩⟩⟩⟩⟩⟩⟩⟩⟩⟩⟩⟩
set_option maxRecDepth 20000 in
theorem wl_in_21 : ∀ w ∈ wsL_law_r21, w ∈ lw_tbl := List.forall_mem_cons.mpr ⟨wt_3 (i := 163) rfl, List.forall_mem_cons.mpr ⟨wt_3 (i := 164) rfl, List.forall_mem_cons.mpr ⟨wt_3 (i := 165) rfl, List.forall_mem_cons.mpr ⟨wt_3 (i := 166) rfl, List.forall_mem_cons.mpr ⟨wt_3 (i := 168) rfl, List.forall_mem_cons.mpr ⟨wt_S (i := 31) rfl, List.forall_mem_cons.mpr ⟨wt_3 (i := 169) rfl, List.forall_mem_cons.mpr ⟨wt_3 (i := 170) rfl, List.forall_mem_cons.mpr ⟨wt_3 (i := 172) rfl, List.forall_mem_cons.mpr ⟨wt_S (i := 32) rfl, List.forall_mem_cons.mpr ⟨wt_3 (i := 173) rfl, List.forall_mem_cons.mpr ⟨wt_2 (i := 92) rfl, List.forall_mem_cons.mpr ⟨wt_2 (i := 93) rfl, List.forall_mem_cons.mpr ⟨wt_2 (i := 94) rfl, List.forall_mem_cons.mpr ⟨wt_2 (i := 95) rfl, List.forall_mem_cons.mpr ⟨wt_2 (i := 96) rfl, List.forall_mem_cons.mpr ⟨wt_2 (i := 98) rfl, List.forall_mem_cons.mpr ⟨wt_S (i := 10) rfl, List.forall_mem_cons.mpr ⟨wt_2 (i := 99) rfl, List.forall_mem_cons.mpr ⟨wt_2 (i := 100) rfl, List.forall_mem_cons.mpr ⟨wt_2 (i := 101) rfl, List.forall_mem_cons.mpr ⟨wt_2 (i := 102) rfl, List.forall_mem_cons.mpr ⟨wt_2 (i := 103) rfl, List.forall_mem_cons.mpr ⟨wt_3 (i := 174) rfl, fun _ h => absurd h List.not_mem_nil⟩⟩⟩⟩⟩⟩⟩⟩⟩⟩⟩⟩⟩⟩⟩⟩⟩⟩⟩⟩⟩⟩⟩⟩
set_option maxRecDepth 20000 in
theorem wl_in_22 : ∀ w ∈ wsL_law_r22, w ∈ lw_tbl := List.forall_mem_cons.mpr ⟨wt_3 (i := 175) rfl, List.forall_mem_cons.mpr ⟨wt_3 (i := 176) rfl, List.forall_mem_cons.mpr ⟨wt_3 (i := 177) rfl, List.forall_mem_cons.mpr ⟨wt_3 (i := 178) rfl, List.forall_mem_cons.mpr ⟨wt_3 (i := 180) rfl, List.forall_mem_cons.mpr ⟨wt_S (i := 33) rfl, List.forall_mem_cons.mpr ⟨wt_3 (i := 181) rfl, List.forall_mem_cons.mpr ⟨wt_3 (i := 182) rfl, List.forall_mem_cons.mpr ⟨wt_3 (i := 184) rfl, List.forall_mem_cons.mpr ⟨wt_S (i := 34) rfl, List.forall_mem_cons.mpr ⟨wt_3 (i := 185) rfl, List.forall_mem_cons.mpr ⟨wt_2 (i := 104) rfl, List.forall_mem_cons.mpr ⟨wt_2 (i := 105) rfl, List.forall_mem_cons.mpr ⟨wt_2 (i := 106) rfl, List.forall_mem_cons.mpr ⟨wt_2 (i := 107) rfl, List.forall_mem_cons.mpr ⟨wt_3 (i := 186) rfl, List.forall_mem_cons.mpr ⟨wt_3 (i := 187) rfl, List.forall_mem_cons.mpr ⟨wt_3 (i := 188) rfl, List.forall_mem_cons.mpr ⟨wt_3 (i := 189) rfl, List.forall_mem_cons.mpr ⟨wt_3 (i := 190) rfl, List.forall_mem_cons.mpr ⟨wt_3 (i := 192) rfl, List.forall_mem_cons.mpr ⟨wt_S (i := 35) rfl, List.forall_mem_cons.mpr ⟨wt_3 (i := 193) rfl, List.forall_mem_cons.mpr ⟨wt_2 (i := 108) rfl, fun _ h => absurd h List.not_mem_nil⟩⟩⟩⟩⟩⟩⟩⟩⟩⟩⟩⟩⟩⟩⟩⟩⟩⟩⟩⟩⟩⟩⟩⟩
set_option maxRecDepth 20000 in
theorem wl_in_23 : ∀ w ∈ wsL_law_r23, w ∈ lw_tbl := List.forall_mem_cons.mpr ⟨wt_2 (i := 109) rfl, List.forall_mem_cons.mpr ⟨wt_2 (i := 110) rfl, List.forall_mem_cons.mpr ⟨wt_2 (i := 111) rfl, List.forall_mem_cons.mpr ⟨wt_2 (i := 112) rfl, List.forall_mem_cons.mpr ⟨wt_2 (i := 114) rfl, List.forall_mem_cons.mpr ⟨wt_S (i := 11) rfl, List.forall_mem_cons.mpr ⟨wt_2 (i := 115) rfl, List.forall_mem_cons.mpr ⟨wt_2 (i := 116) rfl, List.forall_mem_cons.mpr ⟨wt_2 (i := 118) rfl, List.forall_mem_cons.mpr ⟨wt_S (i := 12) rfl, List.forall_mem_cons.mpr ⟨wt_2 (i := 119) rfl, List.forall_mem_cons.mpr ⟨wt_2 (i := 120) rfl, List.forall_mem_cons.mpr ⟨wt_2 (i := 122) rfl, List.forall_mem_cons.mpr ⟨wt_S (i := 13) rfl, List.forall_mem_cons.mpr ⟨wt_2 (i := 123) rfl, List.forall_mem_cons.mpr ⟨wt_3 (i := 194) rfl, List.forall_mem_cons.mpr ⟨wt_3 (i := 195) rfl, List.forall_mem_cons.mpr ⟨wt_3 (i := 196) rfl, List.forall_mem_cons.mpr ⟨wt_3 (i := 197) rfl, List.forall_mem_cons.mpr ⟨wt_3 (i := 198) rfl, List.forall_mem_cons.mpr ⟨wt_3 (i := 200) rfl, List.forall_mem_cons.mpr ⟨wt_S (i := 36) rfl, List.forall_mem_cons.mpr ⟨wt_3 (i := 201) rfl, List.forall_mem_cons.mpr ⟨wt_3 (i := 202) rfl, fun _ h => absurd h List.not_mem_nil⟩⟩⟩⟩⟩⟩⟩⟩⟩⟩⟩⟩⟩⟩⟩⟩⟩⟩⟩⟩⟩⟩⟩⟩
set_option maxRecDepth 20000 in
theorem wl_in_24 : ∀ w ∈ wsL_law_r24, w ∈ lw_tbl := List.forall_mem_cons.mpr ⟨wt_3 (i := 204) rfl, List.forall_mem_cons.mpr ⟨wt_S (i := 37) rfl, List.forall_mem_cons.mpr ⟨wt_3 (i := 205) rfl, List.forall_mem_cons.mpr ⟨wt_3 (i := 206) rfl, List.forall_mem_cons.mpr ⟨wt_3 (i := 208) rfl, List.forall_mem_cons.mpr ⟨wt_S (i := 38) rfl, List.forall_mem_cons.mpr ⟨wt_3 (i := 209) rfl, List.forall_mem_cons.mpr ⟨wt_3 (i := 210) rfl, List.forall_mem_cons.mpr ⟨wt_3 (i := 212) rfl, List.forall_mem_cons.mpr ⟨wt_S (i := 39) rfl, List.forall_mem_cons.mpr ⟨wt_3 (i := 213) rfl, List.forall_mem_cons.mpr ⟨wt_2 (i := 124) rfl, List.forall_mem_cons.mpr ⟨wt_2 (i := 125) rfl, List.forall_mem_cons.mpr ⟨wt_2 (i := 126) rfl, List.forall_mem_cons.mpr ⟨wt_2 (i := 127) rfl, List.forall_mem_cons.mpr ⟨wt_3 (i := 214) rfl, List.forall_mem_cons.mpr ⟨wt_3 (i := 215) rfl, List.forall_mem_cons.mpr ⟨wt_3 (i := 216) rfl, List.forall_mem_cons.mpr ⟨wt_3 (i := 217) rfl, List.forall_mem_cons.mpr ⟨wt_3 (i := 218) rfl, List.forall_mem_cons.mpr ⟨wt_3 (i := 220) rfl, List.forall_mem_cons.mpr ⟨wt_S (i := 40) rfl, List.forall_mem_cons.mpr ⟨wt_3 (i := 221) rfl, List.forall_mem_cons.mpr ⟨wt_2 (i := 128) rfl, fun _ h => absurd h List.not_mem_nil⟩⟩⟩⟩⟩⟩⟩⟩⟩⟩⟩⟩⟩⟩⟩⟩⟩⟩⟩⟩⟩⟩⟩⟩
set_option maxRecDepth 20000 in
theorem wl_in_25 : ∀ w ∈ wsL_law_r25, w ∈ lw_tbl := List.forall_mem_cons.mpr ⟨wt_2 (i := 129) rfl, List.forall_mem_cons.mpr ⟨wt_2 (i := 130) rfl, List.forall_mem_cons.mpr ⟨wt_2 (i := 131) rfl, List.forall_mem_cons.mpr ⟨wt_2 (i := 132) rfl, List.forall_mem_cons.mpr ⟨wt_2 (i := 133) rfl, List.forall_mem_cons.mpr ⟨wt_2 (i := 134) rfl, List.forall_mem_cons.mpr ⟨wt_2 (i := 135) rfl, List.forall_mem_cons.mpr ⟨wt_3 (i := 222) rfl, List.forall_mem_cons.mpr ⟨wt_3 (i := 223) rfl, List.forall_mem_cons.mpr ⟨wt_3 (i := 224) rfl, List.forall_mem_cons.mpr ⟨wt_3 (i := 225) rfl, List.forall_mem_cons.mpr ⟨wt_2 (i := 137) rfl, List.forall_mem_cons.mpr ⟨wt_2 (i := 138) rfl, List.forall_mem_cons.mpr ⟨wt_2 (i := 139) rfl, List.forall_mem_cons.mpr ⟨wt_2 (i := 140) rfl, List.forall_mem_cons.mpr ⟨wt_3 (i := 226) rfl, List.forall_mem_cons.mpr ⟨wt_3 (i := 227) rfl, List.forall_mem_cons.mpr ⟨wt_3 (i := 228) rfl, List.forall_mem_cons.mpr ⟨wt_3 (i := 229) rfl, List.forall_mem_cons.mpr ⟨wt_3 (i := 230) rfl, List.forall_mem_cons.mpr ⟨wt_3 (i := 232) rfl, List.forall_mem_cons.mpr ⟨wt_S (i := 41) rfl, List.forall_mem_cons.mpr ⟨wt_3 (i := 233) rfl, List.forall_mem_cons.mpr ⟨wt_2 (i := 141) rfl, fun _ h => absurd h List.not_mem_nil⟩⟩⟩⟩⟩⟩⟩⟩⟩⟩⟩⟩⟩⟩⟩⟩⟩⟩⟩⟩⟩⟩⟩⟩
set_option maxRecDepth 20000 in
theorem wl_in_26 : ∀ w ∈ wsL_law_r26, w ∈ lw_tbl := List.forall_mem_cons.mpr ⟨wt_2 (i := 142) rfl, List.forall_mem_cons.mpr ⟨wt_2 (i := 143) rfl, List.forall_mem_cons.mpr ⟨wt_2 (i := 144) rfl, List.forall_mem_cons.mpr ⟨wt_3 (i := 234) rfl, List.forall_mem_cons.mpr ⟨wt_3 (i := 235) rfl, List.forall_mem_cons.mpr ⟨wt_3 (i := 236) rfl, List.forall_mem_cons.mpr ⟨wt_3 (i := 237) rfl, List.forall_mem_cons.mpr ⟨wt_2 (i := 145) rfl, List.forall_mem_cons.mpr ⟨wt_2 (i := 146) rfl, List.forall_mem_cons.mpr ⟨wt_2 (i := 147) rfl, List.forall_mem_cons.mpr ⟨wt_2 (i := 148) rfl, List.forall_mem_cons.mpr ⟨wt_2 (i := 149) rfl, List.forall_mem_cons.mpr ⟨wt_2 (i := 150) rfl, List.forall_mem_cons.mpr ⟨wt_2 (i := 152) rfl, List.forall_mem_cons.mpr ⟨wt_S (i := 14) rfl, List.forall_mem_cons.mpr ⟨wt_2 (i := 153) rfl, List.forall_mem_cons.mpr ⟨wt_2 (i := 154) rfl, List.forall_mem_cons.mpr ⟨wt_2 (i := 155) rfl, List.forall_mem_cons.mpr ⟨wt_2 (i := 156) rfl, List.forall_mem_cons.mpr ⟨wt_2 (i := 157) rfl, List.forall_mem_cons.mpr ⟨wt_2 (i := 158) rfl, List.forall_mem_cons.mpr ⟨wt_2 (i := 160) rfl, List.forall_mem_cons.mpr ⟨wt_S (i := 15) rfl, List.forall_mem_cons.mpr ⟨wt_2 (i := 161) rfl, fun _ h => absurd h List.not_mem_nil⟩⟩⟩⟩⟩⟩⟩⟩⟩⟩⟩⟩⟩⟩⟩⟩⟩⟩⟩⟩⟩⟩⟩⟩
set_option maxRecDepth 20000 in
theorem wl_in_27 : ∀ w ∈ wsL_law_r27, w ∈ lw_tbl := List.forall_mem_cons.mpr ⟨wt_2 (i := 162) rfl, List.forall_mem_cons.mpr ⟨wt_2 (i := 163) rfl, List.forall_mem_cons.mpr ⟨wt_2 (i := 164) rfl, List.forall_mem_cons.mpr ⟨wt_2 (i := 165) rfl, List.forall_mem_cons.mpr ⟨wt_2 (i := 166) rfl, List.forall_mem_cons.mpr ⟨wt_2 (i := 167) rfl, List.forall_mem_cons.mpr ⟨wt_2 (i := 168) rfl, List.forall_mem_cons.mpr ⟨wt_2 (i := 169) rfl, List.forall_mem_cons.mpr ⟨wt_2 (i := 170) rfl, List.forall_mem_cons.mpr ⟨wt_2 (i := 171) rfl, List.forall_mem_cons.mpr ⟨wt_2 (i := 172) rfl, List.forall_mem_cons.mpr ⟨wt_2 (i := 173) rfl, List.forall_mem_cons.mpr ⟨wt_2 (i := 174) rfl, List.forall_mem_cons.mpr ⟨wt_2 (i := 175) rfl, List.forall_mem_cons.mpr ⟨wt_2 (i := 177) rfl, List.forall_mem_cons.mpr ⟨wt_S (i := 16) rfl, List.forall_mem_cons.mpr ⟨wt_2 (i := 178) rfl, List.forall_mem_cons.mpr ⟨wt_3 (i := 238) rfl, List.forall_mem_cons.mpr ⟨wt_3 (i := 239) rfl, List.forall_mem_cons.mpr ⟨wt_4 (i := 0) rfl, List.forall_mem_cons.mpr ⟨wt_4 (i := 1) rfl, List.forall_mem_cons.mpr ⟨wt_4 (i := 2) rfl, List.forall_mem_cons.mpr ⟨wt_2 (i := 199) rfl, List.forall_mem_cons.mpr ⟨wt_4 (i := 3) rfl, fun _ h => absurd h List.not_mem_nil⟩⟩⟩⟩⟩⟩⟩⟩⟩⟩⟩⟩⟩⟩⟩⟩⟩⟩⟩⟩⟩⟩⟩⟩
set_option maxRecDepth 20000 in
theorem wl_in_28 : ∀ w ∈ wsL_law_r28, w ∈ lw_tbl := List.forall_mem_cons.mpr ⟨wt_4 (i := 5) rfl, List.forall_mem_cons.mpr ⟨wt_S (i := 42) rfl, List.forall_mem_cons.mpr ⟨wt_4 (i := 6) rfl, List.forall_mem_cons.mpr ⟨wt_4 (i := 7) rfl, List.forall_mem_cons.mpr ⟨wt_4 (i := 8) rfl, List.forall_mem_cons.mpr ⟨wt_4 (i := 10) rfl, List.forall_mem_cons.mpr ⟨wt_S (i := 43) rfl, List.forall_mem_cons.mpr ⟨wt_4 (i := 11) rfl, List.forall_mem_cons.mpr ⟨wt_4 (i := 12) rfl, fun _ h => absurd h List.not_mem_nil⟩⟩⟩⟩⟩⟩⟩⟩⟩
set_option maxRecDepth 20000 in
theorem wl_u_wsX30 : ∀ w ∈ wsX30, w ∈ lw_tbl := by decide +kernel
set_option maxRecDepth 20000 in
theorem wl_u_wsX40 : ∀ w ∈ wsX40, w ∈ lw_tbl := by decide +kernel
set_option maxRecDepth 20000 in
theorem wl_u_wsX00 : ∀ w ∈ wsX00, w ∈ lw_tbl := by decide +kernel
set_option maxRecDepth 20000 in
theorem wl_u_wsX20 : ∀ w ∈ wsX20, w ∈ lw_tbl := by decide +kernel
set_option maxRecDepth 20000 in
theorem wl_u_wsX10 : ∀ w ∈ wsX10, w ∈ lw_tbl := by decide +kernel
theorem wsL_law_in : ∀ w ∈ wsL_law, w ∈ lw_tbl := List.forall_mem_append.mpr ⟨List.forall_mem_append.mpr ⟨List.forall_mem_append.mpr ⟨List.forall_mem_append.mpr ⟨List.forall_mem_append.mpr ⟨List.forall_mem_append.mpr ⟨List.forall_mem_append.mpr ⟨wl_in_1, List.forall_mem_append.mpr ⟨wl_in_2, List.forall_mem_append.mpr ⟨wl_in_3, List.forall_mem_append.mpr ⟨wl_in_4, List.forall_mem_append.mpr ⟨wl_in_5, List.forall_mem_append.mpr ⟨wl_in_6, List.forall_mem_append.mpr ⟨wl_in_7, List.forall_mem_append.mpr ⟨wl_in_8, List.forall_mem_append.mpr ⟨wl_in_9, List.forall_mem_append.mpr ⟨wl_in_10, List.forall_mem_append.mpr ⟨wl_in_11, List.forall_mem_append.mpr ⟨wl_in_12, List.forall_mem_append.mpr ⟨wl_in_13, List.forall_mem_append.mpr ⟨wl_in_14, List.forall_mem_append.mpr ⟨wl_in_15, List.forall_mem_append.mpr ⟨wl_in_16, List.forall_mem_append.mpr ⟨wl_in_17, List.forall_mem_append.mpr ⟨wl_in_18, List.forall_mem_append.mpr ⟨wl_in_19, List.forall_mem_append.mpr ⟨wl_in_20, List.forall_mem_append.mpr ⟨wl_in_21, List.forall_mem_append.mpr ⟨wl_in_22, List.forall_mem_append.mpr ⟨wl_in_23, List.forall_mem_append.mpr ⟨wl_in_24, List.forall_mem_append.mpr ⟨wl_in_25, List.forall_mem_append.mpr ⟨wl_in_26, List.forall_mem_append.mpr ⟨wl_in_27, wl_in_28⟩⟩⟩⟩⟩⟩⟩⟩⟩⟩⟩⟩⟩⟩⟩⟩⟩⟩⟩⟩⟩⟩⟩⟩⟩⟩⟩, wl_u_wsX30⟩, wl_u_wsX40⟩, wl_u_wsX00⟩, wl_u_wsX20⟩, wl_u_wsX10⟩, fun _ h => absurd h List.not_mem_nil⟩
theorem inlX0 : ∀ w ∈ wsX00, w ∈ wsL_law := fun _ h => List.mem_append_left _ (List.mem_append_left _ (List.mem_append_left _ (List.mem_append_right _ h)))
theorem inX0 : ∀ w ∈ wsX00, w ∈ lw_tbl := fun w h => wsL_law_in w (inlX0 w h)
theorem inlX1 : ∀ w ∈ wsX10, w ∈ wsL_law := fun _ h => List.mem_append_left _ (List.mem_append_right _ h)
theorem inX1 : ∀ w ∈ wsX10, w ∈ lw_tbl := fun w h => wsL_law_in w (inlX1 w h)
theorem inlX2 : ∀ w ∈ wsX20, w ∈ wsL_law := fun _ h => List.mem_append_left _ (List.mem_append_left _ (List.mem_append_right _ h))
theorem inX2 : ∀ w ∈ wsX20, w ∈ lw_tbl := fun w h => wsL_law_in w (inlX2 w h)
theorem inlX3 : ∀ w ∈ wsX30, w ∈ wsL_law := fun _ h => List.mem_append_left _ (List.mem_append_left _ (List.mem_append_left _ (List.mem_append_left _ (List.mem_append_left _ (List.mem_append_right _ h)))))
theorem inX3 : ∀ w ∈ wsX30, w ∈ lw_tbl := fun w h => wsL_law_in w (inlX3 w h)
theorem inlX4 : ∀ w ∈ wsX40, w ∈ wsL_law := fun _ h => List.mem_append_left _ (List.mem_append_left _ (List.mem_append_left _ (List.mem_append_left _ (List.mem_append_right _ h))))
theorem inX4 : ∀ w ∈ wsX40, w ∈ lw_tbl := fun w h => wsL_law_in w (inlX4 w h)
theorem inJ9 : ∀ w ∈ wsJ90, w ∈ lw_tbl := by decide +kernel
theorem dX0_init_0 : decode cX0_init 0 = .ok (.aload_n 0, 1) := by decide +kernel
theorem dX0_init_1 : decode cX0_init 1 = .ok (.invokespecial 3, 3) := by decide +kernel
theorem dX0_init_4 : decode cX0_init 4 = .ok (.aload_n 0, 1) := by decide +kernel
theorem dX0_init_5 : decode cX0_init 5 = .ok (.iconst 5, 1) := by decide +kernel
theorem dX0_init_6 : decode cX0_init 6 = .ok (.newarray .long, 2) := by decide +kernel
theorem dX0_init_8 : decode cX0_init 8 = .ok (.putfield 9, 3) := by decide +kernel
theorem dX0_init_11 : decode cX0_init 11 = .ok (.return_, 1) := by decide +kernel
set_option maxRecDepth 20000 in
theorem ggX0_begin_X0_beginNumber : GoodIn wsX0_begin wsX0_beginNumber := goodIn_r _ [6, 7, 8, 9, 10, 11, 12, 13, 14] (by decide +kernel) (by decide +kernel)
set_option maxRecDepth 20000 in
theorem gX0_begin_X0_beginNumber : GoodIn wsX0_begin (wsV RX0 19 RX0 yX0_beginNumber wsX0_beginNumber) := goodIn_app (goodIn_of _ (by decide +kernel)) ggX0_begin_X0_beginNumber
theorem dX0_begin_0 : decode cX0_begin 0 = .ok (.aload_n 0, 1) := by decide +kernel
theorem dX0_begin_1 : decode cX0_begin 1 = .ok (.iconst 0, 1) := by decide +kernel
theorem dX0_begin_2 : decode cX0_begin 2 = .ok (.putfield 15, 3) := by decide +kernel
theorem dX0_begin_5 : decode cX0_begin 5 = .ok (.aload_n 0, 1) := by decide +kernel
theorem dX0_begin_6 : decode cX0_begin 6 = .ok (.invokevirtual 19, 3) := by decide +kernel
theorem dX0_begin_9 : decode cX0_begin 9 = .ok (.return_, 1) := by decide +kernel
theorem dX0_beginNumber_0 : decode cX0_beginNumber 0 = .ok (.aload_n 0, 1) := by decide +kernel
theorem dX0_beginNumber_1 : decode cX0_beginNumber 1 = .ok (.iconst 0, 1) := by decide +kernel
theorem dX0_beginNumber_2 : decode cX0_beginNumber 2 = .ok (.putfield 22, 3) := by decide +kernel
theorem dX0_beginNumber_5 : decode cX0_beginNumber 5 = .ok (.aload_n 0, 1) := by decide +kernel
theorem dX0_beginNumber_6 : decode cX0_beginNumber 6 = .ok (.iconst 0, 1) := by decide +kernel
theorem dX0_beginNumber_7 : decode cX0_beginNumber 7 = .ok (.putfield 25, 3) := by decide +kernel
theorem dX0_beginNumber_10 : decode cX0_beginNumber 10 = .ok (.aload_n 0, 1) := by decide +kernel
theorem dX0_beginNumber_11 : decode cX0_beginNumber 11 = .ok (.lconst 0, 1) := by decide +kernel
theorem dX0_beginNumber_12 : decode cX0_beginNumber 12 = .ok (.putfield 29, 3) := by decide +kernel
theorem dX0_beginNumber_15 : decode cX0_beginNumber 15 = .ok (.return_, 1) := by decide +kernel
set_option maxRecDepth 20000 in
theorem ggX0_takes_X0_takesComma : GoodIn wsX0_takes wsX0_takesComma := goodIn_r _ [5, 6, 7, 8, 9, 10, 4, 11, 12, 13, 24, 25, 26, 27, 28] (by decide +kernel) (by decide +kernel)
set_option maxRecDepth 20000 in
theorem gX0_takes_X0_takesComma : GoodIn wsX0_takes (wsV RX0 33 RX0 yX0_takesComma wsX0_takesComma) := goodIn_app (goodIn_of _ (by decide +kernel)) ggX0_takes_X0_takesComma
set_option maxRecDepth 20000 in
theorem ggX0_takes_X0_takesMinus : GoodIn wsX0_takes wsX0_takesMinus := goodIn_r _ [17, 7, 12, 6, 24, 25, 26, 27, 28] (by decide +kernel) (by decide +kernel)
set_option maxRecDepth 20000 in
theorem gX0_takes_X0_takesMinus : GoodIn wsX0_takes (wsV RX0 37 RX0 yX0_takesMinus wsX0_takesMinus) := goodIn_app (goodIn_of _ (by decide +kernel)) ggX0_takes_X0_takesMinus
set_option maxRecDepth 20000 in
theorem ggX0_takes_X0_takesDigit : GoodIn wsX0_takes wsX0_takesDigit := goodIn_r _ [21, 6, 13, 12, 7, 22, 23, 24, 25, 26, 27, 28] (by decide +kernel) (by decide +kernel)
set_option maxRecDepth 20000 in
theorem gX0_takes_X0_takesDigit : GoodIn wsX0_takes (wsV RX0 40 RX0 yX0_takesDigit wsX0_takesDigit) := goodIn_app (goodIn_of _ (by decide +kernel)) ggX0_takes_X0_takesDigit
theorem dX0_takes_0 : decode cX0_takes 0 = .ok (.iload_n 1, 1) := by decide +kernel
theorem dX0_takes_1 : decode cX0_takes 1 = .ok (.bipush 44, 2) := by decide +kernel
theorem dX0_takes_3 : decode cX0_takes 3 = .ok (.if_icmp .ne 8, 3) := by decide +kernel
theorem dX0_takes_6 : decode cX0_takes 6 = .ok (.aload_n 0, 1) := by decide +kernel
theorem dX0_takes_7 : decode cX0_takes 7 = .ok (.invokevirtual 33, 3) := by decide +kernel
theorem dX0_takes_10 : decode cX0_takes 10 = .ok (.ireturn, 1) := by decide +kernel
theorem dX0_takes_11 : decode cX0_takes 11 = .ok (.iload_n 1, 1) := by decide +kernel
theorem dX0_takes_12 : decode cX0_takes 12 = .ok (.bipush 45, 2) := by decide +kernel
theorem dX0_takes_14 : decode cX0_takes 14 = .ok (.if_icmp .ne 8, 3) := by decide +kernel
theorem dX0_takes_17 : decode cX0_takes 17 = .ok (.aload_n 0, 1) := by decide +kernel
theorem dX0_takes_18 : decode cX0_takes 18 = .ok (.invokevirtual 37, 3) := by decide +kernel
theorem dX0_takes_21 : decode cX0_takes 21 = .ok (.ireturn, 1) := by decide +kernel
theorem dX0_takes_22 : decode cX0_takes 22 = .ok (.iload_n 1, 1) := by decide +kernel
theorem dX0_takes_23 : decode cX0_takes 23 = .ok (.bipush 48, 2) := by decide +kernel
theorem dX0_takes_25 : decode cX0_takes 25 = .ok (.if_icmp .lt 18, 3) := by decide +kernel
theorem dX0_takes_28 : decode cX0_takes 28 = .ok (.iload_n 1, 1) := by decide +kernel
theorem dX0_takes_29 : decode cX0_takes 29 = .ok (.bipush 57, 2) := by decide +kernel
theorem dX0_takes_31 : decode cX0_takes 31 = .ok (.if_icmp .gt 12, 3) := by decide +kernel
theorem dX0_takes_34 : decode cX0_takes 34 = .ok (.aload_n 0, 1) := by decide +kernel
theorem dX0_takes_35 : decode cX0_takes 35 = .ok (.iload_n 1, 1) := by decide +kernel
theorem dX0_takes_36 : decode cX0_takes 36 = .ok (.bipush 48, 2) := by decide +kernel
theorem dX0_takes_38 : decode cX0_takes 38 = .ok (.isub, 1) := by decide +kernel
theorem dX0_takes_39 : decode cX0_takes 39 = .ok (.invokevirtual 40, 3) := by decide +kernel
theorem dX0_takes_42 : decode cX0_takes 42 = .ok (.ireturn, 1) := by decide +kernel
theorem dX0_takes_43 : decode cX0_takes 43 = .ok (.iconst 0, 1) := by decide +kernel
theorem dX0_takes_44 : decode cX0_takes 44 = .ok (.ireturn, 1) := by decide +kernel
set_option maxRecDepth 20000 in
theorem ggX0_takesComma_X0_beginNumber : GoodIn wsX0_takesComma wsX0_beginNumber := goodIn_r _ [7, 1, 8, 9, 10, 11, 12, 13, 14] (by decide +kernel) (by decide +kernel)
set_option maxRecDepth 20000 in
theorem gX0_takesComma_X0_beginNumber : GoodIn wsX0_takesComma (wsV RX0 19 RX0 yX0_beginNumber wsX0_beginNumber) := goodIn_app (goodIn_of _ (by decide +kernel)) ggX0_takesComma_X0_beginNumber
theorem dX0_takesComma_0 : decode cX0_takesComma 0 = .ok (.aload_n 0, 1) := by decide +kernel
theorem dX0_takesComma_1 : decode cX0_takesComma 1 = .ok (.getfield 22, 3) := by decide +kernel
theorem dX0_takesComma_4 : decode cX0_takesComma 4 = .ok (.ifCond .eq 11, 3) := by decide +kernel
theorem dX0_takesComma_7 : decode cX0_takesComma 7 = .ok (.aload_n 0, 1) := by decide +kernel
theorem dX0_takesComma_8 : decode cX0_takesComma 8 = .ok (.getfield 15, 3) := by decide +kernel
theorem dX0_takesComma_11 : decode cX0_takesComma 11 = .ok (.iconst 4, 1) := by decide +kernel
theorem dX0_takesComma_12 : decode cX0_takesComma 12 = .ok (.if_icmp .lt 5, 3) := by decide +kernel
theorem dX0_takesComma_15 : decode cX0_takesComma 15 = .ok (.iconst 0, 1) := by decide +kernel
theorem dX0_takesComma_16 : decode cX0_takesComma 16 = .ok (.ireturn, 1) := by decide +kernel
theorem dX0_takesComma_17 : decode cX0_takesComma 17 = .ok (.aload_n 0, 1) := by decide +kernel
theorem dX0_takesComma_18 : decode cX0_takesComma 18 = .ok (.dup, 1) := by decide +kernel
theorem dX0_takesComma_19 : decode cX0_takesComma 19 = .ok (.getfield 15, 3) := by decide +kernel
theorem dX0_takesComma_22 : decode cX0_takesComma 22 = .ok (.iconst 1, 1) := by decide +kernel
theorem dX0_takesComma_23 : decode cX0_takesComma 23 = .ok (.iadd, 1) := by decide +kernel
theorem dX0_takesComma_24 : decode cX0_takesComma 24 = .ok (.putfield 15, 3) := by decide +kernel
theorem dX0_takesComma_27 : decode cX0_takesComma 27 = .ok (.aload_n 0, 1) := by decide +kernel
theorem dX0_takesComma_28 : decode cX0_takesComma 28 = .ok (.invokevirtual 19, 3) := by decide +kernel
theorem dX0_takesComma_31 : decode cX0_takesComma 31 = .ok (.iconst 1, 1) := by decide +kernel
theorem dX0_takesComma_32 : decode cX0_takesComma 32 = .ok (.ireturn, 1) := by decide +kernel
theorem dX0_takesMinus_0 : decode cX0_takesMinus 0 = .ok (.aload_n 0, 1) := by decide +kernel
theorem dX0_takesMinus_1 : decode cX0_takesMinus 1 = .ok (.getfield 15, 3) := by decide +kernel
theorem dX0_takesMinus_4 : decode cX0_takesMinus 4 = .ok (.iconst 3, 1) := by decide +kernel
theorem dX0_takesMinus_5 : decode cX0_takesMinus 5 = .ok (.if_icmp .ne 17, 3) := by decide +kernel
theorem dX0_takesMinus_8 : decode cX0_takesMinus 8 = .ok (.aload_n 0, 1) := by decide +kernel
theorem dX0_takesMinus_9 : decode cX0_takesMinus 9 = .ok (.getfield 25, 3) := by decide +kernel
theorem dX0_takesMinus_12 : decode cX0_takesMinus 12 = .ok (.ifCond .ne 10, 3) := by decide +kernel
theorem dX0_takesMinus_15 : decode cX0_takesMinus 15 = .ok (.aload_n 0, 1) := by decide +kernel
theorem dX0_takesMinus_16 : decode cX0_takesMinus 16 = .ok (.getfield 22, 3) := by decide +kernel
theorem dX0_takesMinus_19 : decode cX0_takesMinus 19 = .ok (.ifCond .le 5, 3) := by decide +kernel
theorem dX0_takesMinus_22 : decode cX0_takesMinus 22 = .ok (.iconst 0, 1) := by decide +kernel
theorem dX0_takesMinus_23 : decode cX0_takesMinus 23 = .ok (.ireturn, 1) := by decide +kernel
theorem dX0_takesMinus_24 : decode cX0_takesMinus 24 = .ok (.aload_n 0, 1) := by decide +kernel
theorem dX0_takesMinus_25 : decode cX0_takesMinus 25 = .ok (.iconst 1, 1) := by decide +kernel
theorem dX0_takesMinus_26 : decode cX0_takesMinus 26 = .ok (.putfield 25, 3) := by decide +kernel
theorem dX0_takesMinus_29 : decode cX0_takesMinus 29 = .ok (.iconst 1, 1) := by decide +kernel
theorem dX0_takesMinus_30 : decode cX0_takesMinus 30 = .ok (.ireturn, 1) := by decide +kernel
theorem dX0_takesDigit_0 : decode cX0_takesDigit 0 = .ok (.aload_n 0, 1) := by decide +kernel
theorem dX0_takesDigit_1 : decode cX0_takesDigit 1 = .ok (.getfield 22, 3) := by decide +kernel
theorem dX0_takesDigit_4 : decode cX0_takesDigit 4 = .ok (.ifCond .le 16, 3) := by decide +kernel
theorem dX0_takesDigit_7 : decode cX0_takesDigit 7 = .ok (.aload_n 0, 1) := by decide +kernel
theorem dX0_takesDigit_8 : decode cX0_takesDigit 8 = .ok (.getfield 29, 3) := by decide +kernel
theorem dX0_takesDigit_11 : decode cX0_takesDigit 11 = .ok (.lconst 0, 1) := by decide +kernel
theorem dX0_takesDigit_12 : decode cX0_takesDigit 12 = .ok (.lcmp, 1) := by decide +kernel
theorem dX0_takesDigit_13 : decode cX0_takesDigit 13 = .ok (.ifCond .ne 7, 3) := by decide +kernel
theorem dX0_takesDigit_16 : decode cX0_takesDigit 16 = .ok (.iconst 1, 1) := by decide +kernel
theorem dX0_takesDigit_17 : decode cX0_takesDigit 17 = .ok (.goto 4, 3) := by decide +kernel
theorem dX0_takesDigit_20 : decode cX0_takesDigit 20 = .ok (.iconst 0, 1) := by decide +kernel
theorem dX0_takesDigit_21 : decode cX0_takesDigit 21 = .ok (.istore_n 2, 1) := by decide +kernel
theorem dX0_takesDigit_22 : decode cX0_takesDigit 22 = .ok (.aload_n 0, 1) := by decide +kernel
theorem dX0_takesDigit_23 : decode cX0_takesDigit 23 = .ok (.getfield 25, 3) := by decide +kernel
theorem dX0_takesDigit_26 : decode cX0_takesDigit 26 = .ok (.ifCond .eq 18, 3) := by decide +kernel
theorem dX0_takesDigit_29 : decode cX0_takesDigit 29 = .ok (.aload_n 0, 1) := by decide +kernel
theorem dX0_takesDigit_30 : decode cX0_takesDigit 30 = .ok (.getfield 22, 3) := by decide +kernel
theorem dX0_takesDigit_33 : decode cX0_takesDigit 33 = .ok (.ifCond .ne 11, 3) := by decide +kernel
theorem dX0_takesDigit_36 : decode cX0_takesDigit 36 = .ok (.iload_n 1, 1) := by decide +kernel
theorem dX0_takesDigit_37 : decode cX0_takesDigit 37 = .ok (.ifCond .ne 7, 3) := by decide +kernel
theorem dX0_takesDigit_40 : decode cX0_takesDigit 40 = .ok (.iconst 1, 1) := by decide +kernel
theorem dX0_takesDigit_41 : decode cX0_takesDigit 41 = .ok (.goto 4, 3) := by decide +kernel
theorem dX0_takesDigit_44 : decode cX0_takesDigit 44 = .ok (.iconst 0, 1) := by decide +kernel
theorem dX0_takesDigit_45 : decode cX0_takesDigit 45 = .ok (.istore_n 3, 1) := by decide +kernel
theorem dX0_takesDigit_46 : decode cX0_takesDigit 46 = .ok (.iload_n 2, 1) := by decide +kernel
theorem dX0_takesDigit_47 : decode cX0_takesDigit 47 = .ok (.ifCond .ne 22, 3) := by decide +kernel
theorem dX0_takesDigit_50 : decode cX0_takesDigit 50 = .ok (.iload_n 3, 1) := by decide +kernel
theorem dX0_takesDigit_51 : decode cX0_takesDigit 51 = .ok (.ifCond .ne 18, 3) := by decide +kernel
theorem dX0_takesDigit_54 : decode cX0_takesDigit 54 = .ok (.aload_n 0, 1) := by decide +kernel
theorem dX0_takesDigit_55 : decode cX0_takesDigit 55 = .ok (.getfield 15, 3) := by decide +kernel
theorem dX0_takesDigit_58 : decode cX0_takesDigit 58 = .ok (.ifCond .lt 11, 3) := by decide +kernel
theorem dX0_takesDigit_61 : decode cX0_takesDigit 61 = .ok (.aload_n 0, 1) := by decide +kernel
theorem dX0_takesDigit_62 : decode cX0_takesDigit 62 = .ok (.getfield 15, 3) := by decide +kernel
theorem dX0_takesDigit_65 : decode cX0_takesDigit 65 = .ok (.iconst 5, 1) := by decide +kernel
theorem dX0_takesDigit_66 : decode cX0_takesDigit 66 = .ok (.if_icmp .lt 5, 3) := by decide +kernel
theorem dX0_takesDigit_69 : decode cX0_takesDigit 69 = .ok (.iconst 0, 1) := by decide +kernel
theorem dX0_takesDigit_70 : decode cX0_takesDigit 70 = .ok (.ireturn, 1) := by decide +kernel
theorem dX0_takesDigit_71 : decode cX0_takesDigit 71 = .ok (.ldc2_w 44, 3) := by decide +kernel
theorem dX0_takesDigit_74 : decode cX0_takesDigit 74 = .ok (.aload_n 0, 1) := by decide +kernel
theorem dX0_takesDigit_75 : decode cX0_takesDigit 75 = .ok (.getfield 29, 3) := by decide +kernel
theorem dX0_takesDigit_78 : decode cX0_takesDigit 78 = .ok (.lmul, 1) := by decide +kernel
theorem dX0_takesDigit_79 : decode cX0_takesDigit 79 = .ok (.iload_n 1, 1) := by decide +kernel
theorem dX0_takesDigit_80 : decode cX0_takesDigit 80 = .ok (.i2l, 1) := by decide +kernel
theorem dX0_takesDigit_81 : decode cX0_takesDigit 81 = .ok (.ladd, 1) := by decide +kernel
theorem dX0_takesDigit_82 : decode cX0_takesDigit 82 = .ok (.lstore 4, 2) := by decide +kernel
theorem dX0_takesDigit_84 : decode cX0_takesDigit 84 = .ok (.lload 4, 2) := by decide +kernel
theorem dX0_takesDigit_86 : decode cX0_takesDigit 86 = .ok (.getstatic 46, 3) := by decide +kernel
theorem dX0_takesDigit_89 : decode cX0_takesDigit 89 = .ok (.aload_n 0, 1) := by decide +kernel
theorem dX0_takesDigit_90 : decode cX0_takesDigit 90 = .ok (.getfield 15, 3) := by decide +kernel
theorem dX0_takesDigit_93 : decode cX0_takesDigit 93 = .ok (.laload, 1) := by decide +kernel
theorem dX0_takesDigit_94 : decode cX0_takesDigit 94 = .ok (.lcmp, 1) := by decide +kernel
theorem dX0_takesDigit_95 : decode cX0_takesDigit 95 = .ok (.ifCond .le 5, 3) := by decide +kernel
theorem dX0_takesDigit_98 : decode cX0_takesDigit 98 = .ok (.iconst 0, 1) := by decide +kernel
theorem dX0_takesDigit_99 : decode cX0_takesDigit 99 = .ok (.ireturn, 1) := by decide +kernel
theorem dX0_takesDigit_100 : decode cX0_takesDigit 100 = .ok (.aload_n 0, 1) := by decide +kernel
theorem dX0_takesDigit_101 : decode cX0_takesDigit 101 = .ok (.lload 4, 2) := by decide +kernel
theorem dX0_takesDigit_103 : decode cX0_takesDigit 103 = .ok (.putfield 29, 3) := by decide +kernel
theorem dX0_takesDigit_106 : decode cX0_takesDigit 106 = .ok (.aload_n 0, 1) := by decide +kernel
theorem dX0_takesDigit_107 : decode cX0_takesDigit 107 = .ok (.dup, 1) := by decide +kernel
theorem dX0_takesDigit_108 : decode cX0_takesDigit 108 = .ok (.getfield 22, 3) := by decide +kernel
theorem dX0_takesDigit_111 : decode cX0_takesDigit 111 = .ok (.iconst 1, 1) := by decide +kernel
theorem dX0_takesDigit_112 : decode cX0_takesDigit 112 = .ok (.iadd, 1) := by decide +kernel
theorem dX0_takesDigit_113 : decode cX0_takesDigit 113 = .ok (.putfield 22, 3) := by decide +kernel
theorem dX0_takesDigit_116 : decode cX0_takesDigit 116 = .ok (.aload_n 0, 1) := by decide +kernel
theorem dX0_takesDigit_117 : decode cX0_takesDigit 117 = .ok (.getfield 9, 3) := by decide +kernel
theorem dX0_takesDigit_120 : decode cX0_takesDigit 120 = .ok (.aload_n 0, 1) := by decide +kernel
theorem dX0_takesDigit_121 : decode cX0_takesDigit 121 = .ok (.getfield 15, 3) := by decide +kernel
theorem dX0_takesDigit_124 : decode cX0_takesDigit 124 = .ok (.aload_n 0, 1) := by decide +kernel
theorem dX0_takesDigit_125 : decode cX0_takesDigit 125 = .ok (.getfield 25, 3) := by decide +kernel
theorem dX0_takesDigit_128 : decode cX0_takesDigit 128 = .ok (.ifCond .eq 11, 3) := by decide +kernel
theorem dX0_takesDigit_131 : decode cX0_takesDigit 131 = .ok (.aload_n 0, 1) := by decide +kernel
theorem dX0_takesDigit_132 : decode cX0_takesDigit 132 = .ok (.getfield 29, 3) := by decide +kernel
theorem dX0_takesDigit_135 : decode cX0_takesDigit 135 = .ok (.lneg, 1) := by decide +kernel
theorem dX0_takesDigit_136 : decode cX0_takesDigit 136 = .ok (.goto 7, 3) := by decide +kernel
theorem dX0_takesDigit_139 : decode cX0_takesDigit 139 = .ok (.aload_n 0, 1) := by decide +kernel
theorem dX0_takesDigit_140 : decode cX0_takesDigit 140 = .ok (.getfield 29, 3) := by decide +kernel
theorem dX0_takesDigit_143 : decode cX0_takesDigit 143 = .ok (.lastore, 1) := by decide +kernel
theorem dX0_takesDigit_144 : decode cX0_takesDigit 144 = .ok (.iconst 1, 1) := by decide +kernel
theorem dX0_takesDigit_145 : decode cX0_takesDigit 145 = .ok (.ireturn, 1) := by decide +kernel
theorem dX0_isComplete_0 : decode cX0_isComplete 0 = .ok (.aload_n 0, 1) := by decide +kernel
theorem dX0_isComplete_1 : decode cX0_isComplete 1 = .ok (.getfield 15, 3) := by decide +kernel
theorem dX0_isComplete_4 : decode cX0_isComplete 4 = .ok (.iconst 4, 1) := by decide +kernel
theorem dX0_isComplete_5 : decode cX0_isComplete 5 = .ok (.if_icmp .ne 14, 3) := by decide +kernel
theorem dX0_isComplete_8 : decode cX0_isComplete 8 = .ok (.aload_n 0, 1) := by decide +kernel
theorem dX0_isComplete_9 : decode cX0_isComplete 9 = .ok (.getfield 22, 3) := by decide +kernel
theorem dX0_isComplete_12 : decode cX0_isComplete 12 = .ok (.ifCond .le 7, 3) := by decide +kernel
theorem dX0_isComplete_15 : decode cX0_isComplete 15 = .ok (.iconst 1, 1) := by decide +kernel
theorem dX0_isComplete_16 : decode cX0_isComplete 16 = .ok (.goto 4, 3) := by decide +kernel
theorem dX0_isComplete_19 : decode cX0_isComplete 19 = .ok (.iconst 0, 1) := by decide +kernel
theorem dX0_isComplete_20 : decode cX0_isComplete 20 = .ok (.ireturn, 1) := by decide +kernel
theorem dX0_numberAt_0 : decode cX0_numberAt 0 = .ok (.iload_n 1, 1) := by decide +kernel
theorem dX0_numberAt_1 : decode cX0_numberAt 1 = .ok (.ifCond .lt 8, 3) := by decide +kernel
theorem dX0_numberAt_4 : decode cX0_numberAt 4 = .ok (.iload_n 1, 1) := by decide +kernel
theorem dX0_numberAt_5 : decode cX0_numberAt 5 = .ok (.iconst 5, 1) := by decide +kernel
theorem dX0_numberAt_6 : decode cX0_numberAt 6 = .ok (.if_icmp .lt 7, 3) := by decide +kernel
end
section
theorem dX0_numberAt_9 : decode cX0_numberAt 9 = .ok (.lconst 0, 1) := by decide +kernel
theorem dX0_numberAt_10 : decode cX0_numberAt 10 = .ok (.goto 9, 3) := by decide +kernel
theorem dX0_numberAt_13 : decode cX0_numberAt 13 = .ok (.aload_n 0, 1) := by decide +kernel
theorem dX0_numberAt_14 : decode cX0_numberAt 14 = .ok (.getfield 9, 3) := by decide +kernel
theorem dX0_numberAt_17 : decode cX0_numberAt 17 = .ok (.iload_n 1, 1) := by decide +kernel
theorem dX0_numberAt_18 : decode cX0_numberAt 18 = .ok (.laload, 1) := by decide +kernel
theorem dX0_numberAt_19 : decode cX0_numberAt 19 = .ok (.lreturn, 1) := by decide +kernel
theorem dX1_init_0 : decode cX1_init 0 = .ok (.aload_n 0, 1) := by decide +kernel
theorem dX1_init_1 : decode cX1_init 1 = .ok (.invokespecial 3, 3) := by decide +kernel
theorem dX1_init_4 : decode cX1_init 4 = .ok (.aload_n 0, 1) := by decide +kernel
theorem dX1_init_5 : decode cX1_init 5 = .ok (.bipush 6, 2) := by decide +kernel
theorem dX1_init_7 : decode cX1_init 7 = .ok (.newarray .long, 2) := by decide +kernel
theorem dX1_init_9 : decode cX1_init 9 = .ok (.putfield 9, 3) := by decide +kernel
theorem dX1_init_12 : decode cX1_init 12 = .ok (.aload_n 0, 1) := by decide +kernel
theorem dX1_init_13 : decode cX1_init 13 = .ok (.iconst 4, 1) := by decide +kernel
theorem dX1_init_14 : decode cX1_init 14 = .ok (.newarray .long, 2) := by decide +kernel
theorem dX1_init_16 : decode cX1_init 16 = .ok (.putfield 15, 3) := by decide +kernel
theorem dX1_init_19 : decode cX1_init 19 = .ok (.aload_n 0, 1) := by decide +kernel
theorem dX1_init_20 : decode cX1_init 20 = .ok (.ldc2_w 18, 3) := by decide +kernel
theorem dX1_init_23 : decode cX1_init 23 = .ok (.putfield 20, 3) := by decide +kernel
theorem dX1_init_26 : decode cX1_init 26 = .ok (.return_, 1) := by decide +kernel
set_option maxRecDepth 20000 in
theorem ggX1_forwardDraft_J9_floorDiv_f86c9 : GoodIn wsX1_forwardDraft wsJ9_floorDiv_f86c9 := goodIn_r _ [6] (by decide +kernel) (by decide +kernel)
set_option maxRecDepth 20000 in
theorem gX1_forwardDraft_J9_floorDiv_f86c9 : GoodIn wsX1_forwardDraft (va_wsS RX1 26 yJ9_floorDiv_f86c9 wsJ9_floorDiv_f86c9) := goodIn_app (goodIn_of _ (by decide +kernel)) ggX1_forwardDraft_J9_floorDiv_f86c9
theorem dX1_forwardDraft_0 : decode cX1_forwardDraft 0 = .ok (.aload_n 0, 1) := by decide +kernel
theorem dX1_forwardDraft_1 : decode cX1_forwardDraft 1 = .ok (.getfield 9, 3) := by decide +kernel
theorem dX1_forwardDraft_4 : decode cX1_forwardDraft 4 = .ok (.iconst 0, 1) := by decide +kernel
theorem dX1_forwardDraft_5 : decode cX1_forwardDraft 5 = .ok (.laload, 1) := by decide +kernel
theorem dX1_forwardDraft_6 : decode cX1_forwardDraft 6 = .ok (.aload_n 0, 1) := by decide +kernel
theorem dX1_forwardDraft_7 : decode cX1_forwardDraft 7 = .ok (.getfield 9, 3) := by decide +kernel
theorem dX1_forwardDraft_10 : decode cX1_forwardDraft 10 = .ok (.iconst 1, 1) := by decide +kernel
theorem dX1_forwardDraft_11 : decode cX1_forwardDraft 11 = .ok (.laload, 1) := by decide +kernel
theorem dX1_forwardDraft_12 : decode cX1_forwardDraft 12 = .ok (.ladd, 1) := by decide +kernel
theorem dX1_forwardDraft_13 : decode cX1_forwardDraft 13 = .ok (.ldc2_w 24, 3) := by decide +kernel
theorem dX1_forwardDraft_16 : decode cX1_forwardDraft 16 = .ok (.invokestatic 26, 3) := by decide +kernel
theorem dX1_forwardDraft_19 : decode cX1_forwardDraft 19 = .ok (.lreturn, 1) := by decide +kernel
set_option maxRecDepth 20000 in
theorem ggX1_midshipDraft_J9_floorDiv_f86c9 : GoodIn wsX1_midshipDraft wsJ9_floorDiv_f86c9 := goodIn_r _ [6] (by decide +kernel) (by decide +kernel)
set_option maxRecDepth 20000 in
theorem gX1_midshipDraft_J9_floorDiv_f86c9 : GoodIn wsX1_midshipDraft (va_wsS RX1 26 yJ9_floorDiv_f86c9 wsJ9_floorDiv_f86c9) := goodIn_app (goodIn_of _ (by decide +kernel)) ggX1_midshipDraft_J9_floorDiv_f86c9
theorem dX1_midshipDraft_0 : decode cX1_midshipDraft 0 = .ok (.aload_n 0, 1) := by decide +kernel
theorem dX1_midshipDraft_1 : decode cX1_midshipDraft 1 = .ok (.getfield 9, 3) := by decide +kernel
theorem dX1_midshipDraft_4 : decode cX1_midshipDraft 4 = .ok (.iconst 2, 1) := by decide +kernel
theorem dX1_midshipDraft_5 : decode cX1_midshipDraft 5 = .ok (.laload, 1) := by decide +kernel
theorem dX1_midshipDraft_6 : decode cX1_midshipDraft 6 = .ok (.aload_n 0, 1) := by decide +kernel
theorem dX1_midshipDraft_7 : decode cX1_midshipDraft 7 = .ok (.getfield 9, 3) := by decide +kernel
theorem dX1_midshipDraft_10 : decode cX1_midshipDraft 10 = .ok (.iconst 3, 1) := by decide +kernel
theorem dX1_midshipDraft_11 : decode cX1_midshipDraft 11 = .ok (.laload, 1) := by decide +kernel
theorem dX1_midshipDraft_12 : decode cX1_midshipDraft 12 = .ok (.ladd, 1) := by decide +kernel
theorem dX1_midshipDraft_13 : decode cX1_midshipDraft 13 = .ok (.ldc2_w 24, 3) := by decide +kernel
theorem dX1_midshipDraft_16 : decode cX1_midshipDraft 16 = .ok (.invokestatic 26, 3) := by decide +kernel
theorem dX1_midshipDraft_19 : decode cX1_midshipDraft 19 = .ok (.lreturn, 1) := by decide +kernel
set_option maxRecDepth 20000 in
theorem ggX1_aftDraft_J9_floorDiv_f86c9 : GoodIn wsX1_aftDraft wsJ9_floorDiv_f86c9 := goodIn_r _ [6] (by decide +kernel) (by decide +kernel)
set_option maxRecDepth 20000 in
theorem gX1_aftDraft_J9_floorDiv_f86c9 : GoodIn wsX1_aftDraft (va_wsS RX1 26 yJ9_floorDiv_f86c9 wsJ9_floorDiv_f86c9) := goodIn_app (goodIn_of _ (by decide +kernel)) ggX1_aftDraft_J9_floorDiv_f86c9
theorem dX1_aftDraft_0 : decode cX1_aftDraft 0 = .ok (.aload_n 0, 1) := by decide +kernel
theorem dX1_aftDraft_1 : decode cX1_aftDraft 1 = .ok (.getfield 9, 3) := by decide +kernel
theorem dX1_aftDraft_4 : decode cX1_aftDraft 4 = .ok (.iconst 4, 1) := by decide +kernel
theorem dX1_aftDraft_5 : decode cX1_aftDraft 5 = .ok (.laload, 1) := by decide +kernel
theorem dX1_aftDraft_6 : decode cX1_aftDraft 6 = .ok (.aload_n 0, 1) := by decide +kernel
theorem dX1_aftDraft_7 : decode cX1_aftDraft 7 = .ok (.getfield 9, 3) := by decide +kernel
theorem dX1_aftDraft_10 : decode cX1_aftDraft 10 = .ok (.iconst 5, 1) := by decide +kernel
theorem dX1_aftDraft_11 : decode cX1_aftDraft 11 = .ok (.laload, 1) := by decide +kernel
theorem dX1_aftDraft_12 : decode cX1_aftDraft 12 = .ok (.ladd, 1) := by decide +kernel
theorem dX1_aftDraft_13 : decode cX1_aftDraft 13 = .ok (.ldc2_w 24, 3) := by decide +kernel
theorem dX1_aftDraft_16 : decode cX1_aftDraft 16 = .ok (.invokestatic 26, 3) := by decide +kernel
theorem dX1_aftDraft_19 : decode cX1_aftDraft 19 = .ok (.lreturn, 1) := by decide +kernel
set_option maxRecDepth 20000 in
theorem ggX1_sternTrim_X1_aftDraft : GoodIn wsX1_sternTrim wsX1_aftDraft := goodIn_r _ [5, 6, 7, 8, 9, 10, 11, 16, 17, 18] (by decide +kernel) (by decide +kernel)
set_option maxRecDepth 20000 in
theorem gX1_sternTrim_X1_aftDraft : GoodIn wsX1_sternTrim (wsV RX1 32 RX1 yX1_aftDraft wsX1_aftDraft) := goodIn_app (goodIn_of _ (by decide +kernel)) ggX1_sternTrim_X1_aftDraft
set_option maxRecDepth 20000 in
theorem ggX1_sternTrim_X1_forwardDraft : GoodIn wsX1_sternTrim wsX1_forwardDraft := goodIn_r _ [15, 6, 7, 8, 9, 10, 11, 16, 17, 18] (by decide +kernel) (by decide +kernel)
set_option maxRecDepth 20000 in
theorem gX1_sternTrim_X1_forwardDraft : GoodIn wsX1_sternTrim (wsV RX1 36 RX1 yX1_forwardDraft wsX1_forwardDraft) := goodIn_app (goodIn_of _ (by decide +kernel)) ggX1_sternTrim_X1_forwardDraft
theorem dX1_sternTrim_0 : decode cX1_sternTrim 0 = .ok (.aload_n 0, 1) := by decide +kernel
theorem dX1_sternTrim_1 : decode cX1_sternTrim 1 = .ok (.invokevirtual 32, 3) := by decide +kernel
theorem dX1_sternTrim_4 : decode cX1_sternTrim 4 = .ok (.aload_n 0, 1) := by decide +kernel
theorem dX1_sternTrim_5 : decode cX1_sternTrim 5 = .ok (.invokevirtual 36, 3) := by decide +kernel
theorem dX1_sternTrim_8 : decode cX1_sternTrim 8 = .ok (.lsub, 1) := by decide +kernel
theorem dX1_sternTrim_9 : decode cX1_sternTrim 9 = .ok (.lreturn, 1) := by decide +kernel
set_option maxRecDepth 20000 in
theorem ggX1_hullDeflection_X1_midshipDraft : GoodIn wsX1_hullDeflection wsX1_midshipDraft := goodIn_r _ [6, 7, 1, 8, 9, 10, 11, 20, 21, 22] (by decide +kernel) (by decide +kernel)
set_option maxRecDepth 20000 in
theorem gX1_hullDeflection_X1_midshipDraft : GoodIn wsX1_hullDeflection (wsV RX1 39 RX1 yX1_midshipDraft wsX1_midshipDraft) := goodIn_app (goodIn_of _ (by decide +kernel)) ggX1_hullDeflection_X1_midshipDraft
set_option maxRecDepth 20000 in
theorem ggX1_hullDeflection_X1_forwardDraft : GoodIn wsX1_hullDeflection wsX1_forwardDraft := goodIn_r _ [15, 7, 1, 8, 9, 10, 11, 20, 21, 22] (by decide +kernel) (by decide +kernel)
set_option maxRecDepth 20000 in
theorem gX1_hullDeflection_X1_forwardDraft : GoodIn wsX1_hullDeflection (wsV RX1 36 RX1 yX1_forwardDraft wsX1_forwardDraft) := goodIn_app (goodIn_of _ (by decide +kernel)) ggX1_hullDeflection_X1_forwardDraft
set_option maxRecDepth 20000 in
theorem ggX1_hullDeflection_X1_aftDraft : GoodIn wsX1_hullDeflection wsX1_aftDraft := goodIn_r _ [19, 7, 1, 8, 9, 10, 11, 20, 21, 22] (by decide +kernel) (by decide +kernel)
set_option maxRecDepth 20000 in
theorem gX1_hullDeflection_X1_aftDraft : GoodIn wsX1_hullDeflection (wsV RX1 32 RX1 yX1_aftDraft wsX1_aftDraft) := goodIn_app (goodIn_of _ (by decide +kernel)) ggX1_hullDeflection_X1_aftDraft
set_option maxRecDepth 20000 in
theorem ggX1_hullDeflection_J9_floorDiv_f86c9 : GoodIn wsX1_hullDeflection wsJ9_floorDiv_f86c9 := goodIn_r _ [11] (by decide +kernel) (by decide +kernel)
set_option maxRecDepth 20000 in
theorem gX1_hullDeflection_J9_floorDiv_f86c9 : GoodIn wsX1_hullDeflection (va_wsS RX1 26 yJ9_floorDiv_f86c9 wsJ9_floorDiv_f86c9) := goodIn_app (goodIn_of _ (by decide +kernel)) ggX1_hullDeflection_J9_floorDiv_f86c9
theorem dX1_hullDeflection_0 : decode cX1_hullDeflection 0 = .ok (.aload_n 0, 1) := by decide +kernel
theorem dX1_hullDeflection_1 : decode cX1_hullDeflection 1 = .ok (.invokevirtual 39, 3) := by decide +kernel
theorem dX1_hullDeflection_4 : decode cX1_hullDeflection 4 = .ok (.aload_n 0, 1) := by decide +kernel
theorem dX1_hullDeflection_5 : decode cX1_hullDeflection 5 = .ok (.invokevirtual 36, 3) := by decide +kernel
theorem dX1_hullDeflection_8 : decode cX1_hullDeflection 8 = .ok (.aload_n 0, 1) := by decide +kernel
theorem dX1_hullDeflection_9 : decode cX1_hullDeflection 9 = .ok (.invokevirtual 32, 3) := by decide +kernel
theorem dX1_hullDeflection_12 : decode cX1_hullDeflection 12 = .ok (.ladd, 1) := by decide +kernel
theorem dX1_hullDeflection_13 : decode cX1_hullDeflection 13 = .ok (.ldc2_w 24, 3) := by decide +kernel
theorem dX1_hullDeflection_16 : decode cX1_hullDeflection 16 = .ok (.invokestatic 26, 3) := by decide +kernel
theorem dX1_hullDeflection_19 : decode cX1_hullDeflection 19 = .ok (.lsub, 1) := by decide +kernel
theorem dX1_hullDeflection_20 : decode cX1_hullDeflection 20 = .ok (.lreturn, 1) := by decide +kernel
theorem dX1_starboardHeel_0 : decode cX1_starboardHeel 0 = .ok (.aload_n 0, 1) := by decide +kernel
theorem dX1_starboardHeel_1 : decode cX1_starboardHeel 1 = .ok (.getfield 9, 3) := by decide +kernel
theorem dX1_starboardHeel_4 : decode cX1_starboardHeel 4 = .ok (.iconst 3, 1) := by decide +kernel
theorem dX1_starboardHeel_5 : decode cX1_starboardHeel 5 = .ok (.laload, 1) := by decide +kernel
theorem dX1_starboardHeel_6 : decode cX1_starboardHeel 6 = .ok (.aload_n 0, 1) := by decide +kernel
theorem dX1_starboardHeel_7 : decode cX1_starboardHeel 7 = .ok (.getfield 9, 3) := by decide +kernel
theorem dX1_starboardHeel_10 : decode cX1_starboardHeel 10 = .ok (.iconst 2, 1) := by decide +kernel
theorem dX1_starboardHeel_11 : decode cX1_starboardHeel 11 = .ok (.laload, 1) := by decide +kernel
theorem dX1_starboardHeel_12 : decode cX1_starboardHeel 12 = .ok (.lsub, 1) := by decide +kernel
theorem dX1_starboardHeel_13 : decode cX1_starboardHeel 13 = .ok (.lreturn, 1) := by decide +kernel
set_option maxRecDepth 20000 in
theorem ggX1_meanDraft_X1_forwardDraft : GoodIn wsX1_meanDraft wsX1_forwardDraft := goodIn_r _ [7, 8, 9, 10, 11, 12, 13, 22, 23, 24] (by decide +kernel) (by decide +kernel)
set_option maxRecDepth 20000 in
theorem gX1_meanDraft_X1_forwardDraft : GoodIn wsX1_meanDraft (wsV RX1 36 RX1 yX1_forwardDraft wsX1_forwardDraft) := goodIn_app (goodIn_of _ (by decide +kernel)) ggX1_meanDraft_X1_forwardDraft
set_option maxRecDepth 20000 in
theorem ggX1_meanDraft_X1_midshipDraft : GoodIn wsX1_meanDraft wsX1_midshipDraft := goodIn_r _ [17, 8, 9, 10, 11, 12, 13, 22, 23, 24] (by decide +kernel) (by decide +kernel)
set_option maxRecDepth 20000 in
theorem gX1_meanDraft_X1_midshipDraft : GoodIn wsX1_meanDraft (wsV RX1 39 RX1 yX1_midshipDraft wsX1_midshipDraft) := goodIn_app (goodIn_of _ (by decide +kernel)) ggX1_meanDraft_X1_midshipDraft
set_option maxRecDepth 20000 in
theorem ggX1_meanDraft_X1_aftDraft : GoodIn wsX1_meanDraft wsX1_aftDraft := goodIn_r _ [21, 8, 9, 10, 11, 12, 13, 22, 23, 24] (by decide +kernel) (by decide +kernel)
set_option maxRecDepth 20000 in
theorem gX1_meanDraft_X1_aftDraft : GoodIn wsX1_meanDraft (wsV RX1 32 RX1 yX1_aftDraft wsX1_aftDraft) := goodIn_app (goodIn_of _ (by decide +kernel)) ggX1_meanDraft_X1_aftDraft
set_option maxRecDepth 20000 in
theorem ggX1_meanDraft_J9_floorDiv_f86c9 : GoodIn wsX1_meanDraft wsJ9_floorDiv_f86c9 := goodIn_r _ [13] (by decide +kernel) (by decide +kernel)
set_option maxRecDepth 20000 in
theorem gX1_meanDraft_J9_floorDiv_f86c9 : GoodIn wsX1_meanDraft (va_wsS RX1 26 yJ9_floorDiv_f86c9 wsJ9_floorDiv_f86c9) := goodIn_app (goodIn_of _ (by decide +kernel)) ggX1_meanDraft_J9_floorDiv_f86c9
theorem dX1_meanDraft_0 : decode cX1_meanDraft 0 = .ok (.aload_n 0, 1) := by decide +kernel
theorem dX1_meanDraft_1 : decode cX1_meanDraft 1 = .ok (.invokevirtual 36, 3) := by decide +kernel
theorem dX1_meanDraft_4 : decode cX1_meanDraft 4 = .ok (.ldc2_w 42, 3) := by decide +kernel
theorem dX1_meanDraft_7 : decode cX1_meanDraft 7 = .ok (.aload_n 0, 1) := by decide +kernel
theorem dX1_meanDraft_8 : decode cX1_meanDraft 8 = .ok (.invokevirtual 39, 3) := by decide +kernel
theorem dX1_meanDraft_11 : decode cX1_meanDraft 11 = .ok (.lmul, 1) := by decide +kernel
theorem dX1_meanDraft_12 : decode cX1_meanDraft 12 = .ok (.ladd, 1) := by decide +kernel
theorem dX1_meanDraft_13 : decode cX1_meanDraft 13 = .ok (.aload_n 0, 1) := by decide +kernel
theorem dX1_meanDraft_14 : decode cX1_meanDraft 14 = .ok (.invokevirtual 32, 3) := by decide +kernel
theorem dX1_meanDraft_17 : decode cX1_meanDraft 17 = .ok (.ladd, 1) := by decide +kernel
theorem dX1_meanDraft_18 : decode cX1_meanDraft 18 = .ok (.ldc2_w 44, 3) := by decide +kernel
theorem dX1_meanDraft_21 : decode cX1_meanDraft 21 = .ok (.invokestatic 26, 3) := by decide +kernel
theorem dX1_meanDraft_24 : decode cX1_meanDraft 24 = .ok (.lreturn, 1) := by decide +kernel
theorem dX1_deducted_0 : decode cX1_deducted 0 = .ok (.lconst 0, 1) := by decide +kernel
theorem dX1_deducted_1 : decode cX1_deducted 1 = .ok (.lstore_n 1, 1) := by decide +kernel
theorem dX1_deducted_2 : decode cX1_deducted 2 = .ok (.iconst 0, 1) := by decide +kernel
theorem dX1_deducted_3 : decode cX1_deducted 3 = .ok (.istore_n 3, 1) := by decide +kernel
theorem dX1_deducted_4 : decode cX1_deducted 4 = .ok (.iload_n 3, 1) := by decide +kernel
theorem dX1_deducted_5 : decode cX1_deducted 5 = .ok (.iconst 4, 1) := by decide +kernel
theorem dX1_deducted_6 : decode cX1_deducted 6 = .ok (.if_icmp .ge 18, 3) := by decide +kernel
theorem dX1_deducted_9 : decode cX1_deducted 9 = .ok (.lload_n 1, 1) := by decide +kernel
theorem dX1_deducted_10 : decode cX1_deducted 10 = .ok (.aload_n 0, 1) := by decide +kernel
theorem dX1_deducted_11 : decode cX1_deducted 11 = .ok (.getfield 15, 3) := by decide +kernel
theorem dX1_deducted_14 : decode cX1_deducted 14 = .ok (.iload_n 3, 1) := by decide +kernel
theorem dX1_deducted_15 : decode cX1_deducted 15 = .ok (.laload, 1) := by decide +kernel
theorem dX1_deducted_16 : decode cX1_deducted 16 = .ok (.ladd, 1) := by decide +kernel
theorem dX1_deducted_17 : decode cX1_deducted 17 = .ok (.lstore_n 1, 1) := by decide +kernel
theorem dX1_deducted_18 : decode cX1_deducted 18 = .ok (.iinc 3 1, 3) := by decide +kernel
theorem dX1_deducted_21 : decode cX1_deducted 21 = .ok (.goto (-17), 3) := by decide +kernel
theorem dX1_deducted_24 : decode cX1_deducted 24 = .ok (.lload_n 1, 1) := by decide +kernel
theorem dX1_deducted_25 : decode cX1_deducted 25 = .ok (.lreturn, 1) := by decide +kernel
theorem dX2_init_0 : decode cX2_init 0 = .ok (.aload_n 0, 1) := by decide +kernel
theorem dX2_init_1 : decode cX2_init 1 = .ok (.invokespecial 3, 3) := by decide +kernel
theorem dX2_init_4 : decode cX2_init 4 = .ok (.aload_n 0, 1) := by decide +kernel
theorem dX2_init_5 : decode cX2_init 5 = .ok (.bipush 50, 2) := by decide +kernel
theorem dX2_init_7 : decode cX2_init 7 = .ok (.newarray .long, 2) := by decide +kernel
theorem dX2_init_9 : decode cX2_init 9 = .ok (.putfield 9, 3) := by decide +kernel
theorem dX2_init_12 : decode cX2_init 12 = .ok (.return_, 1) := by decide +kernel
theorem dX2_cell_0 : decode cX2_cell 0 = .ok (.iload_n 1, 1) := by decide +kernel
theorem dX2_cell_1 : decode cX2_cell 1 = .ok (.ifCond .lt 26, 3) := by decide +kernel
theorem dX2_cell_4 : decode cX2_cell 4 = .ok (.iload_n 1, 1) := by decide +kernel
theorem dX2_cell_5 : decode cX2_cell 5 = .ok (.aload_n 0, 1) := by decide +kernel
theorem dX2_cell_6 : decode cX2_cell 6 = .ok (.getfield 15, 3) := by decide +kernel
theorem dX2_cell_9 : decode cX2_cell 9 = .ok (.if_icmp .ge 18, 3) := by decide +kernel
theorem dX2_cell_12 : decode cX2_cell 12 = .ok (.iload_n 1, 1) := by decide +kernel
theorem dX2_cell_13 : decode cX2_cell 13 = .ok (.bipush 10, 2) := by decide +kernel
theorem dX2_cell_15 : decode cX2_cell 15 = .ok (.if_icmp .ge 12, 3) := by decide +kernel
theorem dX2_cell_18 : decode cX2_cell 18 = .ok (.iload_n 2, 1) := by decide +kernel
theorem dX2_cell_19 : decode cX2_cell 19 = .ok (.ifCond .lt 8, 3) := by decide +kernel
theorem dX2_cell_22 : decode cX2_cell 22 = .ok (.iload_n 2, 1) := by decide +kernel
theorem dX2_cell_23 : decode cX2_cell 23 = .ok (.iconst 5, 1) := by decide +kernel
theorem dX2_cell_24 : decode cX2_cell 24 = .ok (.if_icmp .lt 5, 3) := by decide +kernel
theorem dX2_cell_27 : decode cX2_cell 27 = .ok (.lconst 0, 1) := by decide +kernel
theorem dX2_cell_28 : decode cX2_cell 28 = .ok (.lreturn, 1) := by decide +kernel
theorem dX2_cell_29 : decode cX2_cell 29 = .ok (.aload_n 0, 1) := by decide +kernel
theorem dX2_cell_30 : decode cX2_cell 30 = .ok (.getfield 9, 3) := by decide +kernel
theorem dX2_cell_33 : decode cX2_cell 33 = .ok (.iload_n 1, 1) := by decide +kernel
theorem dX2_cell_34 : decode cX2_cell 34 = .ok (.iconst 5, 1) := by decide +kernel
theorem dX2_cell_35 : decode cX2_cell 35 = .ok (.imul, 1) := by decide +kernel
theorem dX2_cell_36 : decode cX2_cell 36 = .ok (.iload_n 2, 1) := by decide +kernel
theorem dX2_cell_37 : decode cX2_cell 37 = .ok (.iadd, 1) := by decide +kernel
theorem dX2_cell_38 : decode cX2_cell 38 = .ok (.laload, 1) := by decide +kernel
theorem dX2_cell_39 : decode cX2_cell 39 = .ok (.lreturn, 1) := by decide +kernel
theorem dX2_isFull_0 : decode cX2_isFull 0 = .ok (.aload_n 0, 1) := by decide +kernel
theorem dX2_isFull_1 : decode cX2_isFull 1 = .ok (.getfield 15, 3) := by decide +kernel
theorem dX2_isFull_4 : decode cX2_isFull 4 = .ok (.bipush 10, 2) := by decide +kernel
theorem dX2_isFull_6 : decode cX2_isFull 6 = .ok (.if_icmp .lt 7, 3) := by decide +kernel
theorem dX2_isFull_9 : decode cX2_isFull 9 = .ok (.iconst 1, 1) := by decide +kernel
theorem dX2_isFull_10 : decode cX2_isFull 10 = .ok (.goto 4, 3) := by decide +kernel
theorem dX2_isFull_13 : decode cX2_isFull 13 = .ok (.iconst 0, 1) := by decide +kernel
theorem dX2_isFull_14 : decode cX2_isFull 14 = .ok (.ireturn, 1) := by decide +kernel
set_option maxRecDepth 20000 in
theorem ggX2_canFollow_X2_lastDraft : GoodIn wsX2_canFollow wsX2_lastDraft := goodIn_r _ [6, 1, 7, 8, 9, 5, 10, 11, 12, 13] (by decide +kernel) (by decide +kernel)
set_option maxRecDepth 20000 in
theorem gX2_canFollow_X2_lastDraft : GoodIn wsX2_canFollow (wsV RX2 19 RX2 yX2_lastDraft wsX2_lastDraft) := goodIn_app (goodIn_of _ (by decide +kernel)) ggX2_canFollow_X2_lastDraft
set_option maxRecDepth 20000 in
theorem ggX2_canFollow_X2_cell : GoodIn wsX2_canFollow wsX2_cell := goodIn_r _ [10, 1, 11, 12, 13] (by decide +kernel) (by decide +kernel)
set_option maxRecDepth 20000 in
theorem gX2_canFollow_X2_cell : GoodIn wsX2_canFollow (wsV RX2 23 RX2 yX2_cell wsX2_cell) := goodIn_app (goodIn_of _ (by decide +kernel)) ggX2_canFollow_X2_cell
theorem dX2_canFollow_0 : decode cX2_canFollow 0 = .ok (.aload_n 0, 1) := by decide +kernel
theorem dX2_canFollow_1 : decode cX2_canFollow 1 = .ok (.getfield 15, 3) := by decide +kernel
theorem dX2_canFollow_4 : decode cX2_canFollow 4 = .ok (.ifCond .eq 28, 3) := by decide +kernel
theorem dX2_canFollow_7 : decode cX2_canFollow 7 = .ok (.lload_n 1, 1) := by decide +kernel
theorem dX2_canFollow_8 : decode cX2_canFollow 8 = .ok (.aload_n 0, 1) := by decide +kernel
theorem dX2_canFollow_9 : decode cX2_canFollow 9 = .ok (.invokevirtual 19, 3) := by decide +kernel
theorem dX2_canFollow_12 : decode cX2_canFollow 12 = .ok (.lcmp, 1) := by decide +kernel
theorem dX2_canFollow_13 : decode cX2_canFollow 13 = .ok (.ifCond .le 23, 3) := by decide +kernel
theorem dX2_canFollow_16 : decode cX2_canFollow 16 = .ok (.lload_n 3, 1) := by decide +kernel
theorem dX2_canFollow_17 : decode cX2_canFollow 17 = .ok (.aload_n 0, 1) := by decide +kernel
theorem dX2_canFollow_18 : decode cX2_canFollow 18 = .ok (.aload_n 0, 1) := by decide +kernel
theorem dX2_canFollow_19 : decode cX2_canFollow 19 = .ok (.getfield 15, 3) := by decide +kernel
theorem dX2_canFollow_22 : decode cX2_canFollow 22 = .ok (.iconst 1, 1) := by decide +kernel
theorem dX2_canFollow_23 : decode cX2_canFollow 23 = .ok (.isub, 1) := by decide +kernel
theorem dX2_canFollow_24 : decode cX2_canFollow 24 = .ok (.iconst 1, 1) := by decide +kernel
theorem dX2_canFollow_25 : decode cX2_canFollow 25 = .ok (.invokevirtual 23, 3) := by decide +kernel
theorem dX2_canFollow_28 : decode cX2_canFollow 28 = .ok (.lcmp, 1) := by decide +kernel
theorem dX2_canFollow_29 : decode cX2_canFollow 29 = .ok (.ifCond .lt 7, 3) := by decide +kernel
theorem dX2_canFollow_32 : decode cX2_canFollow 32 = .ok (.iconst 1, 1) := by decide +kernel
theorem dX2_canFollow_33 : decode cX2_canFollow 33 = .ok (.goto 4, 3) := by decide +kernel
theorem dX2_canFollow_36 : decode cX2_canFollow 36 = .ok (.iconst 0, 1) := by decide +kernel
theorem dX2_canFollow_37 : decode cX2_canFollow 37 = .ok (.ireturn, 1) := by decide +kernel
set_option maxRecDepth 20000 in
theorem ggX2_add_X0_numberAt : GoodIn wsX2_add wsX0_numberAt := goodIn_r _ [7, 8, 11, 12, 13, 14, 15] (by decide +kernel) (by decide +kernel)
set_option maxRecDepth 20000 in
theorem gX2_add_X0_numberAt : GoodIn wsX2_add (wsV RX2 27 RX0 yX0_numberAt wsX0_numberAt) := goodIn_app (goodIn_of _ (by decide +kernel)) ggX2_add_X0_numberAt
theorem dX2_add_0 : decode cX2_add 0 = .ok (.aload_n 1, 1) := by decide +kernel
theorem dX2_add_1 : decode cX2_add 1 = .ok (.ifnull 19, 3) := by decide +kernel
theorem dX2_add_4 : decode cX2_add 4 = .ok (.aload_n 0, 1) := by decide +kernel
theorem dX2_add_5 : decode cX2_add 5 = .ok (.getfield 15, 3) := by decide +kernel
theorem dX2_add_8 : decode cX2_add 8 = .ok (.ifCond .lt 12, 3) := by decide +kernel
theorem dX2_add_11 : decode cX2_add 11 = .ok (.aload_n 0, 1) := by decide +kernel
theorem dX2_add_12 : decode cX2_add 12 = .ok (.getfield 15, 3) := by decide +kernel
theorem dX2_add_15 : decode cX2_add 15 = .ok (.bipush 10, 2) := by decide +kernel
theorem dX2_add_17 : decode cX2_add 17 = .ok (.if_icmp .lt 4, 3) := by decide +kernel
theorem dX2_add_20 : decode cX2_add 20 = .ok (.return_, 1) := by decide +kernel
theorem dX2_add_21 : decode cX2_add 21 = .ok (.iconst 0, 1) := by decide +kernel
theorem dX2_add_22 : decode cX2_add 22 = .ok (.istore_n 2, 1) := by decide +kernel
theorem dX2_add_23 : decode cX2_add 23 = .ok (.iload_n 2, 1) := by decide +kernel
theorem dX2_add_24 : decode cX2_add 24 = .ok (.iconst 5, 1) := by decide +kernel
theorem dX2_add_25 : decode cX2_add 25 = .ok (.if_icmp .ge 27, 3) := by decide +kernel
theorem dX2_add_28 : decode cX2_add 28 = .ok (.aload_n 0, 1) := by decide +kernel
theorem dX2_add_29 : decode cX2_add 29 = .ok (.getfield 9, 3) := by decide +kernel
theorem dX2_add_32 : decode cX2_add 32 = .ok (.aload_n 0, 1) := by decide +kernel
theorem dX2_add_33 : decode cX2_add 33 = .ok (.getfield 15, 3) := by decide +kernel
theorem dX2_add_36 : decode cX2_add 36 = .ok (.iconst 5, 1) := by decide +kernel
theorem dX2_add_37 : decode cX2_add 37 = .ok (.imul, 1) := by decide +kernel
theorem dX2_add_38 : decode cX2_add 38 = .ok (.iload_n 2, 1) := by decide +kernel
theorem dX2_add_39 : decode cX2_add 39 = .ok (.iadd, 1) := by decide +kernel
theorem dX2_add_40 : decode cX2_add 40 = .ok (.aload_n 1, 1) := by decide +kernel
theorem dX2_add_41 : decode cX2_add 41 = .ok (.iload_n 2, 1) := by decide +kernel
theorem dX2_add_42 : decode cX2_add 42 = .ok (.invokevirtual 27, 3) := by decide +kernel
theorem dX2_add_45 : decode cX2_add 45 = .ok (.lastore, 1) := by decide +kernel
theorem dX2_add_46 : decode cX2_add 46 = .ok (.iinc 2 1, 3) := by decide +kernel
theorem dX2_add_49 : decode cX2_add 49 = .ok (.goto (-26), 3) := by decide +kernel
theorem dX2_add_52 : decode cX2_add 52 = .ok (.aload_n 0, 1) := by decide +kernel
theorem dX2_add_53 : decode cX2_add 53 = .ok (.dup, 1) := by decide +kernel
theorem dX2_add_54 : decode cX2_add 54 = .ok (.getfield 15, 3) := by decide +kernel
theorem dX2_add_57 : decode cX2_add 57 = .ok (.iconst 1, 1) := by decide +kernel
theorem dX2_add_58 : decode cX2_add 58 = .ok (.iadd, 1) := by decide +kernel
theorem dX2_add_59 : decode cX2_add 59 = .ok (.putfield 15, 3) := by decide +kernel
theorem dX2_add_62 : decode cX2_add 62 = .ok (.return_, 1) := by decide +kernel
set_option maxRecDepth 20000 in
theorem ggX2_firstDraft_X2_cell : GoodIn wsX2_firstDraft wsX2_cell := goodIn_r _ [5, 6, 7, 8, 9] (by decide +kernel) (by decide +kernel)
set_option maxRecDepth 20000 in
theorem gX2_firstDraft_X2_cell : GoodIn wsX2_firstDraft (wsV RX2 23 RX2 yX2_cell wsX2_cell) := goodIn_app (goodIn_of _ (by decide +kernel)) ggX2_firstDraft_X2_cell
theorem dX2_firstDraft_0 : decode cX2_firstDraft 0 = .ok (.aload_n 0, 1) := by decide +kernel
theorem dX2_firstDraft_1 : decode cX2_firstDraft 1 = .ok (.iconst 0, 1) := by decide +kernel
theorem dX2_firstDraft_2 : decode cX2_firstDraft 2 = .ok (.iconst 0, 1) := by decide +kernel
theorem dX2_firstDraft_3 : decode cX2_firstDraft 3 = .ok (.invokevirtual 23, 3) := by decide +kernel
theorem dX2_firstDraft_6 : decode cX2_firstDraft 6 = .ok (.lreturn, 1) := by decide +kernel
set_option maxRecDepth 20000 in
theorem ggX2_lastDraft_X2_cell : GoodIn wsX2_lastDraft wsX2_cell := goodIn_r _ [6, 1, 7, 8, 9] (by decide +kernel) (by decide +kernel)
set_option maxRecDepth 20000 in
theorem gX2_lastDraft_X2_cell : GoodIn wsX2_lastDraft (wsV RX2 23 RX2 yX2_cell wsX2_cell) := goodIn_app (goodIn_of _ (by decide +kernel)) ggX2_lastDraft_X2_cell
theorem dX2_lastDraft_0 : decode cX2_lastDraft 0 = .ok (.aload_n 0, 1) := by decide +kernel
theorem dX2_lastDraft_1 : decode cX2_lastDraft 1 = .ok (.aload_n 0, 1) := by decide +kernel
theorem dX2_lastDraft_2 : decode cX2_lastDraft 2 = .ok (.getfield 15, 3) := by decide +kernel
theorem dX2_lastDraft_5 : decode cX2_lastDraft 5 = .ok (.iconst 1, 1) := by decide +kernel
theorem dX2_lastDraft_6 : decode cX2_lastDraft 6 = .ok (.isub, 1) := by decide +kernel
theorem dX2_lastDraft_7 : decode cX2_lastDraft 7 = .ok (.iconst 0, 1) := by decide +kernel
theorem dX2_lastDraft_8 : decode cX2_lastDraft 8 = .ok (.invokevirtual 23, 3) := by decide +kernel
theorem dX2_lastDraft_11 : decode cX2_lastDraft 11 = .ok (.lreturn, 1) := by decide +kernel
set_option maxRecDepth 20000 in
theorem ggX2_covers_X2_firstDraft : GoodIn wsX2_covers wsX2_firstDraft := goodIn_r _ [6, 7, 8, 9, 5, 10, 1, 11, 16, 17] (by decide +kernel) (by decide +kernel)
set_option maxRecDepth 20000 in
theorem gX2_covers_X2_firstDraft : GoodIn wsX2_covers (wsV RX2 33 RX2 yX2_firstDraft wsX2_firstDraft) := goodIn_app (goodIn_of _ (by decide +kernel)) ggX2_covers_X2_firstDraft
set_option maxRecDepth 20000 in
theorem ggX2_covers_X2_lastDraft : GoodIn wsX2_covers wsX2_lastDraft := goodIn_r _ [15, 1, 7, 8, 9, 5, 10, 11, 16, 17] (by decide +kernel) (by decide +kernel)
set_option maxRecDepth 20000 in
theorem gX2_covers_X2_lastDraft : GoodIn wsX2_covers (wsV RX2 19 RX2 yX2_lastDraft wsX2_lastDraft) := goodIn_app (goodIn_of _ (by decide +kernel)) ggX2_covers_X2_lastDraft
theorem dX2_covers_0 : decode cX2_covers 0 = .ok (.aload_n 0, 1) := by decide +kernel
theorem dX2_covers_1 : decode cX2_covers 1 = .ok (.getfield 15, 3) := by decide +kernel
theorem dX2_covers_4 : decode cX2_covers 4 = .ok (.ifCond .le 25, 3) := by decide +kernel
theorem dX2_covers_7 : decode cX2_covers 7 = .ok (.lload_n 1, 1) := by decide +kernel
theorem dX2_covers_8 : decode cX2_covers 8 = .ok (.aload_n 0, 1) := by decide +kernel
theorem dX2_covers_9 : decode cX2_covers 9 = .ok (.invokevirtual 33, 3) := by decide +kernel
theorem dX2_covers_12 : decode cX2_covers 12 = .ok (.lcmp, 1) := by decide +kernel
theorem dX2_covers_13 : decode cX2_covers 13 = .ok (.ifCond .lt 16, 3) := by decide +kernel
theorem dX2_covers_16 : decode cX2_covers 16 = .ok (.lload_n 1, 1) := by decide +kernel
theorem dX2_covers_17 : decode cX2_covers 17 = .ok (.aload_n 0, 1) := by decide +kernel
theorem dX2_covers_18 : decode cX2_covers 18 = .ok (.invokevirtual 19, 3) := by decide +kernel
theorem dX2_covers_21 : decode cX2_covers 21 = .ok (.lcmp, 1) := by decide +kernel
theorem dX2_covers_22 : decode cX2_covers 22 = .ok (.ifCond .gt 7, 3) := by decide +kernel
theorem dX2_covers_25 : decode cX2_covers 25 = .ok (.iconst 1, 1) := by decide +kernel
theorem dX2_covers_26 : decode cX2_covers 26 = .ok (.goto 4, 3) := by decide +kernel
theorem dX2_covers_29 : decode cX2_covers 29 = .ok (.iconst 0, 1) := by decide +kernel
theorem dX2_covers_30 : decode cX2_covers 30 = .ok (.ireturn, 1) := by decide +kernel
set_option maxRecDepth 20000 in
theorem ggX2_valueAt_X2_cell : GoodIn wsX2_valueAt wsX2_cell := goodIn_r _ [7, 1, 8, 13, 14] (by decide +kernel) (by decide +kernel)
set_option maxRecDepth 20000 in
theorem gX2_valueAt_X2_cell : GoodIn wsX2_valueAt (wsV RX2 23 RX2 yX2_cell wsX2_cell) := goodIn_app (goodIn_of _ (by decide +kernel)) ggX2_valueAt_X2_cell
set_option maxRecDepth 20000 in
theorem ggX2_valueAt_J9_floorDiv_f86c9 : GoodIn wsX2_valueAt wsJ9_floorDiv_f86c9 := goodIn_r _ [12] (by decide +kernel) (by decide +kernel)
set_option maxRecDepth 20000 in
theorem gX2_valueAt_J9_floorDiv_f86c9 : GoodIn wsX2_valueAt (va_wsS RX2 38 yJ9_floorDiv_f86c9 wsJ9_floorDiv_f86c9) := goodIn_app (goodIn_of _ (by decide +kernel)) ggX2_valueAt_J9_floorDiv_f86c9
theorem dX2_valueAt_0 : decode cX2_valueAt 0 = .ok (.iconst 0, 1) := by decide +kernel
theorem dX2_valueAt_1 : decode cX2_valueAt 1 = .ok (.istore 4, 2) := by decide +kernel
theorem dX2_valueAt_3 : decode cX2_valueAt 3 = .ok (.iload 4, 2) := by decide +kernel
theorem dX2_valueAt_5 : decode cX2_valueAt 5 = .ok (.aload_n 0, 1) := by decide +kernel
theorem dX2_valueAt_6 : decode cX2_valueAt 6 = .ok (.getfield 15, 3) := by decide +kernel
theorem dX2_valueAt_9 : decode cX2_valueAt 9 = .ok (.if_icmp .ge 21, 3) := by decide +kernel
theorem dX2_valueAt_12 : decode cX2_valueAt 12 = .ok (.aload_n 0, 1) := by decide +kernel
theorem dX2_valueAt_13 : decode cX2_valueAt 13 = .ok (.iload 4, 2) := by decide +kernel
theorem dX2_valueAt_15 : decode cX2_valueAt 15 = .ok (.iconst 0, 1) := by decide +kernel
theorem dX2_valueAt_16 : decode cX2_valueAt 16 = .ok (.invokevirtual 23, 3) := by decide +kernel
theorem dX2_valueAt_19 : decode cX2_valueAt 19 = .ok (.lload_n 2, 1) := by decide +kernel
theorem dX2_valueAt_20 : decode cX2_valueAt 20 = .ok (.lcmp, 1) := by decide +kernel
theorem dX2_valueAt_21 : decode cX2_valueAt 21 = .ok (.ifCond .ge 9, 3) := by decide +kernel
theorem dX2_valueAt_24 : decode cX2_valueAt 24 = .ok (.iinc 4 1, 3) := by decide +kernel
theorem dX2_valueAt_27 : decode cX2_valueAt 27 = .ok (.goto (-24), 3) := by decide +kernel
theorem dX2_valueAt_30 : decode cX2_valueAt 30 = .ok (.iload 4, 2) := by decide +kernel
theorem dX2_valueAt_32 : decode cX2_valueAt 32 = .ok (.aload_n 0, 1) := by decide +kernel
theorem dX2_valueAt_33 : decode cX2_valueAt 33 = .ok (.getfield 15, 3) := by decide +kernel
theorem dX2_valueAt_36 : decode cX2_valueAt 36 = .ok (.if_icmp .lt 7, 3) := by decide +kernel
theorem dX2_valueAt_39 : decode cX2_valueAt 39 = .ok (.ldc2_w 36, 3) := by decide +kernel
theorem dX2_valueAt_42 : decode cX2_valueAt 42 = .ok (.lreturn, 1) := by decide +kernel
theorem dX2_valueAt_43 : decode cX2_valueAt 43 = .ok (.aload_n 0, 1) := by decide +kernel
theorem dX2_valueAt_44 : decode cX2_valueAt 44 = .ok (.iload 4, 2) := by decide +kernel
theorem dX2_valueAt_46 : decode cX2_valueAt 46 = .ok (.iconst 0, 1) := by decide +kernel
theorem dX2_valueAt_47 : decode cX2_valueAt 47 = .ok (.invokevirtual 23, 3) := by decide +kernel
theorem dX2_valueAt_50 : decode cX2_valueAt 50 = .ok (.lstore 5, 2) := by decide +kernel
theorem dX2_valueAt_52 : decode cX2_valueAt 52 = .ok (.aload_n 0, 1) := by decide +kernel
theorem dX2_valueAt_53 : decode cX2_valueAt 53 = .ok (.iload 4, 2) := by decide +kernel
theorem dX2_valueAt_55 : decode cX2_valueAt 55 = .ok (.iload_n 1, 1) := by decide +kernel
theorem dX2_valueAt_56 : decode cX2_valueAt 56 = .ok (.invokevirtual 23, 3) := by decide +kernel
theorem dX2_valueAt_59 : decode cX2_valueAt 59 = .ok (.lstore 7, 2) := by decide +kernel
theorem dX2_valueAt_61 : decode cX2_valueAt 61 = .ok (.lload 5, 2) := by decide +kernel
theorem dX2_valueAt_63 : decode cX2_valueAt 63 = .ok (.lload_n 2, 1) := by decide +kernel
theorem dX2_valueAt_64 : decode cX2_valueAt 64 = .ok (.lcmp, 1) := by decide +kernel
theorem dX2_valueAt_65 : decode cX2_valueAt 65 = .ok (.ifCond .ne 6, 3) := by decide +kernel
theorem dX2_valueAt_68 : decode cX2_valueAt 68 = .ok (.lload 7, 2) := by decide +kernel
theorem dX2_valueAt_70 : decode cX2_valueAt 70 = .ok (.lreturn, 1) := by decide +kernel
theorem dX2_valueAt_71 : decode cX2_valueAt 71 = .ok (.iload 4, 2) := by decide +kernel
theorem dX2_valueAt_73 : decode cX2_valueAt 73 = .ok (.ifCond .ne 7, 3) := by decide +kernel
theorem dX2_valueAt_76 : decode cX2_valueAt 76 = .ok (.ldc2_w 36, 3) := by decide +kernel
theorem dX2_valueAt_79 : decode cX2_valueAt 79 = .ok (.lreturn, 1) := by decide +kernel
theorem dX2_valueAt_80 : decode cX2_valueAt 80 = .ok (.aload_n 0, 1) := by decide +kernel
theorem dX2_valueAt_81 : decode cX2_valueAt 81 = .ok (.iload 4, 2) := by decide +kernel
theorem dX2_valueAt_83 : decode cX2_valueAt 83 = .ok (.iconst 1, 1) := by decide +kernel
theorem dX2_valueAt_84 : decode cX2_valueAt 84 = .ok (.isub, 1) := by decide +kernel
theorem dX2_valueAt_85 : decode cX2_valueAt 85 = .ok (.iconst 0, 1) := by decide +kernel
theorem dX2_valueAt_86 : decode cX2_valueAt 86 = .ok (.invokevirtual 23, 3) := by decide +kernel
theorem dX2_valueAt_89 : decode cX2_valueAt 89 = .ok (.lstore 9, 2) := by decide +kernel
theorem dX2_valueAt_91 : decode cX2_valueAt 91 = .ok (.aload_n 0, 1) := by decide +kernel
theorem dX2_valueAt_92 : decode cX2_valueAt 92 = .ok (.iload 4, 2) := by decide +kernel
theorem dX2_valueAt_94 : decode cX2_valueAt 94 = .ok (.iconst 1, 1) := by decide +kernel
theorem dX2_valueAt_95 : decode cX2_valueAt 95 = .ok (.isub, 1) := by decide +kernel
theorem dX2_valueAt_96 : decode cX2_valueAt 96 = .ok (.iload_n 1, 1) := by decide +kernel
theorem dX2_valueAt_97 : decode cX2_valueAt 97 = .ok (.invokevirtual 23, 3) := by decide +kernel
theorem dX2_valueAt_100 : decode cX2_valueAt 100 = .ok (.lstore 11, 2) := by decide +kernel
theorem dX2_valueAt_102 : decode cX2_valueAt 102 = .ok (.lload 7, 2) := by decide +kernel
theorem dX2_valueAt_104 : decode cX2_valueAt 104 = .ok (.lload 11, 2) := by decide +kernel
theorem dX2_valueAt_106 : decode cX2_valueAt 106 = .ok (.lsub, 1) := by decide +kernel
theorem dX2_valueAt_107 : decode cX2_valueAt 107 = .ok (.lload_n 2, 1) := by decide +kernel
theorem dX2_valueAt_108 : decode cX2_valueAt 108 = .ok (.lload 9, 2) := by decide +kernel
theorem dX2_valueAt_110 : decode cX2_valueAt 110 = .ok (.lsub, 1) := by decide +kernel
theorem dX2_valueAt_111 : decode cX2_valueAt 111 = .ok (.lmul, 1) := by decide +kernel
theorem dX2_valueAt_112 : decode cX2_valueAt 112 = .ok (.lstore 13, 2) := by decide +kernel
theorem dX2_valueAt_114 : decode cX2_valueAt 114 = .ok (.lload 5, 2) := by decide +kernel
theorem dX2_valueAt_116 : decode cX2_valueAt 116 = .ok (.lload 9, 2) := by decide +kernel
theorem dX2_valueAt_118 : decode cX2_valueAt 118 = .ok (.lsub, 1) := by decide +kernel
theorem dX2_valueAt_119 : decode cX2_valueAt 119 = .ok (.lstore 15, 2) := by decide +kernel
theorem dX2_valueAt_121 : decode cX2_valueAt 121 = .ok (.lload 15, 2) := by decide +kernel
theorem dX2_valueAt_123 : decode cX2_valueAt 123 = .ok (.lconst 0, 1) := by decide +kernel
theorem dX2_valueAt_124 : decode cX2_valueAt 124 = .ok (.lcmp, 1) := by decide +kernel
theorem dX2_valueAt_125 : decode cX2_valueAt 125 = .ok (.ifCond .ne 8, 3) := by decide +kernel
theorem dX2_valueAt_128 : decode cX2_valueAt 128 = .ok (.lload 11, 2) := by decide +kernel
theorem dX2_valueAt_130 : decode cX2_valueAt 130 = .ok (.goto 13, 3) := by decide +kernel
theorem dX2_valueAt_133 : decode cX2_valueAt 133 = .ok (.lload 11, 2) := by decide +kernel
theorem dX2_valueAt_135 : decode cX2_valueAt 135 = .ok (.lload 13, 2) := by decide +kernel
theorem dX2_valueAt_137 : decode cX2_valueAt 137 = .ok (.lload 15, 2) := by decide +kernel
theorem dX2_valueAt_139 : decode cX2_valueAt 139 = .ok (.invokestatic 38, 3) := by decide +kernel
theorem dX2_valueAt_142 : decode cX2_valueAt 142 = .ok (.ladd, 1) := by decide +kernel
theorem dX2_valueAt_143 : decode cX2_valueAt 143 = .ok (.lreturn, 1) := by decide +kernel
set_option maxRecDepth 20000 in
theorem ggX2_leastDraftFor_X2_cell : GoodIn wsX2_leastDraftFor wsX2_cell := goodIn_r _ [7, 1, 8, 20, 21] (by decide +kernel) (by decide +kernel)
set_option maxRecDepth 20000 in
theorem gX2_leastDraftFor_X2_cell : GoodIn wsX2_leastDraftFor (wsV RX2 23 RX2 yX2_cell wsX2_cell) := goodIn_app (goodIn_of _ (by decide +kernel)) ggX2_leastDraftFor_X2_cell
set_option maxRecDepth 20000 in
theorem ggX2_leastDraftFor_X2_firstDraft : GoodIn wsX2_leastDraftFor wsX2_firstDraft := goodIn_r _ [12, 3, 4, 5, 6, 7, 1, 8, 20, 21] (by decide +kernel) (by decide +kernel)
set_option maxRecDepth 20000 in
theorem gX2_leastDraftFor_X2_firstDraft : GoodIn wsX2_leastDraftFor (wsV RX2 33 RX2 yX2_firstDraft wsX2_firstDraft) := goodIn_app (goodIn_of _ (by decide +kernel)) ggX2_leastDraftFor_X2_firstDraft
set_option maxRecDepth 20000 in
theorem ggX2_leastDraftFor_X3_quotient : GoodIn wsX2_leastDraftFor wsX3_quotient := goodIn_r _ [15, 16, 17, 18, 19] (by decide +kernel) (by decide +kernel)
set_option maxRecDepth 20000 in
theorem gX2_leastDraftFor_X3_quotient_n44 : GoodIn wsX2_leastDraftFor (wsX3_quotient) := ggX2_leastDraftFor_X3_quotient
theorem dX2_leastDraftFor_0 : decode cX2_leastDraftFor 0 = .ok (.iconst 0, 1) := by decide +kernel
theorem dX2_leastDraftFor_1 : decode cX2_leastDraftFor 1 = .ok (.istore_n 3, 1) := by decide +kernel
theorem dX2_leastDraftFor_2 : decode cX2_leastDraftFor 2 = .ok (.iload_n 3, 1) := by decide +kernel
theorem dX2_leastDraftFor_3 : decode cX2_leastDraftFor 3 = .ok (.aload_n 0, 1) := by decide +kernel
theorem dX2_leastDraftFor_4 : decode cX2_leastDraftFor 4 = .ok (.getfield 15, 3) := by decide +kernel
theorem dX2_leastDraftFor_7 : decode cX2_leastDraftFor 7 = .ok (.if_icmp .ge 20, 3) := by decide +kernel
theorem dX2_leastDraftFor_10 : decode cX2_leastDraftFor 10 = .ok (.aload_n 0, 1) := by decide +kernel
theorem dX2_leastDraftFor_11 : decode cX2_leastDraftFor 11 = .ok (.iload_n 3, 1) := by decide +kernel
theorem dX2_leastDraftFor_12 : decode cX2_leastDraftFor 12 = .ok (.iconst 1, 1) := by decide +kernel
theorem dX2_leastDraftFor_13 : decode cX2_leastDraftFor 13 = .ok (.invokevirtual 23, 3) := by decide +kernel
theorem dX2_leastDraftFor_16 : decode cX2_leastDraftFor 16 = .ok (.lload_n 1, 1) := by decide +kernel
theorem dX2_leastDraftFor_17 : decode cX2_leastDraftFor 17 = .ok (.lcmp, 1) := by decide +kernel
theorem dX2_leastDraftFor_18 : decode cX2_leastDraftFor 18 = .ok (.ifCond .ge 9, 3) := by decide +kernel
theorem dX2_leastDraftFor_21 : decode cX2_leastDraftFor 21 = .ok (.iinc 3 1, 3) := by decide +kernel
theorem dX2_leastDraftFor_24 : decode cX2_leastDraftFor 24 = .ok (.goto (-22), 3) := by decide +kernel
theorem dX2_leastDraftFor_27 : decode cX2_leastDraftFor 27 = .ok (.iload_n 3, 1) := by decide +kernel
theorem dX2_leastDraftFor_28 : decode cX2_leastDraftFor 28 = .ok (.aload_n 0, 1) := by decide +kernel
theorem dX2_leastDraftFor_29 : decode cX2_leastDraftFor 29 = .ok (.getfield 15, 3) := by decide +kernel
theorem dX2_leastDraftFor_32 : decode cX2_leastDraftFor 32 = .ok (.if_icmp .lt 7, 3) := by decide +kernel
theorem dX2_leastDraftFor_35 : decode cX2_leastDraftFor 35 = .ok (.ldc2_w 36, 3) := by decide +kernel
theorem dX2_leastDraftFor_38 : decode cX2_leastDraftFor 38 = .ok (.lreturn, 1) := by decide +kernel
theorem dX2_leastDraftFor_39 : decode cX2_leastDraftFor 39 = .ok (.iload_n 3, 1) := by decide +kernel
theorem dX2_leastDraftFor_40 : decode cX2_leastDraftFor 40 = .ok (.ifCond .ne 8, 3) := by decide +kernel
theorem dX2_leastDraftFor_43 : decode cX2_leastDraftFor 43 = .ok (.aload_n 0, 1) := by decide +kernel
theorem dX2_leastDraftFor_44 : decode cX2_leastDraftFor 44 = .ok (.invokevirtual 33, 3) := by decide +kernel
theorem dX2_leastDraftFor_47 : decode cX2_leastDraftFor 47 = .ok (.lreturn, 1) := by decide +kernel
theorem dX2_leastDraftFor_48 : decode cX2_leastDraftFor 48 = .ok (.aload_n 0, 1) := by decide +kernel
theorem dX2_leastDraftFor_49 : decode cX2_leastDraftFor 49 = .ok (.iload_n 3, 1) := by decide +kernel
theorem dX2_leastDraftFor_50 : decode cX2_leastDraftFor 50 = .ok (.iconst 1, 1) := by decide +kernel
theorem dX2_leastDraftFor_51 : decode cX2_leastDraftFor 51 = .ok (.isub, 1) := by decide +kernel
theorem dX2_leastDraftFor_52 : decode cX2_leastDraftFor 52 = .ok (.iconst 0, 1) := by decide +kernel
theorem dX2_leastDraftFor_53 : decode cX2_leastDraftFor 53 = .ok (.invokevirtual 23, 3) := by decide +kernel
theorem dX2_leastDraftFor_56 : decode cX2_leastDraftFor 56 = .ok (.lstore 4, 2) := by decide +kernel
theorem dX2_leastDraftFor_58 : decode cX2_leastDraftFor 58 = .ok (.aload_n 0, 1) := by decide +kernel
theorem dX2_leastDraftFor_59 : decode cX2_leastDraftFor 59 = .ok (.iload_n 3, 1) := by decide +kernel
theorem dX2_leastDraftFor_60 : decode cX2_leastDraftFor 60 = .ok (.iconst 1, 1) := by decide +kernel
theorem dX2_leastDraftFor_61 : decode cX2_leastDraftFor 61 = .ok (.isub, 1) := by decide +kernel
theorem dX2_leastDraftFor_62 : decode cX2_leastDraftFor 62 = .ok (.iconst 1, 1) := by decide +kernel
theorem dX2_leastDraftFor_63 : decode cX2_leastDraftFor 63 = .ok (.invokevirtual 23, 3) := by decide +kernel
theorem dX2_leastDraftFor_66 : decode cX2_leastDraftFor 66 = .ok (.lstore 6, 2) := by decide +kernel
theorem dX2_leastDraftFor_68 : decode cX2_leastDraftFor 68 = .ok (.aload_n 0, 1) := by decide +kernel
theorem dX2_leastDraftFor_69 : decode cX2_leastDraftFor 69 = .ok (.iload_n 3, 1) := by decide +kernel
theorem dX2_leastDraftFor_70 : decode cX2_leastDraftFor 70 = .ok (.iconst 0, 1) := by decide +kernel
theorem dX2_leastDraftFor_71 : decode cX2_leastDraftFor 71 = .ok (.invokevirtual 23, 3) := by decide +kernel
theorem dX2_leastDraftFor_74 : decode cX2_leastDraftFor 74 = .ok (.lload 4, 2) := by decide +kernel
theorem dX2_leastDraftFor_76 : decode cX2_leastDraftFor 76 = .ok (.lsub, 1) := by decide +kernel
theorem dX2_leastDraftFor_77 : decode cX2_leastDraftFor 77 = .ok (.lstore 8, 2) := by decide +kernel
theorem dX2_leastDraftFor_79 : decode cX2_leastDraftFor 79 = .ok (.aload_n 0, 1) := by decide +kernel
end
section
theorem dX2_leastDraftFor_80 : decode cX2_leastDraftFor 80 = .ok (.iload_n 3, 1) := by decide +kernel
theorem dX2_leastDraftFor_81 : decode cX2_leastDraftFor 81 = .ok (.iconst 1, 1) := by decide +kernel
theorem dX2_leastDraftFor_82 : decode cX2_leastDraftFor 82 = .ok (.invokevirtual 23, 3) := by decide +kernel
theorem dX2_leastDraftFor_85 : decode cX2_leastDraftFor 85 = .ok (.lload 6, 2) := by decide +kernel
theorem dX2_leastDraftFor_87 : decode cX2_leastDraftFor 87 = .ok (.lsub, 1) := by decide +kernel
theorem dX2_leastDraftFor_88 : decode cX2_leastDraftFor 88 = .ok (.lstore 10, 2) := by decide +kernel
theorem dX2_leastDraftFor_90 : decode cX2_leastDraftFor 90 = .ok (.lload_n 1, 1) := by decide +kernel
theorem dX2_leastDraftFor_91 : decode cX2_leastDraftFor 91 = .ok (.lload 6, 2) := by decide +kernel
theorem dX2_leastDraftFor_93 : decode cX2_leastDraftFor 93 = .ok (.lsub, 1) := by decide +kernel
theorem dX2_leastDraftFor_94 : decode cX2_leastDraftFor 94 = .ok (.lstore 12, 2) := by decide +kernel
theorem dX2_leastDraftFor_96 : decode cX2_leastDraftFor 96 = .ok (.lload 4, 2) := by decide +kernel
theorem dX2_leastDraftFor_98 : decode cX2_leastDraftFor 98 = .ok (.lload 12, 2) := by decide +kernel
theorem dX2_leastDraftFor_100 : decode cX2_leastDraftFor 100 = .ok (.lneg, 1) := by decide +kernel
theorem dX2_leastDraftFor_101 : decode cX2_leastDraftFor 101 = .ok (.lload 8, 2) := by decide +kernel
theorem dX2_leastDraftFor_103 : decode cX2_leastDraftFor 103 = .ok (.lmul, 1) := by decide +kernel
theorem dX2_leastDraftFor_104 : decode cX2_leastDraftFor 104 = .ok (.lload 10, 2) := by decide +kernel
theorem dX2_leastDraftFor_106 : decode cX2_leastDraftFor 106 = .ok (.invokestatic 44, 3) := by decide +kernel
theorem dX2_leastDraftFor_109 : decode cX2_leastDraftFor 109 = .ok (.lsub, 1) := by decide +kernel
theorem dX2_leastDraftFor_110 : decode cX2_leastDraftFor 110 = .ok (.lreturn, 1) := by decide +kernel
set_option maxRecDepth 20000 in
theorem ggX3_init_X0_init : GoodIn wsX3_init wsX0_init := goodIn_r _ [23, 24, 2, 3, 25, 26, 45, 46, 47, 48, 49] (by decide +kernel) (by decide +kernel)
set_option maxRecDepth 20000 in
theorem gX3_init_X0_init_n19 : GoodIn wsX3_init (wsX0_init) := ggX3_init_X0_init
set_option maxRecDepth 20000 in
theorem ggX3_init_X2_init : GoodIn wsX3_init wsX2_init := goodIn_r _ [28, 29, 2, 3, 25, 30, 50, 51] (by decide +kernel) (by decide +kernel)
set_option maxRecDepth 20000 in
theorem gX3_init_X2_init_n26 : GoodIn wsX3_init (wsX2_init) := ggX3_init_X2_init
set_option maxRecDepth 20000 in
theorem ggX3_init_X1_init : GoodIn wsX3_init wsX1_init := goodIn_r _ [32, 33, 2, 3, 25, 34, 35, 36, 37, 52, 53, 54] (by decide +kernel) (by decide +kernel)
set_option maxRecDepth 20000 in
theorem gX3_init_X1_init_n37 : GoodIn wsX3_init (wsX1_init) := ggX3_init_X1_init
theorem dX3_init_0 : decode cX3_init 0 = .ok (.aload_n 0, 1) := by decide +kernel
theorem dX3_init_1 : decode cX3_init 1 = .ok (.invokespecial 1, 3) := by decide +kernel
theorem dX3_init_4 : decode cX3_init 4 = .ok (.aload_n 0, 1) := by decide +kernel
theorem dX3_init_5 : decode cX3_init 5 = .ok (.bipush 40, 2) := by decide +kernel
theorem dX3_init_7 : decode cX3_init 7 = .ok (.newarray .int, 2) := by decide +kernel
theorem dX3_init_9 : decode cX3_init 9 = .ok (.putfield 9, 3) := by decide +kernel
theorem dX3_init_12 : decode cX3_init 12 = .ok (.aload_n 0, 1) := by decide +kernel
theorem dX3_init_13 : decode cX3_init 13 = .ok (.iconst 0, 1) := by decide +kernel
theorem dX3_init_14 : decode cX3_init 14 = .ok (.putfield 13, 3) := by decide +kernel
theorem dX3_init_17 : decode cX3_init 17 = .ok (.aload_n 0, 1) := by decide +kernel
theorem dX3_init_18 : decode cX3_init 18 = .ok (.new 17, 3) := by decide +kernel
theorem dX3_init_21 : decode cX3_init 21 = .ok (.dup, 1) := by decide +kernel
theorem dX3_init_22 : decode cX3_init 22 = .ok (.invokespecial 19, 3) := by decide +kernel
theorem dX3_init_25 : decode cX3_init 25 = .ok (.putfield 20, 3) := by decide +kernel
theorem dX3_init_28 : decode cX3_init 28 = .ok (.aload_n 0, 1) := by decide +kernel
theorem dX3_init_29 : decode cX3_init 29 = .ok (.new 24, 3) := by decide +kernel
theorem dX3_init_32 : decode cX3_init 32 = .ok (.dup, 1) := by decide +kernel
theorem dX3_init_33 : decode cX3_init 33 = .ok (.invokespecial 26, 3) := by decide +kernel
theorem dX3_init_36 : decode cX3_init 36 = .ok (.putfield 27, 3) := by decide +kernel
theorem dX3_init_39 : decode cX3_init 39 = .ok (.aload_n 0, 1) := by decide +kernel
theorem dX3_init_40 : decode cX3_init 40 = .ok (.iconst 4, 1) := by decide +kernel
theorem dX3_init_41 : decode cX3_init 41 = .ok (.anewarray 31, 3) := by decide +kernel
theorem dX3_init_44 : decode cX3_init 44 = .ok (.putfield 33, 3) := by decide +kernel
theorem dX3_init_47 : decode cX3_init 47 = .ok (.iconst 0, 1) := by decide +kernel
theorem dX3_init_48 : decode cX3_init 48 = .ok (.istore_n 1, 1) := by decide +kernel
theorem dX3_init_49 : decode cX3_init 49 = .ok (.iload_n 1, 1) := by decide +kernel
theorem dX3_init_50 : decode cX3_init 50 = .ok (.iconst 4, 1) := by decide +kernel
theorem dX3_init_51 : decode cX3_init 51 = .ok (.if_icmp .ge 22, 3) := by decide +kernel
theorem dX3_init_54 : decode cX3_init 54 = .ok (.aload_n 0, 1) := by decide +kernel
theorem dX3_init_55 : decode cX3_init 55 = .ok (.getfield 33, 3) := by decide +kernel
theorem dX3_init_58 : decode cX3_init 58 = .ok (.iload_n 1, 1) := by decide +kernel
theorem dX3_init_59 : decode cX3_init 59 = .ok (.new 31, 3) := by decide +kernel
theorem dX3_init_62 : decode cX3_init 62 = .ok (.dup, 1) := by decide +kernel
theorem dX3_init_63 : decode cX3_init 63 = .ok (.invokespecial 37, 3) := by decide +kernel
theorem dX3_init_66 : decode cX3_init 66 = .ok (.aastore, 1) := by decide +kernel
theorem dX3_init_67 : decode cX3_init 67 = .ok (.iinc 1 1, 3) := by decide +kernel
theorem dX3_init_70 : decode cX3_init 70 = .ok (.goto (-21), 3) := by decide +kernel
theorem dX3_init_73 : decode cX3_init 73 = .ok (.aload_n 0, 1) := by decide +kernel
theorem dX3_init_74 : decode cX3_init 74 = .ok (.ldc2_w 38, 3) := by decide +kernel
theorem dX3_init_77 : decode cX3_init 77 = .ok (.putfield 40, 3) := by decide +kernel
theorem dX3_init_80 : decode cX3_init 80 = .ok (.aload_n 0, 1) := by decide +kernel
theorem dX3_init_81 : decode cX3_init 81 = .ok (.lconst 0, 1) := by decide +kernel
theorem dX3_init_82 : decode cX3_init 82 = .ok (.putfield 44, 3) := by decide +kernel
theorem dX3_init_85 : decode cX3_init 85 = .ok (.return_, 1) := by decide +kernel
theorem dX3_append_0 : decode cX3_append 0 = .ok (.iload_n 1, 1) := by decide +kernel
theorem dX3_append_1 : decode cX3_append 1 = .ok (.bipush 32, 2) := by decide +kernel
theorem dX3_append_3 : decode cX3_append 3 = .ok (.if_icmp .lt 9, 3) := by decide +kernel
theorem dX3_append_6 : decode cX3_append 6 = .ok (.iload_n 1, 1) := by decide +kernel
theorem dX3_append_7 : decode cX3_append 7 = .ok (.bipush 126, 2) := by decide +kernel
theorem dX3_append_9 : decode cX3_append 9 = .ok (.if_icmp .le 7, 3) := by decide +kernel
theorem dX3_append_12 : decode cX3_append 12 = .ok (.ldc2_w 47, 3) := by decide +kernel
theorem dX3_append_15 : decode cX3_append 15 = .ok (.lreturn, 1) := by decide +kernel
theorem dX3_append_16 : decode cX3_append 16 = .ok (.aload_n 0, 1) := by decide +kernel
theorem dX3_append_17 : decode cX3_append 17 = .ok (.getfield 13, 3) := by decide +kernel
theorem dX3_append_20 : decode cX3_append 20 = .ok (.ifCond .lt 12, 3) := by decide +kernel
theorem dX3_append_23 : decode cX3_append 23 = .ok (.aload_n 0, 1) := by decide +kernel
theorem dX3_append_24 : decode cX3_append 24 = .ok (.getfield 13, 3) := by decide +kernel
theorem dX3_append_27 : decode cX3_append 27 = .ok (.bipush 40, 2) := by decide +kernel
theorem dX3_append_29 : decode cX3_append 29 = .ok (.if_icmp .lt 7, 3) := by decide +kernel
theorem dX3_append_32 : decode cX3_append 32 = .ok (.ldc2_w 49, 3) := by decide +kernel
theorem dX3_append_35 : decode cX3_append 35 = .ok (.lreturn, 1) := by decide +kernel
theorem dX3_append_36 : decode cX3_append 36 = .ok (.aload_n 0, 1) := by decide +kernel
theorem dX3_append_37 : decode cX3_append 37 = .ok (.getfield 9, 3) := by decide +kernel
theorem dX3_append_40 : decode cX3_append 40 = .ok (.aload_n 0, 1) := by decide +kernel
theorem dX3_append_41 : decode cX3_append 41 = .ok (.getfield 13, 3) := by decide +kernel
theorem dX3_append_44 : decode cX3_append 44 = .ok (.iload_n 1, 1) := by decide +kernel
theorem dX3_append_45 : decode cX3_append 45 = .ok (.iastore, 1) := by decide +kernel
theorem dX3_append_46 : decode cX3_append 46 = .ok (.aload_n 0, 1) := by decide +kernel
theorem dX3_append_47 : decode cX3_append 47 = .ok (.dup, 1) := by decide +kernel
theorem dX3_append_48 : decode cX3_append 48 = .ok (.getfield 13, 3) := by decide +kernel
theorem dX3_append_51 : decode cX3_append 51 = .ok (.iconst 1, 1) := by decide +kernel
theorem dX3_append_52 : decode cX3_append 52 = .ok (.iadd, 1) := by decide +kernel
theorem dX3_append_53 : decode cX3_append 53 = .ok (.putfield 13, 3) := by decide +kernel
theorem dX3_append_56 : decode cX3_append 56 = .ok (.aload_n 0, 1) := by decide +kernel
theorem dX3_append_57 : decode cX3_append 57 = .ok (.getfield 13, 3) := by decide +kernel
theorem dX3_append_60 : decode cX3_append 60 = .ok (.i2l, 1) := by decide +kernel
theorem dX3_append_61 : decode cX3_append 61 = .ok (.lreturn, 1) := by decide +kernel
theorem dX3_clearBuffer_0 : decode cX3_clearBuffer 0 = .ok (.aload_n 0, 1) := by decide +kernel
theorem dX3_clearBuffer_1 : decode cX3_clearBuffer 1 = .ok (.getfield 13, 3) := by decide +kernel
theorem dX3_clearBuffer_4 : decode cX3_clearBuffer 4 = .ok (.i2l, 1) := by decide +kernel
theorem dX3_clearBuffer_5 : decode cX3_clearBuffer 5 = .ok (.lstore_n 1, 1) := by decide +kernel
theorem dX3_clearBuffer_6 : decode cX3_clearBuffer 6 = .ok (.aload_n 0, 1) := by decide +kernel
theorem dX3_clearBuffer_7 : decode cX3_clearBuffer 7 = .ok (.iconst 0, 1) := by decide +kernel
theorem dX3_clearBuffer_8 : decode cX3_clearBuffer 8 = .ok (.putfield 13, 3) := by decide +kernel
theorem dX3_clearBuffer_11 : decode cX3_clearBuffer 11 = .ok (.lload_n 1, 1) := by decide +kernel
theorem dX3_clearBuffer_12 : decode cX3_clearBuffer 12 = .ok (.lreturn, 1) := by decide +kernel
set_option maxRecDepth 20000 in
theorem ggX3_errorPosition_X3_readBuffer : GoodIn wsX3_errorPosition wsX3_readBuffer := goodIn_r _ [5, 6, 7, 8, 9, 10, 11, 12, 13, 14, 15, 16, 17, 18, 19, 20, 21, 22, 23, 24, 25, 26, 27, 28, 29, 30, 31, 32, 33, 34, 35, 36, 37, 38, 39, 40, 41, 42, 43, 44, 45, 46, 47, 48, 49, 50, 51] (by decide +kernel) (by decide +kernel)
set_option maxRecDepth 20000 in
theorem gX3_errorPosition_X3_readBuffer : GoodIn wsX3_errorPosition (wsV RX3 51 RX3 yX3_readBuffer wsX3_readBuffer) := goodIn_app (goodIn_of _ (by decide +kernel)) ggX3_errorPosition_X3_readBuffer
theorem dX3_errorPosition_0 : decode cX3_errorPosition 0 = .ok (.aload_n 0, 1) := by decide +kernel
theorem dX3_errorPosition_1 : decode cX3_errorPosition 1 = .ok (.invokevirtual 51, 3) := by decide +kernel
theorem dX3_errorPosition_4 : decode cX3_errorPosition 4 = .ok (.i2l, 1) := by decide +kernel
theorem dX3_errorPosition_5 : decode cX3_errorPosition 5 = .ok (.lreturn, 1) := by decide +kernel
set_option maxRecDepth 20000 in
theorem ggX3_addRow_X3_readBuffer : GoodIn wsX3_addRow wsX3_readBuffer := goodIn_r _ [11, 2, 1, 12, 13, 14, 15, 16, 17, 18, 19, 20, 21, 22, 23, 24, 25, 26, 27, 28, 29, 30, 31, 32, 33, 34, 35, 36, 37, 38, 39, 40, 41, 42, 43, 76, 77, 78, 79, 80, 81, 82, 85, 86, 87, 88, 89] (by decide +kernel) (by decide +kernel)
set_option maxRecDepth 20000 in
theorem gX3_addRow_X3_readBuffer : GoodIn wsX3_addRow (wsV RX3 51 RX3 yX3_readBuffer wsX3_readBuffer) := goodIn_app (goodIn_of _ (by decide +kernel)) ggX3_addRow_X3_readBuffer
set_option maxRecDepth 20000 in
theorem ggX3_addRow_X0_isComplete : GoodIn wsX3_addRow wsX0_isComplete := goodIn_r _ [47, 18, 23, 85, 86, 87, 88, 89] (by decide +kernel) (by decide +kernel)
set_option maxRecDepth 20000 in
theorem gX3_addRow_X0_isComplete : GoodIn wsX3_addRow (wsV RX3 55 RX0 yX0_isComplete wsX0_isComplete) := goodIn_app (goodIn_of _ (by decide +kernel)) ggX3_addRow_X0_isComplete
set_option maxRecDepth 20000 in
theorem ggX3_addRow_X2_isFull : GoodIn wsX3_addRow wsX2_isFull := goodIn_r _ [52, 53, 83, 84] (by decide +kernel) (by decide +kernel)
set_option maxRecDepth 20000 in
theorem gX3_addRow_X2_isFull : GoodIn wsX3_addRow (wsV RX3 61 RX2 yX2_isFull wsX2_isFull) := goodIn_app (goodIn_of _ (by decide +kernel)) ggX3_addRow_X2_isFull
set_option maxRecDepth 20000 in
theorem ggX3_addRow_X0_numberAt : GoodIn wsX3_addRow wsX0_numberAt := goodIn_r _ [57, 43, 85, 86, 87, 88, 89] (by decide +kernel) (by decide +kernel)
set_option maxRecDepth 20000 in
theorem gX3_addRow_X0_numberAt : GoodIn wsX3_addRow (wsV RX3 64 RX0 yX0_numberAt wsX0_numberAt) := goodIn_app (goodIn_of _ (by decide +kernel)) ggX3_addRow_X0_numberAt
set_option maxRecDepth 20000 in
theorem ggX3_addRow_X2_canFollow : GoodIn wsX3_addRow wsX2_canFollow := goodIn_r _ [61, 53, 62, 63, 64, 51, 65, 66, 67, 68, 69, 70, 83, 84] (by decide +kernel) (by decide +kernel)
set_option maxRecDepth 20000 in
theorem gX3_addRow_X2_canFollow : GoodIn wsX3_addRow (wsV RX3 68 RX2 yX2_canFollow wsX2_canFollow) := goodIn_app (goodIn_of _ (by decide +kernel)) ggX3_addRow_X2_canFollow
set_option maxRecDepth 20000 in
theorem ggX3_addRow_X2_add : GoodIn wsX3_addRow wsX2_add := goodIn_r _ [74, 53, 70, 75, 55, 56, 16, 57, 43, 83, 84, 85, 86, 87, 88, 89] (by decide +kernel) (by decide +kernel)
set_option maxRecDepth 20000 in
theorem gX3_addRow_X2_add : GoodIn wsX3_addRow (wsV RX3 74 RX2 yX2_add wsX2_add) := goodIn_app (goodIn_of _ (by decide +kernel)) ggX3_addRow_X2_add
theorem dX3_addRow_0 : decode cX3_addRow 0 = .ok (.aload_n 0, 1) := by decide +kernel
theorem dX3_addRow_1 : decode cX3_addRow 1 = .ok (.invokevirtual 51, 3) := by decide +kernel
theorem dX3_addRow_4 : decode cX3_addRow 4 = .ok (.aload_n 0, 1) := by decide +kernel
theorem dX3_addRow_5 : decode cX3_addRow 5 = .ok (.getfield 13, 3) := by decide +kernel
theorem dX3_addRow_8 : decode cX3_addRow 8 = .ok (.if_icmp .lt 13, 3) := by decide +kernel
theorem dX3_addRow_11 : decode cX3_addRow 11 = .ok (.aload_n 0, 1) := by decide +kernel
theorem dX3_addRow_12 : decode cX3_addRow 12 = .ok (.getfield 20, 3) := by decide +kernel
theorem dX3_addRow_15 : decode cX3_addRow 15 = .ok (.invokevirtual 55, 3) := by decide +kernel
theorem dX3_addRow_18 : decode cX3_addRow 18 = .ok (.ifCond .ne 7, 3) := by decide +kernel
theorem dX3_addRow_21 : decode cX3_addRow 21 = .ok (.ldc2_w 59, 3) := by decide +kernel
theorem dX3_addRow_24 : decode cX3_addRow 24 = .ok (.lreturn, 1) := by decide +kernel
theorem dX3_addRow_25 : decode cX3_addRow 25 = .ok (.aload_n 0, 1) := by decide +kernel
theorem dX3_addRow_26 : decode cX3_addRow 26 = .ok (.getfield 27, 3) := by decide +kernel
theorem dX3_addRow_29 : decode cX3_addRow 29 = .ok (.invokevirtual 61, 3) := by decide +kernel
theorem dX3_addRow_32 : decode cX3_addRow 32 = .ok (.ifCond .eq 7, 3) := by decide +kernel
theorem dX3_addRow_35 : decode cX3_addRow 35 = .ok (.ldc2_w 49, 3) := by decide +kernel
theorem dX3_addRow_38 : decode cX3_addRow 38 = .ok (.lreturn, 1) := by decide +kernel
theorem dX3_addRow_39 : decode cX3_addRow 39 = .ok (.aload_n 0, 1) := by decide +kernel
theorem dX3_addRow_40 : decode cX3_addRow 40 = .ok (.getfield 27, 3) := by decide +kernel
theorem dX3_addRow_43 : decode cX3_addRow 43 = .ok (.aload_n 0, 1) := by decide +kernel
theorem dX3_addRow_44 : decode cX3_addRow 44 = .ok (.getfield 20, 3) := by decide +kernel
theorem dX3_addRow_47 : decode cX3_addRow 47 = .ok (.iconst 0, 1) := by decide +kernel
theorem dX3_addRow_48 : decode cX3_addRow 48 = .ok (.invokevirtual 64, 3) := by decide +kernel
theorem dX3_addRow_51 : decode cX3_addRow 51 = .ok (.aload_n 0, 1) := by decide +kernel
theorem dX3_addRow_52 : decode cX3_addRow 52 = .ok (.getfield 20, 3) := by decide +kernel
theorem dX3_addRow_55 : decode cX3_addRow 55 = .ok (.iconst 1, 1) := by decide +kernel
theorem dX3_addRow_56 : decode cX3_addRow 56 = .ok (.invokevirtual 64, 3) := by decide +kernel
theorem dX3_addRow_59 : decode cX3_addRow 59 = .ok (.invokevirtual 68, 3) := by decide +kernel
theorem dX3_addRow_62 : decode cX3_addRow 62 = .ok (.ifCond .ne 7, 3) := by decide +kernel
theorem dX3_addRow_65 : decode cX3_addRow 65 = .ok (.ldc2_w 72, 3) := by decide +kernel
theorem dX3_addRow_68 : decode cX3_addRow 68 = .ok (.lreturn, 1) := by decide +kernel
theorem dX3_addRow_69 : decode cX3_addRow 69 = .ok (.aload_n 0, 1) := by decide +kernel
theorem dX3_addRow_70 : decode cX3_addRow 70 = .ok (.getfield 27, 3) := by decide +kernel
theorem dX3_addRow_73 : decode cX3_addRow 73 = .ok (.aload_n 0, 1) := by decide +kernel
theorem dX3_addRow_74 : decode cX3_addRow 74 = .ok (.getfield 20, 3) := by decide +kernel
theorem dX3_addRow_77 : decode cX3_addRow 77 = .ok (.invokevirtual 74, 3) := by decide +kernel
theorem dX3_addRow_80 : decode cX3_addRow 80 = .ok (.aload_n 0, 1) := by decide +kernel
theorem dX3_addRow_81 : decode cX3_addRow 81 = .ok (.iconst 0, 1) := by decide +kernel
theorem dX3_addRow_82 : decode cX3_addRow 82 = .ok (.putfield 13, 3) := by decide +kernel
theorem dX3_addRow_85 : decode cX3_addRow 85 = .ok (.aload_n 0, 1) := by decide +kernel
theorem dX3_addRow_86 : decode cX3_addRow 86 = .ok (.getfield 27, 3) := by decide +kernel
theorem dX3_addRow_89 : decode cX3_addRow 89 = .ok (.getfield 78, 3) := by decide +kernel
theorem dX3_addRow_92 : decode cX3_addRow 92 = .ok (.i2l, 1) := by decide +kernel
theorem dX3_addRow_93 : decode cX3_addRow 93 = .ok (.lreturn, 1) := by decide +kernel
theorem dX3_clearTable_0 : decode cX3_clearTable 0 = .ok (.aload_n 0, 1) := by decide +kernel
theorem dX3_clearTable_1 : decode cX3_clearTable 1 = .ok (.getfield 27, 3) := by decide +kernel
theorem dX3_clearTable_4 : decode cX3_clearTable 4 = .ok (.getfield 78, 3) := by decide +kernel
theorem dX3_clearTable_7 : decode cX3_clearTable 7 = .ok (.i2l, 1) := by decide +kernel
theorem dX3_clearTable_8 : decode cX3_clearTable 8 = .ok (.lstore_n 1, 1) := by decide +kernel
theorem dX3_clearTable_9 : decode cX3_clearTable 9 = .ok (.aload_n 0, 1) := by decide +kernel
theorem dX3_clearTable_10 : decode cX3_clearTable 10 = .ok (.getfield 27, 3) := by decide +kernel
theorem dX3_clearTable_13 : decode cX3_clearTable 13 = .ok (.iconst 0, 1) := by decide +kernel
theorem dX3_clearTable_14 : decode cX3_clearTable 14 = .ok (.putfield 78, 3) := by decide +kernel
theorem dX3_clearTable_17 : decode cX3_clearTable 17 = .ok (.lload_n 1, 1) := by decide +kernel
theorem dX3_clearTable_18 : decode cX3_clearTable 18 = .ok (.lreturn, 1) := by decide +kernel
set_option maxRecDepth 20000 in
theorem ggX3_rowDraft_X2_cell : GoodIn wsX3_rowDraft wsX2_cell := goodIn_r _ [7, 8, 9, 17, 18] (by decide +kernel) (by decide +kernel)
set_option maxRecDepth 20000 in
theorem gX3_rowDraft_X2_cell : GoodIn wsX3_rowDraft (wsV RX3 83 RX2 yX2_cell wsX2_cell) := goodIn_app (goodIn_of _ (by decide +kernel)) ggX3_rowDraft_X2_cell
theorem dX3_rowDraft_0 : decode cX3_rowDraft 0 = .ok (.iload_n 1, 1) := by decide +kernel
theorem dX3_rowDraft_1 : decode cX3_rowDraft 1 = .ok (.ifCond .lt 14, 3) := by decide +kernel
theorem dX3_rowDraft_4 : decode cX3_rowDraft 4 = .ok (.iload_n 1, 1) := by decide +kernel
theorem dX3_rowDraft_5 : decode cX3_rowDraft 5 = .ok (.aload_n 0, 1) := by decide +kernel
theorem dX3_rowDraft_6 : decode cX3_rowDraft 6 = .ok (.getfield 27, 3) := by decide +kernel
theorem dX3_rowDraft_9 : decode cX3_rowDraft 9 = .ok (.getfield 78, 3) := by decide +kernel
theorem dX3_rowDraft_12 : decode cX3_rowDraft 12 = .ok (.if_icmp .lt 7, 3) := by decide +kernel
theorem dX3_rowDraft_15 : decode cX3_rowDraft 15 = .ok (.ldc2_w 81, 3) := by decide +kernel
theorem dX3_rowDraft_18 : decode cX3_rowDraft 18 = .ok (.lreturn, 1) := by decide +kernel
theorem dX3_rowDraft_19 : decode cX3_rowDraft 19 = .ok (.aload_n 0, 1) := by decide +kernel
theorem dX3_rowDraft_20 : decode cX3_rowDraft 20 = .ok (.getfield 27, 3) := by decide +kernel
theorem dX3_rowDraft_23 : decode cX3_rowDraft 23 = .ok (.iload_n 1, 1) := by decide +kernel
theorem dX3_rowDraft_24 : decode cX3_rowDraft 24 = .ok (.iconst 0, 1) := by decide +kernel
theorem dX3_rowDraft_25 : decode cX3_rowDraft 25 = .ok (.invokevirtual 83, 3) := by decide +kernel
theorem dX3_rowDraft_28 : decode cX3_rowDraft 28 = .ok (.lreturn, 1) := by decide +kernel
set_option maxRecDepth 20000 in
theorem ggX3_tableValue_X2_valueAt : GoodIn wsX3_tableValue wsX2_valueAt := goodIn_r _ [7, 8, 9, 10, 11, 12, 6, 13, 14, 15, 16, 17, 18, 26, 27] (by decide +kernel) (by decide +kernel)
set_option maxRecDepth 20000 in
theorem gX3_tableValue_X2_valueAt : GoodIn wsX3_tableValue (wsV RX3 87 RX2 yX2_valueAt wsX2_valueAt) := goodIn_app (goodIn_of _ (by decide +kernel)) ggX3_tableValue_X2_valueAt
theorem dX3_tableValue_0 : decode cX3_tableValue 0 = .ok (.iload_n 1, 1) := by decide +kernel
theorem dX3_tableValue_1 : decode cX3_tableValue 1 = .ok (.ifCond .lt 8, 3) := by decide +kernel
theorem dX3_tableValue_4 : decode cX3_tableValue 4 = .ok (.iload_n 1, 1) := by decide +kernel
theorem dX3_tableValue_5 : decode cX3_tableValue 5 = .ok (.iconst 4, 1) := by decide +kernel
theorem dX3_tableValue_6 : decode cX3_tableValue 6 = .ok (.if_icmp .lt 7, 3) := by decide +kernel
theorem dX3_tableValue_9 : decode cX3_tableValue 9 = .ok (.ldc2_w 81, 3) := by decide +kernel
theorem dX3_tableValue_12 : decode cX3_tableValue 12 = .ok (.lreturn, 1) := by decide +kernel
theorem dX3_tableValue_13 : decode cX3_tableValue 13 = .ok (.aload_n 0, 1) := by decide +kernel
theorem dX3_tableValue_14 : decode cX3_tableValue 14 = .ok (.getfield 27, 3) := by decide +kernel
theorem dX3_tableValue_17 : decode cX3_tableValue 17 = .ok (.iload_n 1, 1) := by decide +kernel
theorem dX3_tableValue_18 : decode cX3_tableValue 18 = .ok (.iconst 1, 1) := by decide +kernel
theorem dX3_tableValue_19 : decode cX3_tableValue 19 = .ok (.iadd, 1) := by decide +kernel
theorem dX3_tableValue_20 : decode cX3_tableValue 20 = .ok (.iload_n 2, 1) := by decide +kernel
theorem dX3_tableValue_21 : decode cX3_tableValue 21 = .ok (.i2l, 1) := by decide +kernel
theorem dX3_tableValue_22 : decode cX3_tableValue 22 = .ok (.invokevirtual 87, 3) := by decide +kernel
theorem dX3_tableValue_25 : decode cX3_tableValue 25 = .ok (.lreturn, 1) := by decide +kernel
theorem dX3_setLength_0 : decode cX3_setLength 0 = .ok (.iload_n 1, 1) := by decide +kernel
theorem dX3_setLength_1 : decode cX3_setLength 1 = .ok (.sipush 10000, 3) := by decide +kernel
theorem dX3_setLength_4 : decode cX3_setLength 4 = .ok (.if_icmp .lt 9, 3) := by decide +kernel
theorem dX3_setLength_7 : decode cX3_setLength 7 = .ok (.iload_n 1, 1) := by decide +kernel
theorem dX3_setLength_8 : decode cX3_setLength 8 = .ok (.ldc 91, 2) := by decide +kernel
theorem dX3_setLength_10 : decode cX3_setLength 10 = .ok (.if_icmp .le 7, 3) := by decide +kernel
theorem dX3_setLength_13 : decode cX3_setLength 13 = .ok (.ldc2_w 47, 3) := by decide +kernel
theorem dX3_setLength_16 : decode cX3_setLength 16 = .ok (.lreturn, 1) := by decide +kernel
theorem dX3_setLength_17 : decode cX3_setLength 17 = .ok (.aload_n 0, 1) := by decide +kernel
theorem dX3_setLength_18 : decode cX3_setLength 18 = .ok (.getfield 40, 3) := by decide +kernel
theorem dX3_setLength_21 : decode cX3_setLength 21 = .ok (.lstore_n 2, 1) := by decide +kernel
theorem dX3_setLength_22 : decode cX3_setLength 22 = .ok (.aload_n 0, 1) := by decide +kernel
theorem dX3_setLength_23 : decode cX3_setLength 23 = .ok (.iload_n 1, 1) := by decide +kernel
theorem dX3_setLength_24 : decode cX3_setLength 24 = .ok (.i2l, 1) := by decide +kernel
theorem dX3_setLength_25 : decode cX3_setLength 25 = .ok (.putfield 40, 3) := by decide +kernel
theorem dX3_setLength_28 : decode cX3_setLength 28 = .ok (.lload_n 2, 1) := by decide +kernel
theorem dX3_setLength_29 : decode cX3_setLength 29 = .ok (.lreturn, 1) := by decide +kernel
theorem dX3_setMargin_0 : decode cX3_setMargin 0 = .ok (.iload_n 1, 1) := by decide +kernel
theorem dX3_setMargin_1 : decode cX3_setMargin 1 = .ok (.ifCond .lt 9, 3) := by decide +kernel
theorem dX3_setMargin_4 : decode cX3_setMargin 4 = .ok (.iload_n 1, 1) := by decide +kernel
theorem dX3_setMargin_5 : decode cX3_setMargin 5 = .ok (.bipush 100, 2) := by decide +kernel
theorem dX3_setMargin_7 : decode cX3_setMargin 7 = .ok (.if_icmp .le 7, 3) := by decide +kernel
theorem dX3_setMargin_10 : decode cX3_setMargin 10 = .ok (.ldc2_w 47, 3) := by decide +kernel
theorem dX3_setMargin_13 : decode cX3_setMargin 13 = .ok (.lreturn, 1) := by decide +kernel
theorem dX3_setMargin_14 : decode cX3_setMargin 14 = .ok (.aload_n 0, 1) := by decide +kernel
theorem dX3_setMargin_15 : decode cX3_setMargin 15 = .ok (.getfield 44, 3) := by decide +kernel
theorem dX3_setMargin_18 : decode cX3_setMargin 18 = .ok (.lstore_n 2, 1) := by decide +kernel
theorem dX3_setMargin_19 : decode cX3_setMargin 19 = .ok (.aload_n 0, 1) := by decide +kernel
theorem dX3_setMargin_20 : decode cX3_setMargin 20 = .ok (.iload_n 1, 1) := by decide +kernel
theorem dX3_setMargin_21 : decode cX3_setMargin 21 = .ok (.i2l, 1) := by decide +kernel
theorem dX3_setMargin_22 : decode cX3_setMargin 22 = .ok (.putfield 44, 3) := by decide +kernel
theorem dX3_setMargin_25 : decode cX3_setMargin 25 = .ok (.lload_n 2, 1) := by decide +kernel
theorem dX3_setMargin_26 : decode cX3_setMargin 26 = .ok (.lreturn, 1) := by decide +kernel
set_option maxRecDepth 20000 in
theorem ggX3_setReading_X3_surveyAt : GoodIn wsX3_setReading wsX3_surveyAt := goodIn_r _ [8, 9, 13, 14, 15, 16, 17, 18, 19] (by decide +kernel) (by decide +kernel)
set_option maxRecDepth 20000 in
theorem gX3_setReading_X3_surveyAt : GoodIn wsX3_setReading (wsV RX3 92 RX3 yX3_surveyAt wsX3_surveyAt) := goodIn_app (goodIn_of _ (by decide +kernel)) ggX3_setReading_X3_surveyAt
theorem dX3_setReading_0 : decode cX3_setReading 0 = .ok (.aload_n 0, 1) := by decide +kernel
theorem dX3_setReading_1 : decode cX3_setReading 1 = .ok (.iload_n 1, 1) := by decide +kernel
theorem dX3_setReading_2 : decode cX3_setReading 2 = .ok (.invokevirtual 92, 3) := by decide +kernel
theorem dX3_setReading_5 : decode cX3_setReading 5 = .ok (.astore 4, 2) := by decide +kernel
theorem dX3_setReading_7 : decode cX3_setReading 7 = .ok (.aload 4, 2) := by decide +kernel
theorem dX3_setReading_9 : decode cX3_setReading 9 = .ok (.ifnonnull 7, 3) := by decide +kernel
theorem dX3_setReading_12 : decode cX3_setReading 12 = .ok (.ldc2_w 96, 3) := by decide +kernel
theorem dX3_setReading_15 : decode cX3_setReading 15 = .ok (.lreturn, 1) := by decide +kernel
theorem dX3_setReading_16 : decode cX3_setReading 16 = .ok (.iload_n 2, 1) := by decide +kernel
theorem dX3_setReading_17 : decode cX3_setReading 17 = .ok (.ifCond .lt 9, 3) := by decide +kernel
theorem dX3_setReading_20 : decode cX3_setReading 20 = .ok (.iload_n 2, 1) := by decide +kernel
theorem dX3_setReading_21 : decode cX3_setReading 21 = .ok (.bipush 6, 2) := by decide +kernel
theorem dX3_setReading_23 : decode cX3_setReading 23 = .ok (.if_icmp .lt 7, 3) := by decide +kernel
theorem dX3_setReading_26 : decode cX3_setReading 26 = .ok (.ldc2_w 81, 3) := by decide +kernel
theorem dX3_setReading_29 : decode cX3_setReading 29 = .ok (.lreturn, 1) := by decide +kernel
theorem dX3_setReading_30 : decode cX3_setReading 30 = .ok (.iload_n 3, 1) := by decide +kernel
theorem dX3_setReading_31 : decode cX3_setReading 31 = .ok (.ifCond .lt 10, 3) := by decide +kernel
theorem dX3_setReading_34 : decode cX3_setReading 34 = .ok (.iload_n 3, 1) := by decide +kernel
theorem dX3_setReading_35 : decode cX3_setReading 35 = .ok (.sipush 30000, 3) := by decide +kernel
theorem dX3_setReading_38 : decode cX3_setReading 38 = .ok (.if_icmp .le 7, 3) := by decide +kernel
theorem dX3_setReading_41 : decode cX3_setReading 41 = .ok (.ldc2_w 47, 3) := by decide +kernel
theorem dX3_setReading_44 : decode cX3_setReading 44 = .ok (.lreturn, 1) := by decide +kernel
theorem dX3_setReading_45 : decode cX3_setReading 45 = .ok (.aload 4, 2) := by decide +kernel
theorem dX3_setReading_47 : decode cX3_setReading 47 = .ok (.getfield 98, 3) := by decide +kernel
theorem dX3_setReading_50 : decode cX3_setReading 50 = .ok (.iload_n 2, 1) := by decide +kernel
theorem dX3_setReading_51 : decode cX3_setReading 51 = .ok (.laload, 1) := by decide +kernel
theorem dX3_setReading_52 : decode cX3_setReading 52 = .ok (.lstore 5, 2) := by decide +kernel
theorem dX3_setReading_54 : decode cX3_setReading 54 = .ok (.aload 4, 2) := by decide +kernel
theorem dX3_setReading_56 : decode cX3_setReading 56 = .ok (.getfield 98, 3) := by decide +kernel
theorem dX3_setReading_59 : decode cX3_setReading 59 = .ok (.iload_n 2, 1) := by decide +kernel
theorem dX3_setReading_60 : decode cX3_setReading 60 = .ok (.iload_n 3, 1) := by decide +kernel
theorem dX3_setReading_61 : decode cX3_setReading 61 = .ok (.i2l, 1) := by decide +kernel
theorem dX3_setReading_62 : decode cX3_setReading 62 = .ok (.lastore, 1) := by decide +kernel
theorem dX3_setReading_63 : decode cX3_setReading 63 = .ok (.lload 5, 2) := by decide +kernel
theorem dX3_setReading_65 : decode cX3_setReading 65 = .ok (.lreturn, 1) := by decide +kernel
set_option maxRecDepth 20000 in
theorem ggX3_reading_X3_surveyAt : GoodIn wsX3_reading wsX3_surveyAt := goodIn_r _ [7, 8, 12, 13, 14, 15, 16, 17, 18] (by decide +kernel) (by decide +kernel)
set_option maxRecDepth 20000 in
theorem gX3_reading_X3_surveyAt : GoodIn wsX3_reading (wsV RX3 92 RX3 yX3_surveyAt wsX3_surveyAt) := goodIn_app (goodIn_of _ (by decide +kernel)) ggX3_reading_X3_surveyAt
theorem dX3_reading_0 : decode cX3_reading 0 = .ok (.aload_n 0, 1) := by decide +kernel
theorem dX3_reading_1 : decode cX3_reading 1 = .ok (.iload_n 1, 1) := by decide +kernel
theorem dX3_reading_2 : decode cX3_reading 2 = .ok (.invokevirtual 92, 3) := by decide +kernel
theorem dX3_reading_5 : decode cX3_reading 5 = .ok (.astore_n 3, 1) := by decide +kernel
theorem dX3_reading_6 : decode cX3_reading 6 = .ok (.aload_n 3, 1) := by decide +kernel
theorem dX3_reading_7 : decode cX3_reading 7 = .ok (.ifnonnull 7, 3) := by decide +kernel
theorem dX3_reading_10 : decode cX3_reading 10 = .ok (.ldc2_w 96, 3) := by decide +kernel
theorem dX3_reading_13 : decode cX3_reading 13 = .ok (.lreturn, 1) := by decide +kernel
theorem dX3_reading_14 : decode cX3_reading 14 = .ok (.iload_n 2, 1) := by decide +kernel
theorem dX3_reading_15 : decode cX3_reading 15 = .ok (.ifCond .lt 9, 3) := by decide +kernel
theorem dX3_reading_18 : decode cX3_reading 18 = .ok (.iload_n 2, 1) := by decide +kernel
theorem dX3_reading_19 : decode cX3_reading 19 = .ok (.bipush 6, 2) := by decide +kernel
theorem dX3_reading_21 : decode cX3_reading 21 = .ok (.if_icmp .lt 7, 3) := by decide +kernel
theorem dX3_reading_24 : decode cX3_reading 24 = .ok (.ldc2_w 81, 3) := by decide +kernel
theorem dX3_reading_27 : decode cX3_reading 27 = .ok (.lreturn, 1) := by decide +kernel
theorem dX3_reading_28 : decode cX3_reading 28 = .ok (.aload_n 3, 1) := by decide +kernel
theorem dX3_reading_29 : decode cX3_reading 29 = .ok (.getfield 98, 3) := by decide +kernel
theorem dX3_reading_32 : decode cX3_reading 32 = .ok (.iload_n 2, 1) := by decide +kernel
theorem dX3_reading_33 : decode cX3_reading 33 = .ok (.laload, 1) := by decide +kernel
theorem dX3_reading_34 : decode cX3_reading 34 = .ok (.lreturn, 1) := by decide +kernel
set_option maxRecDepth 20000 in
theorem ggX3_setDensity_X3_surveyAt : GoodIn wsX3_setDensity wsX3_surveyAt := goodIn_r _ [7, 8, 12, 13, 14, 15, 16, 17, 18] (by decide +kernel) (by decide +kernel)
set_option maxRecDepth 20000 in
theorem gX3_setDensity_X3_surveyAt : GoodIn wsX3_setDensity (wsV RX3 92 RX3 yX3_surveyAt wsX3_surveyAt) := goodIn_app (goodIn_of _ (by decide +kernel)) ggX3_setDensity_X3_surveyAt
theorem dX3_setDensity_0 : decode cX3_setDensity 0 = .ok (.aload_n 0, 1) := by decide +kernel
theorem dX3_setDensity_1 : decode cX3_setDensity 1 = .ok (.iload_n 1, 1) := by decide +kernel
theorem dX3_setDensity_2 : decode cX3_setDensity 2 = .ok (.invokevirtual 92, 3) := by decide +kernel
theorem dX3_setDensity_5 : decode cX3_setDensity 5 = .ok (.astore_n 3, 1) := by decide +kernel
theorem dX3_setDensity_6 : decode cX3_setDensity 6 = .ok (.aload_n 3, 1) := by decide +kernel
theorem dX3_setDensity_7 : decode cX3_setDensity 7 = .ok (.ifnonnull 7, 3) := by decide +kernel
theorem dX3_setDensity_10 : decode cX3_setDensity 10 = .ok (.ldc2_w 96, 3) := by decide +kernel
theorem dX3_setDensity_13 : decode cX3_setDensity 13 = .ok (.lreturn, 1) := by decide +kernel
theorem dX3_setDensity_14 : decode cX3_setDensity 14 = .ok (.iload_n 2, 1) := by decide +kernel
theorem dX3_setDensity_15 : decode cX3_setDensity 15 = .ok (.sipush 950, 3) := by decide +kernel
theorem dX3_setDensity_18 : decode cX3_setDensity 18 = .ok (.if_icmp .lt 10, 3) := by decide +kernel
theorem dX3_setDensity_21 : decode cX3_setDensity 21 = .ok (.iload_n 2, 1) := by decide +kernel
theorem dX3_setDensity_22 : decode cX3_setDensity 22 = .ok (.sipush 1050, 3) := by decide +kernel
theorem dX3_setDensity_25 : decode cX3_setDensity 25 = .ok (.if_icmp .le 7, 3) := by decide +kernel
theorem dX3_setDensity_28 : decode cX3_setDensity 28 = .ok (.ldc2_w 47, 3) := by decide +kernel
theorem dX3_setDensity_31 : decode cX3_setDensity 31 = .ok (.lreturn, 1) := by decide +kernel
theorem dX3_setDensity_32 : decode cX3_setDensity 32 = .ok (.aload_n 3, 1) := by decide +kernel
theorem dX3_setDensity_33 : decode cX3_setDensity 33 = .ok (.getfield 102, 3) := by decide +kernel
theorem dX3_setDensity_36 : decode cX3_setDensity 36 = .ok (.lstore 4, 2) := by decide +kernel
theorem dX3_setDensity_38 : decode cX3_setDensity 38 = .ok (.aload_n 3, 1) := by decide +kernel
theorem dX3_setDensity_39 : decode cX3_setDensity 39 = .ok (.iload_n 2, 1) := by decide +kernel
theorem dX3_setDensity_40 : decode cX3_setDensity 40 = .ok (.i2l, 1) := by decide +kernel
theorem dX3_setDensity_41 : decode cX3_setDensity 41 = .ok (.putfield 102, 3) := by decide +kernel
theorem dX3_setDensity_44 : decode cX3_setDensity 44 = .ok (.lload 4, 2) := by decide +kernel
theorem dX3_setDensity_46 : decode cX3_setDensity 46 = .ok (.lreturn, 1) := by decide +kernel
set_option maxRecDepth 20000 in
theorem ggX3_setDeduction_X3_surveyAt : GoodIn wsX3_setDeduction wsX3_surveyAt := goodIn_r _ [9, 10, 14, 15, 16, 17, 18, 19, 20] (by decide +kernel) (by decide +kernel)
set_option maxRecDepth 20000 in
theorem gX3_setDeduction_X3_surveyAt : GoodIn wsX3_setDeduction (wsV RX3 92 RX3 yX3_surveyAt wsX3_surveyAt) := goodIn_app (goodIn_of _ (by decide +kernel)) ggX3_setDeduction_X3_surveyAt
theorem dX3_setDeduction_0 : decode cX3_setDeduction 0 = .ok (.aload_n 0, 1) := by decide +kernel
theorem dX3_setDeduction_1 : decode cX3_setDeduction 1 = .ok (.iload_n 1, 1) := by decide +kernel
theorem dX3_setDeduction_2 : decode cX3_setDeduction 2 = .ok (.invokevirtual 92, 3) := by decide +kernel
theorem dX3_setDeduction_5 : decode cX3_setDeduction 5 = .ok (.astore 4, 2) := by decide +kernel
theorem dX3_setDeduction_7 : decode cX3_setDeduction 7 = .ok (.aload 4, 2) := by decide +kernel
theorem dX3_setDeduction_9 : decode cX3_setDeduction 9 = .ok (.ifnonnull 7, 3) := by decide +kernel
theorem dX3_setDeduction_12 : decode cX3_setDeduction 12 = .ok (.ldc2_w 96, 3) := by decide +kernel
theorem dX3_setDeduction_15 : decode cX3_setDeduction 15 = .ok (.lreturn, 1) := by decide +kernel
theorem dX3_setDeduction_16 : decode cX3_setDeduction 16 = .ok (.iload_n 2, 1) := by decide +kernel
theorem dX3_setDeduction_17 : decode cX3_setDeduction 17 = .ok (.ifCond .lt 8, 3) := by decide +kernel
theorem dX3_setDeduction_20 : decode cX3_setDeduction 20 = .ok (.iload_n 2, 1) := by decide +kernel
theorem dX3_setDeduction_21 : decode cX3_setDeduction 21 = .ok (.iconst 4, 1) := by decide +kernel
theorem dX3_setDeduction_22 : decode cX3_setDeduction 22 = .ok (.if_icmp .lt 7, 3) := by decide +kernel
theorem dX3_setDeduction_25 : decode cX3_setDeduction 25 = .ok (.ldc2_w 81, 3) := by decide +kernel
theorem dX3_setDeduction_28 : decode cX3_setDeduction 28 = .ok (.lreturn, 1) := by decide +kernel
theorem dX3_setDeduction_29 : decode cX3_setDeduction 29 = .ok (.iload_n 3, 1) := by decide +kernel
theorem dX3_setDeduction_30 : decode cX3_setDeduction 30 = .ok (.ifCond .lt 9, 3) := by decide +kernel
theorem dX3_setDeduction_33 : decode cX3_setDeduction 33 = .ok (.iload_n 3, 1) := by decide +kernel
theorem dX3_setDeduction_34 : decode cX3_setDeduction 34 = .ok (.ldc 105, 2) := by decide +kernel
theorem dX3_setDeduction_36 : decode cX3_setDeduction 36 = .ok (.if_icmp .le 7, 3) := by decide +kernel
theorem dX3_setDeduction_39 : decode cX3_setDeduction 39 = .ok (.ldc2_w 47, 3) := by decide +kernel
theorem dX3_setDeduction_42 : decode cX3_setDeduction 42 = .ok (.lreturn, 1) := by decide +kernel
theorem dX3_setDeduction_43 : decode cX3_setDeduction 43 = .ok (.aload 4, 2) := by decide +kernel
theorem dX3_setDeduction_45 : decode cX3_setDeduction 45 = .ok (.getfield 106, 3) := by decide +kernel
theorem dX3_setDeduction_48 : decode cX3_setDeduction 48 = .ok (.iload_n 2, 1) := by decide +kernel
theorem dX3_setDeduction_49 : decode cX3_setDeduction 49 = .ok (.laload, 1) := by decide +kernel
theorem dX3_setDeduction_50 : decode cX3_setDeduction 50 = .ok (.lstore 5, 2) := by decide +kernel
theorem dX3_setDeduction_52 : decode cX3_setDeduction 52 = .ok (.aload 4, 2) := by decide +kernel
theorem dX3_setDeduction_54 : decode cX3_setDeduction 54 = .ok (.getfield 106, 3) := by decide +kernel
theorem dX3_setDeduction_57 : decode cX3_setDeduction 57 = .ok (.iload_n 2, 1) := by decide +kernel
theorem dX3_setDeduction_58 : decode cX3_setDeduction 58 = .ok (.iload_n 3, 1) := by decide +kernel
theorem dX3_setDeduction_59 : decode cX3_setDeduction 59 = .ok (.i2l, 1) := by decide +kernel
theorem dX3_setDeduction_60 : decode cX3_setDeduction 60 = .ok (.lastore, 1) := by decide +kernel
theorem dX3_setDeduction_61 : decode cX3_setDeduction 61 = .ok (.lload 5, 2) := by decide +kernel
theorem dX3_setDeduction_63 : decode cX3_setDeduction 63 = .ok (.lreturn, 1) := by decide +kernel
set_option maxRecDepth 20000 in
theorem ggX3_trim_X3_surveyAt : GoodIn wsX3_trim wsX3_surveyAt := goodIn_r _ [6, 7, 27, 28, 29, 30, 31, 32, 33] (by decide +kernel) (by decide +kernel)
set_option maxRecDepth 20000 in
theorem gX3_trim_X3_surveyAt : GoodIn wsX3_trim (wsV RX3 92 RX3 yX3_surveyAt wsX3_surveyAt) := goodIn_app (goodIn_of _ (by decide +kernel)) ggX3_trim_X3_surveyAt
set_option maxRecDepth 20000 in
theorem ggX3_trim_X1_sternTrim : GoodIn wsX3_trim wsX1_sternTrim := goodIn_r _ [12, 13, 14, 15, 11, 16, 17, 18, 19, 20, 21, 22, 23, 24, 25, 26, 34, 35, 36] (by decide +kernel) (by decide +kernel)
set_option maxRecDepth 20000 in
theorem gX3_trim_X1_sternTrim : GoodIn wsX3_trim (wsV RX3 109 RX1 yX1_sternTrim wsX1_sternTrim) := goodIn_app (goodIn_of _ (by decide +kernel)) ggX3_trim_X1_sternTrim
theorem dX3_trim_0 : decode cX3_trim 0 = .ok (.aload_n 0, 1) := by decide +kernel
theorem dX3_trim_1 : decode cX3_trim 1 = .ok (.iload_n 1, 1) := by decide +kernel
theorem dX3_trim_2 : decode cX3_trim 2 = .ok (.invokevirtual 92, 3) := by decide +kernel
theorem dX3_trim_5 : decode cX3_trim 5 = .ok (.astore_n 2, 1) := by decide +kernel
theorem dX3_trim_6 : decode cX3_trim 6 = .ok (.aload_n 2, 1) := by decide +kernel
theorem dX3_trim_7 : decode cX3_trim 7 = .ok (.ifnonnull 9, 3) := by decide +kernel
theorem dX3_trim_10 : decode cX3_trim 10 = .ok (.ldc2_w 96, 3) := by decide +kernel
theorem dX3_trim_13 : decode cX3_trim 13 = .ok (.goto 7, 3) := by decide +kernel
theorem dX3_trim_16 : decode cX3_trim 16 = .ok (.aload_n 2, 1) := by decide +kernel
theorem dX3_trim_17 : decode cX3_trim 17 = .ok (.invokevirtual 109, 3) := by decide +kernel
theorem dX3_trim_20 : decode cX3_trim 20 = .ok (.lreturn, 1) := by decide +kernel
set_option maxRecDepth 20000 in
theorem ggX3_deflection_X3_surveyAt : GoodIn wsX3_deflection wsX3_surveyAt := goodIn_r _ [6, 7, 31, 32, 33, 34, 35, 36, 37] (by decide +kernel) (by decide +kernel)
set_option maxRecDepth 20000 in
theorem gX3_deflection_X3_surveyAt : GoodIn wsX3_deflection (wsV RX3 92 RX3 yX3_surveyAt wsX3_surveyAt) := goodIn_app (goodIn_of _ (by decide +kernel)) ggX3_deflection_X3_surveyAt
set_option maxRecDepth 20000 in
theorem ggX3_deflection_X1_hullDeflection : GoodIn wsX3_deflection wsX1_hullDeflection := goodIn_r _ [12, 13, 14, 15, 16, 11, 17, 18, 19, 20, 21, 22, 23, 24, 25, 26, 27, 28, 29, 30, 38, 39, 40] (by decide +kernel) (by decide +kernel)
set_option maxRecDepth 20000 in
theorem gX3_deflection_X1_hullDeflection : GoodIn wsX3_deflection (wsV RX3 113 RX1 yX1_hullDeflection wsX1_hullDeflection) := goodIn_app (goodIn_of _ (by decide +kernel)) ggX3_deflection_X1_hullDeflection
theorem dX3_deflection_0 : decode cX3_deflection 0 = .ok (.aload_n 0, 1) := by decide +kernel
theorem dX3_deflection_1 : decode cX3_deflection 1 = .ok (.iload_n 1, 1) := by decide +kernel
theorem dX3_deflection_2 : decode cX3_deflection 2 = .ok (.invokevirtual 92, 3) := by decide +kernel
theorem dX3_deflection_5 : decode cX3_deflection 5 = .ok (.astore_n 2, 1) := by decide +kernel
theorem dX3_deflection_6 : decode cX3_deflection 6 = .ok (.aload_n 2, 1) := by decide +kernel
theorem dX3_deflection_7 : decode cX3_deflection 7 = .ok (.ifnonnull 9, 3) := by decide +kernel
theorem dX3_deflection_10 : decode cX3_deflection 10 = .ok (.ldc2_w 96, 3) := by decide +kernel
theorem dX3_deflection_13 : decode cX3_deflection 13 = .ok (.goto 7, 3) := by decide +kernel
theorem dX3_deflection_16 : decode cX3_deflection 16 = .ok (.aload_n 2, 1) := by decide +kernel
theorem dX3_deflection_17 : decode cX3_deflection 17 = .ok (.invokevirtual 113, 3) := by decide +kernel
theorem dX3_deflection_20 : decode cX3_deflection 20 = .ok (.lreturn, 1) := by decide +kernel
set_option maxRecDepth 20000 in
theorem ggX3_heel_X3_surveyAt : GoodIn wsX3_heel wsX3_surveyAt := goodIn_r _ [6, 7, 14, 15, 16, 17, 18, 19, 20] (by decide +kernel) (by decide +kernel)
set_option maxRecDepth 20000 in
theorem gX3_heel_X3_surveyAt : GoodIn wsX3_heel (wsV RX3 92 RX3 yX3_surveyAt wsX3_surveyAt) := goodIn_app (goodIn_of _ (by decide +kernel)) ggX3_heel_X3_surveyAt
set_option maxRecDepth 20000 in
theorem ggX3_heel_X1_starboardHeel : GoodIn wsX3_heel wsX1_starboardHeel := goodIn_r _ [12, 13, 21, 22, 23] (by decide +kernel) (by decide +kernel)
set_option maxRecDepth 20000 in
theorem gX3_heel_X1_starboardHeel : GoodIn wsX3_heel (wsV RX3 116 RX1 yX1_starboardHeel wsX1_starboardHeel) := goodIn_app (goodIn_of _ (by decide +kernel)) ggX3_heel_X1_starboardHeel
theorem dX3_heel_0 : decode cX3_heel 0 = .ok (.aload_n 0, 1) := by decide +kernel
theorem dX3_heel_1 : decode cX3_heel 1 = .ok (.iload_n 1, 1) := by decide +kernel
theorem dX3_heel_2 : decode cX3_heel 2 = .ok (.invokevirtual 92, 3) := by decide +kernel
theorem dX3_heel_5 : decode cX3_heel 5 = .ok (.astore_n 2, 1) := by decide +kernel
theorem dX3_heel_6 : decode cX3_heel 6 = .ok (.aload_n 2, 1) := by decide +kernel
theorem dX3_heel_7 : decode cX3_heel 7 = .ok (.ifnonnull 9, 3) := by decide +kernel
theorem dX3_heel_10 : decode cX3_heel 10 = .ok (.ldc2_w 96, 3) := by decide +kernel
theorem dX3_heel_13 : decode cX3_heel 13 = .ok (.goto 7, 3) := by decide +kernel
theorem dX3_heel_16 : decode cX3_heel 16 = .ok (.aload_n 2, 1) := by decide +kernel
theorem dX3_heel_17 : decode cX3_heel 17 = .ok (.invokevirtual 116, 3) := by decide +kernel
theorem dX3_heel_20 : decode cX3_heel 20 = .ok (.lreturn, 1) := by decide +kernel
set_option maxRecDepth 20000 in
theorem ggX3_quarterMean_X3_surveyAt : GoodIn wsX3_quarterMean wsX3_surveyAt := goodIn_r _ [6, 7, 33, 34, 35, 36, 37, 38, 39] (by decide +kernel) (by decide +kernel)
set_option maxRecDepth 20000 in
theorem gX3_quarterMean_X3_surveyAt : GoodIn wsX3_quarterMean (wsV RX3 92 RX3 yX3_surveyAt wsX3_surveyAt) := goodIn_app (goodIn_of _ (by decide +kernel)) ggX3_quarterMean_X3_surveyAt
set_option maxRecDepth 20000 in
theorem ggX3_quarterMean_X1_meanDraft : GoodIn wsX3_quarterMean wsX1_meanDraft := goodIn_r _ [12, 13, 14, 15, 16, 17, 11, 18, 19, 20, 21, 22, 23, 24, 25, 26, 27, 28, 29, 30, 31, 32, 40, 41, 42] (by decide +kernel) (by decide +kernel)
set_option maxRecDepth 20000 in
theorem gX3_quarterMean_X1_meanDraft : GoodIn wsX3_quarterMean (wsV RX3 119 RX1 yX1_meanDraft wsX1_meanDraft) := goodIn_app (goodIn_of _ (by decide +kernel)) ggX3_quarterMean_X1_meanDraft
theorem dX3_quarterMean_0 : decode cX3_quarterMean 0 = .ok (.aload_n 0, 1) := by decide +kernel
theorem dX3_quarterMean_1 : decode cX3_quarterMean 1 = .ok (.iload_n 1, 1) := by decide +kernel
theorem dX3_quarterMean_2 : decode cX3_quarterMean 2 = .ok (.invokevirtual 92, 3) := by decide +kernel
theorem dX3_quarterMean_5 : decode cX3_quarterMean 5 = .ok (.astore_n 2, 1) := by decide +kernel
theorem dX3_quarterMean_6 : decode cX3_quarterMean 6 = .ok (.aload_n 2, 1) := by decide +kernel
theorem dX3_quarterMean_7 : decode cX3_quarterMean 7 = .ok (.ifnonnull 9, 3) := by decide +kernel
theorem dX3_quarterMean_10 : decode cX3_quarterMean 10 = .ok (.ldc2_w 96, 3) := by decide +kernel
theorem dX3_quarterMean_13 : decode cX3_quarterMean 13 = .ok (.goto 7, 3) := by decide +kernel
theorem dX3_quarterMean_16 : decode cX3_quarterMean 16 = .ok (.aload_n 2, 1) := by decide +kernel
end
section
theorem dX3_quarterMean_17 : decode cX3_quarterMean 17 = .ok (.invokevirtual 119, 3) := by decide +kernel
theorem dX3_quarterMean_20 : decode cX3_quarterMean 20 = .ok (.lreturn, 1) := by decide +kernel
set_option maxRecDepth 20000 in
theorem ggX3_firstCorrection_X3_surveyAt : GoodIn wsX3_firstCorrection wsX3_surveyAt := goodIn_r _ [7, 8, 78, 79, 80, 81, 82, 83, 84] (by decide +kernel) (by decide +kernel)
set_option maxRecDepth 20000 in
theorem gX3_firstCorrection_X3_surveyAt : GoodIn wsX3_firstCorrection (wsV RX3 92 RX3 yX3_surveyAt wsX3_surveyAt) := goodIn_app (goodIn_of _ (by decide +kernel)) ggX3_firstCorrection_X3_surveyAt
set_option maxRecDepth 20000 in
theorem ggX3_firstCorrection_X3_canCompute : GoodIn wsX3_firstCorrection wsX3_canCompute := goodIn_r _ [12, 13, 14, 15, 16, 17, 18, 19, 20, 21, 22, 23, 24, 25, 26, 27, 28, 29, 30, 31, 32, 33, 34, 35, 36, 37, 38, 39, 40, 41, 42, 43, 44, 45, 46, 47, 48, 49, 50, 51, 52, 53, 54, 55, 56, 57, 78, 79, 80, 81, 82, 83, 84, 85, 86, 87, 88, 89] (by decide +kernel) (by decide +kernel)
set_option maxRecDepth 20000 in
theorem gX3_firstCorrection_X3_canCompute : GoodIn wsX3_firstCorrection (wsV RX3 122 RX3 yX3_canCompute wsX3_canCompute) := goodIn_app (goodIn_of _ (by decide +kernel)) ggX3_firstCorrection_X3_canCompute
set_option maxRecDepth 20000 in
theorem ggX3_firstCorrection_X1_meanDraft : GoodIn wsX3_firstCorrection wsX1_meanDraft := goodIn_r _ [18, 19, 20, 21, 22, 23, 17, 24, 25, 26, 27, 28, 29, 30, 31, 32, 33, 34, 35, 36, 37, 38, 85, 86, 87] (by decide +kernel) (by decide +kernel)
set_option maxRecDepth 20000 in
theorem gX3_firstCorrection_X1_meanDraft : GoodIn wsX3_firstCorrection (wsV RX3 119 RX1 yX1_meanDraft wsX1_meanDraft) := goodIn_app (goodIn_of _ (by decide +kernel)) ggX3_firstCorrection_X1_meanDraft
set_option maxRecDepth 20000 in
theorem ggX3_firstCorrection_X1_sternTrim : GoodIn wsX3_firstCorrection wsX1_sternTrim := goodIn_r _ [61, 35, 36, 37, 17, 38, 25, 26, 27, 28, 29, 30, 21, 22, 23, 24, 85, 86, 87] (by decide +kernel) (by decide +kernel)
set_option maxRecDepth 20000 in
theorem gX3_firstCorrection_X1_sternTrim : GoodIn wsX3_firstCorrection (wsV RX3 109 RX1 yX1_sternTrim wsX1_sternTrim) := goodIn_app (goodIn_of _ (by decide +kernel)) ggX3_firstCorrection_X1_sternTrim
set_option maxRecDepth 20000 in
theorem ggX3_firstCorrection_X3_firstCorrectionAt : GoodIn wsX3_firstCorrection wsX3_firstCorrectionAt := goodIn_r _ [65, 13, 66, 67, 68, 69, 70, 42, 71, 44, 72, 49, 50, 51, 52, 53, 73, 28, 29, 30, 74, 75, 6, 76, 77, 78, 79, 80, 81, 82, 83, 84, 88, 89] (by decide +kernel) (by decide +kernel)
set_option maxRecDepth 20000 in
theorem gX3_firstCorrection_X3_firstCorrectionAt : GoodIn wsX3_firstCorrection (wsV RX3 128 RX3 yX3_firstCorrectionAt wsX3_firstCorrectionAt) := goodIn_app (goodIn_of _ (by decide +kernel)) ggX3_firstCorrection_X3_firstCorrectionAt
theorem dX3_firstCorrection_0 : decode cX3_firstCorrection 0 = .ok (.aload_n 0, 1) := by decide +kernel
theorem dX3_firstCorrection_1 : decode cX3_firstCorrection 1 = .ok (.iload_n 1, 1) := by decide +kernel
theorem dX3_firstCorrection_2 : decode cX3_firstCorrection 2 = .ok (.invokevirtual 92, 3) := by decide +kernel
theorem dX3_firstCorrection_5 : decode cX3_firstCorrection 5 = .ok (.astore_n 2, 1) := by decide +kernel
theorem dX3_firstCorrection_6 : decode cX3_firstCorrection 6 = .ok (.aload_n 2, 1) := by decide +kernel
theorem dX3_firstCorrection_7 : decode cX3_firstCorrection 7 = .ok (.ifnonnull 7, 3) := by decide +kernel
theorem dX3_firstCorrection_10 : decode cX3_firstCorrection 10 = .ok (.ldc2_w 96, 3) := by decide +kernel
theorem dX3_firstCorrection_13 : decode cX3_firstCorrection 13 = .ok (.lreturn, 1) := by decide +kernel
theorem dX3_firstCorrection_14 : decode cX3_firstCorrection 14 = .ok (.aload_n 0, 1) := by decide +kernel
theorem dX3_firstCorrection_15 : decode cX3_firstCorrection 15 = .ok (.aload_n 2, 1) := by decide +kernel
theorem dX3_firstCorrection_16 : decode cX3_firstCorrection 16 = .ok (.lconst 0, 1) := by decide +kernel
theorem dX3_firstCorrection_17 : decode cX3_firstCorrection 17 = .ok (.invokevirtual 122, 3) := by decide +kernel
theorem dX3_firstCorrection_20 : decode cX3_firstCorrection 20 = .ok (.ifCond .ne 7, 3) := by decide +kernel
theorem dX3_firstCorrection_23 : decode cX3_firstCorrection 23 = .ok (.ldc2_w 126, 3) := by decide +kernel
theorem dX3_firstCorrection_26 : decode cX3_firstCorrection 26 = .ok (.lreturn, 1) := by decide +kernel
theorem dX3_firstCorrection_27 : decode cX3_firstCorrection 27 = .ok (.aload_n 0, 1) := by decide +kernel
theorem dX3_firstCorrection_28 : decode cX3_firstCorrection 28 = .ok (.aload_n 2, 1) := by decide +kernel
theorem dX3_firstCorrection_29 : decode cX3_firstCorrection 29 = .ok (.invokevirtual 119, 3) := by decide +kernel
theorem dX3_firstCorrection_32 : decode cX3_firstCorrection 32 = .ok (.aload_n 2, 1) := by decide +kernel
theorem dX3_firstCorrection_33 : decode cX3_firstCorrection 33 = .ok (.invokevirtual 109, 3) := by decide +kernel
theorem dX3_firstCorrection_36 : decode cX3_firstCorrection 36 = .ok (.invokevirtual 128, 3) := by decide +kernel
theorem dX3_firstCorrection_39 : decode cX3_firstCorrection 39 = .ok (.lreturn, 1) := by decide +kernel
set_option maxRecDepth 20000 in
theorem ggX3_secondCorrection_X3_surveyAt : GoodIn wsX3_secondCorrection wsX3_surveyAt := goodIn_r _ [7, 8, 89, 90, 91, 92, 93, 94, 95] (by decide +kernel) (by decide +kernel)
set_option maxRecDepth 20000 in
theorem gX3_secondCorrection_X3_surveyAt : GoodIn wsX3_secondCorrection (wsV RX3 92 RX3 yX3_surveyAt wsX3_surveyAt) := goodIn_app (goodIn_of _ (by decide +kernel)) ggX3_secondCorrection_X3_surveyAt
set_option maxRecDepth 20000 in
theorem ggX3_secondCorrection_X3_canCompute : GoodIn wsX3_secondCorrection wsX3_canCompute := goodIn_r _ [12, 13, 14, 15, 16, 17, 18, 19, 20, 21, 22, 23, 24, 25, 26, 27, 28, 29, 30, 31, 32, 33, 34, 35, 36, 37, 38, 39, 40, 41, 42, 43, 44, 45, 46, 47, 48, 49, 50, 51, 52, 53, 54, 55, 56, 57, 89, 90, 91, 92, 93, 94, 95, 96, 97, 98, 99, 100] (by decide +kernel) (by decide +kernel)
set_option maxRecDepth 20000 in
theorem gX3_secondCorrection_X3_canCompute : GoodIn wsX3_secondCorrection (wsV RX3 122 RX3 yX3_canCompute wsX3_canCompute) := goodIn_app (goodIn_of _ (by decide +kernel)) ggX3_secondCorrection_X3_canCompute
set_option maxRecDepth 20000 in
theorem ggX3_secondCorrection_X1_meanDraft : GoodIn wsX3_secondCorrection wsX1_meanDraft := goodIn_r _ [18, 19, 20, 21, 22, 23, 17, 24, 25, 26, 27, 28, 29, 30, 31, 32, 33, 34, 35, 36, 37, 38, 96, 97, 98] (by decide +kernel) (by decide +kernel)
set_option maxRecDepth 20000 in
theorem gX3_secondCorrection_X1_meanDraft : GoodIn wsX3_secondCorrection (wsV RX3 119 RX1 yX1_meanDraft wsX1_meanDraft) := goodIn_app (goodIn_of _ (by decide +kernel)) ggX3_secondCorrection_X1_meanDraft
set_option maxRecDepth 20000 in
theorem ggX3_secondCorrection_X1_sternTrim : GoodIn wsX3_secondCorrection wsX1_sternTrim := goodIn_r _ [61, 35, 36, 37, 17, 38, 25, 26, 27, 28, 29, 30, 21, 22, 23, 24, 96, 97, 98] (by decide +kernel) (by decide +kernel)
set_option maxRecDepth 20000 in
theorem gX3_secondCorrection_X1_sternTrim : GoodIn wsX3_secondCorrection (wsV RX3 109 RX1 yX1_sternTrim wsX1_sternTrim) := goodIn_app (goodIn_of _ (by decide +kernel)) ggX3_secondCorrection_X1_sternTrim
set_option maxRecDepth 20000 in
theorem ggX3_secondCorrection_X3_secondCorrectionAt : GoodIn wsX3_secondCorrection wsX3_secondCorrectionAt := goodIn_r _ [65, 66, 13, 67, 68, 69, 70, 71, 72, 73, 74, 75, 76, 77, 46, 47, 42, 48, 49, 50, 51, 52, 44, 53, 78, 55, 56, 57, 79, 80, 81, 82, 83, 84, 28, 29, 30, 85, 86, 6, 87, 88, 89, 90, 91, 92, 93, 94, 95, 99, 100] (by decide +kernel) (by decide +kernel)
set_option maxRecDepth 20000 in
theorem gX3_secondCorrection_X3_secondCorrectionAt : GoodIn wsX3_secondCorrection (wsV RX3 132 RX3 yX3_secondCorrectionAt wsX3_secondCorrectionAt) := goodIn_app (goodIn_of _ (by decide +kernel)) ggX3_secondCorrection_X3_secondCorrectionAt
theorem dX3_secondCorrection_0 : decode cX3_secondCorrection 0 = .ok (.aload_n 0, 1) := by decide +kernel
theorem dX3_secondCorrection_1 : decode cX3_secondCorrection 1 = .ok (.iload_n 1, 1) := by decide +kernel
theorem dX3_secondCorrection_2 : decode cX3_secondCorrection 2 = .ok (.invokevirtual 92, 3) := by decide +kernel
theorem dX3_secondCorrection_5 : decode cX3_secondCorrection 5 = .ok (.astore_n 2, 1) := by decide +kernel
theorem dX3_secondCorrection_6 : decode cX3_secondCorrection 6 = .ok (.aload_n 2, 1) := by decide +kernel
theorem dX3_secondCorrection_7 : decode cX3_secondCorrection 7 = .ok (.ifnonnull 7, 3) := by decide +kernel
theorem dX3_secondCorrection_10 : decode cX3_secondCorrection 10 = .ok (.ldc2_w 96, 3) := by decide +kernel
theorem dX3_secondCorrection_13 : decode cX3_secondCorrection 13 = .ok (.lreturn, 1) := by decide +kernel
theorem dX3_secondCorrection_14 : decode cX3_secondCorrection 14 = .ok (.aload_n 0, 1) := by decide +kernel
theorem dX3_secondCorrection_15 : decode cX3_secondCorrection 15 = .ok (.aload_n 2, 1) := by decide +kernel
theorem dX3_secondCorrection_16 : decode cX3_secondCorrection 16 = .ok (.lconst 0, 1) := by decide +kernel
theorem dX3_secondCorrection_17 : decode cX3_secondCorrection 17 = .ok (.invokevirtual 122, 3) := by decide +kernel
theorem dX3_secondCorrection_20 : decode cX3_secondCorrection 20 = .ok (.ifCond .ne 7, 3) := by decide +kernel
theorem dX3_secondCorrection_23 : decode cX3_secondCorrection 23 = .ok (.ldc2_w 126, 3) := by decide +kernel
theorem dX3_secondCorrection_26 : decode cX3_secondCorrection 26 = .ok (.lreturn, 1) := by decide +kernel
theorem dX3_secondCorrection_27 : decode cX3_secondCorrection 27 = .ok (.aload_n 0, 1) := by decide +kernel
theorem dX3_secondCorrection_28 : decode cX3_secondCorrection 28 = .ok (.aload_n 2, 1) := by decide +kernel
theorem dX3_secondCorrection_29 : decode cX3_secondCorrection 29 = .ok (.invokevirtual 119, 3) := by decide +kernel
theorem dX3_secondCorrection_32 : decode cX3_secondCorrection 32 = .ok (.aload_n 2, 1) := by decide +kernel
theorem dX3_secondCorrection_33 : decode cX3_secondCorrection 33 = .ok (.invokevirtual 109, 3) := by decide +kernel
theorem dX3_secondCorrection_36 : decode cX3_secondCorrection 36 = .ok (.invokevirtual 132, 3) := by decide +kernel
theorem dX3_secondCorrection_39 : decode cX3_secondCorrection 39 = .ok (.lreturn, 1) := by decide +kernel
set_option maxRecDepth 20000 in
theorem ggX3_displacement_X3_surveyAt : GoodIn wsX3_displacement wsX3_surveyAt := goodIn_r _ [8, 9, 100, 101, 102, 103, 104, 105, 106] (by decide +kernel) (by decide +kernel)
set_option maxRecDepth 20000 in
theorem gX3_displacement_X3_surveyAt : GoodIn wsX3_displacement (wsV RX3 92 RX3 yX3_surveyAt wsX3_surveyAt) := goodIn_app (goodIn_of _ (by decide +kernel)) ggX3_displacement_X3_surveyAt
set_option maxRecDepth 20000 in
theorem ggX3_displacement_X3_canCompute : GoodIn wsX3_displacement wsX3_canCompute := goodIn_r _ [13, 14, 15, 16, 17, 18, 19, 20, 21, 22, 23, 24, 25, 26, 27, 28, 29, 30, 31, 32, 33, 34, 35, 36, 37, 38, 39, 40, 41, 42, 43, 44, 45, 46, 47, 48, 49, 50, 51, 52, 53, 54, 55, 56, 57, 58, 100, 101, 102, 103, 104, 105, 106, 107, 108, 109, 110, 111] (by decide +kernel) (by decide +kernel)
set_option maxRecDepth 20000 in
theorem gX3_displacement_X3_canCompute : GoodIn wsX3_displacement (wsV RX3 122 RX3 yX3_canCompute wsX3_canCompute) := goodIn_app (goodIn_of _ (by decide +kernel)) ggX3_displacement_X3_canCompute
set_option maxRecDepth 20000 in
theorem ggX3_displacement_X3_displacementOf : GoodIn wsX3_displacement wsX3_displacementOf := goodIn_r _ [62, 14, 63, 15, 16, 17, 18, 19, 20, 21, 22, 23, 24, 25, 26, 27, 28, 29, 30, 31, 32, 33, 34, 35, 36, 37, 38, 39, 64, 65, 66, 67, 68, 69, 70, 43, 71, 45, 72, 50, 51, 52, 53, 54, 73, 74, 75, 76, 7, 77, 78, 79, 80, 81, 82, 83, 84, 85, 86, 87, 88, 89, 90, 91, 92, 93, 94, 95, 96, 97, 98, 47, 48, 49, 99, 56, 57, 58, 100, 101, 102, 103, 104, 105, 106, 107, 108, 109, 110, 111] (by decide +kernel) (by decide +kernel)
set_option maxRecDepth 20000 in
theorem gX3_displacement_X3_displacementOf : GoodIn wsX3_displacement (wsV RX3 135 RX3 yX3_displacementOf wsX3_displacementOf) := goodIn_app (goodIn_of _ (by decide +kernel)) ggX3_displacement_X3_displacementOf
theorem dX3_displacement_0 : decode cX3_displacement 0 = .ok (.aload_n 0, 1) := by decide +kernel
theorem dX3_displacement_1 : decode cX3_displacement 1 = .ok (.iload_n 1, 1) := by decide +kernel
theorem dX3_displacement_2 : decode cX3_displacement 2 = .ok (.invokevirtual 92, 3) := by decide +kernel
theorem dX3_displacement_5 : decode cX3_displacement 5 = .ok (.astore_n 3, 1) := by decide +kernel
theorem dX3_displacement_6 : decode cX3_displacement 6 = .ok (.aload_n 3, 1) := by decide +kernel
theorem dX3_displacement_7 : decode cX3_displacement 7 = .ok (.ifnonnull 7, 3) := by decide +kernel
theorem dX3_displacement_10 : decode cX3_displacement 10 = .ok (.ldc2_w 96, 3) := by decide +kernel
theorem dX3_displacement_13 : decode cX3_displacement 13 = .ok (.lreturn, 1) := by decide +kernel
theorem dX3_displacement_14 : decode cX3_displacement 14 = .ok (.iload_n 2, 1) := by decide +kernel
theorem dX3_displacement_15 : decode cX3_displacement 15 = .ok (.sipush (-1000), 3) := by decide +kernel
theorem dX3_displacement_18 : decode cX3_displacement 18 = .ok (.if_icmp .lt 10, 3) := by decide +kernel
theorem dX3_displacement_21 : decode cX3_displacement 21 = .ok (.iload_n 2, 1) := by decide +kernel
theorem dX3_displacement_22 : decode cX3_displacement 22 = .ok (.sipush 1000, 3) := by decide +kernel
theorem dX3_displacement_25 : decode cX3_displacement 25 = .ok (.if_icmp .le 7, 3) := by decide +kernel
theorem dX3_displacement_28 : decode cX3_displacement 28 = .ok (.ldc2_w 47, 3) := by decide +kernel
theorem dX3_displacement_31 : decode cX3_displacement 31 = .ok (.lreturn, 1) := by decide +kernel
theorem dX3_displacement_32 : decode cX3_displacement 32 = .ok (.aload_n 0, 1) := by decide +kernel
theorem dX3_displacement_33 : decode cX3_displacement 33 = .ok (.aload_n 3, 1) := by decide +kernel
theorem dX3_displacement_34 : decode cX3_displacement 34 = .ok (.iload_n 2, 1) := by decide +kernel
theorem dX3_displacement_35 : decode cX3_displacement 35 = .ok (.i2l, 1) := by decide +kernel
theorem dX3_displacement_36 : decode cX3_displacement 36 = .ok (.invokevirtual 122, 3) := by decide +kernel
theorem dX3_displacement_39 : decode cX3_displacement 39 = .ok (.ifCond .ne 7, 3) := by decide +kernel
theorem dX3_displacement_42 : decode cX3_displacement 42 = .ok (.ldc2_w 126, 3) := by decide +kernel
theorem dX3_displacement_45 : decode cX3_displacement 45 = .ok (.lreturn, 1) := by decide +kernel
theorem dX3_displacement_46 : decode cX3_displacement 46 = .ok (.aload_n 0, 1) := by decide +kernel
theorem dX3_displacement_47 : decode cX3_displacement 47 = .ok (.aload_n 3, 1) := by decide +kernel
theorem dX3_displacement_48 : decode cX3_displacement 48 = .ok (.iload_n 2, 1) := by decide +kernel
theorem dX3_displacement_49 : decode cX3_displacement 49 = .ok (.i2l, 1) := by decide +kernel
theorem dX3_displacement_50 : decode cX3_displacement 50 = .ok (.invokevirtual 135, 3) := by decide +kernel
theorem dX3_displacement_53 : decode cX3_displacement 53 = .ok (.lreturn, 1) := by decide +kernel
set_option maxRecDepth 20000 in
theorem ggX3_netWeight_X3_surveyAt : GoodIn wsX3_netWeight wsX3_surveyAt := goodIn_r _ [7, 8, 108, 109, 110, 111, 112, 113, 114] (by decide +kernel) (by decide +kernel)
set_option maxRecDepth 20000 in
theorem gX3_netWeight_X3_surveyAt : GoodIn wsX3_netWeight (wsV RX3 92 RX3 yX3_surveyAt wsX3_surveyAt) := goodIn_app (goodIn_of _ (by decide +kernel)) ggX3_netWeight_X3_surveyAt
set_option maxRecDepth 20000 in
theorem ggX3_netWeight_X3_canCompute : GoodIn wsX3_netWeight wsX3_canCompute := goodIn_r _ [12, 13, 14, 15, 16, 17, 18, 19, 20, 21, 22, 23, 24, 25, 26, 27, 28, 29, 30, 31, 32, 33, 34, 35, 36, 37, 38, 39, 40, 41, 42, 43, 44, 45, 46, 47, 48, 49, 50, 51, 52, 53, 54, 55, 56, 57, 108, 109, 110, 111, 112, 113, 114, 115, 116, 117, 118, 119] (by decide +kernel) (by decide +kernel)
set_option maxRecDepth 20000 in
theorem gX3_netWeight_X3_canCompute : GoodIn wsX3_netWeight (wsV RX3 122 RX3 yX3_canCompute wsX3_canCompute) := goodIn_app (goodIn_of _ (by decide +kernel)) ggX3_netWeight_X3_canCompute
set_option maxRecDepth 20000 in
theorem ggX3_netWeight_X3_netWeightOf : GoodIn wsX3_netWeight wsX3_netWeightOf := goodIn_r _ [61, 62, 63, 64, 6, 65, 13, 66, 14, 15, 16, 17, 18, 19, 20, 21, 22, 23, 24, 25, 26, 27, 28, 29, 30, 31, 32, 33, 34, 35, 36, 37, 38, 67, 68, 69, 70, 71, 72, 73, 42, 74, 44, 75, 49, 50, 51, 52, 53, 76, 77, 78, 79, 80, 81, 82, 83, 84, 85, 86, 87, 88, 89, 90, 91, 92, 93, 94, 95, 96, 97, 98, 99, 100, 101, 46, 47, 48, 102, 55, 56, 57, 103, 104, 105, 106, 107, 108, 109, 110, 111, 112, 113, 114, 115, 116, 117, 118, 119] (by decide +kernel) (by decide +kernel)
set_option maxRecDepth 20000 in
theorem gX3_netWeight_X3_netWeightOf : GoodIn wsX3_netWeight (wsV RX3 139 RX3 yX3_netWeightOf wsX3_netWeightOf) := goodIn_app (goodIn_of _ (by decide +kernel)) ggX3_netWeight_X3_netWeightOf
theorem dX3_netWeight_0 : decode cX3_netWeight 0 = .ok (.aload_n 0, 1) := by decide +kernel
theorem dX3_netWeight_1 : decode cX3_netWeight 1 = .ok (.iload_n 1, 1) := by decide +kernel
theorem dX3_netWeight_2 : decode cX3_netWeight 2 = .ok (.invokevirtual 92, 3) := by decide +kernel
theorem dX3_netWeight_5 : decode cX3_netWeight 5 = .ok (.astore_n 2, 1) := by decide +kernel
theorem dX3_netWeight_6 : decode cX3_netWeight 6 = .ok (.aload_n 2, 1) := by decide +kernel
theorem dX3_netWeight_7 : decode cX3_netWeight 7 = .ok (.ifnonnull 7, 3) := by decide +kernel
theorem dX3_netWeight_10 : decode cX3_netWeight 10 = .ok (.ldc2_w 96, 3) := by decide +kernel
theorem dX3_netWeight_13 : decode cX3_netWeight 13 = .ok (.lreturn, 1) := by decide +kernel
theorem dX3_netWeight_14 : decode cX3_netWeight 14 = .ok (.aload_n 0, 1) := by decide +kernel
theorem dX3_netWeight_15 : decode cX3_netWeight 15 = .ok (.aload_n 2, 1) := by decide +kernel
theorem dX3_netWeight_16 : decode cX3_netWeight 16 = .ok (.lconst 0, 1) := by decide +kernel
theorem dX3_netWeight_17 : decode cX3_netWeight 17 = .ok (.invokevirtual 122, 3) := by decide +kernel
theorem dX3_netWeight_20 : decode cX3_netWeight 20 = .ok (.ifCond .ne 7, 3) := by decide +kernel
theorem dX3_netWeight_23 : decode cX3_netWeight 23 = .ok (.ldc2_w 126, 3) := by decide +kernel
theorem dX3_netWeight_26 : decode cX3_netWeight 26 = .ok (.lreturn, 1) := by decide +kernel
theorem dX3_netWeight_27 : decode cX3_netWeight 27 = .ok (.aload_n 0, 1) := by decide +kernel
theorem dX3_netWeight_28 : decode cX3_netWeight 28 = .ok (.aload_n 2, 1) := by decide +kernel
theorem dX3_netWeight_29 : decode cX3_netWeight 29 = .ok (.lconst 0, 1) := by decide +kernel
theorem dX3_netWeight_30 : decode cX3_netWeight 30 = .ok (.invokevirtual 139, 3) := by decide +kernel
theorem dX3_netWeight_33 : decode cX3_netWeight 33 = .ok (.lreturn, 1) := by decide +kernel
set_option maxRecDepth 20000 in
theorem ggX3_cargo_X3_surveyAt : GoodIn wsX3_cargo wsX3_surveyAt := goodIn_r _ [7, 8, 108, 109, 110, 111, 112, 113, 114] (by decide +kernel) (by decide +kernel)
set_option maxRecDepth 20000 in
theorem gX3_cargo_X3_surveyAt : GoodIn wsX3_cargo (wsV RX3 92 RX3 yX3_surveyAt wsX3_surveyAt) := goodIn_app (goodIn_of _ (by decide +kernel)) ggX3_cargo_X3_surveyAt
set_option maxRecDepth 20000 in
theorem ggX3_cargo_X3_canCompute : GoodIn wsX3_cargo wsX3_canCompute := goodIn_r _ [12, 13, 14, 15, 16, 17, 18, 19, 20, 21, 22, 23, 24, 25, 26, 27, 28, 29, 30, 31, 32, 33, 34, 35, 36, 37, 38, 39, 40, 41, 42, 43, 44, 45, 46, 47, 48, 49, 50, 51, 52, 53, 54, 55, 56, 57, 108, 109, 110, 111, 112, 113, 114, 115, 116, 117, 118, 119] (by decide +kernel) (by decide +kernel)
set_option maxRecDepth 20000 in
theorem gX3_cargo_X3_canCompute : GoodIn wsX3_cargo (wsV RX3 122 RX3 yX3_canCompute wsX3_canCompute) := goodIn_app (goodIn_of _ (by decide +kernel)) ggX3_cargo_X3_canCompute
set_option maxRecDepth 20000 in
theorem ggX3_cargo_X3_netWeightOf : GoodIn wsX3_cargo wsX3_netWeightOf := goodIn_r _ [61, 62, 63, 64, 6, 65, 13, 66, 14, 15, 16, 17, 18, 19, 20, 21, 22, 23, 24, 25, 26, 27, 28, 29, 30, 31, 32, 33, 34, 35, 36, 37, 38, 67, 68, 69, 70, 71, 72, 73, 42, 74, 44, 75, 49, 50, 51, 52, 53, 76, 77, 78, 79, 80, 81, 82, 83, 84, 85, 86, 87, 88, 89, 90, 91, 92, 93, 94, 95, 96, 97, 98, 99, 100, 101, 46, 47, 48, 102, 55, 56, 57, 103, 104, 105, 106, 107, 108, 109, 110, 111, 112, 113, 114, 115, 116, 117, 118, 119] (by decide +kernel) (by decide +kernel)
set_option maxRecDepth 20000 in
theorem gX3_cargo_X3_netWeightOf : GoodIn wsX3_cargo (wsV RX3 139 RX3 yX3_netWeightOf wsX3_netWeightOf) := goodIn_app (goodIn_of _ (by decide +kernel)) ggX3_cargo_X3_netWeightOf
theorem dX3_cargo_0 : decode cX3_cargo 0 = .ok (.aload_n 0, 1) := by decide +kernel
theorem dX3_cargo_1 : decode cX3_cargo 1 = .ok (.iload_n 1, 1) := by decide +kernel
theorem dX3_cargo_2 : decode cX3_cargo 2 = .ok (.invokevirtual 92, 3) := by decide +kernel
theorem dX3_cargo_5 : decode cX3_cargo 5 = .ok (.astore_n 3, 1) := by decide +kernel
theorem dX3_cargo_6 : decode cX3_cargo 6 = .ok (.aload_n 0, 1) := by decide +kernel
theorem dX3_cargo_7 : decode cX3_cargo 7 = .ok (.iload_n 2, 1) := by decide +kernel
theorem dX3_cargo_8 : decode cX3_cargo 8 = .ok (.invokevirtual 92, 3) := by decide +kernel
theorem dX3_cargo_11 : decode cX3_cargo 11 = .ok (.astore 4, 2) := by decide +kernel
theorem dX3_cargo_13 : decode cX3_cargo 13 = .ok (.aload_n 3, 1) := by decide +kernel
theorem dX3_cargo_14 : decode cX3_cargo 14 = .ok (.ifnull 8, 3) := by decide +kernel
theorem dX3_cargo_17 : decode cX3_cargo 17 = .ok (.aload 4, 2) := by decide +kernel
theorem dX3_cargo_19 : decode cX3_cargo 19 = .ok (.ifnonnull 7, 3) := by decide +kernel
theorem dX3_cargo_22 : decode cX3_cargo 22 = .ok (.ldc2_w 96, 3) := by decide +kernel
theorem dX3_cargo_25 : decode cX3_cargo 25 = .ok (.lreturn, 1) := by decide +kernel
theorem dX3_cargo_26 : decode cX3_cargo 26 = .ok (.aload_n 0, 1) := by decide +kernel
theorem dX3_cargo_27 : decode cX3_cargo 27 = .ok (.aload_n 3, 1) := by decide +kernel
theorem dX3_cargo_28 : decode cX3_cargo 28 = .ok (.lconst 0, 1) := by decide +kernel
theorem dX3_cargo_29 : decode cX3_cargo 29 = .ok (.invokevirtual 122, 3) := by decide +kernel
theorem dX3_cargo_32 : decode cX3_cargo 32 = .ok (.ifCond .eq 13, 3) := by decide +kernel
theorem dX3_cargo_35 : decode cX3_cargo 35 = .ok (.aload_n 0, 1) := by decide +kernel
theorem dX3_cargo_36 : decode cX3_cargo 36 = .ok (.aload 4, 2) := by decide +kernel
theorem dX3_cargo_38 : decode cX3_cargo 38 = .ok (.lconst 0, 1) := by decide +kernel
theorem dX3_cargo_39 : decode cX3_cargo 39 = .ok (.invokevirtual 122, 3) := by decide +kernel
theorem dX3_cargo_42 : decode cX3_cargo 42 = .ok (.ifCond .ne 7, 3) := by decide +kernel
theorem dX3_cargo_45 : decode cX3_cargo 45 = .ok (.ldc2_w 126, 3) := by decide +kernel
theorem dX3_cargo_48 : decode cX3_cargo 48 = .ok (.lreturn, 1) := by decide +kernel
theorem dX3_cargo_49 : decode cX3_cargo 49 = .ok (.aload_n 0, 1) := by decide +kernel
theorem dX3_cargo_50 : decode cX3_cargo 50 = .ok (.aload 4, 2) := by decide +kernel
theorem dX3_cargo_52 : decode cX3_cargo 52 = .ok (.lconst 0, 1) := by decide +kernel
theorem dX3_cargo_53 : decode cX3_cargo 53 = .ok (.invokevirtual 139, 3) := by decide +kernel
theorem dX3_cargo_56 : decode cX3_cargo 56 = .ok (.aload_n 0, 1) := by decide +kernel
theorem dX3_cargo_57 : decode cX3_cargo 57 = .ok (.aload_n 3, 1) := by decide +kernel
theorem dX3_cargo_58 : decode cX3_cargo 58 = .ok (.lconst 0, 1) := by decide +kernel
theorem dX3_cargo_59 : decode cX3_cargo 59 = .ok (.invokevirtual 139, 3) := by decide +kernel
theorem dX3_cargo_62 : decode cX3_cargo 62 = .ok (.lsub, 1) := by decide +kernel
theorem dX3_cargo_63 : decode cX3_cargo 63 = .ok (.lreturn, 1) := by decide +kernel
set_option maxRecDepth 20000 in
theorem ggX3_cargoLow_X3_surveyAt : GoodIn wsX3_cargoLow wsX3_surveyAt := goodIn_r _ [7, 8, 121, 122, 123, 124, 125, 126, 127] (by decide +kernel) (by decide +kernel)
set_option maxRecDepth 20000 in
theorem gX3_cargoLow_X3_surveyAt : GoodIn wsX3_cargoLow (wsV RX3 92 RX3 yX3_surveyAt wsX3_surveyAt) := goodIn_app (goodIn_of _ (by decide +kernel)) ggX3_cargoLow_X3_surveyAt
set_option maxRecDepth 20000 in
theorem ggX3_cargoLow_X3_canComputeMargins : GoodIn wsX3_cargoLow wsX3_canComputeMargins := goodIn_r _ [12, 13, 14, 15, 16, 6, 17, 18, 19, 20, 21, 22, 23, 24, 25, 26, 27, 28, 29, 30, 31, 32, 33, 34, 35, 36, 37, 38, 39, 40, 41, 42, 43, 44, 45, 46, 47, 48, 49, 50, 51, 52, 53, 54, 55, 56, 57, 58, 59, 60, 61, 62, 121, 122, 123, 124, 125, 126, 127, 128, 129, 130, 131, 132] (by decide +kernel) (by decide +kernel)
set_option maxRecDepth 20000 in
theorem gX3_cargoLow_X3_canComputeMargins : GoodIn wsX3_cargoLow (wsV RX3 142 RX3 yX3_canComputeMargins wsX3_canComputeMargins) := goodIn_app (goodIn_of _ (by decide +kernel)) ggX3_cargoLow_X3_canComputeMargins
set_option maxRecDepth 20000 in
theorem ggX3_cargoLow_X3_lightWeight : GoodIn wsX3_cargoLow wsX3_lightWeight := goodIn_r _ [66, 13, 67, 68, 69, 70, 71, 72, 73, 6, 74, 75, 76, 77, 78, 18, 79, 19, 20, 21, 22, 23, 24, 25, 26, 27, 28, 29, 30, 31, 32, 33, 34, 35, 36, 37, 38, 39, 40, 41, 42, 43, 80, 81, 82, 83, 84, 85, 86, 47, 87, 49, 88, 54, 55, 56, 57, 58, 89, 90, 91, 92, 93, 94, 95, 96, 97, 98, 99, 100, 101, 102, 103, 104, 105, 106, 107, 108, 109, 110, 51, 52, 53, 111, 60, 61, 62, 112, 113, 114, 115, 116, 121, 122, 123, 124, 125, 126, 127, 128, 129, 130, 131, 132] (by decide +kernel) (by decide +kernel)
set_option maxRecDepth 20000 in
theorem gX3_cargoLow_X3_lightWeight : GoodIn wsX3_cargoLow (wsV RX3 146 RX3 yX3_lightWeight wsX3_lightWeight) := goodIn_app (goodIn_of _ (by decide +kernel)) ggX3_cargoLow_X3_lightWeight
set_option maxRecDepth 20000 in
theorem ggX3_cargoLow_X3_heavyWeight : GoodIn wsX3_cargoLow wsX3_heavyWeight := goodIn_r _ [120, 13, 105, 106, 69, 107, 71, 72, 73, 6, 74, 75, 76, 77, 78, 18, 79, 19, 20, 21, 22, 23, 24, 25, 26, 27, 28, 29, 30, 31, 32, 33, 34, 35, 36, 37, 38, 39, 40, 41, 42, 43, 80, 81, 82, 83, 84, 85, 86, 47, 87, 49, 88, 54, 55, 56, 57, 58, 89, 90, 91, 92, 93, 94, 95, 96, 97, 98, 99, 100, 101, 102, 103, 104, 67, 68, 70, 108, 109, 110, 51, 52, 53, 111, 60, 61, 62, 112, 113, 114, 115, 116, 121, 122, 123, 124, 125, 126, 127, 128, 129, 130, 131, 132] (by decide +kernel) (by decide +kernel)
set_option maxRecDepth 20000 in
theorem gX3_cargoLow_X3_heavyWeight : GoodIn wsX3_cargoLow (wsV RX3 150 RX3 yX3_heavyWeight wsX3_heavyWeight) := goodIn_app (goodIn_of _ (by decide +kernel)) ggX3_cargoLow_X3_heavyWeight
theorem dX3_cargoLow_0 : decode cX3_cargoLow 0 = .ok (.aload_n 0, 1) := by decide +kernel
theorem dX3_cargoLow_1 : decode cX3_cargoLow 1 = .ok (.iload_n 1, 1) := by decide +kernel
theorem dX3_cargoLow_2 : decode cX3_cargoLow 2 = .ok (.invokevirtual 92, 3) := by decide +kernel
theorem dX3_cargoLow_5 : decode cX3_cargoLow 5 = .ok (.astore_n 3, 1) := by decide +kernel
theorem dX3_cargoLow_6 : decode cX3_cargoLow 6 = .ok (.aload_n 0, 1) := by decide +kernel
theorem dX3_cargoLow_7 : decode cX3_cargoLow 7 = .ok (.iload_n 2, 1) := by decide +kernel
theorem dX3_cargoLow_8 : decode cX3_cargoLow 8 = .ok (.invokevirtual 92, 3) := by decide +kernel
theorem dX3_cargoLow_11 : decode cX3_cargoLow 11 = .ok (.astore 4, 2) := by decide +kernel
theorem dX3_cargoLow_13 : decode cX3_cargoLow 13 = .ok (.aload_n 3, 1) := by decide +kernel
theorem dX3_cargoLow_14 : decode cX3_cargoLow 14 = .ok (.ifnull 8, 3) := by decide +kernel
theorem dX3_cargoLow_17 : decode cX3_cargoLow 17 = .ok (.aload 4, 2) := by decide +kernel
theorem dX3_cargoLow_19 : decode cX3_cargoLow 19 = .ok (.ifnonnull 7, 3) := by decide +kernel
theorem dX3_cargoLow_22 : decode cX3_cargoLow 22 = .ok (.ldc2_w 96, 3) := by decide +kernel
theorem dX3_cargoLow_25 : decode cX3_cargoLow 25 = .ok (.lreturn, 1) := by decide +kernel
theorem dX3_cargoLow_26 : decode cX3_cargoLow 26 = .ok (.aload_n 0, 1) := by decide +kernel
theorem dX3_cargoLow_27 : decode cX3_cargoLow 27 = .ok (.aload_n 3, 1) := by decide +kernel
theorem dX3_cargoLow_28 : decode cX3_cargoLow 28 = .ok (.invokevirtual 142, 3) := by decide +kernel
theorem dX3_cargoLow_31 : decode cX3_cargoLow 31 = .ok (.ifCond .eq 12, 3) := by decide +kernel
theorem dX3_cargoLow_34 : decode cX3_cargoLow 34 = .ok (.aload_n 0, 1) := by decide +kernel
theorem dX3_cargoLow_35 : decode cX3_cargoLow 35 = .ok (.aload 4, 2) := by decide +kernel
theorem dX3_cargoLow_37 : decode cX3_cargoLow 37 = .ok (.invokevirtual 142, 3) := by decide +kernel
theorem dX3_cargoLow_40 : decode cX3_cargoLow 40 = .ok (.ifCond .ne 7, 3) := by decide +kernel
theorem dX3_cargoLow_43 : decode cX3_cargoLow 43 = .ok (.ldc2_w 126, 3) := by decide +kernel
theorem dX3_cargoLow_46 : decode cX3_cargoLow 46 = .ok (.lreturn, 1) := by decide +kernel
theorem dX3_cargoLow_47 : decode cX3_cargoLow 47 = .ok (.aload_n 0, 1) := by decide +kernel
theorem dX3_cargoLow_48 : decode cX3_cargoLow 48 = .ok (.aload 4, 2) := by decide +kernel
theorem dX3_cargoLow_50 : decode cX3_cargoLow 50 = .ok (.invokevirtual 146, 3) := by decide +kernel
theorem dX3_cargoLow_53 : decode cX3_cargoLow 53 = .ok (.aload_n 0, 1) := by decide +kernel
theorem dX3_cargoLow_54 : decode cX3_cargoLow 54 = .ok (.aload_n 3, 1) := by decide +kernel
theorem dX3_cargoLow_55 : decode cX3_cargoLow 55 = .ok (.invokevirtual 150, 3) := by decide +kernel
theorem dX3_cargoLow_58 : decode cX3_cargoLow 58 = .ok (.lsub, 1) := by decide +kernel
theorem dX3_cargoLow_59 : decode cX3_cargoLow 59 = .ok (.lreturn, 1) := by decide +kernel
set_option maxRecDepth 20000 in
theorem ggX3_cargoHigh_X3_surveyAt : GoodIn wsX3_cargoHigh wsX3_surveyAt := goodIn_r _ [7, 8, 121, 122, 123, 124, 125, 126, 127] (by decide +kernel) (by decide +kernel)
set_option maxRecDepth 20000 in
theorem gX3_cargoHigh_X3_surveyAt : GoodIn wsX3_cargoHigh (wsV RX3 92 RX3 yX3_surveyAt wsX3_surveyAt) := goodIn_app (goodIn_of _ (by decide +kernel)) ggX3_cargoHigh_X3_surveyAt
set_option maxRecDepth 20000 in
theorem ggX3_cargoHigh_X3_canComputeMargins : GoodIn wsX3_cargoHigh wsX3_canComputeMargins := goodIn_r _ [12, 13, 14, 15, 16, 6, 17, 18, 19, 20, 21, 22, 23, 24, 25, 26, 27, 28, 29, 30, 31, 32, 33, 34, 35, 36, 37, 38, 39, 40, 41, 42, 43, 44, 45, 46, 47, 48, 49, 50, 51, 52, 53, 54, 55, 56, 57, 58, 59, 60, 61, 62, 121, 122, 123, 124, 125, 126, 127, 128, 129, 130, 131, 132] (by decide +kernel) (by decide +kernel)
set_option maxRecDepth 20000 in
theorem gX3_cargoHigh_X3_canComputeMargins : GoodIn wsX3_cargoHigh (wsV RX3 142 RX3 yX3_canComputeMargins wsX3_canComputeMargins) := goodIn_app (goodIn_of _ (by decide +kernel)) ggX3_cargoHigh_X3_canComputeMargins
set_option maxRecDepth 20000 in
theorem ggX3_cargoHigh_X3_heavyWeight : GoodIn wsX3_cargoHigh wsX3_heavyWeight := goodIn_r _ [66, 13, 67, 68, 69, 70, 71, 72, 73, 6, 74, 75, 76, 77, 78, 18, 79, 19, 20, 21, 22, 23, 24, 25, 26, 27, 28, 29, 30, 31, 32, 33, 34, 35, 36, 37, 38, 39, 40, 41, 42, 43, 80, 81, 82, 83, 84, 85, 86, 47, 87, 49, 88, 54, 55, 56, 57, 58, 89, 90, 91, 92, 93, 94, 95, 96, 97, 98, 99, 100, 101, 102, 103, 104, 105, 106, 107, 108, 109, 110, 51, 52, 53, 111, 60, 61, 62, 112, 113, 114, 115, 116, 121, 122, 123, 124, 125, 126, 127, 128, 129, 130, 131, 132] (by decide +kernel) (by decide +kernel)
set_option maxRecDepth 20000 in
theorem gX3_cargoHigh_X3_heavyWeight : GoodIn wsX3_cargoHigh (wsV RX3 150 RX3 yX3_heavyWeight wsX3_heavyWeight) := goodIn_app (goodIn_of _ (by decide +kernel)) ggX3_cargoHigh_X3_heavyWeight
set_option maxRecDepth 20000 in
theorem ggX3_cargoHigh_X3_lightWeight : GoodIn wsX3_cargoHigh wsX3_lightWeight := goodIn_r _ [120, 13, 105, 106, 69, 107, 71, 72, 73, 6, 74, 75, 76, 77, 78, 18, 79, 19, 20, 21, 22, 23, 24, 25, 26, 27, 28, 29, 30, 31, 32, 33, 34, 35, 36, 37, 38, 39, 40, 41, 42, 43, 80, 81, 82, 83, 84, 85, 86, 47, 87, 49, 88, 54, 55, 56, 57, 58, 89, 90, 91, 92, 93, 94, 95, 96, 97, 98, 99, 100, 101, 102, 103, 104, 67, 68, 70, 108, 109, 110, 51, 52, 53, 111, 60, 61, 62, 112, 113, 114, 115, 116, 121, 122, 123, 124, 125, 126, 127, 128, 129, 130, 131, 132] (by decide +kernel) (by decide +kernel)
set_option maxRecDepth 20000 in
theorem gX3_cargoHigh_X3_lightWeight : GoodIn wsX3_cargoHigh (wsV RX3 146 RX3 yX3_lightWeight wsX3_lightWeight) := goodIn_app (goodIn_of _ (by decide +kernel)) ggX3_cargoHigh_X3_lightWeight
theorem dX3_cargoHigh_0 : decode cX3_cargoHigh 0 = .ok (.aload_n 0, 1) := by decide +kernel
theorem dX3_cargoHigh_1 : decode cX3_cargoHigh 1 = .ok (.iload_n 1, 1) := by decide +kernel
theorem dX3_cargoHigh_2 : decode cX3_cargoHigh 2 = .ok (.invokevirtual 92, 3) := by decide +kernel
theorem dX3_cargoHigh_5 : decode cX3_cargoHigh 5 = .ok (.astore_n 3, 1) := by decide +kernel
theorem dX3_cargoHigh_6 : decode cX3_cargoHigh 6 = .ok (.aload_n 0, 1) := by decide +kernel
theorem dX3_cargoHigh_7 : decode cX3_cargoHigh 7 = .ok (.iload_n 2, 1) := by decide +kernel
theorem dX3_cargoHigh_8 : decode cX3_cargoHigh 8 = .ok (.invokevirtual 92, 3) := by decide +kernel
theorem dX3_cargoHigh_11 : decode cX3_cargoHigh 11 = .ok (.astore 4, 2) := by decide +kernel
theorem dX3_cargoHigh_13 : decode cX3_cargoHigh 13 = .ok (.aload_n 3, 1) := by decide +kernel
theorem dX3_cargoHigh_14 : decode cX3_cargoHigh 14 = .ok (.ifnull 8, 3) := by decide +kernel
theorem dX3_cargoHigh_17 : decode cX3_cargoHigh 17 = .ok (.aload 4, 2) := by decide +kernel
theorem dX3_cargoHigh_19 : decode cX3_cargoHigh 19 = .ok (.ifnonnull 7, 3) := by decide +kernel
theorem dX3_cargoHigh_22 : decode cX3_cargoHigh 22 = .ok (.ldc2_w 96, 3) := by decide +kernel
theorem dX3_cargoHigh_25 : decode cX3_cargoHigh 25 = .ok (.lreturn, 1) := by decide +kernel
theorem dX3_cargoHigh_26 : decode cX3_cargoHigh 26 = .ok (.aload_n 0, 1) := by decide +kernel
theorem dX3_cargoHigh_27 : decode cX3_cargoHigh 27 = .ok (.aload_n 3, 1) := by decide +kernel
theorem dX3_cargoHigh_28 : decode cX3_cargoHigh 28 = .ok (.invokevirtual 142, 3) := by decide +kernel
theorem dX3_cargoHigh_31 : decode cX3_cargoHigh 31 = .ok (.ifCond .eq 12, 3) := by decide +kernel
theorem dX3_cargoHigh_34 : decode cX3_cargoHigh 34 = .ok (.aload_n 0, 1) := by decide +kernel
theorem dX3_cargoHigh_35 : decode cX3_cargoHigh 35 = .ok (.aload 4, 2) := by decide +kernel
theorem dX3_cargoHigh_37 : decode cX3_cargoHigh 37 = .ok (.invokevirtual 142, 3) := by decide +kernel
theorem dX3_cargoHigh_40 : decode cX3_cargoHigh 40 = .ok (.ifCond .ne 7, 3) := by decide +kernel
theorem dX3_cargoHigh_43 : decode cX3_cargoHigh 43 = .ok (.ldc2_w 126, 3) := by decide +kernel
theorem dX3_cargoHigh_46 : decode cX3_cargoHigh 46 = .ok (.lreturn, 1) := by decide +kernel
theorem dX3_cargoHigh_47 : decode cX3_cargoHigh 47 = .ok (.aload_n 0, 1) := by decide +kernel
theorem dX3_cargoHigh_48 : decode cX3_cargoHigh 48 = .ok (.aload 4, 2) := by decide +kernel
theorem dX3_cargoHigh_50 : decode cX3_cargoHigh 50 = .ok (.invokevirtual 150, 3) := by decide +kernel
theorem dX3_cargoHigh_53 : decode cX3_cargoHigh 53 = .ok (.aload_n 0, 1) := by decide +kernel
theorem dX3_cargoHigh_54 : decode cX3_cargoHigh 54 = .ok (.aload_n 3, 1) := by decide +kernel
theorem dX3_cargoHigh_55 : decode cX3_cargoHigh 55 = .ok (.invokevirtual 146, 3) := by decide +kernel
theorem dX3_cargoHigh_58 : decode cX3_cargoHigh 58 = .ok (.lsub, 1) := by decide +kernel
theorem dX3_cargoHigh_59 : decode cX3_cargoHigh 59 = .ok (.lreturn, 1) := by decide +kernel
set_option maxRecDepth 20000 in
theorem ggX3_draftFor_X2_leastDraftFor : GoodIn wsX3_draftFor wsX2_leastDraftFor := goodIn_r _ [6, 7, 8, 9, 10, 11, 5, 12, 13, 14, 15, 16, 17, 18, 19, 20, 21, 22, 23, 24, 32, 33] (by decide +kernel) (by decide +kernel)
set_option maxRecDepth 20000 in
theorem gX3_draftFor_X2_leastDraftFor : GoodIn wsX3_draftFor (wsV RX3 153 RX2 yX2_leastDraftFor wsX2_leastDraftFor) := goodIn_app (goodIn_of _ (by decide +kernel)) ggX3_draftFor_X2_leastDraftFor
theorem dX3_draftFor_0 : decode cX3_draftFor 0 = .ok (.aload_n 0, 1) := by decide +kernel
theorem dX3_draftFor_1 : decode cX3_draftFor 1 = .ok (.getfield 27, 3) := by decide +kernel
theorem dX3_draftFor_4 : decode cX3_draftFor 4 = .ok (.iload_n 1, 1) := by decide +kernel
theorem dX3_draftFor_5 : decode cX3_draftFor 5 = .ok (.i2l, 1) := by decide +kernel
theorem dX3_draftFor_6 : decode cX3_draftFor 6 = .ok (.invokevirtual 153, 3) := by decide +kernel
theorem dX3_draftFor_9 : decode cX3_draftFor 9 = .ok (.lreturn, 1) := by decide +kernel
set_option maxRecDepth 20000 in
theorem ggX3_heaviest_X3_surveyAt : GoodIn wsX3_heaviest wsX3_surveyAt := goodIn_r _ [6, 7, 107, 108, 109, 110, 111, 112, 113] (by decide +kernel) (by decide +kernel)
set_option maxRecDepth 20000 in
theorem gX3_heaviest_X3_surveyAt : GoodIn wsX3_heaviest (wsV RX3 92 RX3 yX3_surveyAt wsX3_surveyAt) := goodIn_app (goodIn_of _ (by decide +kernel)) ggX3_heaviest_X3_surveyAt
set_option maxRecDepth 20000 in
theorem ggX3_heaviest_X3_canCompute : GoodIn wsX3_heaviest wsX3_canCompute := goodIn_r _ [11, 12, 13, 14, 15, 16, 17, 18, 19, 20, 21, 22, 23, 24, 25, 26, 27, 28, 29, 30, 31, 32, 33, 34, 35, 36, 37, 38, 39, 40, 41, 42, 43, 44, 45, 46, 47, 48, 49, 50, 51, 52, 53, 54, 55, 56, 107, 108, 109, 110, 111, 112, 113, 114, 115, 116, 117, 118] (by decide +kernel) (by decide +kernel)
set_option maxRecDepth 20000 in
theorem gX3_heaviest_X3_canCompute : GoodIn wsX3_heaviest (wsV RX3 122 RX3 yX3_canCompute wsX3_canCompute) := goodIn_app (goodIn_of _ (by decide +kernel)) ggX3_heaviest_X3_canCompute
set_option maxRecDepth 20000 in
theorem ggX3_heaviest_X3_netWeightOf : GoodIn wsX3_heaviest wsX3_netWeightOf := goodIn_r _ [60, 61, 62, 63, 5, 64, 12, 65, 13, 14, 15, 16, 17, 18, 19, 20, 21, 22, 23, 24, 25, 26, 27, 28, 29, 30, 31, 32, 33, 34, 35, 36, 37, 66, 67, 68, 69, 70, 71, 72, 41, 73, 43, 74, 48, 49, 50, 51, 52, 75, 76, 77, 78, 79, 80, 81, 82, 83, 84, 85, 86, 87, 88, 89, 90, 91, 92, 93, 94, 95, 96, 97, 98, 99, 100, 45, 46, 47, 101, 54, 55, 56, 102, 103, 104, 105, 106, 107, 108, 109, 110, 111, 112, 113, 114, 115, 116, 117, 118] (by decide +kernel) (by decide +kernel)
set_option maxRecDepth 20000 in
theorem gX3_heaviest_X3_netWeightOf : GoodIn wsX3_heaviest (wsV RX3 139 RX3 yX3_netWeightOf wsX3_netWeightOf) := goodIn_app (goodIn_of _ (by decide +kernel)) ggX3_heaviest_X3_netWeightOf
theorem dX3_heaviest_0 : decode cX3_heaviest 0 = .ok (.ldc2_w 126, 3) := by decide +kernel
theorem dX3_heaviest_3 : decode cX3_heaviest 3 = .ok (.lstore_n 1, 1) := by decide +kernel
theorem dX3_heaviest_4 : decode cX3_heaviest 4 = .ok (.lconst 0, 1) := by decide +kernel
theorem dX3_heaviest_5 : decode cX3_heaviest 5 = .ok (.lstore_n 3, 1) := by decide +kernel
theorem dX3_heaviest_6 : decode cX3_heaviest 6 = .ok (.iconst 0, 1) := by decide +kernel
theorem dX3_heaviest_7 : decode cX3_heaviest 7 = .ok (.istore 5, 2) := by decide +kernel
theorem dX3_heaviest_9 : decode cX3_heaviest 9 = .ok (.iload 5, 2) := by decide +kernel
theorem dX3_heaviest_11 : decode cX3_heaviest 11 = .ok (.iconst 4, 1) := by decide +kernel
theorem dX3_heaviest_12 : decode cX3_heaviest 12 = .ok (.if_icmp .ge 63, 3) := by decide +kernel
theorem dX3_heaviest_15 : decode cX3_heaviest 15 = .ok (.aload_n 0, 1) := by decide +kernel
theorem dX3_heaviest_16 : decode cX3_heaviest 16 = .ok (.iload 5, 2) := by decide +kernel
theorem dX3_heaviest_18 : decode cX3_heaviest 18 = .ok (.invokevirtual 92, 3) := by decide +kernel
theorem dX3_heaviest_21 : decode cX3_heaviest 21 = .ok (.astore 6, 2) := by decide +kernel
theorem dX3_heaviest_23 : decode cX3_heaviest 23 = .ok (.aload 6, 2) := by decide +kernel
theorem dX3_heaviest_25 : decode cX3_heaviest 25 = .ok (.ifnull 44, 3) := by decide +kernel
theorem dX3_heaviest_28 : decode cX3_heaviest 28 = .ok (.aload_n 0, 1) := by decide +kernel
theorem dX3_heaviest_29 : decode cX3_heaviest 29 = .ok (.aload 6, 2) := by decide +kernel
theorem dX3_heaviest_31 : decode cX3_heaviest 31 = .ok (.lconst 0, 1) := by decide +kernel
theorem dX3_heaviest_32 : decode cX3_heaviest 32 = .ok (.invokevirtual 122, 3) := by decide +kernel
theorem dX3_heaviest_35 : decode cX3_heaviest 35 = .ok (.ifCond .eq 34, 3) := by decide +kernel
theorem dX3_heaviest_38 : decode cX3_heaviest 38 = .ok (.aload_n 0, 1) := by decide +kernel
theorem dX3_heaviest_39 : decode cX3_heaviest 39 = .ok (.aload 6, 2) := by decide +kernel
theorem dX3_heaviest_41 : decode cX3_heaviest 41 = .ok (.lconst 0, 1) := by decide +kernel
theorem dX3_heaviest_42 : decode cX3_heaviest 42 = .ok (.invokevirtual 139, 3) := by decide +kernel
theorem dX3_heaviest_45 : decode cX3_heaviest 45 = .ok (.lstore 7, 2) := by decide +kernel
theorem dX3_heaviest_47 : decode cX3_heaviest 47 = .ok (.lload_n 1, 1) := by decide +kernel
theorem dX3_heaviest_48 : decode cX3_heaviest 48 = .ok (.ldc2_w 126, 3) := by decide +kernel
theorem dX3_heaviest_51 : decode cX3_heaviest 51 = .ok (.lcmp, 1) := by decide +kernel
theorem dX3_heaviest_52 : decode cX3_heaviest 52 = .ok (.ifCond .eq 10, 3) := by decide +kernel
theorem dX3_heaviest_55 : decode cX3_heaviest 55 = .ok (.lload 7, 2) := by decide +kernel
theorem dX3_heaviest_57 : decode cX3_heaviest 57 = .ok (.lload_n 3, 1) := by decide +kernel
theorem dX3_heaviest_58 : decode cX3_heaviest 58 = .ok (.lcmp, 1) := by decide +kernel
theorem dX3_heaviest_59 : decode cX3_heaviest 59 = .ok (.ifCond .le 10, 3) := by decide +kernel
theorem dX3_heaviest_62 : decode cX3_heaviest 62 = .ok (.iload 5, 2) := by decide +kernel
theorem dX3_heaviest_64 : decode cX3_heaviest 64 = .ok (.i2l, 1) := by decide +kernel
theorem dX3_heaviest_65 : decode cX3_heaviest 65 = .ok (.lstore_n 1, 1) := by decide +kernel
theorem dX3_heaviest_66 : decode cX3_heaviest 66 = .ok (.lload 7, 2) := by decide +kernel
theorem dX3_heaviest_68 : decode cX3_heaviest 68 = .ok (.lstore_n 3, 1) := by decide +kernel
theorem dX3_heaviest_69 : decode cX3_heaviest 69 = .ok (.iinc 5 1, 3) := by decide +kernel
theorem dX3_heaviest_72 : decode cX3_heaviest 72 = .ok (.goto (-63), 3) := by decide +kernel
theorem dX3_heaviest_75 : decode cX3_heaviest 75 = .ok (.lload_n 1, 1) := by decide +kernel
theorem dX3_heaviest_76 : decode cX3_heaviest 76 = .ok (.lreturn, 1) := by decide +kernel
theorem dX3_rowCount_0 : decode cX3_rowCount 0 = .ok (.aload_n 0, 1) := by decide +kernel
theorem dX3_rowCount_1 : decode cX3_rowCount 1 = .ok (.getfield 27, 3) := by decide +kernel
theorem dX3_rowCount_4 : decode cX3_rowCount 4 = .ok (.getfield 78, 3) := by decide +kernel
theorem dX3_rowCount_7 : decode cX3_rowCount 7 = .ok (.i2l, 1) := by decide +kernel
theorem dX3_rowCount_8 : decode cX3_rowCount 8 = .ok (.lreturn, 1) := by decide +kernel
set_option maxRecDepth 20000 in
theorem ggX3_digest_X3_hashOfTable : GoodIn wsX3_digest wsX3_hashOfTable := goodIn_r _ [8, 9, 10, 11, 7, 12, 13, 14, 15, 16, 17, 18, 19, 20, 203, 204, 205, 206, 207, 208, 209, 210, 211] (by decide +kernel) (by decide +kernel)
set_option maxRecDepth 20000 in
theorem gX3_digest_X3_hashOfTable : GoodIn wsX3_digest (wsV RX3 159 RX3 yX3_hashOfTable wsX3_hashOfTable) := goodIn_app (goodIn_of _ (by decide +kernel)) ggX3_digest_X3_hashOfTable
set_option maxRecDepth 20000 in
theorem ggX3_digest_X3_hashOfSurvey : GoodIn wsX3_digest wsX3_hashOfSurvey := goodIn_r _ [24, 25, 26, 27, 7, 28, 29, 30, 31, 32, 33, 34, 35, 10, 11, 12, 13, 36, 37, 38, 39, 40, 41, 42, 43, 44, 45, 46, 47, 48, 49, 50, 51, 52, 53, 54, 55, 56, 57, 58, 59, 60, 61, 62, 63, 64, 65, 66, 67, 68, 69, 70, 71, 72, 73, 74, 75, 76, 77, 78, 79, 80, 81, 82, 83, 84, 85, 86, 87, 88, 89, 90, 91, 92, 93, 94, 95, 96, 97, 9, 98, 99, 100, 17, 101, 19, 102, 103, 104, 105, 106, 15, 16, 18, 20, 107, 108, 109, 110, 111, 112, 113, 114, 115, 2, 116, 117, 118, 119, 120, 121, 122, 123, 124, 125, 126, 127, 128, 129, 130, 131, 132, 133, 134, 135, 136, 137, 138, 139, 140, 141, 142, 143, 144, 145, 146, 147, 148, 149, 150, 151, 152, 153, 154, 155, 156, 157, 158, 159, 160, 161, 162, 163, 164, 165, 166, 167, 168, 212, 213, 214, 203, 204, 205, 206, 207, 208, 209, 210, 211] (by decide +kernel) (by decide +kernel)
set_option maxRecDepth 20000 in
theorem gX3_digest_X3_hashOfSurvey : GoodIn wsX3_digest (wsV RX3 162 RX3 yX3_hashOfSurvey wsX3_hashOfSurvey) := goodIn_app (goodIn_of _ (by decide +kernel)) ggX3_digest_X3_hashOfSurvey
set_option maxRecDepth 20000 in
theorem ggX3_digest_X3_cargo : GoodIn wsX3_digest wsX3_cargo := goodIn_r _ [172, 29, 93, 31, 32, 33, 7, 34, 35, 94, 95, 96, 97, 9, 83, 84, 85, 43, 86, 87, 88, 55, 56, 57, 58, 49, 50, 51, 52, 53, 54, 67, 68, 69, 70, 45, 46, 47, 48, 98, 99, 100, 17, 101, 19, 102, 103, 104, 105, 106, 15, 16, 18, 20, 107, 108, 109, 110, 160, 161, 162, 163, 151, 152, 153, 154, 155, 40, 41, 42, 44, 116, 117, 118, 119, 120, 121, 111, 112, 113, 114, 115, 2, 122, 123, 124, 125, 130, 131, 132, 133, 134, 135, 136, 137, 138, 139, 140, 141, 142, 143, 144, 145, 164, 165, 166, 167, 168, 203, 204, 205, 206, 207, 208, 209, 212, 213, 214, 210, 211] (by decide +kernel) (by decide +kernel)
set_option maxRecDepth 20000 in
theorem gX3_digest_X3_cargo : GoodIn wsX3_digest (wsV RX3 166 RX3 yX3_cargo wsX3_cargo) := goodIn_app (goodIn_of _ (by decide +kernel)) ggX3_digest_X3_cargo
set_option maxRecDepth 20000 in
theorem ggX3_digest_X3_hashWith : GoodIn wsX3_digest wsX3_hashWith := goodIn_r _ [12, 13] (by decide +kernel) (by decide +kernel)
set_option maxRecDepth 20000 in
theorem gX3_digest_X3_hashWith : GoodIn wsX3_digest (va_wsS RX3 169 yX3_hashWith wsX3_hashWith) := goodIn_app (goodIn_of _ (by decide +kernel)) ggX3_digest_X3_hashWith
set_option maxRecDepth 20000 in
theorem ggX3_digest_X3_cargoLow : GoodIn wsX3_digest wsX3_cargoLow := goodIn_r _ [176, 29, 93, 31, 32, 33, 7, 34, 35, 177, 178, 179, 180, 3, 94, 95, 96, 97, 9, 83, 84, 85, 43, 86, 87, 88, 55, 56, 57, 58, 49, 50, 51, 52, 53, 54, 67, 68, 69, 70, 45, 46, 47, 48, 98, 99, 100, 17, 101, 19, 102, 103, 104, 105, 106, 15, 16, 18, 20, 107, 108, 109, 110, 181, 182, 183, 184, 139, 140, 137, 141, 160, 161, 162, 163, 151, 152, 153, 154, 155, 40, 41, 42, 44, 116, 117, 118, 119, 120, 121, 111, 112, 113, 114, 115, 2, 122, 123, 124, 125, 130, 131, 132, 133, 134, 135, 136, 138, 142, 143, 144, 145, 164, 165, 166, 167, 168, 185, 186, 187, 188, 203, 204, 205, 206, 207, 208, 209, 212, 213, 214, 210, 211] (by decide +kernel) (by decide +kernel)
set_option maxRecDepth 20000 in
theorem gX3_digest_X3_cargoLow : GoodIn wsX3_digest (wsV RX3 172 RX3 yX3_cargoLow wsX3_cargoLow) := goodIn_app (goodIn_of _ (by decide +kernel)) ggX3_digest_X3_cargoLow
set_option maxRecDepth 20000 in
theorem ggX3_digest_X3_cargoHigh : GoodIn wsX3_digest wsX3_cargoHigh := goodIn_r _ [192, 29, 93, 31, 32, 33, 7, 34, 35, 177, 178, 179, 180, 3, 94, 95, 96, 97, 9, 83, 84, 85, 43, 86, 87, 88, 55, 56, 57, 58, 49, 50, 51, 52, 53, 54, 67, 68, 69, 70, 45, 46, 47, 48, 98, 99, 100, 17, 101, 19, 102, 103, 104, 105, 106, 15, 16, 18, 20, 107, 108, 109, 110, 185, 186, 187, 188, 135, 136, 137, 138, 160, 161, 162, 163, 151, 152, 153, 154, 155, 40, 41, 42, 44, 116, 117, 118, 119, 120, 121, 111, 112, 113, 114, 115, 2, 122, 123, 124, 125, 130, 131, 132, 133, 134, 139, 140, 141, 142, 143, 144, 145, 164, 165, 166, 167, 168, 181, 182, 183, 184, 203, 204, 205, 206, 207, 208, 209, 212, 213, 214, 210, 211] (by decide +kernel) (by decide +kernel)
set_option maxRecDepth 20000 in
theorem gX3_digest_X3_cargoHigh : GoodIn wsX3_digest (wsV RX3 175 RX3 yX3_cargoHigh wsX3_cargoHigh) := goodIn_app (goodIn_of _ (by decide +kernel)) ggX3_digest_X3_cargoHigh
set_option maxRecDepth 20000 in
theorem ggX3_digest_X3_heaviest : GoodIn wsX3_digest wsX3_heaviest := goodIn_r _ [196, 93, 31, 32, 33, 7, 34, 35, 94, 95, 96, 97, 9, 83, 84, 85, 43, 86, 87, 88, 55, 56, 57, 58, 49, 50, 51, 52, 53, 54, 67, 68, 69, 70, 45, 46, 47, 48, 98, 99, 100, 17, 101, 19, 102, 103, 104, 105, 106, 15, 16, 18, 20, 107, 108, 109, 110, 160, 161, 162, 163, 151, 152, 153, 154, 155, 40, 41, 42, 44, 116, 117, 118, 119, 120, 121, 111, 112, 113, 114, 115, 2, 122, 123, 124, 125, 130, 131, 132, 133, 134, 135, 136, 137, 138, 139, 140, 141, 142, 143, 144, 145, 164, 165, 166, 167, 168, 203, 204, 205, 206, 207, 208, 209, 212, 213, 214, 210, 211] (by decide +kernel) (by decide +kernel)
set_option maxRecDepth 20000 in
theorem gX3_digest_X3_heaviest : GoodIn wsX3_digest (wsV RX3 178 RX3 yX3_heaviest wsX3_heaviest) := goodIn_app (goodIn_of _ (by decide +kernel)) ggX3_digest_X3_heaviest
set_option maxRecDepth 20000 in
theorem ggX3_digest_X3_hashOfBuffer : GoodIn wsX3_digest wsX3_hashOfBuffer := goodIn_r _ [200, 201, 202, 10, 11, 7, 12, 13, 203, 204, 205, 206, 207, 208, 209] (by decide +kernel) (by decide +kernel)
set_option maxRecDepth 20000 in
theorem gX3_digest_X3_hashOfBuffer : GoodIn wsX3_digest (wsV RX3 181 RX3 yX3_hashOfBuffer wsX3_hashOfBuffer) := goodIn_app (goodIn_of _ (by decide +kernel)) ggX3_digest_X3_hashOfBuffer
theorem dX3_digest_0 : decode cX3_digest 0 = .ok (.aload_n 0, 1) := by decide +kernel
theorem dX3_digest_1 : decode cX3_digest 1 = .ok (.ldc2_w 157, 3) := by decide +kernel
theorem dX3_digest_4 : decode cX3_digest 4 = .ok (.invokevirtual 159, 3) := by decide +kernel
theorem dX3_digest_7 : decode cX3_digest 7 = .ok (.lstore_n 1, 1) := by decide +kernel
theorem dX3_digest_8 : decode cX3_digest 8 = .ok (.iconst 0, 1) := by decide +kernel
theorem dX3_digest_9 : decode cX3_digest 9 = .ok (.istore_n 3, 1) := by decide +kernel
theorem dX3_digest_10 : decode cX3_digest 10 = .ok (.iload_n 3, 1) := by decide +kernel
theorem dX3_digest_11 : decode cX3_digest 11 = .ok (.iconst 4, 1) := by decide +kernel
theorem dX3_digest_12 : decode cX3_digest 12 = .ok (.if_icmp .ge 16, 3) := by decide +kernel
theorem dX3_digest_15 : decode cX3_digest 15 = .ok (.aload_n 0, 1) := by decide +kernel
theorem dX3_digest_16 : decode cX3_digest 16 = .ok (.lload_n 1, 1) := by decide +kernel
theorem dX3_digest_17 : decode cX3_digest 17 = .ok (.iload_n 3, 1) := by decide +kernel
theorem dX3_digest_18 : decode cX3_digest 18 = .ok (.invokevirtual 162, 3) := by decide +kernel
theorem dX3_digest_21 : decode cX3_digest 21 = .ok (.lstore_n 1, 1) := by decide +kernel
theorem dX3_digest_22 : decode cX3_digest 22 = .ok (.iinc 3 1, 3) := by decide +kernel
theorem dX3_digest_25 : decode cX3_digest 25 = .ok (.goto (-15), 3) := by decide +kernel
theorem dX3_digest_28 : decode cX3_digest 28 = .ok (.lload_n 1, 1) := by decide +kernel
theorem dX3_digest_29 : decode cX3_digest 29 = .ok (.aload_n 0, 1) := by decide +kernel
theorem dX3_digest_30 : decode cX3_digest 30 = .ok (.iconst 0, 1) := by decide +kernel
theorem dX3_digest_31 : decode cX3_digest 31 = .ok (.iconst 1, 1) := by decide +kernel
theorem dX3_digest_32 : decode cX3_digest 32 = .ok (.invokevirtual 166, 3) := by decide +kernel
theorem dX3_digest_35 : decode cX3_digest 35 = .ok (.invokestatic 169, 3) := by decide +kernel
theorem dX3_digest_38 : decode cX3_digest 38 = .ok (.lstore_n 1, 1) := by decide +kernel
theorem dX3_digest_39 : decode cX3_digest 39 = .ok (.lload_n 1, 1) := by decide +kernel
theorem dX3_digest_40 : decode cX3_digest 40 = .ok (.aload_n 0, 1) := by decide +kernel
theorem dX3_digest_41 : decode cX3_digest 41 = .ok (.iconst 0, 1) := by decide +kernel
theorem dX3_digest_42 : decode cX3_digest 42 = .ok (.iconst 1, 1) := by decide +kernel
theorem dX3_digest_43 : decode cX3_digest 43 = .ok (.invokevirtual 172, 3) := by decide +kernel
theorem dX3_digest_46 : decode cX3_digest 46 = .ok (.invokestatic 169, 3) := by decide +kernel
theorem dX3_digest_49 : decode cX3_digest 49 = .ok (.lstore_n 1, 1) := by decide +kernel
theorem dX3_digest_50 : decode cX3_digest 50 = .ok (.lload_n 1, 1) := by decide +kernel
theorem dX3_digest_51 : decode cX3_digest 51 = .ok (.aload_n 0, 1) := by decide +kernel
theorem dX3_digest_52 : decode cX3_digest 52 = .ok (.iconst 0, 1) := by decide +kernel
theorem dX3_digest_53 : decode cX3_digest 53 = .ok (.iconst 1, 1) := by decide +kernel
theorem dX3_digest_54 : decode cX3_digest 54 = .ok (.invokevirtual 175, 3) := by decide +kernel
theorem dX3_digest_57 : decode cX3_digest 57 = .ok (.invokestatic 169, 3) := by decide +kernel
theorem dX3_digest_60 : decode cX3_digest 60 = .ok (.lstore_n 1, 1) := by decide +kernel
theorem dX3_digest_61 : decode cX3_digest 61 = .ok (.lload_n 1, 1) := by decide +kernel
theorem dX3_digest_62 : decode cX3_digest 62 = .ok (.aload_n 0, 1) := by decide +kernel
theorem dX3_digest_63 : decode cX3_digest 63 = .ok (.invokevirtual 178, 3) := by decide +kernel
theorem dX3_digest_66 : decode cX3_digest 66 = .ok (.invokestatic 169, 3) := by decide +kernel
theorem dX3_digest_69 : decode cX3_digest 69 = .ok (.lstore_n 1, 1) := by decide +kernel
theorem dX3_digest_70 : decode cX3_digest 70 = .ok (.lload_n 1, 1) := by decide +kernel
theorem dX3_digest_71 : decode cX3_digest 71 = .ok (.aload_n 0, 1) := by decide +kernel
theorem dX3_digest_72 : decode cX3_digest 72 = .ok (.getfield 40, 3) := by decide +kernel
theorem dX3_digest_75 : decode cX3_digest 75 = .ok (.invokestatic 169, 3) := by decide +kernel
theorem dX3_digest_78 : decode cX3_digest 78 = .ok (.lstore_n 1, 1) := by decide +kernel
theorem dX3_digest_79 : decode cX3_digest 79 = .ok (.lload_n 1, 1) := by decide +kernel
theorem dX3_digest_80 : decode cX3_digest 80 = .ok (.aload_n 0, 1) := by decide +kernel
theorem dX3_digest_81 : decode cX3_digest 81 = .ok (.getfield 44, 3) := by decide +kernel
theorem dX3_digest_84 : decode cX3_digest 84 = .ok (.invokestatic 169, 3) := by decide +kernel
theorem dX3_digest_87 : decode cX3_digest 87 = .ok (.lstore_n 1, 1) := by decide +kernel
theorem dX3_digest_88 : decode cX3_digest 88 = .ok (.aload_n 0, 1) := by decide +kernel
theorem dX3_digest_89 : decode cX3_digest 89 = .ok (.lload_n 1, 1) := by decide +kernel
theorem dX3_digest_90 : decode cX3_digest 90 = .ok (.invokevirtual 181, 3) := by decide +kernel
theorem dX3_digest_93 : decode cX3_digest 93 = .ok (.lreturn, 1) := by decide +kernel
theorem dX3_surveyAt_0 : decode cX3_surveyAt 0 = .ok (.iload_n 1, 1) := by decide +kernel
theorem dX3_surveyAt_1 : decode cX3_surveyAt 1 = .ok (.ifCond .lt 8, 3) := by decide +kernel
theorem dX3_surveyAt_4 : decode cX3_surveyAt 4 = .ok (.iload_n 1, 1) := by decide +kernel
theorem dX3_surveyAt_5 : decode cX3_surveyAt 5 = .ok (.iconst 4, 1) := by decide +kernel
theorem dX3_surveyAt_6 : decode cX3_surveyAt 6 = .ok (.if_icmp .lt 5, 3) := by decide +kernel
theorem dX3_surveyAt_9 : decode cX3_surveyAt 9 = .ok (.aconst_null, 1) := by decide +kernel
theorem dX3_surveyAt_10 : decode cX3_surveyAt 10 = .ok (.areturn, 1) := by decide +kernel
theorem dX3_surveyAt_11 : decode cX3_surveyAt 11 = .ok (.aload_n 0, 1) := by decide +kernel
theorem dX3_surveyAt_12 : decode cX3_surveyAt 12 = .ok (.getfield 33, 3) := by decide +kernel
theorem dX3_surveyAt_15 : decode cX3_surveyAt 15 = .ok (.iload_n 1, 1) := by decide +kernel
theorem dX3_surveyAt_16 : decode cX3_surveyAt 16 = .ok (.aaload, 1) := by decide +kernel
theorem dX3_surveyAt_17 : decode cX3_surveyAt 17 = .ok (.areturn, 1) := by decide +kernel
set_option maxRecDepth 20000 in
theorem ggX3_readBuffer_X0_begin : GoodIn wsX3_readBuffer wsX0_begin := goodIn_r _ [8, 9, 10, 11, 12, 7, 13, 14, 15, 16, 42, 43, 44, 45, 46] (by decide +kernel) (by decide +kernel)
set_option maxRecDepth 20000 in
theorem gX3_readBuffer_X0_begin : GoodIn wsX3_readBuffer (wsV RX3 184 RX0 yX0_begin wsX0_begin) := goodIn_app (goodIn_of _ (by decide +kernel)) ggX3_readBuffer_X0_begin
set_option maxRecDepth 20000 in
theorem ggX3_readBuffer_X0_takes : GoodIn wsX3_readBuffer wsX0_takes := goodIn_r _ [20, 21, 22, 23, 7, 24, 14, 9, 10, 11, 12, 13, 15, 16, 25, 26, 27, 28, 29, 30, 31, 32, 33, 34, 42, 43, 44, 45, 46] (by decide +kernel) (by decide +kernel)
set_option maxRecDepth 20000 in
theorem gX3_readBuffer_X0_takes : GoodIn wsX3_readBuffer (wsV RX3 187 RX0 yX0_takes wsX0_takes) := goodIn_app (goodIn_of _ (by decide +kernel)) ggX3_readBuffer_X0_takes
end
section
theorem dX3_readBuffer_0 : decode cX3_readBuffer 0 = .ok (.aload_n 0, 1) := by decide +kernel
theorem dX3_readBuffer_1 : decode cX3_readBuffer 1 = .ok (.getfield 20, 3) := by decide +kernel
theorem dX3_readBuffer_4 : decode cX3_readBuffer 4 = .ok (.invokevirtual 184, 3) := by decide +kernel
theorem dX3_readBuffer_7 : decode cX3_readBuffer 7 = .ok (.iconst 0, 1) := by decide +kernel
theorem dX3_readBuffer_8 : decode cX3_readBuffer 8 = .ok (.istore_n 1, 1) := by decide +kernel
theorem dX3_readBuffer_9 : decode cX3_readBuffer 9 = .ok (.iload_n 1, 1) := by decide +kernel
theorem dX3_readBuffer_10 : decode cX3_readBuffer 10 = .ok (.aload_n 0, 1) := by decide +kernel
theorem dX3_readBuffer_11 : decode cX3_readBuffer 11 = .ok (.getfield 13, 3) := by decide +kernel
theorem dX3_readBuffer_14 : decode cX3_readBuffer 14 = .ok (.if_icmp .ge 33, 3) := by decide +kernel
theorem dX3_readBuffer_17 : decode cX3_readBuffer 17 = .ok (.iload_n 1, 1) := by decide +kernel
theorem dX3_readBuffer_18 : decode cX3_readBuffer 18 = .ok (.bipush 40, 2) := by decide +kernel
theorem dX3_readBuffer_20 : decode cX3_readBuffer 20 = .ok (.if_icmp .ge 27, 3) := by decide +kernel
theorem dX3_readBuffer_23 : decode cX3_readBuffer 23 = .ok (.aload_n 0, 1) := by decide +kernel
theorem dX3_readBuffer_24 : decode cX3_readBuffer 24 = .ok (.getfield 20, 3) := by decide +kernel
theorem dX3_readBuffer_27 : decode cX3_readBuffer 27 = .ok (.aload_n 0, 1) := by decide +kernel
theorem dX3_readBuffer_28 : decode cX3_readBuffer 28 = .ok (.getfield 9, 3) := by decide +kernel
theorem dX3_readBuffer_31 : decode cX3_readBuffer 31 = .ok (.iload_n 1, 1) := by decide +kernel
theorem dX3_readBuffer_32 : decode cX3_readBuffer 32 = .ok (.iaload, 1) := by decide +kernel
theorem dX3_readBuffer_33 : decode cX3_readBuffer 33 = .ok (.invokevirtual 187, 3) := by decide +kernel
theorem dX3_readBuffer_36 : decode cX3_readBuffer 36 = .ok (.ifCond .ne 5, 3) := by decide +kernel
theorem dX3_readBuffer_39 : decode cX3_readBuffer 39 = .ok (.iload_n 1, 1) := by decide +kernel
theorem dX3_readBuffer_40 : decode cX3_readBuffer 40 = .ok (.ireturn, 1) := by decide +kernel
theorem dX3_readBuffer_41 : decode cX3_readBuffer 41 = .ok (.iinc 1 1, 3) := by decide +kernel
theorem dX3_readBuffer_44 : decode cX3_readBuffer 44 = .ok (.goto (-35), 3) := by decide +kernel
theorem dX3_readBuffer_47 : decode cX3_readBuffer 47 = .ok (.aload_n 0, 1) := by decide +kernel
theorem dX3_readBuffer_48 : decode cX3_readBuffer 48 = .ok (.getfield 13, 3) := by decide +kernel
theorem dX3_readBuffer_51 : decode cX3_readBuffer 51 = .ok (.ireturn, 1) := by decide +kernel
set_option maxRecDepth 20000 in
theorem ggX3_canCompute_X1_meanDraft : GoodIn wsX3_canCompute wsX1_meanDraft := goodIn_r _ [6, 7, 8, 9, 10, 11, 5, 12, 13, 14, 15, 16, 17, 18, 19, 20, 21, 22, 23, 24, 25, 26, 53, 54, 55] (by decide +kernel) (by decide +kernel)
set_option maxRecDepth 20000 in
theorem gX3_canCompute_X1_meanDraft : GoodIn wsX3_canCompute (wsV RX3 119 RX1 yX1_meanDraft wsX1_meanDraft) := goodIn_app (goodIn_of _ (by decide +kernel)) ggX3_canCompute_X1_meanDraft
set_option maxRecDepth 20000 in
theorem ggX3_canCompute_X2_covers : GoodIn wsX3_canCompute wsX2_covers := goodIn_r _ [31, 32, 33, 34, 35, 30, 36, 37, 38, 39, 40, 41, 42, 43, 44, 45, 56, 57] (by decide +kernel) (by decide +kernel)
set_option maxRecDepth 20000 in
theorem gX3_canCompute_X2_covers : GoodIn wsX3_canCompute (wsV RX3 191 RX2 yX2_covers wsX2_covers) := goodIn_app (goodIn_of _ (by decide +kernel)) ggX3_canCompute_X2_covers
theorem dX3_canCompute_0 : decode cX3_canCompute 0 = .ok (.aload_n 0, 1) := by decide +kernel
theorem dX3_canCompute_1 : decode cX3_canCompute 1 = .ok (.getfield 27, 3) := by decide +kernel
theorem dX3_canCompute_4 : decode cX3_canCompute 4 = .ok (.aload_n 1, 1) := by decide +kernel
theorem dX3_canCompute_5 : decode cX3_canCompute 5 = .ok (.invokevirtual 119, 3) := by decide +kernel
theorem dX3_canCompute_8 : decode cX3_canCompute 8 = .ok (.lload_n 2, 1) := by decide +kernel
theorem dX3_canCompute_9 : decode cX3_canCompute 9 = .ok (.ladd, 1) := by decide +kernel
theorem dX3_canCompute_10 : decode cX3_canCompute 10 = .ok (.invokevirtual 191, 3) := by decide +kernel
theorem dX3_canCompute_13 : decode cX3_canCompute 13 = .ok (.ireturn, 1) := by decide +kernel
set_option maxRecDepth 20000 in
theorem ggX3_canComputeMargins_X3_canCompute : GoodIn wsX3_canComputeMargins wsX3_canCompute := goodIn_r _ [6, 7, 8, 9, 10, 11, 12, 13, 14, 15, 16, 17, 18, 19, 20, 21, 22, 23, 24, 25, 26, 27, 28, 29, 30, 31, 32, 33, 34, 35, 36, 37, 38, 39, 40, 41, 42, 43, 44, 45, 46, 47, 48, 49, 50, 51, 52, 53, 54, 55, 56, 57, 58, 59, 60, 61, 62, 63] (by decide +kernel) (by decide +kernel)
set_option maxRecDepth 20000 in
theorem gX3_canComputeMargins_X3_canCompute : GoodIn wsX3_canComputeMargins (wsV RX3 122 RX3 yX3_canCompute wsX3_canCompute) := goodIn_app (goodIn_of _ (by decide +kernel)) ggX3_canComputeMargins_X3_canCompute
theorem dX3_canComputeMargins_0 : decode cX3_canComputeMargins 0 = .ok (.aload_n 0, 1) := by decide +kernel
theorem dX3_canComputeMargins_1 : decode cX3_canComputeMargins 1 = .ok (.aload_n 1, 1) := by decide +kernel
theorem dX3_canComputeMargins_2 : decode cX3_canComputeMargins 2 = .ok (.aload_n 0, 1) := by decide +kernel
theorem dX3_canComputeMargins_3 : decode cX3_canComputeMargins 3 = .ok (.getfield 44, 3) := by decide +kernel
theorem dX3_canComputeMargins_6 : decode cX3_canComputeMargins 6 = .ok (.lneg, 1) := by decide +kernel
theorem dX3_canComputeMargins_7 : decode cX3_canComputeMargins 7 = .ok (.invokevirtual 122, 3) := by decide +kernel
theorem dX3_canComputeMargins_10 : decode cX3_canComputeMargins 10 = .ok (.ifCond .eq 19, 3) := by decide +kernel
theorem dX3_canComputeMargins_13 : decode cX3_canComputeMargins 13 = .ok (.aload_n 0, 1) := by decide +kernel
theorem dX3_canComputeMargins_14 : decode cX3_canComputeMargins 14 = .ok (.aload_n 1, 1) := by decide +kernel
theorem dX3_canComputeMargins_15 : decode cX3_canComputeMargins 15 = .ok (.aload_n 0, 1) := by decide +kernel
theorem dX3_canComputeMargins_16 : decode cX3_canComputeMargins 16 = .ok (.getfield 44, 3) := by decide +kernel
theorem dX3_canComputeMargins_19 : decode cX3_canComputeMargins 19 = .ok (.invokevirtual 122, 3) := by decide +kernel
theorem dX3_canComputeMargins_22 : decode cX3_canComputeMargins 22 = .ok (.ifCond .eq 7, 3) := by decide +kernel
theorem dX3_canComputeMargins_25 : decode cX3_canComputeMargins 25 = .ok (.iconst 1, 1) := by decide +kernel
theorem dX3_canComputeMargins_26 : decode cX3_canComputeMargins 26 = .ok (.goto 4, 3) := by decide +kernel
theorem dX3_canComputeMargins_29 : decode cX3_canComputeMargins 29 = .ok (.iconst 0, 1) := by decide +kernel
theorem dX3_canComputeMargins_30 : decode cX3_canComputeMargins 30 = .ok (.ireturn, 1) := by decide +kernel
set_option maxRecDepth 20000 in
theorem ggX3_firstCorrectionAt_X2_valueAt : GoodIn wsX3_firstCorrectionAt wsX2_valueAt := goodIn_r _ [8, 9, 10, 11, 12, 13, 7, 14, 15, 16, 17, 18, 19, 32, 33] (by decide +kernel) (by decide +kernel)
set_option maxRecDepth 20000 in
theorem gX3_firstCorrectionAt_X2_valueAt : GoodIn wsX3_firstCorrectionAt (wsV RX3 87 RX2 yX2_valueAt wsX2_valueAt) := goodIn_app (goodIn_of _ (by decide +kernel)) ggX3_firstCorrectionAt_X2_valueAt
set_option maxRecDepth 20000 in
theorem ggX3_firstCorrectionAt_X3_quotient : GoodIn wsX3_firstCorrectionAt wsX3_quotient := goodIn_r _ [23, 24, 17, 18, 19] (by decide +kernel) (by decide +kernel)
set_option maxRecDepth 20000 in
theorem gX3_firstCorrectionAt_X3_quotient : GoodIn wsX3_firstCorrectionAt (va_wsS RX3 197 yX3_quotient wsX3_quotient) := goodIn_app (goodIn_of _ (by decide +kernel)) ggX3_firstCorrectionAt_X3_quotient
theorem dX3_firstCorrectionAt_0 : decode cX3_firstCorrectionAt 0 = .ok (.lload_n 3, 1) := by decide +kernel
theorem dX3_firstCorrectionAt_1 : decode cX3_firstCorrectionAt 1 = .ok (.aload_n 0, 1) := by decide +kernel
theorem dX3_firstCorrectionAt_2 : decode cX3_firstCorrectionAt 2 = .ok (.getfield 27, 3) := by decide +kernel
theorem dX3_firstCorrectionAt_5 : decode cX3_firstCorrectionAt 5 = .ok (.iconst 2, 1) := by decide +kernel
theorem dX3_firstCorrectionAt_6 : decode cX3_firstCorrectionAt 6 = .ok (.lload_n 1, 1) := by decide +kernel
theorem dX3_firstCorrectionAt_7 : decode cX3_firstCorrectionAt 7 = .ok (.invokevirtual 87, 3) := by decide +kernel
theorem dX3_firstCorrectionAt_10 : decode cX3_firstCorrectionAt 10 = .ok (.lmul, 1) := by decide +kernel
theorem dX3_firstCorrectionAt_11 : decode cX3_firstCorrectionAt 11 = .ok (.aload_n 0, 1) := by decide +kernel
theorem dX3_firstCorrectionAt_12 : decode cX3_firstCorrectionAt 12 = .ok (.getfield 27, 3) := by decide +kernel
theorem dX3_firstCorrectionAt_15 : decode cX3_firstCorrectionAt 15 = .ok (.iconst 3, 1) := by decide +kernel
theorem dX3_firstCorrectionAt_16 : decode cX3_firstCorrectionAt 16 = .ok (.lload_n 1, 1) := by decide +kernel
theorem dX3_firstCorrectionAt_17 : decode cX3_firstCorrectionAt 17 = .ok (.invokevirtual 87, 3) := by decide +kernel
theorem dX3_firstCorrectionAt_20 : decode cX3_firstCorrectionAt 20 = .ok (.lmul, 1) := by decide +kernel
theorem dX3_firstCorrectionAt_21 : decode cX3_firstCorrectionAt 21 = .ok (.lstore 5, 2) := by decide +kernel
theorem dX3_firstCorrectionAt_23 : decode cX3_firstCorrectionAt 23 = .ok (.lload 5, 2) := by decide +kernel
theorem dX3_firstCorrectionAt_25 : decode cX3_firstCorrectionAt 25 = .ok (.ldc2_w 195, 3) := by decide +kernel
theorem dX3_firstCorrectionAt_28 : decode cX3_firstCorrectionAt 28 = .ok (.aload_n 0, 1) := by decide +kernel
theorem dX3_firstCorrectionAt_29 : decode cX3_firstCorrectionAt 29 = .ok (.getfield 40, 3) := by decide +kernel
theorem dX3_firstCorrectionAt_32 : decode cX3_firstCorrectionAt 32 = .ok (.lmul, 1) := by decide +kernel
theorem dX3_firstCorrectionAt_33 : decode cX3_firstCorrectionAt 33 = .ok (.invokestatic 197, 3) := by decide +kernel
theorem dX3_firstCorrectionAt_36 : decode cX3_firstCorrectionAt 36 = .ok (.lreturn, 1) := by decide +kernel
set_option maxRecDepth 20000 in
theorem ggX3_secondCorrectionAt_X2_firstDraft : GoodIn wsX3_secondCorrectionAt wsX2_firstDraft := goodIn_r _ [17, 18, 19, 20, 16, 21, 22, 23, 49, 50] (by decide +kernel) (by decide +kernel)
set_option maxRecDepth 20000 in
theorem gX3_secondCorrectionAt_X2_firstDraft : GoodIn wsX3_secondCorrectionAt (wsV RX3 202 RX2 yX2_firstDraft wsX2_firstDraft) := goodIn_app (goodIn_of _ (by decide +kernel)) ggX3_secondCorrectionAt_X2_firstDraft
set_option maxRecDepth 20000 in
theorem ggX3_secondCorrectionAt_X2_lastDraft : GoodIn wsX3_secondCorrectionAt wsX2_lastDraft := goodIn_r _ [27, 22, 18, 19, 20, 16, 21, 23, 49, 50] (by decide +kernel) (by decide +kernel)
set_option maxRecDepth 20000 in
theorem gX3_secondCorrectionAt_X2_lastDraft : GoodIn wsX3_secondCorrectionAt (wsV RX3 210 RX2 yX2_lastDraft wsX2_lastDraft) := goodIn_app (goodIn_of _ (by decide +kernel)) ggX3_secondCorrectionAt_X2_lastDraft
set_option maxRecDepth 20000 in
theorem ggX3_secondCorrectionAt_X2_valueAt : GoodIn wsX3_secondCorrectionAt wsX2_valueAt := goodIn_r _ [31, 22, 32, 18, 19, 20, 16, 21, 23, 33, 34, 35, 36, 49, 50] (by decide +kernel) (by decide +kernel)
set_option maxRecDepth 20000 in
theorem gX3_secondCorrectionAt_X2_valueAt : GoodIn wsX3_secondCorrectionAt (wsV RX3 87 RX2 yX2_valueAt wsX2_valueAt) := goodIn_app (goodIn_of _ (by decide +kernel)) ggX3_secondCorrectionAt_X2_valueAt
set_option maxRecDepth 20000 in
theorem ggX3_secondCorrectionAt_X3_quotient : GoodIn wsX3_secondCorrectionAt wsX3_quotient := goodIn_r _ [40, 41, 34, 35, 36] (by decide +kernel) (by decide +kernel)
set_option maxRecDepth 20000 in
theorem gX3_secondCorrectionAt_X3_quotient : GoodIn wsX3_secondCorrectionAt (va_wsS RX3 197 yX3_quotient wsX3_quotient) := goodIn_app (goodIn_of _ (by decide +kernel)) ggX3_secondCorrectionAt_X3_quotient
theorem dX3_secondCorrectionAt_0 : decode cX3_secondCorrectionAt 0 = .ok (.lload_n 1, 1) := by decide +kernel
theorem dX3_secondCorrectionAt_1 : decode cX3_secondCorrectionAt 1 = .ok (.ldc2_w 200, 3) := by decide +kernel
theorem dX3_secondCorrectionAt_4 : decode cX3_secondCorrectionAt 4 = .ok (.lsub, 1) := by decide +kernel
theorem dX3_secondCorrectionAt_5 : decode cX3_secondCorrectionAt 5 = .ok (.aload_n 0, 1) := by decide +kernel
theorem dX3_secondCorrectionAt_6 : decode cX3_secondCorrectionAt 6 = .ok (.getfield 27, 3) := by decide +kernel
theorem dX3_secondCorrectionAt_9 : decode cX3_secondCorrectionAt 9 = .ok (.invokevirtual 202, 3) := by decide +kernel
theorem dX3_secondCorrectionAt_12 : decode cX3_secondCorrectionAt 12 = .ok (.invokestatic 205, 3) := by decide +kernel
theorem dX3_secondCorrectionAt_15 : decode cX3_secondCorrectionAt 15 = .ok (.lstore 5, 2) := by decide +kernel
theorem dX3_secondCorrectionAt_17 : decode cX3_secondCorrectionAt 17 = .ok (.lload_n 1, 1) := by decide +kernel
theorem dX3_secondCorrectionAt_18 : decode cX3_secondCorrectionAt 18 = .ok (.ldc2_w 200, 3) := by decide +kernel
theorem dX3_secondCorrectionAt_21 : decode cX3_secondCorrectionAt 21 = .ok (.ladd, 1) := by decide +kernel
theorem dX3_secondCorrectionAt_22 : decode cX3_secondCorrectionAt 22 = .ok (.aload_n 0, 1) := by decide +kernel
theorem dX3_secondCorrectionAt_23 : decode cX3_secondCorrectionAt 23 = .ok (.getfield 27, 3) := by decide +kernel
theorem dX3_secondCorrectionAt_26 : decode cX3_secondCorrectionAt 26 = .ok (.invokevirtual 210, 3) := by decide +kernel
theorem dX3_secondCorrectionAt_29 : decode cX3_secondCorrectionAt 29 = .ok (.invokestatic 213, 3) := by decide +kernel
theorem dX3_secondCorrectionAt_32 : decode cX3_secondCorrectionAt 32 = .ok (.lstore 7, 2) := by decide +kernel
theorem dX3_secondCorrectionAt_34 : decode cX3_secondCorrectionAt 34 = .ok (.aload_n 0, 1) := by decide +kernel
theorem dX3_secondCorrectionAt_35 : decode cX3_secondCorrectionAt 35 = .ok (.getfield 27, 3) := by decide +kernel
theorem dX3_secondCorrectionAt_38 : decode cX3_secondCorrectionAt 38 = .ok (.iconst 4, 1) := by decide +kernel
theorem dX3_secondCorrectionAt_39 : decode cX3_secondCorrectionAt 39 = .ok (.lload 7, 2) := by decide +kernel
theorem dX3_secondCorrectionAt_41 : decode cX3_secondCorrectionAt 41 = .ok (.invokevirtual 87, 3) := by decide +kernel
theorem dX3_secondCorrectionAt_44 : decode cX3_secondCorrectionAt 44 = .ok (.aload_n 0, 1) := by decide +kernel
theorem dX3_secondCorrectionAt_45 : decode cX3_secondCorrectionAt 45 = .ok (.getfield 27, 3) := by decide +kernel
theorem dX3_secondCorrectionAt_48 : decode cX3_secondCorrectionAt 48 = .ok (.iconst 4, 1) := by decide +kernel
theorem dX3_secondCorrectionAt_49 : decode cX3_secondCorrectionAt 49 = .ok (.lload 5, 2) := by decide +kernel
theorem dX3_secondCorrectionAt_51 : decode cX3_secondCorrectionAt 51 = .ok (.invokevirtual 87, 3) := by decide +kernel
theorem dX3_secondCorrectionAt_54 : decode cX3_secondCorrectionAt 54 = .ok (.lsub, 1) := by decide +kernel
theorem dX3_secondCorrectionAt_55 : decode cX3_secondCorrectionAt 55 = .ok (.lstore 9, 2) := by decide +kernel
theorem dX3_secondCorrectionAt_57 : decode cX3_secondCorrectionAt 57 = .ok (.ldc2_w 216, 3) := by decide +kernel
theorem dX3_secondCorrectionAt_60 : decode cX3_secondCorrectionAt 60 = .ok (.lload_n 3, 1) := by decide +kernel
theorem dX3_secondCorrectionAt_61 : decode cX3_secondCorrectionAt 61 = .ok (.lmul, 1) := by decide +kernel
theorem dX3_secondCorrectionAt_62 : decode cX3_secondCorrectionAt 62 = .ok (.lload_n 3, 1) := by decide +kernel
theorem dX3_secondCorrectionAt_63 : decode cX3_secondCorrectionAt 63 = .ok (.lmul, 1) := by decide +kernel
theorem dX3_secondCorrectionAt_64 : decode cX3_secondCorrectionAt 64 = .ok (.lload 9, 2) := by decide +kernel
theorem dX3_secondCorrectionAt_66 : decode cX3_secondCorrectionAt 66 = .ok (.lmul, 1) := by decide +kernel
theorem dX3_secondCorrectionAt_67 : decode cX3_secondCorrectionAt 67 = .ok (.ldc2_w 218, 3) := by decide +kernel
theorem dX3_secondCorrectionAt_70 : decode cX3_secondCorrectionAt 70 = .ok (.aload_n 0, 1) := by decide +kernel
theorem dX3_secondCorrectionAt_71 : decode cX3_secondCorrectionAt 71 = .ok (.getfield 40, 3) := by decide +kernel
theorem dX3_secondCorrectionAt_74 : decode cX3_secondCorrectionAt 74 = .ok (.lmul, 1) := by decide +kernel
theorem dX3_secondCorrectionAt_75 : decode cX3_secondCorrectionAt 75 = .ok (.invokestatic 197, 3) := by decide +kernel
theorem dX3_secondCorrectionAt_78 : decode cX3_secondCorrectionAt 78 = .ok (.lreturn, 1) := by decide +kernel
set_option maxRecDepth 20000 in
theorem ggX3_displacementOf_X1_meanDraft : GoodIn wsX3_displacementOf wsX1_meanDraft := goodIn_r _ [7, 8, 9, 10, 11, 12, 6, 13, 14, 15, 16, 17, 18, 19, 20, 21, 22, 23, 24, 25, 26, 27, 85, 86, 87] (by decide +kernel) (by decide +kernel)
set_option maxRecDepth 20000 in
theorem gX3_displacementOf_X1_meanDraft : GoodIn wsX3_displacementOf (wsV RX3 119 RX1 yX1_meanDraft wsX1_meanDraft) := goodIn_app (goodIn_of _ (by decide +kernel)) ggX3_displacementOf_X1_meanDraft
set_option maxRecDepth 20000 in
theorem ggX3_displacementOf_X1_sternTrim : GoodIn wsX3_displacementOf wsX1_sternTrim := goodIn_r _ [31, 24, 25, 26, 6, 27, 14, 15, 16, 17, 18, 19, 10, 11, 12, 13, 85, 86, 87] (by decide +kernel) (by decide +kernel)
set_option maxRecDepth 20000 in
theorem gX3_displacementOf_X1_sternTrim : GoodIn wsX3_displacementOf (wsV RX3 109 RX1 yX1_sternTrim wsX1_sternTrim) := goodIn_app (goodIn_of _ (by decide +kernel)) ggX3_displacementOf_X1_sternTrim
set_option maxRecDepth 20000 in
theorem ggX3_displacementOf_X2_valueAt : GoodIn wsX3_displacementOf wsX2_valueAt := goodIn_r _ [36, 37, 38, 39, 40, 41, 35, 42, 43, 44, 17, 18, 19, 88, 89] (by decide +kernel) (by decide +kernel)
set_option maxRecDepth 20000 in
theorem gX3_displacementOf_X2_valueAt : GoodIn wsX3_displacementOf (wsV RX3 87 RX2 yX2_valueAt wsX2_valueAt) := goodIn_app (goodIn_of _ (by decide +kernel)) ggX3_displacementOf_X2_valueAt
set_option maxRecDepth 20000 in
theorem ggX3_displacementOf_X3_firstCorrectionAt : GoodIn wsX3_displacementOf wsX3_firstCorrectionAt := goodIn_r _ [49, 1, 50, 51, 32, 33, 34, 35, 36, 37, 38, 39, 40, 41, 42, 43, 44, 17, 18, 19, 52, 53, 48, 54, 55, 78, 79, 80, 81, 82, 83, 84, 88, 89] (by decide +kernel) (by decide +kernel)
set_option maxRecDepth 20000 in
theorem gX3_displacementOf_X3_firstCorrectionAt : GoodIn wsX3_displacementOf (wsV RX3 128 RX3 yX3_firstCorrectionAt wsX3_firstCorrectionAt) := goodIn_app (goodIn_of _ (by decide +kernel)) ggX3_displacementOf_X3_firstCorrectionAt
set_option maxRecDepth 20000 in
theorem ggX3_displacementOf_X3_secondCorrectionAt : GoodIn wsX3_displacementOf wsX3_secondCorrectionAt := goodIn_r _ [59, 60, 1, 61, 62, 63, 64, 65, 66, 67, 68, 69, 51, 70, 71, 72, 35, 73, 39, 40, 41, 42, 37, 43, 74, 75, 76, 77, 32, 33, 34, 36, 38, 44, 17, 18, 19, 52, 53, 48, 54, 55, 78, 79, 80, 81, 82, 83, 84, 88, 89] (by decide +kernel) (by decide +kernel)
set_option maxRecDepth 20000 in
theorem gX3_displacementOf_X3_secondCorrectionAt : GoodIn wsX3_displacementOf (wsV RX3 132 RX3 yX3_secondCorrectionAt wsX3_secondCorrectionAt) := goodIn_app (goodIn_of _ (by decide +kernel)) ggX3_displacementOf_X3_secondCorrectionAt
set_option maxRecDepth 20000 in
theorem ggX3_displacementOf_J9_floorDiv_f86c9 : GoodIn wsX3_displacementOf wsJ9_floorDiv_f86c9 := goodIn_r _ [19] (by decide +kernel) (by decide +kernel)
set_option maxRecDepth 20000 in
theorem gX3_displacementOf_J9_floorDiv_f86c9 : GoodIn wsX3_displacementOf (va_wsS RX3 222 yJ9_floorDiv_f86c9 wsJ9_floorDiv_f86c9) := goodIn_app (goodIn_of _ (by decide +kernel)) ggX3_displacementOf_J9_floorDiv_f86c9
theorem dX3_displacementOf_0 : decode cX3_displacementOf 0 = .ok (.aload_n 1, 1) := by decide +kernel
theorem dX3_displacementOf_1 : decode cX3_displacementOf 1 = .ok (.invokevirtual 119, 3) := by decide +kernel
theorem dX3_displacementOf_4 : decode cX3_displacementOf 4 = .ok (.lload_n 2, 1) := by decide +kernel
theorem dX3_displacementOf_5 : decode cX3_displacementOf 5 = .ok (.ladd, 1) := by decide +kernel
theorem dX3_displacementOf_6 : decode cX3_displacementOf 6 = .ok (.lstore 4, 2) := by decide +kernel
theorem dX3_displacementOf_8 : decode cX3_displacementOf 8 = .ok (.aload_n 1, 1) := by decide +kernel
theorem dX3_displacementOf_9 : decode cX3_displacementOf 9 = .ok (.invokevirtual 109, 3) := by decide +kernel
theorem dX3_displacementOf_12 : decode cX3_displacementOf 12 = .ok (.lstore 6, 2) := by decide +kernel
theorem dX3_displacementOf_14 : decode cX3_displacementOf 14 = .ok (.aload_n 0, 1) := by decide +kernel
theorem dX3_displacementOf_15 : decode cX3_displacementOf 15 = .ok (.getfield 27, 3) := by decide +kernel
theorem dX3_displacementOf_18 : decode cX3_displacementOf 18 = .ok (.iconst 1, 1) := by decide +kernel
theorem dX3_displacementOf_19 : decode cX3_displacementOf 19 = .ok (.lload 4, 2) := by decide +kernel
theorem dX3_displacementOf_21 : decode cX3_displacementOf 21 = .ok (.invokevirtual 87, 3) := by decide +kernel
theorem dX3_displacementOf_24 : decode cX3_displacementOf 24 = .ok (.aload_n 0, 1) := by decide +kernel
theorem dX3_displacementOf_25 : decode cX3_displacementOf 25 = .ok (.lload 4, 2) := by decide +kernel
theorem dX3_displacementOf_27 : decode cX3_displacementOf 27 = .ok (.lload 6, 2) := by decide +kernel
theorem dX3_displacementOf_29 : decode cX3_displacementOf 29 = .ok (.invokevirtual 128, 3) := by decide +kernel
theorem dX3_displacementOf_32 : decode cX3_displacementOf 32 = .ok (.ladd, 1) := by decide +kernel
theorem dX3_displacementOf_33 : decode cX3_displacementOf 33 = .ok (.aload_n 0, 1) := by decide +kernel
theorem dX3_displacementOf_34 : decode cX3_displacementOf 34 = .ok (.lload 4, 2) := by decide +kernel
theorem dX3_displacementOf_36 : decode cX3_displacementOf 36 = .ok (.lload 6, 2) := by decide +kernel
theorem dX3_displacementOf_38 : decode cX3_displacementOf 38 = .ok (.invokevirtual 132, 3) := by decide +kernel
theorem dX3_displacementOf_41 : decode cX3_displacementOf 41 = .ok (.ladd, 1) := by decide +kernel
theorem dX3_displacementOf_42 : decode cX3_displacementOf 42 = .ok (.lstore 8, 2) := by decide +kernel
theorem dX3_displacementOf_44 : decode cX3_displacementOf 44 = .ok (.lload 8, 2) := by decide +kernel
theorem dX3_displacementOf_46 : decode cX3_displacementOf 46 = .ok (.aload_n 1, 1) := by decide +kernel
theorem dX3_displacementOf_47 : decode cX3_displacementOf 47 = .ok (.getfield 102, 3) := by decide +kernel
theorem dX3_displacementOf_50 : decode cX3_displacementOf 50 = .ok (.lmul, 1) := by decide +kernel
theorem dX3_displacementOf_51 : decode cX3_displacementOf 51 = .ok (.ldc2_w 220, 3) := by decide +kernel
theorem dX3_displacementOf_54 : decode cX3_displacementOf 54 = .ok (.invokestatic 222, 3) := by decide +kernel
theorem dX3_displacementOf_57 : decode cX3_displacementOf 57 = .ok (.lreturn, 1) := by decide +kernel
set_option maxRecDepth 20000 in
theorem ggX3_netWeightOf_X3_displacementOf : GoodIn wsX3_netWeightOf wsX3_displacementOf := goodIn_r _ [5, 6, 7, 8, 9, 10, 11, 12, 13, 14, 15, 16, 17, 18, 19, 20, 21, 22, 23, 24, 25, 26, 27, 28, 29, 30, 31, 32, 33, 34, 35, 36, 37, 38, 39, 40, 41, 42, 43, 44, 45, 46, 47, 48, 49, 50, 51, 52, 4, 53, 54, 55, 56, 57, 58, 59, 60, 61, 62, 63, 64, 65, 66, 67, 68, 69, 70, 71, 72, 73, 74, 75, 76, 77, 78, 79, 80, 81, 87, 88, 89, 90, 91, 92, 93, 94, 95, 96, 97, 98] (by decide +kernel) (by decide +kernel)
set_option maxRecDepth 20000 in
theorem gX3_netWeightOf_X3_displacementOf : GoodIn wsX3_netWeightOf (wsV RX3 135 RX3 yX3_displacementOf wsX3_displacementOf) := goodIn_app (goodIn_of _ (by decide +kernel)) ggX3_netWeightOf_X3_displacementOf
set_option maxRecDepth 20000 in
theorem ggX3_netWeightOf_X1_deducted : GoodIn wsX3_netWeightOf wsX1_deducted := goodIn_r _ [85, 86, 94, 95, 96] (by decide +kernel) (by decide +kernel)
set_option maxRecDepth 20000 in
theorem gX3_netWeightOf_X1_deducted : GoodIn wsX3_netWeightOf (wsV RX3 225 RX1 yX1_deducted wsX1_deducted) := goodIn_app (goodIn_of _ (by decide +kernel)) ggX3_netWeightOf_X1_deducted
theorem dX3_netWeightOf_0 : decode cX3_netWeightOf 0 = .ok (.aload_n 0, 1) := by decide +kernel
theorem dX3_netWeightOf_1 : decode cX3_netWeightOf 1 = .ok (.aload_n 1, 1) := by decide +kernel
theorem dX3_netWeightOf_2 : decode cX3_netWeightOf 2 = .ok (.lload_n 2, 1) := by decide +kernel
theorem dX3_netWeightOf_3 : decode cX3_netWeightOf 3 = .ok (.invokevirtual 135, 3) := by decide +kernel
theorem dX3_netWeightOf_6 : decode cX3_netWeightOf 6 = .ok (.aload_n 1, 1) := by decide +kernel
theorem dX3_netWeightOf_7 : decode cX3_netWeightOf 7 = .ok (.invokevirtual 225, 3) := by decide +kernel
theorem dX3_netWeightOf_10 : decode cX3_netWeightOf 10 = .ok (.lsub, 1) := by decide +kernel
theorem dX3_netWeightOf_11 : decode cX3_netWeightOf 11 = .ok (.lreturn, 1) := by decide +kernel
set_option maxRecDepth 20000 in
theorem ggX3_lightWeight_X3_netWeightOf : GoodIn wsX3_lightWeight wsX3_netWeightOf := goodIn_r _ [10, 11, 12, 13, 9, 14, 15, 16, 17, 18, 19, 20, 21, 22, 23, 24, 25, 26, 27, 28, 29, 30, 31, 32, 33, 34, 35, 36, 37, 38, 39, 40, 41, 42, 43, 44, 45, 46, 47, 48, 49, 50, 51, 52, 53, 54, 55, 56, 57, 58, 59, 60, 61, 62, 63, 64, 65, 66, 67, 68, 69, 70, 71, 72, 73, 74, 75, 4, 76, 2, 3, 5, 77, 78, 79, 80, 81, 82, 83, 84, 85, 86, 87, 88, 89, 90, 91, 92, 93, 94, 95, 96, 97, 98, 99, 100, 101, 102, 103] (by decide +kernel) (by decide +kernel)
set_option maxRecDepth 20000 in
theorem gX3_lightWeight_X3_netWeightOf : GoodIn wsX3_lightWeight (wsV RX3 139 RX3 yX3_netWeightOf wsX3_netWeightOf) := goodIn_app (goodIn_of _ (by decide +kernel)) ggX3_lightWeight_X3_netWeightOf
theorem dX3_lightWeight_0 : decode cX3_lightWeight 0 = .ok (.aload_n 0, 1) := by decide +kernel
theorem dX3_lightWeight_1 : decode cX3_lightWeight 1 = .ok (.aload_n 1, 1) := by decide +kernel
theorem dX3_lightWeight_2 : decode cX3_lightWeight 2 = .ok (.aload_n 0, 1) := by decide +kernel
theorem dX3_lightWeight_3 : decode cX3_lightWeight 3 = .ok (.getfield 44, 3) := by decide +kernel
theorem dX3_lightWeight_6 : decode cX3_lightWeight 6 = .ok (.lneg, 1) := by decide +kernel
theorem dX3_lightWeight_7 : decode cX3_lightWeight 7 = .ok (.invokevirtual 139, 3) := by decide +kernel
theorem dX3_lightWeight_10 : decode cX3_lightWeight 10 = .ok (.aload_n 0, 1) := by decide +kernel
theorem dX3_lightWeight_11 : decode cX3_lightWeight 11 = .ok (.aload_n 1, 1) := by decide +kernel
theorem dX3_lightWeight_12 : decode cX3_lightWeight 12 = .ok (.aload_n 0, 1) := by decide +kernel
theorem dX3_lightWeight_13 : decode cX3_lightWeight 13 = .ok (.getfield 44, 3) := by decide +kernel
theorem dX3_lightWeight_16 : decode cX3_lightWeight 16 = .ok (.invokevirtual 139, 3) := by decide +kernel
theorem dX3_lightWeight_19 : decode cX3_lightWeight 19 = .ok (.invokestatic 213, 3) := by decide +kernel
theorem dX3_lightWeight_22 : decode cX3_lightWeight 22 = .ok (.lreturn, 1) := by decide +kernel
set_option maxRecDepth 20000 in
theorem ggX3_heavyWeight_X3_netWeightOf : GoodIn wsX3_heavyWeight wsX3_netWeightOf := goodIn_r _ [10, 11, 12, 13, 9, 14, 15, 16, 17, 18, 19, 20, 21, 22, 23, 24, 25, 26, 27, 28, 29, 30, 31, 32, 33, 34, 35, 36, 37, 38, 39, 40, 41, 42, 43, 44, 45, 46, 47, 48, 49, 50, 51, 52, 53, 54, 55, 56, 57, 58, 59, 60, 61, 62, 63, 64, 65, 66, 67, 68, 69, 70, 71, 72, 73, 2, 3, 4, 5, 74, 75, 76, 77, 78, 79, 80, 81, 82, 83, 84, 85, 86, 87, 88, 89, 90, 91, 92, 93, 94, 95, 96, 97, 98, 99, 100, 101, 102, 103] (by decide +kernel) (by decide +kernel)
set_option maxRecDepth 20000 in
theorem gX3_heavyWeight_X3_netWeightOf : GoodIn wsX3_heavyWeight (wsV RX3 139 RX3 yX3_netWeightOf wsX3_netWeightOf) := goodIn_app (goodIn_of _ (by decide +kernel)) ggX3_heavyWeight_X3_netWeightOf
theorem dX3_heavyWeight_0 : decode cX3_heavyWeight 0 = .ok (.aload_n 0, 1) := by decide +kernel
theorem dX3_heavyWeight_1 : decode cX3_heavyWeight 1 = .ok (.aload_n 1, 1) := by decide +kernel
theorem dX3_heavyWeight_2 : decode cX3_heavyWeight 2 = .ok (.aload_n 0, 1) := by decide +kernel
theorem dX3_heavyWeight_3 : decode cX3_heavyWeight 3 = .ok (.getfield 44, 3) := by decide +kernel
theorem dX3_heavyWeight_6 : decode cX3_heavyWeight 6 = .ok (.lneg, 1) := by decide +kernel
theorem dX3_heavyWeight_7 : decode cX3_heavyWeight 7 = .ok (.invokevirtual 139, 3) := by decide +kernel
theorem dX3_heavyWeight_10 : decode cX3_heavyWeight 10 = .ok (.aload_n 0, 1) := by decide +kernel
theorem dX3_heavyWeight_11 : decode cX3_heavyWeight 11 = .ok (.aload_n 1, 1) := by decide +kernel
theorem dX3_heavyWeight_12 : decode cX3_heavyWeight 12 = .ok (.aload_n 0, 1) := by decide +kernel
theorem dX3_heavyWeight_13 : decode cX3_heavyWeight 13 = .ok (.getfield 44, 3) := by decide +kernel
theorem dX3_heavyWeight_16 : decode cX3_heavyWeight 16 = .ok (.invokevirtual 139, 3) := by decide +kernel
theorem dX3_heavyWeight_19 : decode cX3_heavyWeight 19 = .ok (.invokestatic 205, 3) := by decide +kernel
theorem dX3_heavyWeight_22 : decode cX3_heavyWeight 22 = .ok (.lreturn, 1) := by decide +kernel
set_option maxRecDepth 20000 in
theorem ggX3_quotient_J9_floorDiv_f86c9 : GoodIn wsX3_quotient wsJ9_floorDiv_f86c9 := goodIn_r _ [4] (by decide +kernel) (by decide +kernel)
set_option maxRecDepth 20000 in
theorem gX3_quotient_J9_floorDiv_f86c9 : GoodIn wsX3_quotient (va_wsS RX3 222 yJ9_floorDiv_f86c9 wsJ9_floorDiv_f86c9) := goodIn_app (goodIn_of _ (by decide +kernel)) ggX3_quotient_J9_floorDiv_f86c9
theorem dX3_quotient_0 : decode cX3_quotient 0 = .ok (.lload_n 2, 1) := by decide +kernel
theorem dX3_quotient_1 : decode cX3_quotient 1 = .ok (.lconst 0, 1) := by decide +kernel
theorem dX3_quotient_2 : decode cX3_quotient 2 = .ok (.lcmp, 1) := by decide +kernel
theorem dX3_quotient_3 : decode cX3_quotient 3 = .ok (.ifCond .ne 7, 3) := by decide +kernel
theorem dX3_quotient_6 : decode cX3_quotient 6 = .ok (.lconst 0, 1) := by decide +kernel
theorem dX3_quotient_7 : decode cX3_quotient 7 = .ok (.goto 8, 3) := by decide +kernel
theorem dX3_quotient_10 : decode cX3_quotient 10 = .ok (.lload_n 0, 1) := by decide +kernel
theorem dX3_quotient_11 : decode cX3_quotient 11 = .ok (.lload_n 2, 1) := by decide +kernel
theorem dX3_quotient_12 : decode cX3_quotient 12 = .ok (.invokestatic 222, 3) := by decide +kernel
theorem dX3_quotient_15 : decode cX3_quotient 15 = .ok (.lreturn, 1) := by decide +kernel
theorem dX3_hashWith_0 : decode cX3_hashWith 0 = .ok (.ldc2_w 228, 3) := by decide +kernel
theorem dX3_hashWith_3 : decode cX3_hashWith 3 = .ok (.lload_n 0, 1) := by decide +kernel
theorem dX3_hashWith_4 : decode cX3_hashWith 4 = .ok (.lmul, 1) := by decide +kernel
theorem dX3_hashWith_5 : decode cX3_hashWith 5 = .ok (.lload_n 2, 1) := by decide +kernel
theorem dX3_hashWith_6 : decode cX3_hashWith 6 = .ok (.ladd, 1) := by decide +kernel
theorem dX3_hashWith_7 : decode cX3_hashWith 7 = .ok (.lreturn, 1) := by decide +kernel
set_option maxRecDepth 20000 in
theorem ggX3_hashOfTable_X3_hashWith : GoodIn wsX3_hashOfTable wsX3_hashWith := goodIn_r _ [5, 6] (by decide +kernel) (by decide +kernel)
set_option maxRecDepth 20000 in
theorem gX3_hashOfTable_X3_hashWith : GoodIn wsX3_hashOfTable (va_wsS RX3 169 yX3_hashWith wsX3_hashWith) := goodIn_app (goodIn_of _ (by decide +kernel)) ggX3_hashOfTable_X3_hashWith
set_option maxRecDepth 20000 in
theorem ggX3_hashOfTable_X2_cell : GoodIn wsX3_hashOfTable wsX2_cell := goodIn_r _ [11, 12, 13, 21, 22] (by decide +kernel) (by decide +kernel)
set_option maxRecDepth 20000 in
theorem gX3_hashOfTable_X2_cell : GoodIn wsX3_hashOfTable (wsV RX3 83 RX2 yX2_cell wsX2_cell) := goodIn_app (goodIn_of _ (by decide +kernel)) ggX3_hashOfTable_X2_cell
theorem dX3_hashOfTable_0 : decode cX3_hashOfTable 0 = .ok (.lload_n 1, 1) := by decide +kernel
theorem dX3_hashOfTable_1 : decode cX3_hashOfTable 1 = .ok (.aload_n 0, 1) := by decide +kernel
theorem dX3_hashOfTable_2 : decode cX3_hashOfTable 2 = .ok (.getfield 27, 3) := by decide +kernel
theorem dX3_hashOfTable_5 : decode cX3_hashOfTable 5 = .ok (.getfield 78, 3) := by decide +kernel
theorem dX3_hashOfTable_8 : decode cX3_hashOfTable 8 = .ok (.i2l, 1) := by decide +kernel
theorem dX3_hashOfTable_9 : decode cX3_hashOfTable 9 = .ok (.invokestatic 169, 3) := by decide +kernel
theorem dX3_hashOfTable_12 : decode cX3_hashOfTable 12 = .ok (.lstore_n 3, 1) := by decide +kernel
theorem dX3_hashOfTable_13 : decode cX3_hashOfTable 13 = .ok (.iconst 0, 1) := by decide +kernel
theorem dX3_hashOfTable_14 : decode cX3_hashOfTable 14 = .ok (.istore 5, 2) := by decide +kernel
theorem dX3_hashOfTable_16 : decode cX3_hashOfTable 16 = .ok (.iload 5, 2) := by decide +kernel
theorem dX3_hashOfTable_18 : decode cX3_hashOfTable 18 = .ok (.aload_n 0, 1) := by decide +kernel
theorem dX3_hashOfTable_19 : decode cX3_hashOfTable 19 = .ok (.getfield 27, 3) := by decide +kernel
theorem dX3_hashOfTable_22 : decode cX3_hashOfTable 22 = .ok (.getfield 78, 3) := by decide +kernel
theorem dX3_hashOfTable_25 : decode cX3_hashOfTable 25 = .ok (.if_icmp .ge 40, 3) := by decide +kernel
theorem dX3_hashOfTable_28 : decode cX3_hashOfTable 28 = .ok (.iconst 0, 1) := by decide +kernel
theorem dX3_hashOfTable_29 : decode cX3_hashOfTable 29 = .ok (.istore 6, 2) := by decide +kernel
theorem dX3_hashOfTable_31 : decode cX3_hashOfTable 31 = .ok (.iload 6, 2) := by decide +kernel
theorem dX3_hashOfTable_33 : decode cX3_hashOfTable 33 = .ok (.iconst 5, 1) := by decide +kernel
theorem dX3_hashOfTable_34 : decode cX3_hashOfTable 34 = .ok (.if_icmp .ge 25, 3) := by decide +kernel
theorem dX3_hashOfTable_37 : decode cX3_hashOfTable 37 = .ok (.lload_n 3, 1) := by decide +kernel
theorem dX3_hashOfTable_38 : decode cX3_hashOfTable 38 = .ok (.aload_n 0, 1) := by decide +kernel
theorem dX3_hashOfTable_39 : decode cX3_hashOfTable 39 = .ok (.getfield 27, 3) := by decide +kernel
theorem dX3_hashOfTable_42 : decode cX3_hashOfTable 42 = .ok (.iload 5, 2) := by decide +kernel
theorem dX3_hashOfTable_44 : decode cX3_hashOfTable 44 = .ok (.iload 6, 2) := by decide +kernel
theorem dX3_hashOfTable_46 : decode cX3_hashOfTable 46 = .ok (.invokevirtual 83, 3) := by decide +kernel
theorem dX3_hashOfTable_49 : decode cX3_hashOfTable 49 = .ok (.invokestatic 169, 3) := by decide +kernel
theorem dX3_hashOfTable_52 : decode cX3_hashOfTable 52 = .ok (.lstore_n 3, 1) := by decide +kernel
theorem dX3_hashOfTable_53 : decode cX3_hashOfTable 53 = .ok (.iinc 6 1, 3) := by decide +kernel
theorem dX3_hashOfTable_56 : decode cX3_hashOfTable 56 = .ok (.goto (-25), 3) := by decide +kernel
theorem dX3_hashOfTable_59 : decode cX3_hashOfTable 59 = .ok (.iinc 5 1, 3) := by decide +kernel
theorem dX3_hashOfTable_62 : decode cX3_hashOfTable 62 = .ok (.goto (-46), 3) := by decide +kernel
theorem dX3_hashOfTable_65 : decode cX3_hashOfTable 65 = .ok (.lload_n 3, 1) := by decide +kernel
theorem dX3_hashOfTable_66 : decode cX3_hashOfTable 66 = .ok (.lreturn, 1) := by decide +kernel
set_option maxRecDepth 20000 in
theorem ggX3_hashOfSurvey_X3_reading : GoodIn wsX3_hashOfSurvey wsX3_reading := goodIn_r _ [5, 6, 7, 8, 9, 10, 4, 11, 12, 158, 159, 160, 161, 162, 163, 164, 165, 166, 167] (by decide +kernel) (by decide +kernel)
set_option maxRecDepth 20000 in
theorem gX3_hashOfSurvey_X3_reading : GoodIn wsX3_hashOfSurvey (wsV RX3 230 RX3 yX3_reading wsX3_reading) := goodIn_app (goodIn_of _ (by decide +kernel)) ggX3_hashOfSurvey_X3_reading
set_option maxRecDepth 20000 in
theorem ggX3_hashOfSurvey_X3_hashWith : GoodIn wsX3_hashOfSurvey wsX3_hashWith := goodIn_r _ [15, 16] (by decide +kernel) (by decide +kernel)
set_option maxRecDepth 20000 in
theorem gX3_hashOfSurvey_X3_hashWith : GoodIn wsX3_hashOfSurvey (va_wsS RX3 169 yX3_hashWith wsX3_hashWith) := goodIn_app (goodIn_of _ (by decide +kernel)) ggX3_hashOfSurvey_X3_hashWith
set_option maxRecDepth 20000 in
theorem ggX3_hashOfSurvey_X3_trim : GoodIn wsX3_hashOfSurvey wsX3_trim := goodIn_r _ [20, 6, 8, 9, 10, 4, 11, 12, 21, 22, 23, 24, 25, 26, 27, 28, 29, 30, 31, 32, 33, 34, 35, 36, 37, 38, 39, 161, 162, 163, 164, 165, 166, 167, 158, 159, 160] (by decide +kernel) (by decide +kernel)
set_option maxRecDepth 20000 in
theorem gX3_hashOfSurvey_X3_trim : GoodIn wsX3_hashOfSurvey (wsV RX3 233 RX3 yX3_trim wsX3_trim) := goodIn_app (goodIn_of _ (by decide +kernel)) ggX3_hashOfSurvey_X3_trim
set_option maxRecDepth 20000 in
theorem ggX3_hashOfSurvey_X3_deflection : GoodIn wsX3_hashOfSurvey wsX3_deflection := goodIn_r _ [43, 6, 8, 9, 10, 4, 11, 12, 44, 45, 46, 24, 47, 31, 48, 49, 50, 51, 30, 32, 33, 34, 35, 36, 37, 38, 39, 26, 27, 28, 29, 161, 162, 163, 164, 165, 166, 167, 158, 159, 160] (by decide +kernel) (by decide +kernel)
set_option maxRecDepth 20000 in
theorem gX3_hashOfSurvey_X3_deflection : GoodIn wsX3_hashOfSurvey (wsV RX3 236 RX3 yX3_deflection wsX3_deflection) := goodIn_app (goodIn_of _ (by decide +kernel)) ggX3_hashOfSurvey_X3_deflection
set_option maxRecDepth 20000 in
theorem ggX3_hashOfSurvey_X3_heel : GoodIn wsX3_hashOfSurvey wsX3_heel := goodIn_r _ [55, 6, 8, 9, 10, 4, 11, 12, 56, 57, 58, 24, 59, 30, 161, 162, 163, 164, 165, 166, 167, 158, 159, 160] (by decide +kernel) (by decide +kernel)
set_option maxRecDepth 20000 in
theorem gX3_hashOfSurvey_X3_heel : GoodIn wsX3_hashOfSurvey (wsV RX3 239 RX3 yX3_heel wsX3_heel) := goodIn_app (goodIn_of _ (by decide +kernel)) ggX3_hashOfSurvey_X3_heel
set_option maxRecDepth 20000 in
theorem ggX3_hashOfSurvey_X3_quarterMean : GoodIn wsX3_hashOfSurvey wsX3_quarterMean := goodIn_r _ [63, 6, 8, 9, 10, 4, 11, 12, 64, 65, 66, 24, 67, 68, 69, 36, 37, 38, 39, 30, 31, 32, 33, 34, 35, 48, 49, 50, 51, 26, 27, 28, 29, 161, 162, 163, 164, 165, 166, 167, 158, 159, 160] (by decide +kernel) (by decide +kernel)
set_option maxRecDepth 20000 in
theorem gX3_hashOfSurvey_X3_quarterMean : GoodIn wsX3_hashOfSurvey (wsV RX3 242 RX3 yX3_quarterMean wsX3_quarterMean) := goodIn_app (goodIn_of _ (by decide +kernel)) ggX3_hashOfSurvey_X3_quarterMean
set_option maxRecDepth 20000 in
theorem ggX3_hashOfSurvey_X3_firstCorrection : GoodIn wsX3_hashOfSurvey wsX3_firstCorrection := goodIn_r _ [73, 6, 74, 8, 9, 10, 4, 11, 12, 75, 76, 77, 78, 79, 64, 65, 66, 24, 67, 68, 69, 36, 37, 38, 39, 30, 31, 32, 33, 34, 35, 48, 49, 50, 51, 26, 27, 28, 29, 80, 81, 82, 83, 84, 85, 86, 87, 88, 89, 90, 91, 92, 93, 94, 95, 96, 97, 98, 21, 22, 23, 25, 99, 100, 101, 102, 103, 104, 105, 106, 107, 108, 109, 110, 111, 112, 113, 114, 161, 162, 163, 164, 165, 166, 167, 158, 159, 160, 168, 169] (by decide +kernel) (by decide +kernel)
set_option maxRecDepth 20000 in
theorem gX3_hashOfSurvey_X3_firstCorrection : GoodIn wsX3_hashOfSurvey (wsV RX3 245 RX3 yX3_firstCorrection wsX3_firstCorrection) := goodIn_app (goodIn_of _ (by decide +kernel)) ggX3_hashOfSurvey_X3_firstCorrection
set_option maxRecDepth 20000 in
theorem ggX3_hashOfSurvey_X3_secondCorrection : GoodIn wsX3_hashOfSurvey wsX3_secondCorrection := goodIn_r _ [118, 6, 74, 8, 9, 10, 4, 11, 12, 75, 76, 77, 78, 79, 64, 65, 66, 24, 67, 68, 69, 36, 37, 38, 39, 30, 31, 32, 33, 34, 35, 48, 49, 50, 51, 26, 27, 28, 29, 80, 81, 82, 83, 84, 85, 86, 87, 88, 89, 90, 91, 92, 93, 94, 95, 96, 97, 98, 21, 22, 23, 25, 119, 120, 121, 122, 123, 124, 125, 126, 127, 128, 129, 130, 131, 132, 104, 133, 134, 105, 106, 107, 108, 109, 110, 111, 112, 113, 114, 161, 162, 163, 164, 165, 166, 167, 158, 159, 160, 168, 169] (by decide +kernel) (by decide +kernel)
set_option maxRecDepth 20000 in
theorem gX3_hashOfSurvey_X3_secondCorrection : GoodIn wsX3_hashOfSurvey (wsV RX3 248 RX3 yX3_secondCorrection wsX3_secondCorrection) := goodIn_app (goodIn_of _ (by decide +kernel)) ggX3_hashOfSurvey_X3_secondCorrection
set_option maxRecDepth 20000 in
theorem ggX3_hashOfSurvey_X3_displacement : GoodIn wsX3_hashOfSurvey wsX3_displacement := goodIn_r _ [138, 6, 139, 74, 8, 9, 10, 4, 11, 12, 75, 76, 77, 78, 79, 64, 65, 66, 24, 67, 68, 69, 36, 37, 38, 39, 30, 31, 32, 33, 34, 35, 48, 49, 50, 51, 26, 27, 28, 29, 80, 81, 82, 83, 84, 85, 86, 87, 88, 89, 90, 91, 92, 93, 94, 95, 96, 97, 98, 140, 141, 142, 143, 144, 21, 22, 23, 25, 105, 106, 107, 108, 109, 110, 99, 100, 101, 102, 103, 104, 111, 112, 113, 114, 119, 120, 121, 122, 123, 124, 125, 126, 127, 128, 129, 130, 131, 132, 133, 134, 161, 162, 163, 164, 165, 166, 167, 158, 159, 160, 168, 169] (by decide +kernel) (by decide +kernel)
set_option maxRecDepth 20000 in
theorem gX3_hashOfSurvey_X3_displacement : GoodIn wsX3_hashOfSurvey (wsV RX3 251 RX3 yX3_displacement wsX3_displacement) := goodIn_app (goodIn_of _ (by decide +kernel)) ggX3_hashOfSurvey_X3_displacement
set_option maxRecDepth 20000 in
theorem ggX3_hashOfSurvey_X3_netWeight : GoodIn wsX3_hashOfSurvey wsX3_netWeight := goodIn_r _ [148, 6, 74, 8, 9, 10, 4, 11, 12, 75, 76, 77, 78, 79, 64, 65, 66, 24, 67, 68, 69, 36, 37, 38, 39, 30, 31, 32, 33, 34, 35, 48, 49, 50, 51, 26, 27, 28, 29, 80, 81, 82, 83, 84, 85, 86, 87, 88, 89, 90, 91, 92, 93, 94, 95, 96, 97, 98, 149, 150, 151, 152, 140, 141, 142, 143, 144, 21, 22, 23, 25, 105, 106, 107, 108, 109, 110, 99, 100, 101, 102, 103, 104, 111, 112, 113, 114, 119, 120, 121, 122, 123, 124, 125, 126, 127, 128, 129, 130, 131, 132, 133, 134, 153, 154, 155, 156, 157, 161, 162, 163, 164, 165, 166, 167, 158, 159, 160, 168, 169] (by decide +kernel) (by decide +kernel)
set_option maxRecDepth 20000 in
theorem gX3_hashOfSurvey_X3_netWeight : GoodIn wsX3_hashOfSurvey (wsV RX3 254 RX3 yX3_netWeight wsX3_netWeight) := goodIn_app (goodIn_of _ (by decide +kernel)) ggX3_hashOfSurvey_X3_netWeight
theorem dX3_hashOfSurvey_0 : decode cX3_hashOfSurvey 0 = .ok (.lload_n 1, 1) := by decide +kernel
theorem dX3_hashOfSurvey_1 : decode cX3_hashOfSurvey 1 = .ok (.lstore 4, 2) := by decide +kernel
theorem dX3_hashOfSurvey_3 : decode cX3_hashOfSurvey 3 = .ok (.iconst 0, 1) := by decide +kernel
theorem dX3_hashOfSurvey_4 : decode cX3_hashOfSurvey 4 = .ok (.istore 6, 2) := by decide +kernel
theorem dX3_hashOfSurvey_6 : decode cX3_hashOfSurvey 6 = .ok (.iload 6, 2) := by decide +kernel
theorem dX3_hashOfSurvey_8 : decode cX3_hashOfSurvey 8 = .ok (.bipush 6, 2) := by decide +kernel
theorem dX3_hashOfSurvey_10 : decode cX3_hashOfSurvey 10 = .ok (.if_icmp .ge 23, 3) := by decide +kernel
theorem dX3_hashOfSurvey_13 : decode cX3_hashOfSurvey 13 = .ok (.lload 4, 2) := by decide +kernel
theorem dX3_hashOfSurvey_15 : decode cX3_hashOfSurvey 15 = .ok (.aload_n 0, 1) := by decide +kernel
theorem dX3_hashOfSurvey_16 : decode cX3_hashOfSurvey 16 = .ok (.iload_n 3, 1) := by decide +kernel
theorem dX3_hashOfSurvey_17 : decode cX3_hashOfSurvey 17 = .ok (.iload 6, 2) := by decide +kernel
theorem dX3_hashOfSurvey_19 : decode cX3_hashOfSurvey 19 = .ok (.invokevirtual 230, 3) := by decide +kernel
theorem dX3_hashOfSurvey_22 : decode cX3_hashOfSurvey 22 = .ok (.invokestatic 169, 3) := by decide +kernel
theorem dX3_hashOfSurvey_25 : decode cX3_hashOfSurvey 25 = .ok (.lstore 4, 2) := by decide +kernel
theorem dX3_hashOfSurvey_27 : decode cX3_hashOfSurvey 27 = .ok (.iinc 6 1, 3) := by decide +kernel
theorem dX3_hashOfSurvey_30 : decode cX3_hashOfSurvey 30 = .ok (.goto (-24), 3) := by decide +kernel
theorem dX3_hashOfSurvey_33 : decode cX3_hashOfSurvey 33 = .ok (.lload 4, 2) := by decide +kernel
theorem dX3_hashOfSurvey_35 : decode cX3_hashOfSurvey 35 = .ok (.aload_n 0, 1) := by decide +kernel
theorem dX3_hashOfSurvey_36 : decode cX3_hashOfSurvey 36 = .ok (.iload_n 3, 1) := by decide +kernel
theorem dX3_hashOfSurvey_37 : decode cX3_hashOfSurvey 37 = .ok (.invokevirtual 233, 3) := by decide +kernel
theorem dX3_hashOfSurvey_40 : decode cX3_hashOfSurvey 40 = .ok (.invokestatic 169, 3) := by decide +kernel
theorem dX3_hashOfSurvey_43 : decode cX3_hashOfSurvey 43 = .ok (.lstore 4, 2) := by decide +kernel
theorem dX3_hashOfSurvey_45 : decode cX3_hashOfSurvey 45 = .ok (.lload 4, 2) := by decide +kernel
theorem dX3_hashOfSurvey_47 : decode cX3_hashOfSurvey 47 = .ok (.aload_n 0, 1) := by decide +kernel
theorem dX3_hashOfSurvey_48 : decode cX3_hashOfSurvey 48 = .ok (.iload_n 3, 1) := by decide +kernel
theorem dX3_hashOfSurvey_49 : decode cX3_hashOfSurvey 49 = .ok (.invokevirtual 236, 3) := by decide +kernel
theorem dX3_hashOfSurvey_52 : decode cX3_hashOfSurvey 52 = .ok (.invokestatic 169, 3) := by decide +kernel
theorem dX3_hashOfSurvey_55 : decode cX3_hashOfSurvey 55 = .ok (.lstore 4, 2) := by decide +kernel
theorem dX3_hashOfSurvey_57 : decode cX3_hashOfSurvey 57 = .ok (.lload 4, 2) := by decide +kernel
theorem dX3_hashOfSurvey_59 : decode cX3_hashOfSurvey 59 = .ok (.aload_n 0, 1) := by decide +kernel
theorem dX3_hashOfSurvey_60 : decode cX3_hashOfSurvey 60 = .ok (.iload_n 3, 1) := by decide +kernel
theorem dX3_hashOfSurvey_61 : decode cX3_hashOfSurvey 61 = .ok (.invokevirtual 239, 3) := by decide +kernel
theorem dX3_hashOfSurvey_64 : decode cX3_hashOfSurvey 64 = .ok (.invokestatic 169, 3) := by decide +kernel
theorem dX3_hashOfSurvey_67 : decode cX3_hashOfSurvey 67 = .ok (.lstore 4, 2) := by decide +kernel
theorem dX3_hashOfSurvey_69 : decode cX3_hashOfSurvey 69 = .ok (.lload 4, 2) := by decide +kernel
theorem dX3_hashOfSurvey_71 : decode cX3_hashOfSurvey 71 = .ok (.aload_n 0, 1) := by decide +kernel
theorem dX3_hashOfSurvey_72 : decode cX3_hashOfSurvey 72 = .ok (.iload_n 3, 1) := by decide +kernel
theorem dX3_hashOfSurvey_73 : decode cX3_hashOfSurvey 73 = .ok (.invokevirtual 242, 3) := by decide +kernel
theorem dX3_hashOfSurvey_76 : decode cX3_hashOfSurvey 76 = .ok (.invokestatic 169, 3) := by decide +kernel
theorem dX3_hashOfSurvey_79 : decode cX3_hashOfSurvey 79 = .ok (.lstore 4, 2) := by decide +kernel
theorem dX3_hashOfSurvey_81 : decode cX3_hashOfSurvey 81 = .ok (.lload 4, 2) := by decide +kernel
theorem dX3_hashOfSurvey_83 : decode cX3_hashOfSurvey 83 = .ok (.aload_n 0, 1) := by decide +kernel
theorem dX3_hashOfSurvey_84 : decode cX3_hashOfSurvey 84 = .ok (.iload_n 3, 1) := by decide +kernel
theorem dX3_hashOfSurvey_85 : decode cX3_hashOfSurvey 85 = .ok (.invokevirtual 245, 3) := by decide +kernel
theorem dX3_hashOfSurvey_88 : decode cX3_hashOfSurvey 88 = .ok (.invokestatic 169, 3) := by decide +kernel
theorem dX3_hashOfSurvey_91 : decode cX3_hashOfSurvey 91 = .ok (.lstore 4, 2) := by decide +kernel
theorem dX3_hashOfSurvey_93 : decode cX3_hashOfSurvey 93 = .ok (.lload 4, 2) := by decide +kernel
theorem dX3_hashOfSurvey_95 : decode cX3_hashOfSurvey 95 = .ok (.aload_n 0, 1) := by decide +kernel
theorem dX3_hashOfSurvey_96 : decode cX3_hashOfSurvey 96 = .ok (.iload_n 3, 1) := by decide +kernel
theorem dX3_hashOfSurvey_97 : decode cX3_hashOfSurvey 97 = .ok (.invokevirtual 248, 3) := by decide +kernel
theorem dX3_hashOfSurvey_100 : decode cX3_hashOfSurvey 100 = .ok (.invokestatic 169, 3) := by decide +kernel
theorem dX3_hashOfSurvey_103 : decode cX3_hashOfSurvey 103 = .ok (.lstore 4, 2) := by decide +kernel
theorem dX3_hashOfSurvey_105 : decode cX3_hashOfSurvey 105 = .ok (.lload 4, 2) := by decide +kernel
theorem dX3_hashOfSurvey_107 : decode cX3_hashOfSurvey 107 = .ok (.aload_n 0, 1) := by decide +kernel
theorem dX3_hashOfSurvey_108 : decode cX3_hashOfSurvey 108 = .ok (.iload_n 3, 1) := by decide +kernel
theorem dX3_hashOfSurvey_109 : decode cX3_hashOfSurvey 109 = .ok (.sipush (-500), 3) := by decide +kernel
theorem dX3_hashOfSurvey_112 : decode cX3_hashOfSurvey 112 = .ok (.invokevirtual 251, 3) := by decide +kernel
theorem dX3_hashOfSurvey_115 : decode cX3_hashOfSurvey 115 = .ok (.invokestatic 169, 3) := by decide +kernel
theorem dX3_hashOfSurvey_118 : decode cX3_hashOfSurvey 118 = .ok (.lstore 4, 2) := by decide +kernel
theorem dX3_hashOfSurvey_120 : decode cX3_hashOfSurvey 120 = .ok (.lload 4, 2) := by decide +kernel
theorem dX3_hashOfSurvey_122 : decode cX3_hashOfSurvey 122 = .ok (.aload_n 0, 1) := by decide +kernel
theorem dX3_hashOfSurvey_123 : decode cX3_hashOfSurvey 123 = .ok (.iload_n 3, 1) := by decide +kernel
theorem dX3_hashOfSurvey_124 : decode cX3_hashOfSurvey 124 = .ok (.iconst 0, 1) := by decide +kernel
theorem dX3_hashOfSurvey_125 : decode cX3_hashOfSurvey 125 = .ok (.invokevirtual 251, 3) := by decide +kernel
theorem dX3_hashOfSurvey_128 : decode cX3_hashOfSurvey 128 = .ok (.invokestatic 169, 3) := by decide +kernel
theorem dX3_hashOfSurvey_131 : decode cX3_hashOfSurvey 131 = .ok (.lstore 4, 2) := by decide +kernel
theorem dX3_hashOfSurvey_133 : decode cX3_hashOfSurvey 133 = .ok (.lload 4, 2) := by decide +kernel
theorem dX3_hashOfSurvey_135 : decode cX3_hashOfSurvey 135 = .ok (.aload_n 0, 1) := by decide +kernel
theorem dX3_hashOfSurvey_136 : decode cX3_hashOfSurvey 136 = .ok (.iload_n 3, 1) := by decide +kernel
theorem dX3_hashOfSurvey_137 : decode cX3_hashOfSurvey 137 = .ok (.sipush 500, 3) := by decide +kernel
theorem dX3_hashOfSurvey_140 : decode cX3_hashOfSurvey 140 = .ok (.invokevirtual 251, 3) := by decide +kernel
theorem dX3_hashOfSurvey_143 : decode cX3_hashOfSurvey 143 = .ok (.invokestatic 169, 3) := by decide +kernel
theorem dX3_hashOfSurvey_146 : decode cX3_hashOfSurvey 146 = .ok (.lstore 4, 2) := by decide +kernel
theorem dX3_hashOfSurvey_148 : decode cX3_hashOfSurvey 148 = .ok (.lload 4, 2) := by decide +kernel
theorem dX3_hashOfSurvey_150 : decode cX3_hashOfSurvey 150 = .ok (.aload_n 0, 1) := by decide +kernel
theorem dX3_hashOfSurvey_151 : decode cX3_hashOfSurvey 151 = .ok (.iload_n 3, 1) := by decide +kernel
theorem dX3_hashOfSurvey_152 : decode cX3_hashOfSurvey 152 = .ok (.invokevirtual 254, 3) := by decide +kernel
theorem dX3_hashOfSurvey_155 : decode cX3_hashOfSurvey 155 = .ok (.invokestatic 169, 3) := by decide +kernel
theorem dX3_hashOfSurvey_158 : decode cX3_hashOfSurvey 158 = .ok (.lreturn, 1) := by decide +kernel
set_option maxRecDepth 20000 in
theorem ggX3_hashOfBuffer_X3_hashWith : GoodIn wsX3_hashOfBuffer wsX3_hashWith := goodIn_r _ [6, 7] (by decide +kernel) (by decide +kernel)
set_option maxRecDepth 20000 in
theorem gX3_hashOfBuffer_X3_hashWith : GoodIn wsX3_hashOfBuffer (va_wsS RX3 169 yX3_hashWith wsX3_hashWith) := goodIn_app (goodIn_of _ (by decide +kernel)) ggX3_hashOfBuffer_X3_hashWith
theorem dX3_hashOfBuffer_0 : decode cX3_hashOfBuffer 0 = .ok (.lload_n 1, 1) := by decide +kernel
theorem dX3_hashOfBuffer_1 : decode cX3_hashOfBuffer 1 = .ok (.aload_n 0, 1) := by decide +kernel
theorem dX3_hashOfBuffer_2 : decode cX3_hashOfBuffer 2 = .ok (.getfield 13, 3) := by decide +kernel
theorem dX3_hashOfBuffer_5 : decode cX3_hashOfBuffer 5 = .ok (.i2l, 1) := by decide +kernel
theorem dX3_hashOfBuffer_6 : decode cX3_hashOfBuffer 6 = .ok (.invokestatic 169, 3) := by decide +kernel
theorem dX3_hashOfBuffer_9 : decode cX3_hashOfBuffer 9 = .ok (.lstore_n 3, 1) := by decide +kernel
theorem dX3_hashOfBuffer_10 : decode cX3_hashOfBuffer 10 = .ok (.iconst 0, 1) := by decide +kernel
theorem dX3_hashOfBuffer_11 : decode cX3_hashOfBuffer 11 = .ok (.istore 5, 2) := by decide +kernel
theorem dX3_hashOfBuffer_13 : decode cX3_hashOfBuffer 13 = .ok (.iload 5, 2) := by decide +kernel
theorem dX3_hashOfBuffer_15 : decode cX3_hashOfBuffer 15 = .ok (.aload_n 0, 1) := by decide +kernel
theorem dX3_hashOfBuffer_16 : decode cX3_hashOfBuffer 16 = .ok (.getfield 13, 3) := by decide +kernel
theorem dX3_hashOfBuffer_19 : decode cX3_hashOfBuffer 19 = .ok (.if_icmp .ge 29, 3) := by decide +kernel
theorem dX3_hashOfBuffer_22 : decode cX3_hashOfBuffer 22 = .ok (.iload 5, 2) := by decide +kernel
theorem dX3_hashOfBuffer_24 : decode cX3_hashOfBuffer 24 = .ok (.bipush 40, 2) := by decide +kernel
theorem dX3_hashOfBuffer_26 : decode cX3_hashOfBuffer 26 = .ok (.if_icmp .ge 22, 3) := by decide +kernel
theorem dX3_hashOfBuffer_29 : decode cX3_hashOfBuffer 29 = .ok (.lload_n 3, 1) := by decide +kernel
theorem dX3_hashOfBuffer_30 : decode cX3_hashOfBuffer 30 = .ok (.aload_n 0, 1) := by decide +kernel
theorem dX3_hashOfBuffer_31 : decode cX3_hashOfBuffer 31 = .ok (.getfield 9, 3) := by decide +kernel
theorem dX3_hashOfBuffer_34 : decode cX3_hashOfBuffer 34 = .ok (.iload 5, 2) := by decide +kernel
theorem dX3_hashOfBuffer_36 : decode cX3_hashOfBuffer 36 = .ok (.iaload, 1) := by decide +kernel
theorem dX3_hashOfBuffer_37 : decode cX3_hashOfBuffer 37 = .ok (.i2l, 1) := by decide +kernel
theorem dX3_hashOfBuffer_38 : decode cX3_hashOfBuffer 38 = .ok (.invokestatic 169, 3) := by decide +kernel
theorem dX3_hashOfBuffer_41 : decode cX3_hashOfBuffer 41 = .ok (.lstore_n 3, 1) := by decide +kernel
theorem dX3_hashOfBuffer_42 : decode cX3_hashOfBuffer 42 = .ok (.iinc 5 1, 3) := by decide +kernel
theorem dX3_hashOfBuffer_45 : decode cX3_hashOfBuffer 45 = .ok (.goto (-32), 3) := by decide +kernel
theorem dX3_hashOfBuffer_48 : decode cX3_hashOfBuffer 48 = .ok (.lload_n 3, 1) := by decide +kernel
theorem dX3_hashOfBuffer_49 : decode cX3_hashOfBuffer 49 = .ok (.lreturn, 1) := by decide +kernel
theorem dX4_init_0 : decode cX4_init 0 = .ok (.aload_n 0, 1) := by decide +kernel
theorem dX4_init_1 : decode cX4_init 1 = .ok (.invokespecial 1, 3) := by decide +kernel
theorem dX4_init_4 : decode cX4_init 4 = .ok (.aload_n 0, 1) := by decide +kernel
theorem dX4_init_5 : decode cX4_init 5 = .ok (.bipush 40, 2) := by decide +kernel
theorem dX4_init_7 : decode cX4_init 7 = .ok (.newarray .int, 2) := by decide +kernel
theorem dX4_init_9 : decode cX4_init 9 = .ok (.putfield 7, 3) := by decide +kernel
theorem dX4_init_12 : decode cX4_init 12 = .ok (.aload_n 0, 1) := by decide +kernel
theorem dX4_init_13 : decode cX4_init 13 = .ok (.bipush 50, 2) := by decide +kernel
theorem dX4_init_15 : decode cX4_init 15 = .ok (.newarray .long, 2) := by decide +kernel
theorem dX4_init_17 : decode cX4_init 17 = .ok (.putfield 13, 3) := by decide +kernel
theorem dX4_init_20 : decode cX4_init 20 = .ok (.aload_n 0, 1) := by decide +kernel
theorem dX4_init_21 : decode cX4_init 21 = .ok (.bipush 24, 2) := by decide +kernel
theorem dX4_init_23 : decode cX4_init 23 = .ok (.newarray .long, 2) := by decide +kernel
theorem dX4_init_25 : decode cX4_init 25 = .ok (.putfield 17, 3) := by decide +kernel
theorem dX4_init_28 : decode cX4_init 28 = .ok (.aload_n 0, 1) := by decide +kernel
end
section
theorem dX4_init_29 : decode cX4_init 29 = .ok (.iconst 4, 1) := by decide +kernel
theorem dX4_init_30 : decode cX4_init 30 = .ok (.newarray .long, 2) := by decide +kernel
theorem dX4_init_32 : decode cX4_init 32 = .ok (.putfield 20, 3) := by decide +kernel
theorem dX4_init_35 : decode cX4_init 35 = .ok (.aload_n 0, 1) := by decide +kernel
theorem dX4_init_36 : decode cX4_init 36 = .ok (.bipush 16, 2) := by decide +kernel
theorem dX4_init_38 : decode cX4_init 38 = .ok (.newarray .long, 2) := by decide +kernel
theorem dX4_init_40 : decode cX4_init 40 = .ok (.putfield 23, 3) := by decide +kernel
theorem dX4_init_43 : decode cX4_init 43 = .ok (.aload_n 0, 1) := by decide +kernel
theorem dX4_init_44 : decode cX4_init 44 = .ok (.ldc2_w 26, 3) := by decide +kernel
theorem dX4_init_47 : decode cX4_init 47 = .ok (.putfield 28, 3) := by decide +kernel
theorem dX4_init_50 : decode cX4_init 50 = .ok (.aload_n 0, 1) := by decide +kernel
theorem dX4_init_51 : decode cX4_init 51 = .ok (.iconst 5, 1) := by decide +kernel
theorem dX4_init_52 : decode cX4_init 52 = .ok (.newarray .long, 2) := by decide +kernel
theorem dX4_init_54 : decode cX4_init 54 = .ok (.putfield 32, 3) := by decide +kernel
theorem dX4_init_57 : decode cX4_init 57 = .ok (.iconst 0, 1) := by decide +kernel
theorem dX4_init_58 : decode cX4_init 58 = .ok (.istore_n 1, 1) := by decide +kernel
theorem dX4_init_59 : decode cX4_init 59 = .ok (.iload_n 1, 1) := by decide +kernel
theorem dX4_init_60 : decode cX4_init 60 = .ok (.iconst 4, 1) := by decide +kernel
theorem dX4_init_61 : decode cX4_init 61 = .ok (.if_icmp .ge 18, 3) := by decide +kernel
theorem dX4_init_64 : decode cX4_init 64 = .ok (.aload_n 0, 1) := by decide +kernel
theorem dX4_init_65 : decode cX4_init 65 = .ok (.getfield 20, 3) := by decide +kernel
theorem dX4_init_68 : decode cX4_init 68 = .ok (.iload_n 1, 1) := by decide +kernel
theorem dX4_init_69 : decode cX4_init 69 = .ok (.ldc2_w 35, 3) := by decide +kernel
theorem dX4_init_72 : decode cX4_init 72 = .ok (.lastore, 1) := by decide +kernel
theorem dX4_init_73 : decode cX4_init 73 = .ok (.iinc 1 1, 3) := by decide +kernel
theorem dX4_init_76 : decode cX4_init 76 = .ok (.goto (-17), 3) := by decide +kernel
theorem dX4_init_79 : decode cX4_init 79 = .ok (.return_, 1) := by decide +kernel
theorem dX4_within_0 : decode cX4_within 0 = .ok (.lload_n 0, 1) := by decide +kernel
theorem dX4_within_1 : decode cX4_within 1 = .ok (.lload_n 2, 1) := by decide +kernel
theorem dX4_within_2 : decode cX4_within 2 = .ok (.lcmp, 1) := by decide +kernel
theorem dX4_within_3 : decode cX4_within 3 = .ok (.ifCond .lt 14, 3) := by decide +kernel
theorem dX4_within_6 : decode cX4_within 6 = .ok (.lload_n 0, 1) := by decide +kernel
theorem dX4_within_7 : decode cX4_within 7 = .ok (.lload 4, 2) := by decide +kernel
theorem dX4_within_9 : decode cX4_within 9 = .ok (.lcmp, 1) := by decide +kernel
theorem dX4_within_10 : decode cX4_within 10 = .ok (.ifCond .gt 7, 3) := by decide +kernel
theorem dX4_within_13 : decode cX4_within 13 = .ok (.iconst 1, 1) := by decide +kernel
theorem dX4_within_14 : decode cX4_within 14 = .ok (.goto 4, 3) := by decide +kernel
theorem dX4_within_17 : decode cX4_within 17 = .ok (.iconst 0, 1) := by decide +kernel
theorem dX4_within_18 : decode cX4_within 18 = .ok (.ireturn, 1) := by decide +kernel
theorem dX4_quotient_0 : decode cX4_quotient 0 = .ok (.lload_n 0, 1) := by decide +kernel
theorem dX4_quotient_1 : decode cX4_quotient 1 = .ok (.lload_n 2, 1) := by decide +kernel
theorem dX4_quotient_2 : decode cX4_quotient 2 = .ok (.ldiv, 1) := by decide +kernel
theorem dX4_quotient_3 : decode cX4_quotient 3 = .ok (.lstore 4, 2) := by decide +kernel
theorem dX4_quotient_5 : decode cX4_quotient 5 = .ok (.lload_n 0, 1) := by decide +kernel
theorem dX4_quotient_6 : decode cX4_quotient 6 = .ok (.lload_n 2, 1) := by decide +kernel
theorem dX4_quotient_7 : decode cX4_quotient 7 = .ok (.lrem, 1) := by decide +kernel
theorem dX4_quotient_8 : decode cX4_quotient 8 = .ok (.lconst 0, 1) := by decide +kernel
theorem dX4_quotient_9 : decode cX4_quotient 9 = .ok (.lcmp, 1) := by decide +kernel
theorem dX4_quotient_10 : decode cX4_quotient 10 = .ok (.ifCond .eq 35, 3) := by decide +kernel
theorem dX4_quotient_13 : decode cX4_quotient 13 = .ok (.lload_n 0, 1) := by decide +kernel
theorem dX4_quotient_14 : decode cX4_quotient 14 = .ok (.lconst 0, 1) := by decide +kernel
theorem dX4_quotient_15 : decode cX4_quotient 15 = .ok (.lcmp, 1) := by decide +kernel
theorem dX4_quotient_16 : decode cX4_quotient 16 = .ok (.ifCond .ge 7, 3) := by decide +kernel
theorem dX4_quotient_19 : decode cX4_quotient 19 = .ok (.iconst 1, 1) := by decide +kernel
theorem dX4_quotient_20 : decode cX4_quotient 20 = .ok (.goto 4, 3) := by decide +kernel
theorem dX4_quotient_23 : decode cX4_quotient 23 = .ok (.iconst 0, 1) := by decide +kernel
theorem dX4_quotient_24 : decode cX4_quotient 24 = .ok (.lload_n 2, 1) := by decide +kernel
theorem dX4_quotient_25 : decode cX4_quotient 25 = .ok (.lconst 0, 1) := by decide +kernel
theorem dX4_quotient_26 : decode cX4_quotient 26 = .ok (.lcmp, 1) := by decide +kernel
theorem dX4_quotient_27 : decode cX4_quotient 27 = .ok (.ifCond .ge 7, 3) := by decide +kernel
theorem dX4_quotient_30 : decode cX4_quotient 30 = .ok (.iconst 1, 1) := by decide +kernel
theorem dX4_quotient_31 : decode cX4_quotient 31 = .ok (.goto 4, 3) := by decide +kernel
theorem dX4_quotient_34 : decode cX4_quotient 34 = .ok (.iconst 0, 1) := by decide +kernel
theorem dX4_quotient_35 : decode cX4_quotient 35 = .ok (.if_icmp .eq 10, 3) := by decide +kernel
theorem dX4_quotient_38 : decode cX4_quotient 38 = .ok (.lload 4, 2) := by decide +kernel
theorem dX4_quotient_40 : decode cX4_quotient 40 = .ok (.lconst 1, 1) := by decide +kernel
theorem dX4_quotient_41 : decode cX4_quotient 41 = .ok (.lsub, 1) := by decide +kernel
theorem dX4_quotient_42 : decode cX4_quotient 42 = .ok (.goto 5, 3) := by decide +kernel
theorem dX4_quotient_45 : decode cX4_quotient 45 = .ok (.lload 4, 2) := by decide +kernel
theorem dX4_quotient_47 : decode cX4_quotient 47 = .ok (.lreturn, 1) := by decide +kernel
set_option maxRecDepth 20000 in
theorem ggX4_append_X4_within : GoodIn wsX4_append wsX4_within := goodIn_r _ [10] (by decide +kernel) (by decide +kernel)
set_option maxRecDepth 20000 in
theorem gX4_append_X4_within : GoodIn wsX4_append (va_wsS RX4 41 yX4_within wsX4_within) := goodIn_app (goodIn_of _ (by decide +kernel)) ggX4_append_X4_within
theorem dX4_append_0 : decode cX4_append 0 = .ok (.iload_n 1, 1) := by decide +kernel
theorem dX4_append_1 : decode cX4_append 1 = .ok (.i2l, 1) := by decide +kernel
theorem dX4_append_2 : decode cX4_append 2 = .ok (.ldc2_w 37, 3) := by decide +kernel
theorem dX4_append_5 : decode cX4_append 5 = .ok (.ldc2_w 39, 3) := by decide +kernel
theorem dX4_append_8 : decode cX4_append 8 = .ok (.invokestatic 41, 3) := by decide +kernel
theorem dX4_append_11 : decode cX4_append 11 = .ok (.ifCond .ne 7, 3) := by decide +kernel
theorem dX4_append_14 : decode cX4_append 14 = .ok (.ldc2_w 45, 3) := by decide +kernel
theorem dX4_append_17 : decode cX4_append 17 = .ok (.lreturn, 1) := by decide +kernel
theorem dX4_append_18 : decode cX4_append 18 = .ok (.aload_n 0, 1) := by decide +kernel
theorem dX4_append_19 : decode cX4_append 19 = .ok (.getfield 47, 3) := by decide +kernel
theorem dX4_append_22 : decode cX4_append 22 = .ok (.bipush 40, 2) := by decide +kernel
theorem dX4_append_24 : decode cX4_append 24 = .ok (.if_icmp .ne 7, 3) := by decide +kernel
theorem dX4_append_27 : decode cX4_append 27 = .ok (.ldc2_w 51, 3) := by decide +kernel
theorem dX4_append_30 : decode cX4_append 30 = .ok (.lreturn, 1) := by decide +kernel
theorem dX4_append_31 : decode cX4_append 31 = .ok (.aload_n 0, 1) := by decide +kernel
theorem dX4_append_32 : decode cX4_append 32 = .ok (.getfield 7, 3) := by decide +kernel
theorem dX4_append_35 : decode cX4_append 35 = .ok (.aload_n 0, 1) := by decide +kernel
theorem dX4_append_36 : decode cX4_append 36 = .ok (.getfield 47, 3) := by decide +kernel
theorem dX4_append_39 : decode cX4_append 39 = .ok (.iload_n 1, 1) := by decide +kernel
theorem dX4_append_40 : decode cX4_append 40 = .ok (.iastore, 1) := by decide +kernel
theorem dX4_append_41 : decode cX4_append 41 = .ok (.aload_n 0, 1) := by decide +kernel
theorem dX4_append_42 : decode cX4_append 42 = .ok (.dup, 1) := by decide +kernel
theorem dX4_append_43 : decode cX4_append 43 = .ok (.getfield 47, 3) := by decide +kernel
theorem dX4_append_46 : decode cX4_append 46 = .ok (.iconst 1, 1) := by decide +kernel
theorem dX4_append_47 : decode cX4_append 47 = .ok (.iadd, 1) := by decide +kernel
theorem dX4_append_48 : decode cX4_append 48 = .ok (.putfield 47, 3) := by decide +kernel
theorem dX4_append_51 : decode cX4_append 51 = .ok (.aload_n 0, 1) := by decide +kernel
theorem dX4_append_52 : decode cX4_append 52 = .ok (.getfield 47, 3) := by decide +kernel
theorem dX4_append_55 : decode cX4_append 55 = .ok (.i2l, 1) := by decide +kernel
theorem dX4_append_56 : decode cX4_append 56 = .ok (.lreturn, 1) := by decide +kernel
theorem dX4_clearBuffer_0 : decode cX4_clearBuffer 0 = .ok (.aload_n 0, 1) := by decide +kernel
theorem dX4_clearBuffer_1 : decode cX4_clearBuffer 1 = .ok (.getfield 47, 3) := by decide +kernel
theorem dX4_clearBuffer_4 : decode cX4_clearBuffer 4 = .ok (.istore_n 1, 1) := by decide +kernel
theorem dX4_clearBuffer_5 : decode cX4_clearBuffer 5 = .ok (.aload_n 0, 1) := by decide +kernel
theorem dX4_clearBuffer_6 : decode cX4_clearBuffer 6 = .ok (.iconst 0, 1) := by decide +kernel
theorem dX4_clearBuffer_7 : decode cX4_clearBuffer 7 = .ok (.putfield 47, 3) := by decide +kernel
theorem dX4_clearBuffer_10 : decode cX4_clearBuffer 10 = .ok (.iload_n 1, 1) := by decide +kernel
theorem dX4_clearBuffer_11 : decode cX4_clearBuffer 11 = .ok (.i2l, 1) := by decide +kernel
theorem dX4_clearBuffer_12 : decode cX4_clearBuffer 12 = .ok (.lreturn, 1) := by decide +kernel
theorem dX4_greatest_0 : decode cX4_greatest 0 = .ok (.iload_n 0, 1) := by decide +kernel
theorem dX4_greatest_1 : decode cX4_greatest 1 = .ok (.tableswitch 47 0 3 #[31, 35, 39, 43], 31) := by decide +kernel
theorem dX4_greatest_32 : decode cX4_greatest 32 = .ok (.ldc2_w 53, 3) := by decide +kernel
theorem dX4_greatest_35 : decode cX4_greatest 35 = .ok (.lreturn, 1) := by decide +kernel
theorem dX4_greatest_36 : decode cX4_greatest 36 = .ok (.ldc2_w 55, 3) := by decide +kernel
theorem dX4_greatest_39 : decode cX4_greatest 39 = .ok (.lreturn, 1) := by decide +kernel
theorem dX4_greatest_40 : decode cX4_greatest 40 = .ok (.ldc2_w 57, 3) := by decide +kernel
theorem dX4_greatest_43 : decode cX4_greatest 43 = .ok (.lreturn, 1) := by decide +kernel
theorem dX4_greatest_44 : decode cX4_greatest 44 = .ok (.ldc2_w 59, 3) := by decide +kernel
theorem dX4_greatest_47 : decode cX4_greatest 47 = .ok (.lreturn, 1) := by decide +kernel
theorem dX4_greatest_48 : decode cX4_greatest 48 = .ok (.ldc2_w 61, 3) := by decide +kernel
theorem dX4_greatest_51 : decode cX4_greatest 51 = .ok (.lreturn, 1) := by decide +kernel
set_option maxRecDepth 20000 in
theorem ggX4_parse_X4_within : GoodIn wsX4_parse wsX4_within := goodIn_r _ [12] (by decide +kernel) (by decide +kernel)
set_option maxRecDepth 20000 in
theorem gX4_parse_X4_within : GoodIn wsX4_parse (va_wsS RX4 41 yX4_within wsX4_within) := goodIn_app (goodIn_of _ (by decide +kernel)) ggX4_parse_X4_within
set_option maxRecDepth 20000 in
theorem ggX4_parse_X4_greatest : GoodIn wsX4_parse wsX4_greatest := goodIn_r _ [15, 16, 17, 18, 19, 20] (by decide +kernel) (by decide +kernel)
set_option maxRecDepth 20000 in
theorem gX4_parse_X4_greatest : GoodIn wsX4_parse (va_wsS RX4 72 yX4_greatest wsX4_greatest) := goodIn_app (goodIn_of _ (by decide +kernel)) ggX4_parse_X4_greatest
theorem dX4_parse_0 : decode cX4_parse 0 = .ok (.iconst 0, 1) := by decide +kernel
theorem dX4_parse_1 : decode cX4_parse 1 = .ok (.istore_n 1, 1) := by decide +kernel
theorem dX4_parse_2 : decode cX4_parse 2 = .ok (.iconst 0, 1) := by decide +kernel
theorem dX4_parse_3 : decode cX4_parse 3 = .ok (.istore_n 2, 1) := by decide +kernel
theorem dX4_parse_4 : decode cX4_parse 4 = .ok (.iconst 0, 1) := by decide +kernel
theorem dX4_parse_5 : decode cX4_parse 5 = .ok (.istore_n 3, 1) := by decide +kernel
theorem dX4_parse_6 : decode cX4_parse 6 = .ok (.lconst 0, 1) := by decide +kernel
theorem dX4_parse_7 : decode cX4_parse 7 = .ok (.lstore 4, 2) := by decide +kernel
theorem dX4_parse_9 : decode cX4_parse 9 = .ok (.aload_n 0, 1) := by decide +kernel
theorem dX4_parse_10 : decode cX4_parse 10 = .ok (.iconst 0, 1) := by decide +kernel
theorem dX4_parse_11 : decode cX4_parse 11 = .ok (.putfield 63, 3) := by decide +kernel
theorem dX4_parse_14 : decode cX4_parse 14 = .ok (.iconst 1, 1) := by decide +kernel
theorem dX4_parse_15 : decode cX4_parse 15 = .ok (.istore 6, 2) := by decide +kernel
theorem dX4_parse_17 : decode cX4_parse 17 = .ok (.iload 6, 2) := by decide +kernel
theorem dX4_parse_19 : decode cX4_parse 19 = .ok (.ifCond .eq 236, 3) := by decide +kernel
theorem dX4_parse_22 : decode cX4_parse 22 = .ok (.aload_n 0, 1) := by decide +kernel
theorem dX4_parse_23 : decode cX4_parse 23 = .ok (.getfield 63, 3) := by decide +kernel
theorem dX4_parse_26 : decode cX4_parse 26 = .ok (.aload_n 0, 1) := by decide +kernel
theorem dX4_parse_27 : decode cX4_parse 27 = .ok (.getfield 47, 3) := by decide +kernel
theorem dX4_parse_30 : decode cX4_parse 30 = .ok (.if_icmp .ge 225, 3) := by decide +kernel
theorem dX4_parse_33 : decode cX4_parse 33 = .ok (.aload_n 0, 1) := by decide +kernel
theorem dX4_parse_34 : decode cX4_parse 34 = .ok (.getfield 7, 3) := by decide +kernel
theorem dX4_parse_37 : decode cX4_parse 37 = .ok (.aload_n 0, 1) := by decide +kernel
theorem dX4_parse_38 : decode cX4_parse 38 = .ok (.getfield 63, 3) := by decide +kernel
theorem dX4_parse_41 : decode cX4_parse 41 = .ok (.iaload, 1) := by decide +kernel
theorem dX4_parse_42 : decode cX4_parse 42 = .ok (.istore 7, 2) := by decide +kernel
theorem dX4_parse_44 : decode cX4_parse 44 = .ok (.iload 7, 2) := by decide +kernel
theorem dX4_parse_46 : decode cX4_parse 46 = .ok (.i2l, 1) := by decide +kernel
theorem dX4_parse_47 : decode cX4_parse 47 = .ok (.ldc2_w 66, 3) := by decide +kernel
theorem dX4_parse_50 : decode cX4_parse 50 = .ok (.ldc2_w 68, 3) := by decide +kernel
theorem dX4_parse_53 : decode cX4_parse 53 = .ok (.invokestatic 41, 3) := by decide +kernel
theorem dX4_parse_56 : decode cX4_parse 56 = .ok (.ifCond .eq 119, 3) := by decide +kernel
theorem dX4_parse_59 : decode cX4_parse 59 = .ok (.iload 7, 2) := by decide +kernel
theorem dX4_parse_61 : decode cX4_parse 61 = .ok (.bipush 48, 2) := by decide +kernel
theorem dX4_parse_63 : decode cX4_parse 63 = .ok (.isub, 1) := by decide +kernel
theorem dX4_parse_64 : decode cX4_parse 64 = .ok (.istore 8, 2) := by decide +kernel
theorem dX4_parse_66 : decode cX4_parse 66 = .ok (.iload_n 2, 1) := by decide +kernel
theorem dX4_parse_67 : decode cX4_parse 67 = .ok (.ifCond .ne 16, 3) := by decide +kernel
theorem dX4_parse_70 : decode cX4_parse 70 = .ok (.iload 8, 2) := by decide +kernel
theorem dX4_parse_72 : decode cX4_parse 72 = .ok (.ifCond .gt 7, 3) := by decide +kernel
theorem dX4_parse_75 : decode cX4_parse 75 = .ok (.iload_n 3, 1) := by decide +kernel
theorem dX4_parse_76 : decode cX4_parse 76 = .ok (.ifCond .ne 7, 3) := by decide +kernel
theorem dX4_parse_79 : decode cX4_parse 79 = .ok (.iconst 1, 1) := by decide +kernel
theorem dX4_parse_80 : decode cX4_parse 80 = .ok (.goto 4, 3) := by decide +kernel
theorem dX4_parse_83 : decode cX4_parse 83 = .ok (.iconst 0, 1) := by decide +kernel
theorem dX4_parse_84 : decode cX4_parse 84 = .ok (.istore 9, 2) := by decide +kernel
theorem dX4_parse_86 : decode cX4_parse 86 = .ok (.iload 9, 2) := by decide +kernel
theorem dX4_parse_88 : decode cX4_parse 88 = .ok (.ifCond .ne 14, 3) := by decide +kernel
theorem dX4_parse_91 : decode cX4_parse 91 = .ok (.iload_n 2, 1) := by decide +kernel
theorem dX4_parse_92 : decode cX4_parse 92 = .ok (.ifCond .le 14, 3) := by decide +kernel
theorem dX4_parse_95 : decode cX4_parse 95 = .ok (.lload 4, 2) := by decide +kernel
theorem dX4_parse_97 : decode cX4_parse 97 = .ok (.lconst 0, 1) := by decide +kernel
theorem dX4_parse_98 : decode cX4_parse 98 = .ok (.lcmp, 1) := by decide +kernel
theorem dX4_parse_99 : decode cX4_parse 99 = .ok (.ifCond .le 7, 3) := by decide +kernel
theorem dX4_parse_102 : decode cX4_parse 102 = .ok (.iconst 1, 1) := by decide +kernel
theorem dX4_parse_103 : decode cX4_parse 103 = .ok (.goto 4, 3) := by decide +kernel
theorem dX4_parse_106 : decode cX4_parse 106 = .ok (.iconst 0, 1) := by decide +kernel
theorem dX4_parse_107 : decode cX4_parse 107 = .ok (.istore 6, 2) := by decide +kernel
theorem dX4_parse_109 : decode cX4_parse 109 = .ok (.iload 6, 2) := by decide +kernel
theorem dX4_parse_111 : decode cX4_parse 111 = .ok (.ifCond .eq 25, 3) := by decide +kernel
theorem dX4_parse_114 : decode cX4_parse 114 = .ok (.ldc2_w 70, 3) := by decide +kernel
theorem dX4_parse_117 : decode cX4_parse 117 = .ok (.lload 4, 2) := by decide +kernel
theorem dX4_parse_119 : decode cX4_parse 119 = .ok (.lmul, 1) := by decide +kernel
theorem dX4_parse_120 : decode cX4_parse 120 = .ok (.iload 8, 2) := by decide +kernel
theorem dX4_parse_122 : decode cX4_parse 122 = .ok (.i2l, 1) := by decide +kernel
theorem dX4_parse_123 : decode cX4_parse 123 = .ok (.ladd, 1) := by decide +kernel
theorem dX4_parse_124 : decode cX4_parse 124 = .ok (.iload_n 1, 1) := by decide +kernel
theorem dX4_parse_125 : decode cX4_parse 125 = .ok (.invokestatic 72, 3) := by decide +kernel
theorem dX4_parse_128 : decode cX4_parse 128 = .ok (.lcmp, 1) := by decide +kernel
theorem dX4_parse_129 : decode cX4_parse 129 = .ok (.ifCond .gt 7, 3) := by decide +kernel
theorem dX4_parse_132 : decode cX4_parse 132 = .ok (.iconst 1, 1) := by decide +kernel
theorem dX4_parse_133 : decode cX4_parse 133 = .ok (.goto 4, 3) := by decide +kernel
theorem dX4_parse_136 : decode cX4_parse 136 = .ok (.iconst 0, 1) := by decide +kernel
theorem dX4_parse_137 : decode cX4_parse 137 = .ok (.istore 6, 2) := by decide +kernel
theorem dX4_parse_139 : decode cX4_parse 139 = .ok (.ldc2_w 70, 3) := by decide +kernel
theorem dX4_parse_142 : decode cX4_parse 142 = .ok (.lload 4, 2) := by decide +kernel
theorem dX4_parse_144 : decode cX4_parse 144 = .ok (.lmul, 1) := by decide +kernel
theorem dX4_parse_145 : decode cX4_parse 145 = .ok (.iload 8, 2) := by decide +kernel
theorem dX4_parse_147 : decode cX4_parse 147 = .ok (.i2l, 1) := by decide +kernel
theorem dX4_parse_148 : decode cX4_parse 148 = .ok (.ladd, 1) := by decide +kernel
theorem dX4_parse_149 : decode cX4_parse 149 = .ok (.lstore 4, 2) := by decide +kernel
theorem dX4_parse_151 : decode cX4_parse 151 = .ok (.iinc 2 1, 3) := by decide +kernel
theorem dX4_parse_154 : decode cX4_parse 154 = .ok (.aload_n 0, 1) := by decide +kernel
theorem dX4_parse_155 : decode cX4_parse 155 = .ok (.getfield 32, 3) := by decide +kernel
theorem dX4_parse_158 : decode cX4_parse 158 = .ok (.iload_n 1, 1) := by decide +kernel
theorem dX4_parse_159 : decode cX4_parse 159 = .ok (.iload_n 3, 1) := by decide +kernel
theorem dX4_parse_160 : decode cX4_parse 160 = .ok (.ifCond .eq 9, 3) := by decide +kernel
theorem dX4_parse_163 : decode cX4_parse 163 = .ok (.lload 4, 2) := by decide +kernel
theorem dX4_parse_165 : decode cX4_parse 165 = .ok (.lneg, 1) := by decide +kernel
theorem dX4_parse_166 : decode cX4_parse 166 = .ok (.goto 5, 3) := by decide +kernel
theorem dX4_parse_169 : decode cX4_parse 169 = .ok (.lload 4, 2) := by decide +kernel
theorem dX4_parse_171 : decode cX4_parse 171 = .ok (.lastore, 1) := by decide +kernel
theorem dX4_parse_172 : decode cX4_parse 172 = .ok (.goto 61, 3) := by decide +kernel
theorem dX4_parse_175 : decode cX4_parse 175 = .ok (.iload 7, 2) := by decide +kernel
theorem dX4_parse_177 : decode cX4_parse 177 = .ok (.bipush 44, 2) := by decide +kernel
theorem dX4_parse_179 : decode cX4_parse 179 = .ok (.if_icmp .ne 25, 3) := by decide +kernel
theorem dX4_parse_182 : decode cX4_parse 182 = .ok (.iload_n 2, 1) := by decide +kernel
theorem dX4_parse_183 : decode cX4_parse 183 = .ok (.ifCond .le 21, 3) := by decide +kernel
theorem dX4_parse_186 : decode cX4_parse 186 = .ok (.iload_n 1, 1) := by decide +kernel
theorem dX4_parse_187 : decode cX4_parse 187 = .ok (.iconst 4, 1) := by decide +kernel
theorem dX4_parse_188 : decode cX4_parse 188 = .ok (.if_icmp .ge 16, 3) := by decide +kernel
theorem dX4_parse_191 : decode cX4_parse 191 = .ok (.iinc 1 1, 3) := by decide +kernel
theorem dX4_parse_194 : decode cX4_parse 194 = .ok (.iconst 0, 1) := by decide +kernel
theorem dX4_parse_195 : decode cX4_parse 195 = .ok (.istore_n 2, 1) := by decide +kernel
theorem dX4_parse_196 : decode cX4_parse 196 = .ok (.iconst 0, 1) := by decide +kernel
theorem dX4_parse_197 : decode cX4_parse 197 = .ok (.istore_n 3, 1) := by decide +kernel
theorem dX4_parse_198 : decode cX4_parse 198 = .ok (.lconst 0, 1) := by decide +kernel
theorem dX4_parse_199 : decode cX4_parse 199 = .ok (.lstore 4, 2) := by decide +kernel
theorem dX4_parse_201 : decode cX4_parse 201 = .ok (.goto 32, 3) := by decide +kernel
theorem dX4_parse_204 : decode cX4_parse 204 = .ok (.iload 7, 2) := by decide +kernel
theorem dX4_parse_206 : decode cX4_parse 206 = .ok (.bipush 45, 2) := by decide +kernel
theorem dX4_parse_208 : decode cX4_parse 208 = .ok (.if_icmp .ne 20, 3) := by decide +kernel
theorem dX4_parse_211 : decode cX4_parse 211 = .ok (.iload_n 1, 1) := by decide +kernel
theorem dX4_parse_212 : decode cX4_parse 212 = .ok (.iconst 3, 1) := by decide +kernel
theorem dX4_parse_213 : decode cX4_parse 213 = .ok (.if_icmp .ne 15, 3) := by decide +kernel
theorem dX4_parse_216 : decode cX4_parse 216 = .ok (.iload_n 2, 1) := by decide +kernel
theorem dX4_parse_217 : decode cX4_parse 217 = .ok (.ifCond .ne 11, 3) := by decide +kernel
theorem dX4_parse_220 : decode cX4_parse 220 = .ok (.iload_n 3, 1) := by decide +kernel
theorem dX4_parse_221 : decode cX4_parse 221 = .ok (.ifCond .ne 7, 3) := by decide +kernel
theorem dX4_parse_224 : decode cX4_parse 224 = .ok (.iconst 1, 1) := by decide +kernel
theorem dX4_parse_225 : decode cX4_parse 225 = .ok (.goto 4, 3) := by decide +kernel
theorem dX4_parse_228 : decode cX4_parse 228 = .ok (.iconst 0, 1) := by decide +kernel
theorem dX4_parse_229 : decode cX4_parse 229 = .ok (.istore 6, 2) := by decide +kernel
theorem dX4_parse_231 : decode cX4_parse 231 = .ok (.iconst 1, 1) := by decide +kernel
theorem dX4_parse_232 : decode cX4_parse 232 = .ok (.istore_n 3, 1) := by decide +kernel
theorem dX4_parse_233 : decode cX4_parse 233 = .ok (.aload_n 0, 1) := by decide +kernel
theorem dX4_parse_234 : decode cX4_parse 234 = .ok (.dup, 1) := by decide +kernel
theorem dX4_parse_235 : decode cX4_parse 235 = .ok (.getfield 63, 3) := by decide +kernel
theorem dX4_parse_238 : decode cX4_parse 238 = .ok (.iload 6, 2) := by decide +kernel
theorem dX4_parse_240 : decode cX4_parse 240 = .ok (.ifCond .eq 7, 3) := by decide +kernel
theorem dX4_parse_243 : decode cX4_parse 243 = .ok (.iconst 1, 1) := by decide +kernel
theorem dX4_parse_244 : decode cX4_parse 244 = .ok (.goto 4, 3) := by decide +kernel
theorem dX4_parse_247 : decode cX4_parse 247 = .ok (.iconst 0, 1) := by decide +kernel
theorem dX4_parse_248 : decode cX4_parse 248 = .ok (.iadd, 1) := by decide +kernel
theorem dX4_parse_249 : decode cX4_parse 249 = .ok (.putfield 63, 3) := by decide +kernel
theorem dX4_parse_252 : decode cX4_parse 252 = .ok (.goto (-235), 3) := by decide +kernel
theorem dX4_parse_255 : decode cX4_parse 255 = .ok (.aload_n 0, 1) := by decide +kernel
theorem dX4_parse_256 : decode cX4_parse 256 = .ok (.iload 6, 2) := by decide +kernel
theorem dX4_parse_258 : decode cX4_parse 258 = .ok (.ifCond .eq 16, 3) := by decide +kernel
theorem dX4_parse_261 : decode cX4_parse 261 = .ok (.iload_n 1, 1) := by decide +kernel
theorem dX4_parse_262 : decode cX4_parse 262 = .ok (.iconst 4, 1) := by decide +kernel
theorem dX4_parse_263 : decode cX4_parse 263 = .ok (.if_icmp .ne 11, 3) := by decide +kernel
theorem dX4_parse_266 : decode cX4_parse 266 = .ok (.iload_n 2, 1) := by decide +kernel
theorem dX4_parse_267 : decode cX4_parse 267 = .ok (.ifCond .le 7, 3) := by decide +kernel
theorem dX4_parse_270 : decode cX4_parse 270 = .ok (.iconst 1, 1) := by decide +kernel
theorem dX4_parse_271 : decode cX4_parse 271 = .ok (.goto 4, 3) := by decide +kernel
theorem dX4_parse_274 : decode cX4_parse 274 = .ok (.iconst 0, 1) := by decide +kernel
theorem dX4_parse_275 : decode cX4_parse 275 = .ok (.putfield 76, 3) := by decide +kernel
theorem dX4_parse_278 : decode cX4_parse 278 = .ok (.return_, 1) := by decide +kernel
set_option maxRecDepth 20000 in
theorem ggX4_errorPosition_X4_parse : GoodIn wsX4_errorPosition wsX4_parse := goodIn_r _ [6, 1, 7, 8, 9, 10, 11, 12, 13, 14, 15, 5, 16, 17, 18, 19, 20, 21, 22, 23, 24, 25, 26, 27, 28, 29, 30, 31, 32, 33, 34, 35, 36, 37] (by decide +kernel) (by decide +kernel)
set_option maxRecDepth 20000 in
theorem gX4_errorPosition_X4_parse : GoodIn wsX4_errorPosition (wsV RX4 80 RX4 yX4_parse wsX4_parse) := goodIn_app (goodIn_of _ (by decide +kernel)) ggX4_errorPosition_X4_parse
theorem dX4_errorPosition_0 : decode cX4_errorPosition 0 = .ok (.aload_n 0, 1) := by decide +kernel
theorem dX4_errorPosition_1 : decode cX4_errorPosition 1 = .ok (.invokevirtual 80, 3) := by decide +kernel
theorem dX4_errorPosition_4 : decode cX4_errorPosition 4 = .ok (.aload_n 0, 1) := by decide +kernel
theorem dX4_errorPosition_5 : decode cX4_errorPosition 5 = .ok (.getfield 63, 3) := by decide +kernel
theorem dX4_errorPosition_8 : decode cX4_errorPosition 8 = .ok (.i2l, 1) := by decide +kernel
theorem dX4_errorPosition_9 : decode cX4_errorPosition 9 = .ok (.lreturn, 1) := by decide +kernel
theorem dX4_cell_0 : decode cX4_cell 0 = .ok (.aload_n 0, 1) := by decide +kernel
theorem dX4_cell_1 : decode cX4_cell 1 = .ok (.getfield 13, 3) := by decide +kernel
theorem dX4_cell_4 : decode cX4_cell 4 = .ok (.iconst 5, 1) := by decide +kernel
theorem dX4_cell_5 : decode cX4_cell 5 = .ok (.iload_n 1, 1) := by decide +kernel
theorem dX4_cell_6 : decode cX4_cell 6 = .ok (.imul, 1) := by decide +kernel
theorem dX4_cell_7 : decode cX4_cell 7 = .ok (.iload_n 2, 1) := by decide +kernel
theorem dX4_cell_8 : decode cX4_cell 8 = .ok (.iadd, 1) := by decide +kernel
theorem dX4_cell_9 : decode cX4_cell 9 = .ok (.laload, 1) := by decide +kernel
theorem dX4_cell_10 : decode cX4_cell 10 = .ok (.lreturn, 1) := by decide +kernel
set_option maxRecDepth 20000 in
theorem ggX4_addRow_X4_parse : GoodIn wsX4_addRow wsX4_parse := goodIn_r _ [13, 14, 8, 15, 16, 17, 18, 5, 1, 19, 20, 12, 21, 22, 23, 24, 25, 26, 27, 28, 29, 34, 35, 36, 37, 38, 39, 40, 41, 42, 43, 44, 45, 46] (by decide +kernel) (by decide +kernel)
set_option maxRecDepth 20000 in
theorem gX4_addRow_X4_parse : GoodIn wsX4_addRow (wsV RX4 80 RX4 yX4_parse wsX4_parse) := goodIn_app (goodIn_of _ (by decide +kernel)) ggX4_addRow_X4_parse
set_option maxRecDepth 20000 in
theorem ggX4_addRow_X4_cell : GoodIn wsX4_addRow wsX4_cell := goodIn_r _ [33, 7, 34, 35, 36, 37, 38, 39, 40, 41, 42, 43, 44, 45, 46] (by decide +kernel) (by decide +kernel)
set_option maxRecDepth 20000 in
theorem gX4_addRow_X4_cell : GoodIn wsX4_addRow (wsV RX4 88 RX4 yX4_cell wsX4_cell) := goodIn_app (goodIn_of _ (by decide +kernel)) ggX4_addRow_X4_cell
theorem dX4_addRow_0 : decode cX4_addRow 0 = .ok (.aload_n 0, 1) := by decide +kernel
theorem dX4_addRow_1 : decode cX4_addRow 1 = .ok (.invokevirtual 80, 3) := by decide +kernel
theorem dX4_addRow_4 : decode cX4_addRow 4 = .ok (.aload_n 0, 1) := by decide +kernel
theorem dX4_addRow_5 : decode cX4_addRow 5 = .ok (.getfield 76, 3) := by decide +kernel
theorem dX4_addRow_8 : decode cX4_addRow 8 = .ok (.ifCond .ne 7, 3) := by decide +kernel
theorem dX4_addRow_11 : decode cX4_addRow 11 = .ok (.ldc2_w 83, 3) := by decide +kernel
theorem dX4_addRow_14 : decode cX4_addRow 14 = .ok (.lreturn, 1) := by decide +kernel
theorem dX4_addRow_15 : decode cX4_addRow 15 = .ok (.aload_n 0, 1) := by decide +kernel
theorem dX4_addRow_16 : decode cX4_addRow 16 = .ok (.getfield 85, 3) := by decide +kernel
theorem dX4_addRow_19 : decode cX4_addRow 19 = .ok (.bipush 10, 2) := by decide +kernel
theorem dX4_addRow_21 : decode cX4_addRow 21 = .ok (.if_icmp .ne 7, 3) := by decide +kernel
theorem dX4_addRow_24 : decode cX4_addRow 24 = .ok (.ldc2_w 51, 3) := by decide +kernel
theorem dX4_addRow_27 : decode cX4_addRow 27 = .ok (.lreturn, 1) := by decide +kernel
theorem dX4_addRow_28 : decode cX4_addRow 28 = .ok (.aload_n 0, 1) := by decide +kernel
theorem dX4_addRow_29 : decode cX4_addRow 29 = .ok (.getfield 85, 3) := by decide +kernel
theorem dX4_addRow_32 : decode cX4_addRow 32 = .ok (.ifCond .le 49, 3) := by decide +kernel
theorem dX4_addRow_35 : decode cX4_addRow 35 = .ok (.aload_n 0, 1) := by decide +kernel
theorem dX4_addRow_36 : decode cX4_addRow 36 = .ok (.getfield 32, 3) := by decide +kernel
theorem dX4_addRow_39 : decode cX4_addRow 39 = .ok (.iconst 0, 1) := by decide +kernel
theorem dX4_addRow_40 : decode cX4_addRow 40 = .ok (.laload, 1) := by decide +kernel
theorem dX4_addRow_41 : decode cX4_addRow 41 = .ok (.aload_n 0, 1) := by decide +kernel
theorem dX4_addRow_42 : decode cX4_addRow 42 = .ok (.aload_n 0, 1) := by decide +kernel
theorem dX4_addRow_43 : decode cX4_addRow 43 = .ok (.getfield 85, 3) := by decide +kernel
theorem dX4_addRow_46 : decode cX4_addRow 46 = .ok (.iconst 1, 1) := by decide +kernel
theorem dX4_addRow_47 : decode cX4_addRow 47 = .ok (.isub, 1) := by decide +kernel
theorem dX4_addRow_48 : decode cX4_addRow 48 = .ok (.iconst 0, 1) := by decide +kernel
theorem dX4_addRow_49 : decode cX4_addRow 49 = .ok (.invokevirtual 88, 3) := by decide +kernel
theorem dX4_addRow_52 : decode cX4_addRow 52 = .ok (.lcmp, 1) := by decide +kernel
theorem dX4_addRow_53 : decode cX4_addRow 53 = .ok (.ifCond .le 24, 3) := by decide +kernel
theorem dX4_addRow_56 : decode cX4_addRow 56 = .ok (.aload_n 0, 1) := by decide +kernel
theorem dX4_addRow_57 : decode cX4_addRow 57 = .ok (.getfield 32, 3) := by decide +kernel
theorem dX4_addRow_60 : decode cX4_addRow 60 = .ok (.iconst 1, 1) := by decide +kernel
theorem dX4_addRow_61 : decode cX4_addRow 61 = .ok (.laload, 1) := by decide +kernel
theorem dX4_addRow_62 : decode cX4_addRow 62 = .ok (.aload_n 0, 1) := by decide +kernel
theorem dX4_addRow_63 : decode cX4_addRow 63 = .ok (.aload_n 0, 1) := by decide +kernel
theorem dX4_addRow_64 : decode cX4_addRow 64 = .ok (.getfield 85, 3) := by decide +kernel
theorem dX4_addRow_67 : decode cX4_addRow 67 = .ok (.iconst 1, 1) := by decide +kernel
theorem dX4_addRow_68 : decode cX4_addRow 68 = .ok (.isub, 1) := by decide +kernel
theorem dX4_addRow_69 : decode cX4_addRow 69 = .ok (.iconst 1, 1) := by decide +kernel
theorem dX4_addRow_70 : decode cX4_addRow 70 = .ok (.invokevirtual 88, 3) := by decide +kernel
theorem dX4_addRow_73 : decode cX4_addRow 73 = .ok (.lcmp, 1) := by decide +kernel
theorem dX4_addRow_74 : decode cX4_addRow 74 = .ok (.ifCond .ge 7, 3) := by decide +kernel
theorem dX4_addRow_77 : decode cX4_addRow 77 = .ok (.ldc2_w 92, 3) := by decide +kernel
theorem dX4_addRow_80 : decode cX4_addRow 80 = .ok (.lreturn, 1) := by decide +kernel
theorem dX4_addRow_81 : decode cX4_addRow 81 = .ok (.iconst 0, 1) := by decide +kernel
theorem dX4_addRow_82 : decode cX4_addRow 82 = .ok (.istore_n 1, 1) := by decide +kernel
theorem dX4_addRow_83 : decode cX4_addRow 83 = .ok (.iload_n 1, 1) := by decide +kernel
theorem dX4_addRow_84 : decode cX4_addRow 84 = .ok (.iconst 5, 1) := by decide +kernel
theorem dX4_addRow_85 : decode cX4_addRow 85 = .ok (.if_icmp .ge 28, 3) := by decide +kernel
theorem dX4_addRow_88 : decode cX4_addRow 88 = .ok (.aload_n 0, 1) := by decide +kernel
theorem dX4_addRow_89 : decode cX4_addRow 89 = .ok (.getfield 13, 3) := by decide +kernel
theorem dX4_addRow_92 : decode cX4_addRow 92 = .ok (.iconst 5, 1) := by decide +kernel
theorem dX4_addRow_93 : decode cX4_addRow 93 = .ok (.aload_n 0, 1) := by decide +kernel
theorem dX4_addRow_94 : decode cX4_addRow 94 = .ok (.getfield 85, 3) := by decide +kernel
theorem dX4_addRow_97 : decode cX4_addRow 97 = .ok (.imul, 1) := by decide +kernel
theorem dX4_addRow_98 : decode cX4_addRow 98 = .ok (.iload_n 1, 1) := by decide +kernel
theorem dX4_addRow_99 : decode cX4_addRow 99 = .ok (.iadd, 1) := by decide +kernel
theorem dX4_addRow_100 : decode cX4_addRow 100 = .ok (.aload_n 0, 1) := by decide +kernel
theorem dX4_addRow_101 : decode cX4_addRow 101 = .ok (.getfield 32, 3) := by decide +kernel
theorem dX4_addRow_104 : decode cX4_addRow 104 = .ok (.iload_n 1, 1) := by decide +kernel
theorem dX4_addRow_105 : decode cX4_addRow 105 = .ok (.laload, 1) := by decide +kernel
theorem dX4_addRow_106 : decode cX4_addRow 106 = .ok (.lastore, 1) := by decide +kernel
theorem dX4_addRow_107 : decode cX4_addRow 107 = .ok (.iinc 1 1, 3) := by decide +kernel
theorem dX4_addRow_110 : decode cX4_addRow 110 = .ok (.goto (-27), 3) := by decide +kernel
theorem dX4_addRow_113 : decode cX4_addRow 113 = .ok (.aload_n 0, 1) := by decide +kernel
theorem dX4_addRow_114 : decode cX4_addRow 114 = .ok (.dup, 1) := by decide +kernel
theorem dX4_addRow_115 : decode cX4_addRow 115 = .ok (.getfield 85, 3) := by decide +kernel
theorem dX4_addRow_118 : decode cX4_addRow 118 = .ok (.iconst 1, 1) := by decide +kernel
theorem dX4_addRow_119 : decode cX4_addRow 119 = .ok (.iadd, 1) := by decide +kernel
theorem dX4_addRow_120 : decode cX4_addRow 120 = .ok (.putfield 85, 3) := by decide +kernel
theorem dX4_addRow_123 : decode cX4_addRow 123 = .ok (.aload_n 0, 1) := by decide +kernel
theorem dX4_addRow_124 : decode cX4_addRow 124 = .ok (.iconst 0, 1) := by decide +kernel
theorem dX4_addRow_125 : decode cX4_addRow 125 = .ok (.putfield 47, 3) := by decide +kernel
theorem dX4_addRow_128 : decode cX4_addRow 128 = .ok (.aload_n 0, 1) := by decide +kernel
theorem dX4_addRow_129 : decode cX4_addRow 129 = .ok (.getfield 85, 3) := by decide +kernel
theorem dX4_addRow_132 : decode cX4_addRow 132 = .ok (.i2l, 1) := by decide +kernel
theorem dX4_addRow_133 : decode cX4_addRow 133 = .ok (.lreturn, 1) := by decide +kernel
theorem dX4_clearTable_0 : decode cX4_clearTable 0 = .ok (.aload_n 0, 1) := by decide +kernel
theorem dX4_clearTable_1 : decode cX4_clearTable 1 = .ok (.getfield 85, 3) := by decide +kernel
theorem dX4_clearTable_4 : decode cX4_clearTable 4 = .ok (.istore_n 1, 1) := by decide +kernel
theorem dX4_clearTable_5 : decode cX4_clearTable 5 = .ok (.aload_n 0, 1) := by decide +kernel
theorem dX4_clearTable_6 : decode cX4_clearTable 6 = .ok (.iconst 0, 1) := by decide +kernel
theorem dX4_clearTable_7 : decode cX4_clearTable 7 = .ok (.putfield 85, 3) := by decide +kernel
theorem dX4_clearTable_10 : decode cX4_clearTable 10 = .ok (.iload_n 1, 1) := by decide +kernel
theorem dX4_clearTable_11 : decode cX4_clearTable 11 = .ok (.i2l, 1) := by decide +kernel
theorem dX4_clearTable_12 : decode cX4_clearTable 12 = .ok (.lreturn, 1) := by decide +kernel
set_option maxRecDepth 20000 in
theorem ggX4_rowDraft_X4_within : GoodIn wsX4_rowDraft wsX4_within := goodIn_r _ [6] (by decide +kernel) (by decide +kernel)
set_option maxRecDepth 20000 in
theorem gX4_rowDraft_X4_within : GoodIn wsX4_rowDraft (va_wsS RX4 41 yX4_within wsX4_within) := goodIn_app (goodIn_of _ (by decide +kernel)) ggX4_rowDraft_X4_within
set_option maxRecDepth 20000 in
theorem ggX4_rowDraft_X4_cell : GoodIn wsX4_rowDraft wsX4_cell := goodIn_r _ [10, 11, 12, 13, 14, 15, 16, 17, 18, 19, 20, 21, 22, 23, 24] (by decide +kernel) (by decide +kernel)
set_option maxRecDepth 20000 in
theorem gX4_rowDraft_X4_cell : GoodIn wsX4_rowDraft (wsV RX4 88 RX4 yX4_cell wsX4_cell) := goodIn_app (goodIn_of _ (by decide +kernel)) ggX4_rowDraft_X4_cell
theorem dX4_rowDraft_0 : decode cX4_rowDraft 0 = .ok (.iload_n 1, 1) := by decide +kernel
theorem dX4_rowDraft_1 : decode cX4_rowDraft 1 = .ok (.i2l, 1) := by decide +kernel
theorem dX4_rowDraft_2 : decode cX4_rowDraft 2 = .ok (.lconst 0, 1) := by decide +kernel
theorem dX4_rowDraft_3 : decode cX4_rowDraft 3 = .ok (.aload_n 0, 1) := by decide +kernel
theorem dX4_rowDraft_4 : decode cX4_rowDraft 4 = .ok (.getfield 85, 3) := by decide +kernel
theorem dX4_rowDraft_7 : decode cX4_rowDraft 7 = .ok (.iconst 1, 1) := by decide +kernel
theorem dX4_rowDraft_8 : decode cX4_rowDraft 8 = .ok (.isub, 1) := by decide +kernel
theorem dX4_rowDraft_9 : decode cX4_rowDraft 9 = .ok (.i2l, 1) := by decide +kernel
theorem dX4_rowDraft_10 : decode cX4_rowDraft 10 = .ok (.invokestatic 41, 3) := by decide +kernel
theorem dX4_rowDraft_13 : decode cX4_rowDraft 13 = .ok (.ifCond .eq 12, 3) := by decide +kernel
theorem dX4_rowDraft_16 : decode cX4_rowDraft 16 = .ok (.aload_n 0, 1) := by decide +kernel
theorem dX4_rowDraft_17 : decode cX4_rowDraft 17 = .ok (.iload_n 1, 1) := by decide +kernel
theorem dX4_rowDraft_18 : decode cX4_rowDraft 18 = .ok (.iconst 0, 1) := by decide +kernel
theorem dX4_rowDraft_19 : decode cX4_rowDraft 19 = .ok (.invokevirtual 88, 3) := by decide +kernel
theorem dX4_rowDraft_22 : decode cX4_rowDraft 22 = .ok (.goto 6, 3) := by decide +kernel
theorem dX4_rowDraft_25 : decode cX4_rowDraft 25 = .ok (.ldc2_w 94, 3) := by decide +kernel
theorem dX4_rowDraft_28 : decode cX4_rowDraft 28 = .ok (.lreturn, 1) := by decide +kernel
set_option maxRecDepth 20000 in
theorem ggX4_isCovered_X4_cell : GoodIn wsX4_isCovered wsX4_cell := goodIn_r _ [6, 7, 11, 12, 13, 14, 15, 16, 17, 18, 19, 20, 21, 22, 23] (by decide +kernel) (by decide +kernel)
set_option maxRecDepth 20000 in
theorem gX4_isCovered_X4_cell : GoodIn wsX4_isCovered (wsV RX4 88 RX4 yX4_cell wsX4_cell) := goodIn_app (goodIn_of _ (by decide +kernel)) ggX4_isCovered_X4_cell
set_option maxRecDepth 20000 in
theorem ggX4_isCovered_X4_within : GoodIn wsX4_isCovered wsX4_within := goodIn_r _ [10] (by decide +kernel) (by decide +kernel)
set_option maxRecDepth 20000 in
theorem gX4_isCovered_X4_within : GoodIn wsX4_isCovered (va_wsS RX4 41 yX4_within wsX4_within) := goodIn_app (goodIn_of _ (by decide +kernel)) ggX4_isCovered_X4_within
theorem dX4_isCovered_0 : decode cX4_isCovered 0 = .ok (.aload_n 0, 1) := by decide +kernel
theorem dX4_isCovered_1 : decode cX4_isCovered 1 = .ok (.getfield 85, 3) := by decide +kernel
theorem dX4_isCovered_4 : decode cX4_isCovered 4 = .ok (.ifCond .le 31, 3) := by decide +kernel
theorem dX4_isCovered_7 : decode cX4_isCovered 7 = .ok (.lload_n 1, 1) := by decide +kernel
theorem dX4_isCovered_8 : decode cX4_isCovered 8 = .ok (.aload_n 0, 1) := by decide +kernel
theorem dX4_isCovered_9 : decode cX4_isCovered 9 = .ok (.iconst 0, 1) := by decide +kernel
theorem dX4_isCovered_10 : decode cX4_isCovered 10 = .ok (.iconst 0, 1) := by decide +kernel
theorem dX4_isCovered_11 : decode cX4_isCovered 11 = .ok (.invokevirtual 88, 3) := by decide +kernel
theorem dX4_isCovered_14 : decode cX4_isCovered 14 = .ok (.aload_n 0, 1) := by decide +kernel
theorem dX4_isCovered_15 : decode cX4_isCovered 15 = .ok (.aload_n 0, 1) := by decide +kernel
theorem dX4_isCovered_16 : decode cX4_isCovered 16 = .ok (.getfield 85, 3) := by decide +kernel
theorem dX4_isCovered_19 : decode cX4_isCovered 19 = .ok (.iconst 1, 1) := by decide +kernel
theorem dX4_isCovered_20 : decode cX4_isCovered 20 = .ok (.isub, 1) := by decide +kernel
theorem dX4_isCovered_21 : decode cX4_isCovered 21 = .ok (.iconst 0, 1) := by decide +kernel
theorem dX4_isCovered_22 : decode cX4_isCovered 22 = .ok (.invokevirtual 88, 3) := by decide +kernel
theorem dX4_isCovered_25 : decode cX4_isCovered 25 = .ok (.invokestatic 41, 3) := by decide +kernel
theorem dX4_isCovered_28 : decode cX4_isCovered 28 = .ok (.ifCond .eq 7, 3) := by decide +kernel
theorem dX4_isCovered_31 : decode cX4_isCovered 31 = .ok (.iconst 1, 1) := by decide +kernel
theorem dX4_isCovered_32 : decode cX4_isCovered 32 = .ok (.goto 4, 3) := by decide +kernel
theorem dX4_isCovered_35 : decode cX4_isCovered 35 = .ok (.iconst 0, 1) := by decide +kernel
theorem dX4_isCovered_36 : decode cX4_isCovered 36 = .ok (.ireturn, 1) := by decide +kernel
set_option maxRecDepth 20000 in
theorem ggX4_at_X4_cell : GoodIn wsX4_at wsX4_cell := goodIn_r _ [6, 7, 11, 12, 13, 14, 15, 16, 17, 18, 19, 20, 21, 22, 23] (by decide +kernel) (by decide +kernel)
set_option maxRecDepth 20000 in
theorem gX4_at_X4_cell : GoodIn wsX4_at (wsV RX4 88 RX4 yX4_cell wsX4_cell) := goodIn_app (goodIn_of _ (by decide +kernel)) ggX4_at_X4_cell
set_option maxRecDepth 20000 in
theorem ggX4_at_X4_quotient : GoodIn wsX4_at wsX4_quotient := goodIn_r _ [10] (by decide +kernel) (by decide +kernel)
set_option maxRecDepth 20000 in
theorem gX4_at_X4_quotient : GoodIn wsX4_at (va_wsS RX4 96 yX4_quotient wsX4_quotient) := goodIn_app (goodIn_of _ (by decide +kernel)) ggX4_at_X4_quotient
theorem dX4_at_0 : decode cX4_at 0 = .ok (.iconst 0, 1) := by decide +kernel
theorem dX4_at_1 : decode cX4_at 1 = .ok (.istore 4, 2) := by decide +kernel
theorem dX4_at_3 : decode cX4_at 3 = .ok (.iload 4, 2) := by decide +kernel
theorem dX4_at_5 : decode cX4_at 5 = .ok (.iconst 1, 1) := by decide +kernel
theorem dX4_at_6 : decode cX4_at 6 = .ok (.iadd, 1) := by decide +kernel
theorem dX4_at_7 : decode cX4_at 7 = .ok (.aload_n 0, 1) := by decide +kernel
theorem dX4_at_8 : decode cX4_at 8 = .ok (.getfield 85, 3) := by decide +kernel
theorem dX4_at_11 : decode cX4_at 11 = .ok (.if_icmp .ge 23, 3) := by decide +kernel
theorem dX4_at_14 : decode cX4_at 14 = .ok (.aload_n 0, 1) := by decide +kernel
theorem dX4_at_15 : decode cX4_at 15 = .ok (.iload 4, 2) := by decide +kernel
theorem dX4_at_17 : decode cX4_at 17 = .ok (.iconst 1, 1) := by decide +kernel
theorem dX4_at_18 : decode cX4_at 18 = .ok (.iadd, 1) := by decide +kernel
theorem dX4_at_19 : decode cX4_at 19 = .ok (.iconst 0, 1) := by decide +kernel
theorem dX4_at_20 : decode cX4_at 20 = .ok (.invokevirtual 88, 3) := by decide +kernel
theorem dX4_at_23 : decode cX4_at 23 = .ok (.lload_n 2, 1) := by decide +kernel
theorem dX4_at_24 : decode cX4_at 24 = .ok (.lcmp, 1) := by decide +kernel
theorem dX4_at_25 : decode cX4_at 25 = .ok (.ifCond .gt 9, 3) := by decide +kernel
theorem dX4_at_28 : decode cX4_at 28 = .ok (.iinc 4 1, 3) := by decide +kernel
theorem dX4_at_31 : decode cX4_at 31 = .ok (.goto (-28), 3) := by decide +kernel
theorem dX4_at_34 : decode cX4_at 34 = .ok (.aload_n 0, 1) := by decide +kernel
theorem dX4_at_35 : decode cX4_at 35 = .ok (.iload 4, 2) := by decide +kernel
theorem dX4_at_37 : decode cX4_at 37 = .ok (.iload_n 1, 1) := by decide +kernel
theorem dX4_at_38 : decode cX4_at 38 = .ok (.iconst 1, 1) := by decide +kernel
theorem dX4_at_39 : decode cX4_at 39 = .ok (.iadd, 1) := by decide +kernel
end
section
theorem dX4_at_40 : decode cX4_at 40 = .ok (.invokevirtual 88, 3) := by decide +kernel
theorem dX4_at_43 : decode cX4_at 43 = .ok (.lstore 5, 2) := by decide +kernel
theorem dX4_at_45 : decode cX4_at 45 = .ok (.aload_n 0, 1) := by decide +kernel
theorem dX4_at_46 : decode cX4_at 46 = .ok (.iload 4, 2) := by decide +kernel
theorem dX4_at_48 : decode cX4_at 48 = .ok (.iconst 0, 1) := by decide +kernel
theorem dX4_at_49 : decode cX4_at 49 = .ok (.invokevirtual 88, 3) := by decide +kernel
theorem dX4_at_52 : decode cX4_at 52 = .ok (.lload_n 2, 1) := by decide +kernel
theorem dX4_at_53 : decode cX4_at 53 = .ok (.lcmp, 1) := by decide +kernel
theorem dX4_at_54 : decode cX4_at 54 = .ok (.ifCond .ne 6, 3) := by decide +kernel
theorem dX4_at_57 : decode cX4_at 57 = .ok (.lload 5, 2) := by decide +kernel
theorem dX4_at_59 : decode cX4_at 59 = .ok (.lreturn, 1) := by decide +kernel
theorem dX4_at_60 : decode cX4_at 60 = .ok (.lload 5, 2) := by decide +kernel
theorem dX4_at_62 : decode cX4_at 62 = .ok (.aload_n 0, 1) := by decide +kernel
theorem dX4_at_63 : decode cX4_at 63 = .ok (.iload 4, 2) := by decide +kernel
theorem dX4_at_65 : decode cX4_at 65 = .ok (.iconst 1, 1) := by decide +kernel
theorem dX4_at_66 : decode cX4_at 66 = .ok (.iadd, 1) := by decide +kernel
theorem dX4_at_67 : decode cX4_at 67 = .ok (.iload_n 1, 1) := by decide +kernel
theorem dX4_at_68 : decode cX4_at 68 = .ok (.iconst 1, 1) := by decide +kernel
theorem dX4_at_69 : decode cX4_at 69 = .ok (.iadd, 1) := by decide +kernel
theorem dX4_at_70 : decode cX4_at 70 = .ok (.invokevirtual 88, 3) := by decide +kernel
theorem dX4_at_73 : decode cX4_at 73 = .ok (.lload 5, 2) := by decide +kernel
theorem dX4_at_75 : decode cX4_at 75 = .ok (.lsub, 1) := by decide +kernel
theorem dX4_at_76 : decode cX4_at 76 = .ok (.lload_n 2, 1) := by decide +kernel
theorem dX4_at_77 : decode cX4_at 77 = .ok (.aload_n 0, 1) := by decide +kernel
theorem dX4_at_78 : decode cX4_at 78 = .ok (.iload 4, 2) := by decide +kernel
theorem dX4_at_80 : decode cX4_at 80 = .ok (.iconst 0, 1) := by decide +kernel
theorem dX4_at_81 : decode cX4_at 81 = .ok (.invokevirtual 88, 3) := by decide +kernel
theorem dX4_at_84 : decode cX4_at 84 = .ok (.lsub, 1) := by decide +kernel
theorem dX4_at_85 : decode cX4_at 85 = .ok (.lmul, 1) := by decide +kernel
theorem dX4_at_86 : decode cX4_at 86 = .ok (.aload_n 0, 1) := by decide +kernel
theorem dX4_at_87 : decode cX4_at 87 = .ok (.iload 4, 2) := by decide +kernel
theorem dX4_at_89 : decode cX4_at 89 = .ok (.iconst 1, 1) := by decide +kernel
theorem dX4_at_90 : decode cX4_at 90 = .ok (.iadd, 1) := by decide +kernel
theorem dX4_at_91 : decode cX4_at 91 = .ok (.iconst 0, 1) := by decide +kernel
theorem dX4_at_92 : decode cX4_at 92 = .ok (.invokevirtual 88, 3) := by decide +kernel
theorem dX4_at_95 : decode cX4_at 95 = .ok (.aload_n 0, 1) := by decide +kernel
theorem dX4_at_96 : decode cX4_at 96 = .ok (.iload 4, 2) := by decide +kernel
theorem dX4_at_98 : decode cX4_at 98 = .ok (.iconst 0, 1) := by decide +kernel
theorem dX4_at_99 : decode cX4_at 99 = .ok (.invokevirtual 88, 3) := by decide +kernel
theorem dX4_at_102 : decode cX4_at 102 = .ok (.lsub, 1) := by decide +kernel
theorem dX4_at_103 : decode cX4_at 103 = .ok (.invokestatic 96, 3) := by decide +kernel
theorem dX4_at_106 : decode cX4_at 106 = .ok (.ladd, 1) := by decide +kernel
theorem dX4_at_107 : decode cX4_at 107 = .ok (.lreturn, 1) := by decide +kernel
set_option maxRecDepth 20000 in
theorem ggX4_tableValue_X4_within : GoodIn wsX4_tableValue wsX4_within := goodIn_r _ [7] (by decide +kernel) (by decide +kernel)
set_option maxRecDepth 20000 in
theorem gX4_tableValue_X4_within : GoodIn wsX4_tableValue (va_wsS RX4 41 yX4_within wsX4_within) := goodIn_app (goodIn_of _ (by decide +kernel)) ggX4_tableValue_X4_within
set_option maxRecDepth 20000 in
theorem ggX4_tableValue_X4_isCovered : GoodIn wsX4_tableValue wsX4_isCovered := goodIn_r _ [11, 12, 13, 14, 15, 6, 16, 17, 4, 5, 7, 25, 26, 27, 28, 29, 30, 31, 32, 33, 34, 35, 36, 37] (by decide +kernel) (by decide +kernel)
set_option maxRecDepth 20000 in
theorem gX4_tableValue_X4_isCovered : GoodIn wsX4_tableValue (wsV RX4 102 RX4 yX4_isCovered wsX4_isCovered) := goodIn_app (goodIn_of _ (by decide +kernel)) ggX4_tableValue_X4_isCovered
set_option maxRecDepth 20000 in
theorem ggX4_tableValue_X4_at : GoodIn wsX4_tableValue wsX4_at := goodIn_r _ [21, 12, 13, 14, 15, 6, 16, 17, 22, 23, 24, 25, 26, 27, 28, 29, 30, 31, 32, 33, 34, 35, 36, 37] (by decide +kernel) (by decide +kernel)
set_option maxRecDepth 20000 in
theorem gX4_tableValue_X4_at : GoodIn wsX4_tableValue (wsV RX4 106 RX4 yX4_at wsX4_at) := goodIn_app (goodIn_of _ (by decide +kernel)) ggX4_tableValue_X4_at
theorem dX4_tableValue_0 : decode cX4_tableValue 0 = .ok (.iload_n 1, 1) := by decide +kernel
theorem dX4_tableValue_1 : decode cX4_tableValue 1 = .ok (.i2l, 1) := by decide +kernel
theorem dX4_tableValue_2 : decode cX4_tableValue 2 = .ok (.lconst 0, 1) := by decide +kernel
theorem dX4_tableValue_3 : decode cX4_tableValue 3 = .ok (.ldc2_w 100, 3) := by decide +kernel
theorem dX4_tableValue_6 : decode cX4_tableValue 6 = .ok (.invokestatic 41, 3) := by decide +kernel
theorem dX4_tableValue_9 : decode cX4_tableValue 9 = .ok (.ifCond .ne 7, 3) := by decide +kernel
theorem dX4_tableValue_12 : decode cX4_tableValue 12 = .ok (.ldc2_w 94, 3) := by decide +kernel
theorem dX4_tableValue_15 : decode cX4_tableValue 15 = .ok (.lreturn, 1) := by decide +kernel
theorem dX4_tableValue_16 : decode cX4_tableValue 16 = .ok (.aload_n 0, 1) := by decide +kernel
theorem dX4_tableValue_17 : decode cX4_tableValue 17 = .ok (.iload_n 2, 1) := by decide +kernel
theorem dX4_tableValue_18 : decode cX4_tableValue 18 = .ok (.i2l, 1) := by decide +kernel
theorem dX4_tableValue_19 : decode cX4_tableValue 19 = .ok (.invokevirtual 102, 3) := by decide +kernel
theorem dX4_tableValue_22 : decode cX4_tableValue 22 = .ok (.ifCond .eq 13, 3) := by decide +kernel
theorem dX4_tableValue_25 : decode cX4_tableValue 25 = .ok (.aload_n 0, 1) := by decide +kernel
theorem dX4_tableValue_26 : decode cX4_tableValue 26 = .ok (.iload_n 1, 1) := by decide +kernel
theorem dX4_tableValue_27 : decode cX4_tableValue 27 = .ok (.iload_n 2, 1) := by decide +kernel
theorem dX4_tableValue_28 : decode cX4_tableValue 28 = .ok (.i2l, 1) := by decide +kernel
theorem dX4_tableValue_29 : decode cX4_tableValue 29 = .ok (.invokevirtual 106, 3) := by decide +kernel
theorem dX4_tableValue_32 : decode cX4_tableValue 32 = .ok (.goto 6, 3) := by decide +kernel
theorem dX4_tableValue_35 : decode cX4_tableValue 35 = .ok (.ldc2_w 110, 3) := by decide +kernel
theorem dX4_tableValue_38 : decode cX4_tableValue 38 = .ok (.lreturn, 1) := by decide +kernel
set_option maxRecDepth 20000 in
theorem ggX4_setLength_X4_within : GoodIn wsX4_setLength wsX4_within := goodIn_r _ [8] (by decide +kernel) (by decide +kernel)
set_option maxRecDepth 20000 in
theorem gX4_setLength_X4_within : GoodIn wsX4_setLength (va_wsS RX4 41 yX4_within wsX4_within) := goodIn_app (goodIn_of _ (by decide +kernel)) ggX4_setLength_X4_within
theorem dX4_setLength_0 : decode cX4_setLength 0 = .ok (.iload_n 1, 1) := by decide +kernel
theorem dX4_setLength_1 : decode cX4_setLength 1 = .ok (.i2l, 1) := by decide +kernel
theorem dX4_setLength_2 : decode cX4_setLength 2 = .ok (.ldc2_w 112, 3) := by decide +kernel
theorem dX4_setLength_5 : decode cX4_setLength 5 = .ok (.ldc2_w 114, 3) := by decide +kernel
theorem dX4_setLength_8 : decode cX4_setLength 8 = .ok (.invokestatic 41, 3) := by decide +kernel
theorem dX4_setLength_11 : decode cX4_setLength 11 = .ok (.ifCond .ne 7, 3) := by decide +kernel
theorem dX4_setLength_14 : decode cX4_setLength 14 = .ok (.ldc2_w 45, 3) := by decide +kernel
theorem dX4_setLength_17 : decode cX4_setLength 17 = .ok (.lreturn, 1) := by decide +kernel
theorem dX4_setLength_18 : decode cX4_setLength 18 = .ok (.aload_n 0, 1) := by decide +kernel
theorem dX4_setLength_19 : decode cX4_setLength 19 = .ok (.getfield 28, 3) := by decide +kernel
theorem dX4_setLength_22 : decode cX4_setLength 22 = .ok (.lstore_n 2, 1) := by decide +kernel
theorem dX4_setLength_23 : decode cX4_setLength 23 = .ok (.aload_n 0, 1) := by decide +kernel
theorem dX4_setLength_24 : decode cX4_setLength 24 = .ok (.iload_n 1, 1) := by decide +kernel
theorem dX4_setLength_25 : decode cX4_setLength 25 = .ok (.i2l, 1) := by decide +kernel
theorem dX4_setLength_26 : decode cX4_setLength 26 = .ok (.putfield 28, 3) := by decide +kernel
theorem dX4_setLength_29 : decode cX4_setLength 29 = .ok (.lload_n 2, 1) := by decide +kernel
theorem dX4_setLength_30 : decode cX4_setLength 30 = .ok (.lreturn, 1) := by decide +kernel
set_option maxRecDepth 20000 in
theorem ggX4_setMargin_X4_within : GoodIn wsX4_setMargin wsX4_within := goodIn_r _ [7] (by decide +kernel) (by decide +kernel)
set_option maxRecDepth 20000 in
theorem gX4_setMargin_X4_within : GoodIn wsX4_setMargin (va_wsS RX4 41 yX4_within wsX4_within) := goodIn_app (goodIn_of _ (by decide +kernel)) ggX4_setMargin_X4_within
theorem dX4_setMargin_0 : decode cX4_setMargin 0 = .ok (.iload_n 1, 1) := by decide +kernel
theorem dX4_setMargin_1 : decode cX4_setMargin 1 = .ok (.i2l, 1) := by decide +kernel
theorem dX4_setMargin_2 : decode cX4_setMargin 2 = .ok (.lconst 0, 1) := by decide +kernel
theorem dX4_setMargin_3 : decode cX4_setMargin 3 = .ok (.ldc2_w 116, 3) := by decide +kernel
theorem dX4_setMargin_6 : decode cX4_setMargin 6 = .ok (.invokestatic 41, 3) := by decide +kernel
theorem dX4_setMargin_9 : decode cX4_setMargin 9 = .ok (.ifCond .ne 7, 3) := by decide +kernel
theorem dX4_setMargin_12 : decode cX4_setMargin 12 = .ok (.ldc2_w 45, 3) := by decide +kernel
theorem dX4_setMargin_15 : decode cX4_setMargin 15 = .ok (.lreturn, 1) := by decide +kernel
theorem dX4_setMargin_16 : decode cX4_setMargin 16 = .ok (.aload_n 0, 1) := by decide +kernel
theorem dX4_setMargin_17 : decode cX4_setMargin 17 = .ok (.getfield 118, 3) := by decide +kernel
theorem dX4_setMargin_20 : decode cX4_setMargin 20 = .ok (.lstore_n 2, 1) := by decide +kernel
theorem dX4_setMargin_21 : decode cX4_setMargin 21 = .ok (.aload_n 0, 1) := by decide +kernel
theorem dX4_setMargin_22 : decode cX4_setMargin 22 = .ok (.iload_n 1, 1) := by decide +kernel
theorem dX4_setMargin_23 : decode cX4_setMargin 23 = .ok (.i2l, 1) := by decide +kernel
theorem dX4_setMargin_24 : decode cX4_setMargin 24 = .ok (.putfield 118, 3) := by decide +kernel
theorem dX4_setMargin_27 : decode cX4_setMargin 27 = .ok (.lload_n 2, 1) := by decide +kernel
theorem dX4_setMargin_28 : decode cX4_setMargin 28 = .ok (.lreturn, 1) := by decide +kernel
set_option maxRecDepth 20000 in
theorem ggX4_isSurvey_X4_within : GoodIn wsX4_isSurvey wsX4_within := goodIn_r _ [5] (by decide +kernel) (by decide +kernel)
set_option maxRecDepth 20000 in
theorem gX4_isSurvey_X4_within : GoodIn wsX4_isSurvey (va_wsS RX4 41 yX4_within wsX4_within) := goodIn_app (goodIn_of _ (by decide +kernel)) ggX4_isSurvey_X4_within
theorem dX4_isSurvey_0 : decode cX4_isSurvey 0 = .ok (.iload_n 0, 1) := by decide +kernel
theorem dX4_isSurvey_1 : decode cX4_isSurvey 1 = .ok (.i2l, 1) := by decide +kernel
theorem dX4_isSurvey_2 : decode cX4_isSurvey 2 = .ok (.lconst 0, 1) := by decide +kernel
theorem dX4_isSurvey_3 : decode cX4_isSurvey 3 = .ok (.ldc2_w 100, 3) := by decide +kernel
theorem dX4_isSurvey_6 : decode cX4_isSurvey 6 = .ok (.invokestatic 41, 3) := by decide +kernel
theorem dX4_isSurvey_9 : decode cX4_isSurvey 9 = .ok (.ireturn, 1) := by decide +kernel
set_option maxRecDepth 20000 in
theorem ggX4_setReading_X4_isSurvey : GoodIn wsX4_setReading wsX4_isSurvey := goodIn_r _ [10, 11, 12, 13, 9, 14] (by decide +kernel) (by decide +kernel)
set_option maxRecDepth 20000 in
theorem gX4_setReading_X4_isSurvey : GoodIn wsX4_setReading (va_wsS RX4 121 yX4_isSurvey wsX4_isSurvey) := goodIn_app (goodIn_of _ (by decide +kernel)) ggX4_setReading_X4_isSurvey
set_option maxRecDepth 20000 in
theorem ggX4_setReading_X4_within : GoodIn wsX4_setReading wsX4_within := goodIn_r _ [14] (by decide +kernel) (by decide +kernel)
set_option maxRecDepth 20000 in
theorem gX4_setReading_X4_within : GoodIn wsX4_setReading (va_wsS RX4 41 yX4_within wsX4_within) := goodIn_app (goodIn_of _ (by decide +kernel)) ggX4_setReading_X4_within
theorem dX4_setReading_0 : decode cX4_setReading 0 = .ok (.iload_n 1, 1) := by decide +kernel
theorem dX4_setReading_1 : decode cX4_setReading 1 = .ok (.invokestatic 121, 3) := by decide +kernel
theorem dX4_setReading_4 : decode cX4_setReading 4 = .ok (.ifCond .ne 7, 3) := by decide +kernel
theorem dX4_setReading_7 : decode cX4_setReading 7 = .ok (.ldc2_w 125, 3) := by decide +kernel
theorem dX4_setReading_10 : decode cX4_setReading 10 = .ok (.lreturn, 1) := by decide +kernel
theorem dX4_setReading_11 : decode cX4_setReading 11 = .ok (.iload_n 2, 1) := by decide +kernel
theorem dX4_setReading_12 : decode cX4_setReading 12 = .ok (.i2l, 1) := by decide +kernel
theorem dX4_setReading_13 : decode cX4_setReading 13 = .ok (.lconst 0, 1) := by decide +kernel
theorem dX4_setReading_14 : decode cX4_setReading 14 = .ok (.ldc2_w 127, 3) := by decide +kernel
theorem dX4_setReading_17 : decode cX4_setReading 17 = .ok (.invokestatic 41, 3) := by decide +kernel
theorem dX4_setReading_20 : decode cX4_setReading 20 = .ok (.ifCond .ne 7, 3) := by decide +kernel
theorem dX4_setReading_23 : decode cX4_setReading 23 = .ok (.ldc2_w 94, 3) := by decide +kernel
theorem dX4_setReading_26 : decode cX4_setReading 26 = .ok (.lreturn, 1) := by decide +kernel
theorem dX4_setReading_27 : decode cX4_setReading 27 = .ok (.iload_n 3, 1) := by decide +kernel
theorem dX4_setReading_28 : decode cX4_setReading 28 = .ok (.i2l, 1) := by decide +kernel
theorem dX4_setReading_29 : decode cX4_setReading 29 = .ok (.lconst 0, 1) := by decide +kernel
theorem dX4_setReading_30 : decode cX4_setReading 30 = .ok (.ldc2_w 53, 3) := by decide +kernel
theorem dX4_setReading_33 : decode cX4_setReading 33 = .ok (.invokestatic 41, 3) := by decide +kernel
theorem dX4_setReading_36 : decode cX4_setReading 36 = .ok (.ifCond .ne 7, 3) := by decide +kernel
theorem dX4_setReading_39 : decode cX4_setReading 39 = .ok (.ldc2_w 45, 3) := by decide +kernel
theorem dX4_setReading_42 : decode cX4_setReading 42 = .ok (.lreturn, 1) := by decide +kernel
theorem dX4_setReading_43 : decode cX4_setReading 43 = .ok (.aload_n 0, 1) := by decide +kernel
theorem dX4_setReading_44 : decode cX4_setReading 44 = .ok (.getfield 17, 3) := by decide +kernel
theorem dX4_setReading_47 : decode cX4_setReading 47 = .ok (.bipush 6, 2) := by decide +kernel
theorem dX4_setReading_49 : decode cX4_setReading 49 = .ok (.iload_n 1, 1) := by decide +kernel
theorem dX4_setReading_50 : decode cX4_setReading 50 = .ok (.imul, 1) := by decide +kernel
theorem dX4_setReading_51 : decode cX4_setReading 51 = .ok (.iload_n 2, 1) := by decide +kernel
theorem dX4_setReading_52 : decode cX4_setReading 52 = .ok (.iadd, 1) := by decide +kernel
theorem dX4_setReading_53 : decode cX4_setReading 53 = .ok (.laload, 1) := by decide +kernel
theorem dX4_setReading_54 : decode cX4_setReading 54 = .ok (.lstore 4, 2) := by decide +kernel
theorem dX4_setReading_56 : decode cX4_setReading 56 = .ok (.aload_n 0, 1) := by decide +kernel
theorem dX4_setReading_57 : decode cX4_setReading 57 = .ok (.getfield 17, 3) := by decide +kernel
theorem dX4_setReading_60 : decode cX4_setReading 60 = .ok (.bipush 6, 2) := by decide +kernel
theorem dX4_setReading_62 : decode cX4_setReading 62 = .ok (.iload_n 1, 1) := by decide +kernel
theorem dX4_setReading_63 : decode cX4_setReading 63 = .ok (.imul, 1) := by decide +kernel
theorem dX4_setReading_64 : decode cX4_setReading 64 = .ok (.iload_n 2, 1) := by decide +kernel
theorem dX4_setReading_65 : decode cX4_setReading 65 = .ok (.iadd, 1) := by decide +kernel
theorem dX4_setReading_66 : decode cX4_setReading 66 = .ok (.iload_n 3, 1) := by decide +kernel
theorem dX4_setReading_67 : decode cX4_setReading 67 = .ok (.i2l, 1) := by decide +kernel
theorem dX4_setReading_68 : decode cX4_setReading 68 = .ok (.lastore, 1) := by decide +kernel
theorem dX4_setReading_69 : decode cX4_setReading 69 = .ok (.lload 4, 2) := by decide +kernel
theorem dX4_setReading_71 : decode cX4_setReading 71 = .ok (.lreturn, 1) := by decide +kernel
set_option maxRecDepth 20000 in
theorem ggX4_reading_X4_isSurvey : GoodIn wsX4_reading wsX4_isSurvey := goodIn_r _ [8, 9, 10, 11, 7, 12] (by decide +kernel) (by decide +kernel)
set_option maxRecDepth 20000 in
theorem gX4_reading_X4_isSurvey : GoodIn wsX4_reading (va_wsS RX4 121 yX4_isSurvey wsX4_isSurvey) := goodIn_app (goodIn_of _ (by decide +kernel)) ggX4_reading_X4_isSurvey
set_option maxRecDepth 20000 in
theorem ggX4_reading_X4_within : GoodIn wsX4_reading wsX4_within := goodIn_r _ [12] (by decide +kernel) (by decide +kernel)
set_option maxRecDepth 20000 in
theorem gX4_reading_X4_within : GoodIn wsX4_reading (va_wsS RX4 41 yX4_within wsX4_within) := goodIn_app (goodIn_of _ (by decide +kernel)) ggX4_reading_X4_within
theorem dX4_reading_0 : decode cX4_reading 0 = .ok (.iload_n 1, 1) := by decide +kernel
theorem dX4_reading_1 : decode cX4_reading 1 = .ok (.invokestatic 121, 3) := by decide +kernel
theorem dX4_reading_4 : decode cX4_reading 4 = .ok (.ifCond .ne 7, 3) := by decide +kernel
theorem dX4_reading_7 : decode cX4_reading 7 = .ok (.ldc2_w 125, 3) := by decide +kernel
theorem dX4_reading_10 : decode cX4_reading 10 = .ok (.lreturn, 1) := by decide +kernel
theorem dX4_reading_11 : decode cX4_reading 11 = .ok (.iload_n 2, 1) := by decide +kernel
theorem dX4_reading_12 : decode cX4_reading 12 = .ok (.i2l, 1) := by decide +kernel
theorem dX4_reading_13 : decode cX4_reading 13 = .ok (.lconst 0, 1) := by decide +kernel
theorem dX4_reading_14 : decode cX4_reading 14 = .ok (.ldc2_w 127, 3) := by decide +kernel
theorem dX4_reading_17 : decode cX4_reading 17 = .ok (.invokestatic 41, 3) := by decide +kernel
theorem dX4_reading_20 : decode cX4_reading 20 = .ok (.ifCond .eq 17, 3) := by decide +kernel
theorem dX4_reading_23 : decode cX4_reading 23 = .ok (.aload_n 0, 1) := by decide +kernel
theorem dX4_reading_24 : decode cX4_reading 24 = .ok (.getfield 17, 3) := by decide +kernel
theorem dX4_reading_27 : decode cX4_reading 27 = .ok (.bipush 6, 2) := by decide +kernel
theorem dX4_reading_29 : decode cX4_reading 29 = .ok (.iload_n 1, 1) := by decide +kernel
theorem dX4_reading_30 : decode cX4_reading 30 = .ok (.imul, 1) := by decide +kernel
theorem dX4_reading_31 : decode cX4_reading 31 = .ok (.iload_n 2, 1) := by decide +kernel
theorem dX4_reading_32 : decode cX4_reading 32 = .ok (.iadd, 1) := by decide +kernel
theorem dX4_reading_33 : decode cX4_reading 33 = .ok (.laload, 1) := by decide +kernel
theorem dX4_reading_34 : decode cX4_reading 34 = .ok (.goto 6, 3) := by decide +kernel
theorem dX4_reading_37 : decode cX4_reading 37 = .ok (.ldc2_w 94, 3) := by decide +kernel
theorem dX4_reading_40 : decode cX4_reading 40 = .ok (.lreturn, 1) := by decide +kernel
set_option maxRecDepth 20000 in
theorem ggX4_setDensity_X4_isSurvey : GoodIn wsX4_setDensity wsX4_isSurvey := goodIn_r _ [9, 10, 11, 12, 8, 13] (by decide +kernel) (by decide +kernel)
set_option maxRecDepth 20000 in
theorem gX4_setDensity_X4_isSurvey : GoodIn wsX4_setDensity (va_wsS RX4 121 yX4_isSurvey wsX4_isSurvey) := goodIn_app (goodIn_of _ (by decide +kernel)) ggX4_setDensity_X4_isSurvey
set_option maxRecDepth 20000 in
theorem ggX4_setDensity_X4_within : GoodIn wsX4_setDensity wsX4_within := goodIn_r _ [13] (by decide +kernel) (by decide +kernel)
set_option maxRecDepth 20000 in
theorem gX4_setDensity_X4_within : GoodIn wsX4_setDensity (va_wsS RX4 41 yX4_within wsX4_within) := goodIn_app (goodIn_of _ (by decide +kernel)) ggX4_setDensity_X4_within
theorem dX4_setDensity_0 : decode cX4_setDensity 0 = .ok (.iload_n 1, 1) := by decide +kernel
theorem dX4_setDensity_1 : decode cX4_setDensity 1 = .ok (.invokestatic 121, 3) := by decide +kernel
theorem dX4_setDensity_4 : decode cX4_setDensity 4 = .ok (.ifCond .ne 7, 3) := by decide +kernel
theorem dX4_setDensity_7 : decode cX4_setDensity 7 = .ok (.ldc2_w 125, 3) := by decide +kernel
theorem dX4_setDensity_10 : decode cX4_setDensity 10 = .ok (.lreturn, 1) := by decide +kernel
theorem dX4_setDensity_11 : decode cX4_setDensity 11 = .ok (.iload_n 2, 1) := by decide +kernel
theorem dX4_setDensity_12 : decode cX4_setDensity 12 = .ok (.i2l, 1) := by decide +kernel
theorem dX4_setDensity_13 : decode cX4_setDensity 13 = .ok (.ldc2_w 129, 3) := by decide +kernel
theorem dX4_setDensity_16 : decode cX4_setDensity 16 = .ok (.ldc2_w 131, 3) := by decide +kernel
theorem dX4_setDensity_19 : decode cX4_setDensity 19 = .ok (.invokestatic 41, 3) := by decide +kernel
theorem dX4_setDensity_22 : decode cX4_setDensity 22 = .ok (.ifCond .ne 7, 3) := by decide +kernel
theorem dX4_setDensity_25 : decode cX4_setDensity 25 = .ok (.ldc2_w 45, 3) := by decide +kernel
theorem dX4_setDensity_28 : decode cX4_setDensity 28 = .ok (.lreturn, 1) := by decide +kernel
theorem dX4_setDensity_29 : decode cX4_setDensity 29 = .ok (.aload_n 0, 1) := by decide +kernel
theorem dX4_setDensity_30 : decode cX4_setDensity 30 = .ok (.getfield 20, 3) := by decide +kernel
theorem dX4_setDensity_33 : decode cX4_setDensity 33 = .ok (.iload_n 1, 1) := by decide +kernel
theorem dX4_setDensity_34 : decode cX4_setDensity 34 = .ok (.laload, 1) := by decide +kernel
theorem dX4_setDensity_35 : decode cX4_setDensity 35 = .ok (.lstore_n 3, 1) := by decide +kernel
theorem dX4_setDensity_36 : decode cX4_setDensity 36 = .ok (.aload_n 0, 1) := by decide +kernel
theorem dX4_setDensity_37 : decode cX4_setDensity 37 = .ok (.getfield 20, 3) := by decide +kernel
theorem dX4_setDensity_40 : decode cX4_setDensity 40 = .ok (.iload_n 1, 1) := by decide +kernel
theorem dX4_setDensity_41 : decode cX4_setDensity 41 = .ok (.iload_n 2, 1) := by decide +kernel
theorem dX4_setDensity_42 : decode cX4_setDensity 42 = .ok (.i2l, 1) := by decide +kernel
theorem dX4_setDensity_43 : decode cX4_setDensity 43 = .ok (.lastore, 1) := by decide +kernel
theorem dX4_setDensity_44 : decode cX4_setDensity 44 = .ok (.lload_n 3, 1) := by decide +kernel
theorem dX4_setDensity_45 : decode cX4_setDensity 45 = .ok (.lreturn, 1) := by decide +kernel
set_option maxRecDepth 20000 in
theorem ggX4_setDeduction_X4_isSurvey : GoodIn wsX4_setDeduction wsX4_isSurvey := goodIn_r _ [10, 2, 11, 12, 9, 13] (by decide +kernel) (by decide +kernel)
set_option maxRecDepth 20000 in
theorem gX4_setDeduction_X4_isSurvey : GoodIn wsX4_setDeduction (va_wsS RX4 121 yX4_isSurvey wsX4_isSurvey) := goodIn_app (goodIn_of _ (by decide +kernel)) ggX4_setDeduction_X4_isSurvey
set_option maxRecDepth 20000 in
theorem ggX4_setDeduction_X4_within : GoodIn wsX4_setDeduction wsX4_within := goodIn_r _ [13] (by decide +kernel) (by decide +kernel)
set_option maxRecDepth 20000 in
theorem gX4_setDeduction_X4_within : GoodIn wsX4_setDeduction (va_wsS RX4 41 yX4_within wsX4_within) := goodIn_app (goodIn_of _ (by decide +kernel)) ggX4_setDeduction_X4_within
theorem dX4_setDeduction_0 : decode cX4_setDeduction 0 = .ok (.iload_n 1, 1) := by decide +kernel
theorem dX4_setDeduction_1 : decode cX4_setDeduction 1 = .ok (.invokestatic 121, 3) := by decide +kernel
theorem dX4_setDeduction_4 : decode cX4_setDeduction 4 = .ok (.ifCond .ne 7, 3) := by decide +kernel
theorem dX4_setDeduction_7 : decode cX4_setDeduction 7 = .ok (.ldc2_w 125, 3) := by decide +kernel
theorem dX4_setDeduction_10 : decode cX4_setDeduction 10 = .ok (.lreturn, 1) := by decide +kernel
theorem dX4_setDeduction_11 : decode cX4_setDeduction 11 = .ok (.iload_n 2, 1) := by decide +kernel
theorem dX4_setDeduction_12 : decode cX4_setDeduction 12 = .ok (.i2l, 1) := by decide +kernel
theorem dX4_setDeduction_13 : decode cX4_setDeduction 13 = .ok (.lconst 0, 1) := by decide +kernel
theorem dX4_setDeduction_14 : decode cX4_setDeduction 14 = .ok (.ldc2_w 100, 3) := by decide +kernel
theorem dX4_setDeduction_17 : decode cX4_setDeduction 17 = .ok (.invokestatic 41, 3) := by decide +kernel
theorem dX4_setDeduction_20 : decode cX4_setDeduction 20 = .ok (.ifCond .ne 7, 3) := by decide +kernel
theorem dX4_setDeduction_23 : decode cX4_setDeduction 23 = .ok (.ldc2_w 94, 3) := by decide +kernel
theorem dX4_setDeduction_26 : decode cX4_setDeduction 26 = .ok (.lreturn, 1) := by decide +kernel
theorem dX4_setDeduction_27 : decode cX4_setDeduction 27 = .ok (.iload_n 3, 1) := by decide +kernel
theorem dX4_setDeduction_28 : decode cX4_setDeduction 28 = .ok (.i2l, 1) := by decide +kernel
theorem dX4_setDeduction_29 : decode cX4_setDeduction 29 = .ok (.lconst 0, 1) := by decide +kernel
theorem dX4_setDeduction_30 : decode cX4_setDeduction 30 = .ok (.ldc2_w 55, 3) := by decide +kernel
theorem dX4_setDeduction_33 : decode cX4_setDeduction 33 = .ok (.invokestatic 41, 3) := by decide +kernel
theorem dX4_setDeduction_36 : decode cX4_setDeduction 36 = .ok (.ifCond .ne 7, 3) := by decide +kernel
theorem dX4_setDeduction_39 : decode cX4_setDeduction 39 = .ok (.ldc2_w 45, 3) := by decide +kernel
theorem dX4_setDeduction_42 : decode cX4_setDeduction 42 = .ok (.lreturn, 1) := by decide +kernel
theorem dX4_setDeduction_43 : decode cX4_setDeduction 43 = .ok (.aload_n 0, 1) := by decide +kernel
theorem dX4_setDeduction_44 : decode cX4_setDeduction 44 = .ok (.getfield 23, 3) := by decide +kernel
theorem dX4_setDeduction_47 : decode cX4_setDeduction 47 = .ok (.iconst 4, 1) := by decide +kernel
theorem dX4_setDeduction_48 : decode cX4_setDeduction 48 = .ok (.iload_n 1, 1) := by decide +kernel
theorem dX4_setDeduction_49 : decode cX4_setDeduction 49 = .ok (.imul, 1) := by decide +kernel
theorem dX4_setDeduction_50 : decode cX4_setDeduction 50 = .ok (.iload_n 2, 1) := by decide +kernel
theorem dX4_setDeduction_51 : decode cX4_setDeduction 51 = .ok (.iadd, 1) := by decide +kernel
theorem dX4_setDeduction_52 : decode cX4_setDeduction 52 = .ok (.laload, 1) := by decide +kernel
theorem dX4_setDeduction_53 : decode cX4_setDeduction 53 = .ok (.lstore 4, 2) := by decide +kernel
theorem dX4_setDeduction_55 : decode cX4_setDeduction 55 = .ok (.aload_n 0, 1) := by decide +kernel
theorem dX4_setDeduction_56 : decode cX4_setDeduction 56 = .ok (.getfield 23, 3) := by decide +kernel
theorem dX4_setDeduction_59 : decode cX4_setDeduction 59 = .ok (.iconst 4, 1) := by decide +kernel
theorem dX4_setDeduction_60 : decode cX4_setDeduction 60 = .ok (.iload_n 1, 1) := by decide +kernel
theorem dX4_setDeduction_61 : decode cX4_setDeduction 61 = .ok (.imul, 1) := by decide +kernel
theorem dX4_setDeduction_62 : decode cX4_setDeduction 62 = .ok (.iload_n 2, 1) := by decide +kernel
theorem dX4_setDeduction_63 : decode cX4_setDeduction 63 = .ok (.iadd, 1) := by decide +kernel
theorem dX4_setDeduction_64 : decode cX4_setDeduction 64 = .ok (.iload_n 3, 1) := by decide +kernel
theorem dX4_setDeduction_65 : decode cX4_setDeduction 65 = .ok (.i2l, 1) := by decide +kernel
theorem dX4_setDeduction_66 : decode cX4_setDeduction 66 = .ok (.lastore, 1) := by decide +kernel
theorem dX4_setDeduction_67 : decode cX4_setDeduction 67 = .ok (.lload 4, 2) := by decide +kernel
theorem dX4_setDeduction_69 : decode cX4_setDeduction 69 = .ok (.lreturn, 1) := by decide +kernel
set_option maxRecDepth 20000 in
theorem ggX4_mean_X4_quotient : GoodIn wsX4_mean wsX4_quotient := goodIn_r _ [6] (by decide +kernel) (by decide +kernel)
set_option maxRecDepth 20000 in
theorem gX4_mean_X4_quotient : GoodIn wsX4_mean (va_wsS RX4 96 yX4_quotient wsX4_quotient) := goodIn_app (goodIn_of _ (by decide +kernel)) ggX4_mean_X4_quotient
theorem dX4_mean_0 : decode cX4_mean 0 = .ok (.aload_n 0, 1) := by decide +kernel
theorem dX4_mean_1 : decode cX4_mean 1 = .ok (.getfield 17, 3) := by decide +kernel
theorem dX4_mean_4 : decode cX4_mean 4 = .ok (.bipush 6, 2) := by decide +kernel
theorem dX4_mean_6 : decode cX4_mean 6 = .ok (.iload_n 1, 1) := by decide +kernel
theorem dX4_mean_7 : decode cX4_mean 7 = .ok (.imul, 1) := by decide +kernel
theorem dX4_mean_8 : decode cX4_mean 8 = .ok (.iconst 2, 1) := by decide +kernel
theorem dX4_mean_9 : decode cX4_mean 9 = .ok (.iload_n 2, 1) := by decide +kernel
theorem dX4_mean_10 : decode cX4_mean 10 = .ok (.imul, 1) := by decide +kernel
theorem dX4_mean_11 : decode cX4_mean 11 = .ok (.iadd, 1) := by decide +kernel
theorem dX4_mean_12 : decode cX4_mean 12 = .ok (.laload, 1) := by decide +kernel
theorem dX4_mean_13 : decode cX4_mean 13 = .ok (.lload_n 3, 1) := by decide +kernel
theorem dX4_mean_14 : decode cX4_mean 14 = .ok (.ladd, 1) := by decide +kernel
theorem dX4_mean_15 : decode cX4_mean 15 = .ok (.lstore 5, 2) := by decide +kernel
theorem dX4_mean_17 : decode cX4_mean 17 = .ok (.aload_n 0, 1) := by decide +kernel
theorem dX4_mean_18 : decode cX4_mean 18 = .ok (.getfield 17, 3) := by decide +kernel
theorem dX4_mean_21 : decode cX4_mean 21 = .ok (.bipush 6, 2) := by decide +kernel
theorem dX4_mean_23 : decode cX4_mean 23 = .ok (.iload_n 1, 1) := by decide +kernel
theorem dX4_mean_24 : decode cX4_mean 24 = .ok (.imul, 1) := by decide +kernel
theorem dX4_mean_25 : decode cX4_mean 25 = .ok (.iconst 2, 1) := by decide +kernel
theorem dX4_mean_26 : decode cX4_mean 26 = .ok (.iload_n 2, 1) := by decide +kernel
theorem dX4_mean_27 : decode cX4_mean 27 = .ok (.imul, 1) := by decide +kernel
theorem dX4_mean_28 : decode cX4_mean 28 = .ok (.iadd, 1) := by decide +kernel
theorem dX4_mean_29 : decode cX4_mean 29 = .ok (.iconst 1, 1) := by decide +kernel
theorem dX4_mean_30 : decode cX4_mean 30 = .ok (.iadd, 1) := by decide +kernel
theorem dX4_mean_31 : decode cX4_mean 31 = .ok (.laload, 1) := by decide +kernel
theorem dX4_mean_32 : decode cX4_mean 32 = .ok (.lload_n 3, 1) := by decide +kernel
theorem dX4_mean_33 : decode cX4_mean 33 = .ok (.ladd, 1) := by decide +kernel
theorem dX4_mean_34 : decode cX4_mean 34 = .ok (.lstore 7, 2) := by decide +kernel
theorem dX4_mean_36 : decode cX4_mean 36 = .ok (.lload 5, 2) := by decide +kernel
theorem dX4_mean_38 : decode cX4_mean 38 = .ok (.lload 7, 2) := by decide +kernel
theorem dX4_mean_40 : decode cX4_mean 40 = .ok (.ladd, 1) := by decide +kernel
theorem dX4_mean_41 : decode cX4_mean 41 = .ok (.ldc2_w 133, 3) := by decide +kernel
theorem dX4_mean_44 : decode cX4_mean 44 = .ok (.invokestatic 96, 3) := by decide +kernel
theorem dX4_mean_47 : decode cX4_mean 47 = .ok (.lreturn, 1) := by decide +kernel
set_option maxRecDepth 20000 in
theorem ggX4_trimOf_X4_mean : GoodIn wsX4_trimOf wsX4_mean := goodIn_r _ [5, 6, 7, 8, 9, 4, 10, 11, 12, 13, 14, 15, 16, 17, 18, 19, 20, 21, 22, 23] (by decide +kernel) (by decide +kernel)
set_option maxRecDepth 20000 in
theorem gX4_trimOf_X4_mean : GoodIn wsX4_trimOf (wsV RX4 135 RX4 yX4_mean wsX4_mean) := goodIn_app (goodIn_of _ (by decide +kernel)) ggX4_trimOf_X4_mean
theorem dX4_trimOf_0 : decode cX4_trimOf 0 = .ok (.aload_n 0, 1) := by decide +kernel
theorem dX4_trimOf_1 : decode cX4_trimOf 1 = .ok (.iload_n 1, 1) := by decide +kernel
theorem dX4_trimOf_2 : decode cX4_trimOf 2 = .ok (.iconst 2, 1) := by decide +kernel
theorem dX4_trimOf_3 : decode cX4_trimOf 3 = .ok (.lload_n 2, 1) := by decide +kernel
theorem dX4_trimOf_4 : decode cX4_trimOf 4 = .ok (.invokevirtual 135, 3) := by decide +kernel
theorem dX4_trimOf_7 : decode cX4_trimOf 7 = .ok (.aload_n 0, 1) := by decide +kernel
theorem dX4_trimOf_8 : decode cX4_trimOf 8 = .ok (.iload_n 1, 1) := by decide +kernel
theorem dX4_trimOf_9 : decode cX4_trimOf 9 = .ok (.iconst 0, 1) := by decide +kernel
theorem dX4_trimOf_10 : decode cX4_trimOf 10 = .ok (.lload_n 2, 1) := by decide +kernel
theorem dX4_trimOf_11 : decode cX4_trimOf 11 = .ok (.invokevirtual 135, 3) := by decide +kernel
theorem dX4_trimOf_14 : decode cX4_trimOf 14 = .ok (.lsub, 1) := by decide +kernel
theorem dX4_trimOf_15 : decode cX4_trimOf 15 = .ok (.lreturn, 1) := by decide +kernel
set_option maxRecDepth 20000 in
theorem ggX4_quarter_X4_mean : GoodIn wsX4_quarter wsX4_mean := goodIn_r _ [7, 8, 9, 10, 11, 6, 12, 13, 14, 15, 16, 17, 18, 19, 20, 21, 22, 23, 24, 25] (by decide +kernel) (by decide +kernel)
set_option maxRecDepth 20000 in
theorem gX4_quarter_X4_mean : GoodIn wsX4_quarter (wsV RX4 135 RX4 yX4_mean wsX4_mean) := goodIn_app (goodIn_of _ (by decide +kernel)) ggX4_quarter_X4_mean
set_option maxRecDepth 20000 in
theorem ggX4_quarter_X4_quotient : GoodIn wsX4_quarter wsX4_quotient := goodIn_r _ [12] (by decide +kernel) (by decide +kernel)
set_option maxRecDepth 20000 in
theorem gX4_quarter_X4_quotient : GoodIn wsX4_quarter (va_wsS RX4 96 yX4_quotient wsX4_quotient) := goodIn_app (goodIn_of _ (by decide +kernel)) ggX4_quarter_X4_quotient
theorem dX4_quarter_0 : decode cX4_quarter 0 = .ok (.aload_n 0, 1) := by decide +kernel
theorem dX4_quarter_1 : decode cX4_quarter 1 = .ok (.iload_n 1, 1) := by decide +kernel
theorem dX4_quarter_2 : decode cX4_quarter 2 = .ok (.iconst 0, 1) := by decide +kernel
theorem dX4_quarter_3 : decode cX4_quarter 3 = .ok (.lload_n 2, 1) := by decide +kernel
theorem dX4_quarter_4 : decode cX4_quarter 4 = .ok (.invokevirtual 135, 3) := by decide +kernel
theorem dX4_quarter_7 : decode cX4_quarter 7 = .ok (.ldc2_w 139, 3) := by decide +kernel
theorem dX4_quarter_10 : decode cX4_quarter 10 = .ok (.aload_n 0, 1) := by decide +kernel
theorem dX4_quarter_11 : decode cX4_quarter 11 = .ok (.iload_n 1, 1) := by decide +kernel
theorem dX4_quarter_12 : decode cX4_quarter 12 = .ok (.iconst 1, 1) := by decide +kernel
theorem dX4_quarter_13 : decode cX4_quarter 13 = .ok (.lload_n 2, 1) := by decide +kernel
theorem dX4_quarter_14 : decode cX4_quarter 14 = .ok (.invokevirtual 135, 3) := by decide +kernel
theorem dX4_quarter_17 : decode cX4_quarter 17 = .ok (.lmul, 1) := by decide +kernel
theorem dX4_quarter_18 : decode cX4_quarter 18 = .ok (.ladd, 1) := by decide +kernel
theorem dX4_quarter_19 : decode cX4_quarter 19 = .ok (.aload_n 0, 1) := by decide +kernel
theorem dX4_quarter_20 : decode cX4_quarter 20 = .ok (.iload_n 1, 1) := by decide +kernel
theorem dX4_quarter_21 : decode cX4_quarter 21 = .ok (.iconst 2, 1) := by decide +kernel
theorem dX4_quarter_22 : decode cX4_quarter 22 = .ok (.lload_n 2, 1) := by decide +kernel
theorem dX4_quarter_23 : decode cX4_quarter 23 = .ok (.invokevirtual 135, 3) := by decide +kernel
theorem dX4_quarter_26 : decode cX4_quarter 26 = .ok (.ladd, 1) := by decide +kernel
theorem dX4_quarter_27 : decode cX4_quarter 27 = .ok (.ldc2_w 141, 3) := by decide +kernel
theorem dX4_quarter_30 : decode cX4_quarter 30 = .ok (.invokestatic 96, 3) := by decide +kernel
theorem dX4_quarter_33 : decode cX4_quarter 33 = .ok (.lreturn, 1) := by decide +kernel
set_option maxRecDepth 20000 in
theorem ggX4_deflectionOf_X4_mean : GoodIn wsX4_deflectionOf wsX4_mean := goodIn_r _ [6, 7, 1, 8, 9, 5, 10, 11, 12, 13, 14, 15, 16, 17, 18, 19, 20, 21, 22, 23] (by decide +kernel) (by decide +kernel)
set_option maxRecDepth 20000 in
theorem gX4_deflectionOf_X4_mean : GoodIn wsX4_deflectionOf (wsV RX4 135 RX4 yX4_mean wsX4_mean) := goodIn_app (goodIn_of _ (by decide +kernel)) ggX4_deflectionOf_X4_mean
set_option maxRecDepth 20000 in
theorem ggX4_deflectionOf_X4_quotient : GoodIn wsX4_deflectionOf wsX4_quotient := goodIn_r _ [10] (by decide +kernel) (by decide +kernel)
set_option maxRecDepth 20000 in
theorem gX4_deflectionOf_X4_quotient : GoodIn wsX4_deflectionOf (va_wsS RX4 96 yX4_quotient wsX4_quotient) := goodIn_app (goodIn_of _ (by decide +kernel)) ggX4_deflectionOf_X4_quotient
theorem dX4_deflectionOf_0 : decode cX4_deflectionOf 0 = .ok (.aload_n 0, 1) := by decide +kernel
theorem dX4_deflectionOf_1 : decode cX4_deflectionOf 1 = .ok (.iload_n 1, 1) := by decide +kernel
theorem dX4_deflectionOf_2 : decode cX4_deflectionOf 2 = .ok (.iconst 1, 1) := by decide +kernel
theorem dX4_deflectionOf_3 : decode cX4_deflectionOf 3 = .ok (.lconst 0, 1) := by decide +kernel
theorem dX4_deflectionOf_4 : decode cX4_deflectionOf 4 = .ok (.invokevirtual 135, 3) := by decide +kernel
theorem dX4_deflectionOf_7 : decode cX4_deflectionOf 7 = .ok (.aload_n 0, 1) := by decide +kernel
theorem dX4_deflectionOf_8 : decode cX4_deflectionOf 8 = .ok (.iload_n 1, 1) := by decide +kernel
theorem dX4_deflectionOf_9 : decode cX4_deflectionOf 9 = .ok (.iconst 0, 1) := by decide +kernel
theorem dX4_deflectionOf_10 : decode cX4_deflectionOf 10 = .ok (.lconst 0, 1) := by decide +kernel
theorem dX4_deflectionOf_11 : decode cX4_deflectionOf 11 = .ok (.invokevirtual 135, 3) := by decide +kernel
theorem dX4_deflectionOf_14 : decode cX4_deflectionOf 14 = .ok (.aload_n 0, 1) := by decide +kernel
theorem dX4_deflectionOf_15 : decode cX4_deflectionOf 15 = .ok (.iload_n 1, 1) := by decide +kernel
theorem dX4_deflectionOf_16 : decode cX4_deflectionOf 16 = .ok (.iconst 2, 1) := by decide +kernel
theorem dX4_deflectionOf_17 : decode cX4_deflectionOf 17 = .ok (.lconst 0, 1) := by decide +kernel
theorem dX4_deflectionOf_18 : decode cX4_deflectionOf 18 = .ok (.invokevirtual 135, 3) := by decide +kernel
theorem dX4_deflectionOf_21 : decode cX4_deflectionOf 21 = .ok (.ladd, 1) := by decide +kernel
theorem dX4_deflectionOf_22 : decode cX4_deflectionOf 22 = .ok (.ldc2_w 133, 3) := by decide +kernel
theorem dX4_deflectionOf_25 : decode cX4_deflectionOf 25 = .ok (.invokestatic 96, 3) := by decide +kernel
theorem dX4_deflectionOf_28 : decode cX4_deflectionOf 28 = .ok (.lsub, 1) := by decide +kernel
theorem dX4_deflectionOf_29 : decode cX4_deflectionOf 29 = .ok (.lreturn, 1) := by decide +kernel
theorem dX4_heelOf_0 : decode cX4_heelOf 0 = .ok (.aload_n 0, 1) := by decide +kernel
theorem dX4_heelOf_1 : decode cX4_heelOf 1 = .ok (.getfield 17, 3) := by decide +kernel
theorem dX4_heelOf_4 : decode cX4_heelOf 4 = .ok (.bipush 6, 2) := by decide +kernel
theorem dX4_heelOf_6 : decode cX4_heelOf 6 = .ok (.iload_n 1, 1) := by decide +kernel
theorem dX4_heelOf_7 : decode cX4_heelOf 7 = .ok (.imul, 1) := by decide +kernel
theorem dX4_heelOf_8 : decode cX4_heelOf 8 = .ok (.iconst 3, 1) := by decide +kernel
theorem dX4_heelOf_9 : decode cX4_heelOf 9 = .ok (.iadd, 1) := by decide +kernel
theorem dX4_heelOf_10 : decode cX4_heelOf 10 = .ok (.laload, 1) := by decide +kernel
theorem dX4_heelOf_11 : decode cX4_heelOf 11 = .ok (.aload_n 0, 1) := by decide +kernel
theorem dX4_heelOf_12 : decode cX4_heelOf 12 = .ok (.getfield 17, 3) := by decide +kernel
theorem dX4_heelOf_15 : decode cX4_heelOf 15 = .ok (.bipush 6, 2) := by decide +kernel
theorem dX4_heelOf_17 : decode cX4_heelOf 17 = .ok (.iload_n 1, 1) := by decide +kernel
theorem dX4_heelOf_18 : decode cX4_heelOf 18 = .ok (.imul, 1) := by decide +kernel
theorem dX4_heelOf_19 : decode cX4_heelOf 19 = .ok (.iconst 2, 1) := by decide +kernel
theorem dX4_heelOf_20 : decode cX4_heelOf 20 = .ok (.iadd, 1) := by decide +kernel
theorem dX4_heelOf_21 : decode cX4_heelOf 21 = .ok (.laload, 1) := by decide +kernel
theorem dX4_heelOf_22 : decode cX4_heelOf 22 = .ok (.lsub, 1) := by decide +kernel
theorem dX4_heelOf_23 : decode cX4_heelOf 23 = .ok (.lreturn, 1) := by decide +kernel
set_option maxRecDepth 20000 in
theorem ggX4_trim_X4_isSurvey : GoodIn wsX4_trim wsX4_isSurvey := goodIn_r _ [5, 6, 7, 8, 4, 9] (by decide +kernel) (by decide +kernel)
set_option maxRecDepth 20000 in
theorem gX4_trim_X4_isSurvey : GoodIn wsX4_trim (va_wsS RX4 121 yX4_isSurvey wsX4_isSurvey) := goodIn_app (goodIn_of _ (by decide +kernel)) ggX4_trim_X4_isSurvey
set_option maxRecDepth 20000 in
theorem ggX4_trim_X4_trimOf : GoodIn wsX4_trim wsX4_trimOf := goodIn_r _ [13, 14, 15, 16, 4, 17, 18, 19, 20, 21, 22, 23, 24, 25, 26, 27, 28, 29, 30, 31, 32, 33, 34, 35] (by decide +kernel) (by decide +kernel)
set_option maxRecDepth 20000 in
theorem gX4_trim_X4_trimOf : GoodIn wsX4_trim (wsV RX4 143 RX4 yX4_trimOf wsX4_trimOf) := goodIn_app (goodIn_of _ (by decide +kernel)) ggX4_trim_X4_trimOf
theorem dX4_trim_0 : decode cX4_trim 0 = .ok (.iload_n 1, 1) := by decide +kernel
theorem dX4_trim_1 : decode cX4_trim 1 = .ok (.invokestatic 121, 3) := by decide +kernel
theorem dX4_trim_4 : decode cX4_trim 4 = .ok (.ifCond .eq 12, 3) := by decide +kernel
theorem dX4_trim_7 : decode cX4_trim 7 = .ok (.aload_n 0, 1) := by decide +kernel
theorem dX4_trim_8 : decode cX4_trim 8 = .ok (.iload_n 1, 1) := by decide +kernel
theorem dX4_trim_9 : decode cX4_trim 9 = .ok (.lconst 0, 1) := by decide +kernel
theorem dX4_trim_10 : decode cX4_trim 10 = .ok (.invokevirtual 143, 3) := by decide +kernel
theorem dX4_trim_13 : decode cX4_trim 13 = .ok (.goto 6, 3) := by decide +kernel
theorem dX4_trim_16 : decode cX4_trim 16 = .ok (.ldc2_w 125, 3) := by decide +kernel
theorem dX4_trim_19 : decode cX4_trim 19 = .ok (.lreturn, 1) := by decide +kernel
set_option maxRecDepth 20000 in
theorem ggX4_deflection_X4_isSurvey : GoodIn wsX4_deflection wsX4_isSurvey := goodIn_r _ [5, 6, 7, 8, 4, 9] (by decide +kernel) (by decide +kernel)
set_option maxRecDepth 20000 in
theorem gX4_deflection_X4_isSurvey : GoodIn wsX4_deflection (va_wsS RX4 121 yX4_isSurvey wsX4_isSurvey) := goodIn_app (goodIn_of _ (by decide +kernel)) ggX4_deflection_X4_isSurvey
set_option maxRecDepth 20000 in
theorem ggX4_deflection_X4_deflectionOf : GoodIn wsX4_deflection wsX4_deflectionOf := goodIn_r _ [13, 14, 15, 16, 17, 4, 18, 19, 20, 21, 22, 23, 24, 25, 26, 27, 28, 29, 30, 31, 32, 33, 34, 35] (by decide +kernel) (by decide +kernel)
set_option maxRecDepth 20000 in
theorem gX4_deflection_X4_deflectionOf : GoodIn wsX4_deflection (wsV RX4 146 RX4 yX4_deflectionOf wsX4_deflectionOf) := goodIn_app (goodIn_of _ (by decide +kernel)) ggX4_deflection_X4_deflectionOf
theorem dX4_deflection_0 : decode cX4_deflection 0 = .ok (.iload_n 1, 1) := by decide +kernel
theorem dX4_deflection_1 : decode cX4_deflection 1 = .ok (.invokestatic 121, 3) := by decide +kernel
theorem dX4_deflection_4 : decode cX4_deflection 4 = .ok (.ifCond .eq 11, 3) := by decide +kernel
theorem dX4_deflection_7 : decode cX4_deflection 7 = .ok (.aload_n 0, 1) := by decide +kernel
theorem dX4_deflection_8 : decode cX4_deflection 8 = .ok (.iload_n 1, 1) := by decide +kernel
theorem dX4_deflection_9 : decode cX4_deflection 9 = .ok (.invokevirtual 146, 3) := by decide +kernel
theorem dX4_deflection_12 : decode cX4_deflection 12 = .ok (.goto 6, 3) := by decide +kernel
theorem dX4_deflection_15 : decode cX4_deflection 15 = .ok (.ldc2_w 125, 3) := by decide +kernel
theorem dX4_deflection_18 : decode cX4_deflection 18 = .ok (.lreturn, 1) := by decide +kernel
set_option maxRecDepth 20000 in
theorem ggX4_heel_X4_isSurvey : GoodIn wsX4_heel wsX4_isSurvey := goodIn_r _ [5, 6, 7, 8, 4, 9] (by decide +kernel) (by decide +kernel)
set_option maxRecDepth 20000 in
theorem gX4_heel_X4_isSurvey : GoodIn wsX4_heel (va_wsS RX4 121 yX4_isSurvey wsX4_isSurvey) := goodIn_app (goodIn_of _ (by decide +kernel)) ggX4_heel_X4_isSurvey
set_option maxRecDepth 20000 in
theorem ggX4_heel_X4_heelOf : GoodIn wsX4_heel wsX4_heelOf := goodIn_r _ [13, 14, 15, 16, 17, 18, 19, 20, 21, 22, 23, 24, 25, 26, 27] (by decide +kernel) (by decide +kernel)
set_option maxRecDepth 20000 in
theorem gX4_heel_X4_heelOf : GoodIn wsX4_heel (wsV RX4 149 RX4 yX4_heelOf wsX4_heelOf) := goodIn_app (goodIn_of _ (by decide +kernel)) ggX4_heel_X4_heelOf
theorem dX4_heel_0 : decode cX4_heel 0 = .ok (.iload_n 1, 1) := by decide +kernel
theorem dX4_heel_1 : decode cX4_heel 1 = .ok (.invokestatic 121, 3) := by decide +kernel
theorem dX4_heel_4 : decode cX4_heel 4 = .ok (.ifCond .eq 11, 3) := by decide +kernel
theorem dX4_heel_7 : decode cX4_heel 7 = .ok (.aload_n 0, 1) := by decide +kernel
theorem dX4_heel_8 : decode cX4_heel 8 = .ok (.iload_n 1, 1) := by decide +kernel
theorem dX4_heel_9 : decode cX4_heel 9 = .ok (.invokevirtual 149, 3) := by decide +kernel
theorem dX4_heel_12 : decode cX4_heel 12 = .ok (.goto 6, 3) := by decide +kernel
theorem dX4_heel_15 : decode cX4_heel 15 = .ok (.ldc2_w 125, 3) := by decide +kernel
theorem dX4_heel_18 : decode cX4_heel 18 = .ok (.lreturn, 1) := by decide +kernel
set_option maxRecDepth 20000 in
theorem ggX4_quarterMean_X4_isSurvey : GoodIn wsX4_quarterMean wsX4_isSurvey := goodIn_r _ [5, 6, 7, 8, 4, 9] (by decide +kernel) (by decide +kernel)
set_option maxRecDepth 20000 in
theorem gX4_quarterMean_X4_isSurvey : GoodIn wsX4_quarterMean (va_wsS RX4 121 yX4_isSurvey wsX4_isSurvey) := goodIn_app (goodIn_of _ (by decide +kernel)) ggX4_quarterMean_X4_isSurvey
set_option maxRecDepth 20000 in
theorem ggX4_quarterMean_X4_quarter : GoodIn wsX4_quarterMean wsX4_quarter := goodIn_r _ [13, 14, 15, 16, 17, 18, 4, 19, 20, 21, 22, 23, 24, 25, 26, 27, 28, 29, 30, 31, 32, 33, 34, 35, 36, 37] (by decide +kernel) (by decide +kernel)
set_option maxRecDepth 20000 in
theorem gX4_quarterMean_X4_quarter : GoodIn wsX4_quarterMean (wsV RX4 152 RX4 yX4_quarter wsX4_quarter) := goodIn_app (goodIn_of _ (by decide +kernel)) ggX4_quarterMean_X4_quarter
end
section
theorem dX4_quarterMean_0 : decode cX4_quarterMean 0 = .ok (.iload_n 1, 1) := by decide +kernel
theorem dX4_quarterMean_1 : decode cX4_quarterMean 1 = .ok (.invokestatic 121, 3) := by decide +kernel
theorem dX4_quarterMean_4 : decode cX4_quarterMean 4 = .ok (.ifCond .eq 12, 3) := by decide +kernel
theorem dX4_quarterMean_7 : decode cX4_quarterMean 7 = .ok (.aload_n 0, 1) := by decide +kernel
theorem dX4_quarterMean_8 : decode cX4_quarterMean 8 = .ok (.iload_n 1, 1) := by decide +kernel
theorem dX4_quarterMean_9 : decode cX4_quarterMean 9 = .ok (.lconst 0, 1) := by decide +kernel
theorem dX4_quarterMean_10 : decode cX4_quarterMean 10 = .ok (.invokevirtual 152, 3) := by decide +kernel
theorem dX4_quarterMean_13 : decode cX4_quarterMean 13 = .ok (.goto 6, 3) := by decide +kernel
theorem dX4_quarterMean_16 : decode cX4_quarterMean 16 = .ok (.ldc2_w 125, 3) := by decide +kernel
theorem dX4_quarterMean_19 : decode cX4_quarterMean 19 = .ok (.lreturn, 1) := by decide +kernel
set_option maxRecDepth 20000 in
theorem ggX4_isComputable_X4_quarter : GoodIn wsX4_isComputable wsX4_quarter := goodIn_r _ [5, 6, 7, 8, 9, 10, 4, 11, 12, 13, 14, 15, 16, 30, 31, 32, 33, 34, 35, 36, 37, 38, 39, 40, 41, 42] (by decide +kernel) (by decide +kernel)
set_option maxRecDepth 20000 in
theorem gX4_isComputable_X4_quarter : GoodIn wsX4_isComputable (wsV RX4 152 RX4 yX4_quarter wsX4_quarter) := goodIn_app (goodIn_of _ (by decide +kernel)) ggX4_isComputable_X4_quarter
set_option maxRecDepth 20000 in
theorem ggX4_isComputable_X4_isCovered : GoodIn wsX4_isComputable wsX4_isCovered := goodIn_r _ [20, 21, 22, 23, 24, 4, 25, 26, 27, 28, 29, 30, 31, 32, 33, 34, 35, 36, 37, 38, 39, 40, 41, 42] (by decide +kernel) (by decide +kernel)
set_option maxRecDepth 20000 in
theorem gX4_isComputable_X4_isCovered : GoodIn wsX4_isComputable (wsV RX4 102 RX4 yX4_isCovered wsX4_isCovered) := goodIn_app (goodIn_of _ (by decide +kernel)) ggX4_isComputable_X4_isCovered
theorem dX4_isComputable_0 : decode cX4_isComputable 0 = .ok (.aload_n 0, 1) := by decide +kernel
theorem dX4_isComputable_1 : decode cX4_isComputable 1 = .ok (.aload_n 0, 1) := by decide +kernel
theorem dX4_isComputable_2 : decode cX4_isComputable 2 = .ok (.iload_n 1, 1) := by decide +kernel
theorem dX4_isComputable_3 : decode cX4_isComputable 3 = .ok (.lload_n 2, 1) := by decide +kernel
theorem dX4_isComputable_4 : decode cX4_isComputable 4 = .ok (.invokevirtual 152, 3) := by decide +kernel
theorem dX4_isComputable_7 : decode cX4_isComputable 7 = .ok (.invokevirtual 102, 3) := by decide +kernel
theorem dX4_isComputable_10 : decode cX4_isComputable 10 = .ok (.ireturn, 1) := by decide +kernel
set_option maxRecDepth 20000 in
theorem ggX4_first_X4_quarter : GoodIn wsX4_first wsX4_quarter := goodIn_r _ [7, 8, 9, 10, 11, 12, 6, 13, 14, 15, 16, 17, 18, 33, 34, 35, 36, 37, 38, 39, 40, 41, 42, 43, 44, 45] (by decide +kernel) (by decide +kernel)
set_option maxRecDepth 20000 in
theorem gX4_first_X4_quarter : GoodIn wsX4_first (wsV RX4 152 RX4 yX4_quarter wsX4_quarter) := goodIn_app (goodIn_of _ (by decide +kernel)) ggX4_first_X4_quarter
set_option maxRecDepth 20000 in
theorem ggX4_first_X4_trimOf : GoodIn wsX4_first wsX4_trimOf := goodIn_r _ [22, 10, 11, 12, 6, 13, 14, 15, 16, 17, 18, 33, 34, 35, 36, 37, 38, 39, 40, 41, 42, 43, 44, 45] (by decide +kernel) (by decide +kernel)
set_option maxRecDepth 20000 in
theorem gX4_first_X4_trimOf : GoodIn wsX4_first (wsV RX4 143 RX4 yX4_trimOf wsX4_trimOf) := goodIn_app (goodIn_of _ (by decide +kernel)) ggX4_first_X4_trimOf
set_option maxRecDepth 20000 in
theorem ggX4_first_X4_at : GoodIn wsX4_first wsX4_at := goodIn_r _ [26, 27, 28, 29, 30, 6, 31, 32, 16, 17, 18, 33, 34, 35, 36, 37, 38, 39, 40, 41, 42, 43, 44, 45] (by decide +kernel) (by decide +kernel)
set_option maxRecDepth 20000 in
theorem gX4_first_X4_at : GoodIn wsX4_first (wsV RX4 106 RX4 yX4_at wsX4_at) := goodIn_app (goodIn_of _ (by decide +kernel)) ggX4_first_X4_at
set_option maxRecDepth 20000 in
theorem ggX4_first_X4_quotient : GoodIn wsX4_first wsX4_quotient := goodIn_r _ [18] (by decide +kernel) (by decide +kernel)
set_option maxRecDepth 20000 in
theorem gX4_first_X4_quotient : GoodIn wsX4_first (va_wsS RX4 96 yX4_quotient wsX4_quotient) := goodIn_app (goodIn_of _ (by decide +kernel)) ggX4_first_X4_quotient
theorem dX4_first_0 : decode cX4_first 0 = .ok (.aload_n 0, 1) := by decide +kernel
theorem dX4_first_1 : decode cX4_first 1 = .ok (.iload_n 1, 1) := by decide +kernel
theorem dX4_first_2 : decode cX4_first 2 = .ok (.lload_n 2, 1) := by decide +kernel
theorem dX4_first_3 : decode cX4_first 3 = .ok (.invokevirtual 152, 3) := by decide +kernel
theorem dX4_first_6 : decode cX4_first 6 = .ok (.lstore 4, 2) := by decide +kernel
theorem dX4_first_8 : decode cX4_first 8 = .ok (.aload_n 0, 1) := by decide +kernel
theorem dX4_first_9 : decode cX4_first 9 = .ok (.iload_n 1, 1) := by decide +kernel
theorem dX4_first_10 : decode cX4_first 10 = .ok (.lload_n 2, 1) := by decide +kernel
theorem dX4_first_11 : decode cX4_first 11 = .ok (.invokevirtual 143, 3) := by decide +kernel
theorem dX4_first_14 : decode cX4_first 14 = .ok (.aload_n 0, 1) := by decide +kernel
theorem dX4_first_15 : decode cX4_first 15 = .ok (.iconst 1, 1) := by decide +kernel
theorem dX4_first_16 : decode cX4_first 16 = .ok (.lload 4, 2) := by decide +kernel
theorem dX4_first_18 : decode cX4_first 18 = .ok (.invokevirtual 106, 3) := by decide +kernel
theorem dX4_first_21 : decode cX4_first 21 = .ok (.lmul, 1) := by decide +kernel
theorem dX4_first_22 : decode cX4_first 22 = .ok (.aload_n 0, 1) := by decide +kernel
theorem dX4_first_23 : decode cX4_first 23 = .ok (.iconst 2, 1) := by decide +kernel
theorem dX4_first_24 : decode cX4_first 24 = .ok (.lload 4, 2) := by decide +kernel
theorem dX4_first_26 : decode cX4_first 26 = .ok (.invokevirtual 106, 3) := by decide +kernel
theorem dX4_first_29 : decode cX4_first 29 = .ok (.lmul, 1) := by decide +kernel
theorem dX4_first_30 : decode cX4_first 30 = .ok (.ldc2_w 116, 3) := by decide +kernel
theorem dX4_first_33 : decode cX4_first 33 = .ok (.aload_n 0, 1) := by decide +kernel
theorem dX4_first_34 : decode cX4_first 34 = .ok (.getfield 28, 3) := by decide +kernel
theorem dX4_first_37 : decode cX4_first 37 = .ok (.lmul, 1) := by decide +kernel
theorem dX4_first_38 : decode cX4_first 38 = .ok (.invokestatic 96, 3) := by decide +kernel
theorem dX4_first_41 : decode cX4_first 41 = .ok (.lreturn, 1) := by decide +kernel
set_option maxRecDepth 20000 in
theorem ggX4_second_X4_quarter : GoodIn wsX4_second wsX4_quarter := goodIn_r _ [10, 11, 12, 13, 14, 15, 9, 16, 17, 18, 19, 20, 21, 35, 36, 37, 38, 39, 40, 41, 42, 43, 44, 45, 46, 47] (by decide +kernel) (by decide +kernel)
set_option maxRecDepth 20000 in
theorem gX4_second_X4_quarter : GoodIn wsX4_second (wsV RX4 152 RX4 yX4_quarter wsX4_quarter) := goodIn_app (goodIn_of _ (by decide +kernel)) ggX4_second_X4_quarter
set_option maxRecDepth 20000 in
theorem ggX4_second_X4_cell : GoodIn wsX4_second wsX4_cell := goodIn_r _ [25, 26, 35, 36, 37, 38, 39, 40, 41, 42, 43, 44, 45, 46, 47] (by decide +kernel) (by decide +kernel)
set_option maxRecDepth 20000 in
theorem gX4_second_X4_cell : GoodIn wsX4_second (wsV RX4 88 RX4 yX4_cell wsX4_cell) := goodIn_app (goodIn_of _ (by decide +kernel)) ggX4_second_X4_cell
set_option maxRecDepth 20000 in
theorem ggX4_second_X4_trimOf : GoodIn wsX4_second wsX4_trimOf := goodIn_r _ [30, 13, 14, 15, 9, 16, 17, 18, 19, 20, 21, 35, 36, 37, 38, 39, 40, 41, 42, 43, 44, 45, 46, 47] (by decide +kernel) (by decide +kernel)
set_option maxRecDepth 20000 in
theorem gX4_second_X4_trimOf : GoodIn wsX4_second (wsV RX4 143 RX4 yX4_trimOf wsX4_trimOf) := goodIn_app (goodIn_of _ (by decide +kernel)) ggX4_second_X4_trimOf
set_option maxRecDepth 20000 in
theorem ggX4_second_X4_at : GoodIn wsX4_second wsX4_at := goodIn_r _ [34, 2, 22, 23, 24, 9, 25, 26, 19, 20, 21, 35, 36, 37, 38, 39, 40, 41, 42, 43, 44, 45, 46, 47] (by decide +kernel) (by decide +kernel)
set_option maxRecDepth 20000 in
theorem gX4_second_X4_at : GoodIn wsX4_second (wsV RX4 106 RX4 yX4_at wsX4_at) := goodIn_app (goodIn_of _ (by decide +kernel)) ggX4_second_X4_at
set_option maxRecDepth 20000 in
theorem ggX4_second_X4_quotient : GoodIn wsX4_second wsX4_quotient := goodIn_r _ [21] (by decide +kernel) (by decide +kernel)
set_option maxRecDepth 20000 in
theorem gX4_second_X4_quotient : GoodIn wsX4_second (va_wsS RX4 96 yX4_quotient wsX4_quotient) := goodIn_app (goodIn_of _ (by decide +kernel)) ggX4_second_X4_quotient
theorem dX4_second_0 : decode cX4_second 0 = .ok (.aload_n 0, 1) := by decide +kernel
theorem dX4_second_1 : decode cX4_second 1 = .ok (.iload_n 1, 1) := by decide +kernel
theorem dX4_second_2 : decode cX4_second 2 = .ok (.lload_n 2, 1) := by decide +kernel
theorem dX4_second_3 : decode cX4_second 3 = .ok (.invokevirtual 152, 3) := by decide +kernel
theorem dX4_second_6 : decode cX4_second 6 = .ok (.lstore 4, 2) := by decide +kernel
theorem dX4_second_8 : decode cX4_second 8 = .ok (.lload 4, 2) := by decide +kernel
theorem dX4_second_10 : decode cX4_second 10 = .ok (.ldc2_w 155, 3) := by decide +kernel
theorem dX4_second_13 : decode cX4_second 13 = .ok (.lsub, 1) := by decide +kernel
theorem dX4_second_14 : decode cX4_second 14 = .ok (.aload_n 0, 1) := by decide +kernel
theorem dX4_second_15 : decode cX4_second 15 = .ok (.iconst 0, 1) := by decide +kernel
theorem dX4_second_16 : decode cX4_second 16 = .ok (.iconst 0, 1) := by decide +kernel
theorem dX4_second_17 : decode cX4_second 17 = .ok (.invokevirtual 88, 3) := by decide +kernel
theorem dX4_second_20 : decode cX4_second 20 = .ok (.lcmp, 1) := by decide +kernel
theorem dX4_second_21 : decode cX4_second 21 = .ok (.ifCond .ge 12, 3) := by decide +kernel
theorem dX4_second_24 : decode cX4_second 24 = .ok (.aload_n 0, 1) := by decide +kernel
theorem dX4_second_25 : decode cX4_second 25 = .ok (.iconst 0, 1) := by decide +kernel
theorem dX4_second_26 : decode cX4_second 26 = .ok (.iconst 0, 1) := by decide +kernel
theorem dX4_second_27 : decode cX4_second 27 = .ok (.invokevirtual 88, 3) := by decide +kernel
theorem dX4_second_30 : decode cX4_second 30 = .ok (.goto 9, 3) := by decide +kernel
theorem dX4_second_33 : decode cX4_second 33 = .ok (.lload 4, 2) := by decide +kernel
theorem dX4_second_35 : decode cX4_second 35 = .ok (.ldc2_w 155, 3) := by decide +kernel
theorem dX4_second_38 : decode cX4_second 38 = .ok (.lsub, 1) := by decide +kernel
theorem dX4_second_39 : decode cX4_second 39 = .ok (.lstore 6, 2) := by decide +kernel
theorem dX4_second_41 : decode cX4_second 41 = .ok (.lload 4, 2) := by decide +kernel
theorem dX4_second_43 : decode cX4_second 43 = .ok (.ldc2_w 155, 3) := by decide +kernel
theorem dX4_second_46 : decode cX4_second 46 = .ok (.ladd, 1) := by decide +kernel
theorem dX4_second_47 : decode cX4_second 47 = .ok (.aload_n 0, 1) := by decide +kernel
theorem dX4_second_48 : decode cX4_second 48 = .ok (.aload_n 0, 1) := by decide +kernel
theorem dX4_second_49 : decode cX4_second 49 = .ok (.getfield 85, 3) := by decide +kernel
theorem dX4_second_52 : decode cX4_second 52 = .ok (.iconst 1, 1) := by decide +kernel
theorem dX4_second_53 : decode cX4_second 53 = .ok (.isub, 1) := by decide +kernel
theorem dX4_second_54 : decode cX4_second 54 = .ok (.iconst 0, 1) := by decide +kernel
theorem dX4_second_55 : decode cX4_second 55 = .ok (.invokevirtual 88, 3) := by decide +kernel
theorem dX4_second_58 : decode cX4_second 58 = .ok (.lcmp, 1) := by decide +kernel
theorem dX4_second_59 : decode cX4_second 59 = .ok (.ifCond .le 17, 3) := by decide +kernel
theorem dX4_second_62 : decode cX4_second 62 = .ok (.aload_n 0, 1) := by decide +kernel
theorem dX4_second_63 : decode cX4_second 63 = .ok (.aload_n 0, 1) := by decide +kernel
theorem dX4_second_64 : decode cX4_second 64 = .ok (.getfield 85, 3) := by decide +kernel
theorem dX4_second_67 : decode cX4_second 67 = .ok (.iconst 1, 1) := by decide +kernel
theorem dX4_second_68 : decode cX4_second 68 = .ok (.isub, 1) := by decide +kernel
theorem dX4_second_69 : decode cX4_second 69 = .ok (.iconst 0, 1) := by decide +kernel
theorem dX4_second_70 : decode cX4_second 70 = .ok (.invokevirtual 88, 3) := by decide +kernel
theorem dX4_second_73 : decode cX4_second 73 = .ok (.goto 9, 3) := by decide +kernel
theorem dX4_second_76 : decode cX4_second 76 = .ok (.lload 4, 2) := by decide +kernel
theorem dX4_second_78 : decode cX4_second 78 = .ok (.ldc2_w 155, 3) := by decide +kernel
theorem dX4_second_81 : decode cX4_second 81 = .ok (.ladd, 1) := by decide +kernel
theorem dX4_second_82 : decode cX4_second 82 = .ok (.lstore 8, 2) := by decide +kernel
theorem dX4_second_84 : decode cX4_second 84 = .ok (.aload_n 0, 1) := by decide +kernel
theorem dX4_second_85 : decode cX4_second 85 = .ok (.iload_n 1, 1) := by decide +kernel
theorem dX4_second_86 : decode cX4_second 86 = .ok (.lload_n 2, 1) := by decide +kernel
theorem dX4_second_87 : decode cX4_second 87 = .ok (.invokevirtual 143, 3) := by decide +kernel
theorem dX4_second_90 : decode cX4_second 90 = .ok (.lstore 10, 2) := by decide +kernel
theorem dX4_second_92 : decode cX4_second 92 = .ok (.ldc2_w 157, 3) := by decide +kernel
theorem dX4_second_95 : decode cX4_second 95 = .ok (.lload 10, 2) := by decide +kernel
theorem dX4_second_97 : decode cX4_second 97 = .ok (.lmul, 1) := by decide +kernel
theorem dX4_second_98 : decode cX4_second 98 = .ok (.lload 10, 2) := by decide +kernel
theorem dX4_second_100 : decode cX4_second 100 = .ok (.lmul, 1) := by decide +kernel
theorem dX4_second_101 : decode cX4_second 101 = .ok (.aload_n 0, 1) := by decide +kernel
theorem dX4_second_102 : decode cX4_second 102 = .ok (.iconst 3, 1) := by decide +kernel
theorem dX4_second_103 : decode cX4_second 103 = .ok (.lload 8, 2) := by decide +kernel
theorem dX4_second_105 : decode cX4_second 105 = .ok (.invokevirtual 106, 3) := by decide +kernel
theorem dX4_second_108 : decode cX4_second 108 = .ok (.aload_n 0, 1) := by decide +kernel
theorem dX4_second_109 : decode cX4_second 109 = .ok (.iconst 3, 1) := by decide +kernel
theorem dX4_second_110 : decode cX4_second 110 = .ok (.lload 6, 2) := by decide +kernel
theorem dX4_second_112 : decode cX4_second 112 = .ok (.invokevirtual 106, 3) := by decide +kernel
theorem dX4_second_115 : decode cX4_second 115 = .ok (.lsub, 1) := by decide +kernel
theorem dX4_second_116 : decode cX4_second 116 = .ok (.lmul, 1) := by decide +kernel
theorem dX4_second_117 : decode cX4_second 117 = .ok (.ldc2_w 159, 3) := by decide +kernel
theorem dX4_second_120 : decode cX4_second 120 = .ok (.aload_n 0, 1) := by decide +kernel
theorem dX4_second_121 : decode cX4_second 121 = .ok (.getfield 28, 3) := by decide +kernel
theorem dX4_second_124 : decode cX4_second 124 = .ok (.lmul, 1) := by decide +kernel
theorem dX4_second_125 : decode cX4_second 125 = .ok (.invokestatic 96, 3) := by decide +kernel
theorem dX4_second_128 : decode cX4_second 128 = .ok (.lreturn, 1) := by decide +kernel
set_option maxRecDepth 20000 in
theorem ggX4_displaced_X4_quarter : GoodIn wsX4_displaced wsX4_quarter := goodIn_r _ [7, 8, 9, 10, 11, 12, 6, 13, 14, 15, 16, 17, 18, 46, 47, 48, 49, 50, 51, 52, 53, 54, 55, 56, 57, 58] (by decide +kernel) (by decide +kernel)
set_option maxRecDepth 20000 in
theorem gX4_displaced_X4_quarter : GoodIn wsX4_displaced (wsV RX4 152 RX4 yX4_quarter wsX4_quarter) := goodIn_app (goodIn_of _ (by decide +kernel)) ggX4_displaced_X4_quarter
set_option maxRecDepth 20000 in
theorem ggX4_displaced_X4_at : GoodIn wsX4_displaced wsX4_at := goodIn_r _ [22, 23, 24, 25, 26, 6, 27, 28, 16, 17, 18, 46, 47, 48, 49, 50, 51, 52, 53, 54, 55, 56, 57, 58] (by decide +kernel) (by decide +kernel)
set_option maxRecDepth 20000 in
theorem gX4_displaced_X4_at : GoodIn wsX4_displaced (wsV RX4 106 RX4 yX4_at wsX4_at) := goodIn_app (goodIn_of _ (by decide +kernel)) ggX4_displaced_X4_at
set_option maxRecDepth 20000 in
theorem ggX4_displaced_X4_first : GoodIn wsX4_displaced wsX4_first := goodIn_r _ [32, 33, 34, 3, 4, 5, 6, 7, 8, 9, 10, 11, 12, 13, 14, 15, 16, 17, 18, 35, 36, 37, 38, 19, 20, 21, 22, 23, 24, 25, 26, 27, 28, 46, 47, 48, 49, 50, 51, 52, 53, 54, 55, 56, 57, 58] (by decide +kernel) (by decide +kernel)
set_option maxRecDepth 20000 in
theorem gX4_displaced_X4_first : GoodIn wsX4_displaced (wsV RX4 161 RX4 yX4_first wsX4_first) := goodIn_app (goodIn_of _ (by decide +kernel)) ggX4_displaced_X4_first
set_option maxRecDepth 20000 in
theorem ggX4_displaced_X4_second : GoodIn wsX4_displaced wsX4_second := goodIn_r _ [42, 43, 23, 44, 45, 34, 3, 4, 5, 6, 7, 8, 9, 10, 11, 12, 13, 14, 15, 16, 17, 18, 24, 25, 26, 27, 28, 35, 36, 37, 38, 19, 20, 21, 22, 46, 47, 48, 49, 50, 51, 52, 53, 54, 55, 56, 57, 58] (by decide +kernel) (by decide +kernel)
set_option maxRecDepth 20000 in
theorem gX4_displaced_X4_second : GoodIn wsX4_displaced (wsV RX4 164 RX4 yX4_second wsX4_second) := goodIn_app (goodIn_of _ (by decide +kernel)) ggX4_displaced_X4_second
set_option maxRecDepth 20000 in
theorem ggX4_displaced_X4_quotient : GoodIn wsX4_displaced wsX4_quotient := goodIn_r _ [18] (by decide +kernel) (by decide +kernel)
set_option maxRecDepth 20000 in
theorem gX4_displaced_X4_quotient : GoodIn wsX4_displaced (va_wsS RX4 96 yX4_quotient wsX4_quotient) := goodIn_app (goodIn_of _ (by decide +kernel)) ggX4_displaced_X4_quotient
theorem dX4_displaced_0 : decode cX4_displaced 0 = .ok (.aload_n 0, 1) := by decide +kernel
theorem dX4_displaced_1 : decode cX4_displaced 1 = .ok (.iconst 0, 1) := by decide +kernel
theorem dX4_displaced_2 : decode cX4_displaced 2 = .ok (.aload_n 0, 1) := by decide +kernel
theorem dX4_displaced_3 : decode cX4_displaced 3 = .ok (.iload_n 1, 1) := by decide +kernel
theorem dX4_displaced_4 : decode cX4_displaced 4 = .ok (.lload_n 2, 1) := by decide +kernel
theorem dX4_displaced_5 : decode cX4_displaced 5 = .ok (.invokevirtual 152, 3) := by decide +kernel
theorem dX4_displaced_8 : decode cX4_displaced 8 = .ok (.invokevirtual 106, 3) := by decide +kernel
theorem dX4_displaced_11 : decode cX4_displaced 11 = .ok (.aload_n 0, 1) := by decide +kernel
theorem dX4_displaced_12 : decode cX4_displaced 12 = .ok (.iload_n 1, 1) := by decide +kernel
theorem dX4_displaced_13 : decode cX4_displaced 13 = .ok (.lload_n 2, 1) := by decide +kernel
theorem dX4_displaced_14 : decode cX4_displaced 14 = .ok (.invokevirtual 161, 3) := by decide +kernel
theorem dX4_displaced_17 : decode cX4_displaced 17 = .ok (.ladd, 1) := by decide +kernel
theorem dX4_displaced_18 : decode cX4_displaced 18 = .ok (.aload_n 0, 1) := by decide +kernel
theorem dX4_displaced_19 : decode cX4_displaced 19 = .ok (.iload_n 1, 1) := by decide +kernel
theorem dX4_displaced_20 : decode cX4_displaced 20 = .ok (.lload_n 2, 1) := by decide +kernel
theorem dX4_displaced_21 : decode cX4_displaced 21 = .ok (.invokevirtual 164, 3) := by decide +kernel
theorem dX4_displaced_24 : decode cX4_displaced 24 = .ok (.ladd, 1) := by decide +kernel
theorem dX4_displaced_25 : decode cX4_displaced 25 = .ok (.lstore 4, 2) := by decide +kernel
theorem dX4_displaced_27 : decode cX4_displaced 27 = .ok (.lload 4, 2) := by decide +kernel
theorem dX4_displaced_29 : decode cX4_displaced 29 = .ok (.aload_n 0, 1) := by decide +kernel
theorem dX4_displaced_30 : decode cX4_displaced 30 = .ok (.getfield 20, 3) := by decide +kernel
theorem dX4_displaced_33 : decode cX4_displaced 33 = .ok (.iload_n 1, 1) := by decide +kernel
theorem dX4_displaced_34 : decode cX4_displaced 34 = .ok (.laload, 1) := by decide +kernel
theorem dX4_displaced_35 : decode cX4_displaced 35 = .ok (.lmul, 1) := by decide +kernel
theorem dX4_displaced_36 : decode cX4_displaced 36 = .ok (.ldc2_w 35, 3) := by decide +kernel
theorem dX4_displaced_39 : decode cX4_displaced 39 = .ok (.invokestatic 96, 3) := by decide +kernel
theorem dX4_displaced_42 : decode cX4_displaced 42 = .ok (.lreturn, 1) := by decide +kernel
set_option maxRecDepth 20000 in
theorem ggX4_net_X4_displaced : GoodIn wsX4_net wsX4_displaced := goodIn_r _ [6, 7, 8, 9, 10, 11, 5, 12, 13, 14, 15, 16, 17, 18, 19, 20, 21, 22, 23, 24, 25, 26, 27, 28, 29, 30, 31, 32, 33, 34, 35, 36, 37, 38, 39, 40, 41, 42, 43, 44, 45, 46, 47, 48, 49, 50, 51, 52, 53, 54, 55, 56, 57, 58, 59, 60, 61, 62, 63] (by decide +kernel) (by decide +kernel)
set_option maxRecDepth 20000 in
theorem gX4_net_X4_displaced : GoodIn wsX4_net (wsV RX4 167 RX4 yX4_displaced wsX4_displaced) := goodIn_app (goodIn_of _ (by decide +kernel)) ggX4_net_X4_displaced
theorem dX4_net_0 : decode cX4_net 0 = .ok (.aload_n 0, 1) := by decide +kernel
theorem dX4_net_1 : decode cX4_net 1 = .ok (.iload_n 1, 1) := by decide +kernel
theorem dX4_net_2 : decode cX4_net 2 = .ok (.lload_n 2, 1) := by decide +kernel
theorem dX4_net_3 : decode cX4_net 3 = .ok (.invokevirtual 167, 3) := by decide +kernel
theorem dX4_net_6 : decode cX4_net 6 = .ok (.lstore 4, 2) := by decide +kernel
theorem dX4_net_8 : decode cX4_net 8 = .ok (.iconst 0, 1) := by decide +kernel
theorem dX4_net_9 : decode cX4_net 9 = .ok (.istore 6, 2) := by decide +kernel
theorem dX4_net_11 : decode cX4_net 11 = .ok (.iload 6, 2) := by decide +kernel
theorem dX4_net_13 : decode cX4_net 13 = .ok (.iconst 4, 1) := by decide +kernel
theorem dX4_net_14 : decode cX4_net 14 = .ok (.if_icmp .ge 25, 3) := by decide +kernel
theorem dX4_net_17 : decode cX4_net 17 = .ok (.lload 4, 2) := by decide +kernel
theorem dX4_net_19 : decode cX4_net 19 = .ok (.aload_n 0, 1) := by decide +kernel
theorem dX4_net_20 : decode cX4_net 20 = .ok (.getfield 23, 3) := by decide +kernel
theorem dX4_net_23 : decode cX4_net 23 = .ok (.iconst 4, 1) := by decide +kernel
theorem dX4_net_24 : decode cX4_net 24 = .ok (.iload_n 1, 1) := by decide +kernel
theorem dX4_net_25 : decode cX4_net 25 = .ok (.imul, 1) := by decide +kernel
theorem dX4_net_26 : decode cX4_net 26 = .ok (.iload 6, 2) := by decide +kernel
theorem dX4_net_28 : decode cX4_net 28 = .ok (.iadd, 1) := by decide +kernel
theorem dX4_net_29 : decode cX4_net 29 = .ok (.laload, 1) := by decide +kernel
theorem dX4_net_30 : decode cX4_net 30 = .ok (.lsub, 1) := by decide +kernel
theorem dX4_net_31 : decode cX4_net 31 = .ok (.lstore 4, 2) := by decide +kernel
theorem dX4_net_33 : decode cX4_net 33 = .ok (.iinc 6 1, 3) := by decide +kernel
theorem dX4_net_36 : decode cX4_net 36 = .ok (.goto (-25), 3) := by decide +kernel
theorem dX4_net_39 : decode cX4_net 39 = .ok (.lload 4, 2) := by decide +kernel
theorem dX4_net_41 : decode cX4_net 41 = .ok (.lreturn, 1) := by decide +kernel
set_option maxRecDepth 20000 in
theorem ggX4_firstTold_X4_isComputable : GoodIn wsX4_firstTold wsX4_isComputable := goodIn_r _ [6, 7, 8, 9, 5, 10, 11, 12, 13, 14, 15, 16, 17, 18, 19, 20, 21, 22, 23, 24, 25, 26, 27, 28, 29, 30, 31, 32, 33, 34, 49, 50, 51, 52, 53, 54, 55, 56, 57, 58, 59, 60, 61] (by decide +kernel) (by decide +kernel)
set_option maxRecDepth 20000 in
theorem gX4_firstTold_X4_isComputable : GoodIn wsX4_firstTold (wsV RX4 170 RX4 yX4_isComputable wsX4_isComputable) := goodIn_app (goodIn_of _ (by decide +kernel)) ggX4_firstTold_X4_isComputable
set_option maxRecDepth 20000 in
theorem ggX4_firstTold_X4_first : GoodIn wsX4_firstTold wsX4_first := goodIn_r _ [38, 39, 40, 7, 8, 9, 5, 10, 11, 12, 13, 14, 15, 16, 17, 18, 19, 20, 21, 41, 42, 43, 44, 45, 46, 47, 48, 26, 27, 28, 29, 30, 31, 49, 50, 51, 52, 53, 54, 55, 56, 57, 58, 59, 60, 61] (by decide +kernel) (by decide +kernel)
set_option maxRecDepth 20000 in
theorem gX4_firstTold_X4_first : GoodIn wsX4_firstTold (wsV RX4 161 RX4 yX4_first wsX4_first) := goodIn_app (goodIn_of _ (by decide +kernel)) ggX4_firstTold_X4_first
theorem dX4_firstTold_0 : decode cX4_firstTold 0 = .ok (.aload_n 0, 1) := by decide +kernel
theorem dX4_firstTold_1 : decode cX4_firstTold 1 = .ok (.iload_n 1, 1) := by decide +kernel
theorem dX4_firstTold_2 : decode cX4_firstTold 2 = .ok (.lconst 0, 1) := by decide +kernel
theorem dX4_firstTold_3 : decode cX4_firstTold 3 = .ok (.invokevirtual 170, 3) := by decide +kernel
theorem dX4_firstTold_6 : decode cX4_firstTold 6 = .ok (.ifCond .eq 12, 3) := by decide +kernel
theorem dX4_firstTold_9 : decode cX4_firstTold 9 = .ok (.aload_n 0, 1) := by decide +kernel
theorem dX4_firstTold_10 : decode cX4_firstTold 10 = .ok (.iload_n 1, 1) := by decide +kernel
theorem dX4_firstTold_11 : decode cX4_firstTold 11 = .ok (.lconst 0, 1) := by decide +kernel
theorem dX4_firstTold_12 : decode cX4_firstTold 12 = .ok (.invokevirtual 161, 3) := by decide +kernel
theorem dX4_firstTold_15 : decode cX4_firstTold 15 = .ok (.goto 6, 3) := by decide +kernel
theorem dX4_firstTold_18 : decode cX4_firstTold 18 = .ok (.ldc2_w 110, 3) := by decide +kernel
theorem dX4_firstTold_21 : decode cX4_firstTold 21 = .ok (.lreturn, 1) := by decide +kernel
set_option maxRecDepth 20000 in
theorem ggX4_secondTold_X4_isComputable : GoodIn wsX4_secondTold wsX4_isComputable := goodIn_r _ [6, 7, 8, 9, 5, 10, 11, 12, 13, 14, 15, 16, 17, 18, 19, 20, 21, 22, 23, 24, 25, 26, 27, 28, 29, 30, 31, 32, 33, 34, 51, 52, 53, 54, 55, 56, 57, 58, 59, 60, 61, 62, 63] (by decide +kernel) (by decide +kernel)
set_option maxRecDepth 20000 in
theorem gX4_secondTold_X4_isComputable : GoodIn wsX4_secondTold (wsV RX4 170 RX4 yX4_isComputable wsX4_isComputable) := goodIn_app (goodIn_of _ (by decide +kernel)) ggX4_secondTold_X4_isComputable
set_option maxRecDepth 20000 in
theorem ggX4_secondTold_X4_second : GoodIn wsX4_secondTold wsX4_second := goodIn_r _ [38, 39, 26, 40, 41, 42, 7, 8, 9, 5, 10, 11, 12, 13, 14, 15, 16, 17, 18, 19, 20, 21, 27, 28, 29, 30, 31, 43, 44, 45, 46, 47, 48, 49, 50, 51, 52, 53, 54, 55, 56, 57, 58, 59, 60, 61, 62, 63] (by decide +kernel) (by decide +kernel)
set_option maxRecDepth 20000 in
theorem gX4_secondTold_X4_second : GoodIn wsX4_secondTold (wsV RX4 164 RX4 yX4_second wsX4_second) := goodIn_app (goodIn_of _ (by decide +kernel)) ggX4_secondTold_X4_second
theorem dX4_secondTold_0 : decode cX4_secondTold 0 = .ok (.aload_n 0, 1) := by decide +kernel
theorem dX4_secondTold_1 : decode cX4_secondTold 1 = .ok (.iload_n 1, 1) := by decide +kernel
theorem dX4_secondTold_2 : decode cX4_secondTold 2 = .ok (.lconst 0, 1) := by decide +kernel
theorem dX4_secondTold_3 : decode cX4_secondTold 3 = .ok (.invokevirtual 170, 3) := by decide +kernel
theorem dX4_secondTold_6 : decode cX4_secondTold 6 = .ok (.ifCond .eq 12, 3) := by decide +kernel
theorem dX4_secondTold_9 : decode cX4_secondTold 9 = .ok (.aload_n 0, 1) := by decide +kernel
theorem dX4_secondTold_10 : decode cX4_secondTold 10 = .ok (.iload_n 1, 1) := by decide +kernel
theorem dX4_secondTold_11 : decode cX4_secondTold 11 = .ok (.lconst 0, 1) := by decide +kernel
theorem dX4_secondTold_12 : decode cX4_secondTold 12 = .ok (.invokevirtual 164, 3) := by decide +kernel
theorem dX4_secondTold_15 : decode cX4_secondTold 15 = .ok (.goto 6, 3) := by decide +kernel
theorem dX4_secondTold_18 : decode cX4_secondTold 18 = .ok (.ldc2_w 110, 3) := by decide +kernel
theorem dX4_secondTold_21 : decode cX4_secondTold 21 = .ok (.lreturn, 1) := by decide +kernel
set_option maxRecDepth 20000 in
theorem ggX4_displacedTold_X4_isComputable : GoodIn wsX4_displacedTold wsX4_isComputable := goodIn_r _ [6, 7, 8, 9, 5, 10, 11, 12, 13, 14, 15, 16, 17, 18, 19, 20, 21, 22, 23, 24, 25, 26, 27, 28, 29, 30, 31, 32, 33, 34, 62, 63, 64, 65, 66, 67, 68, 69, 70, 71, 72, 73, 74] (by decide +kernel) (by decide +kernel)
set_option maxRecDepth 20000 in
theorem gX4_displacedTold_X4_isComputable : GoodIn wsX4_displacedTold (wsV RX4 170 RX4 yX4_isComputable wsX4_isComputable) := goodIn_app (goodIn_of _ (by decide +kernel)) ggX4_displacedTold_X4_isComputable
set_option maxRecDepth 20000 in
theorem ggX4_displacedTold_X4_displaced : GoodIn wsX4_displacedTold wsX4_displaced := goodIn_r _ [38, 39, 40, 7, 8, 9, 5, 10, 11, 12, 13, 14, 15, 16, 17, 18, 19, 20, 21, 41, 42, 43, 44, 26, 27, 28, 29, 30, 31, 45, 46, 47, 48, 49, 50, 51, 52, 53, 54, 55, 56, 57, 58, 59, 60, 61, 62, 63, 64, 65, 66, 67, 68, 69, 70, 71, 72, 73, 74] (by decide +kernel) (by decide +kernel)
set_option maxRecDepth 20000 in
theorem gX4_displacedTold_X4_displaced : GoodIn wsX4_displacedTold (wsV RX4 167 RX4 yX4_displaced wsX4_displaced) := goodIn_app (goodIn_of _ (by decide +kernel)) ggX4_displacedTold_X4_displaced
theorem dX4_displacedTold_0 : decode cX4_displacedTold 0 = .ok (.aload_n 0, 1) := by decide +kernel
theorem dX4_displacedTold_1 : decode cX4_displacedTold 1 = .ok (.iload_n 1, 1) := by decide +kernel
theorem dX4_displacedTold_2 : decode cX4_displacedTold 2 = .ok (.lload_n 2, 1) := by decide +kernel
theorem dX4_displacedTold_3 : decode cX4_displacedTold 3 = .ok (.invokevirtual 170, 3) := by decide +kernel
theorem dX4_displacedTold_6 : decode cX4_displacedTold 6 = .ok (.ifCond .eq 12, 3) := by decide +kernel
theorem dX4_displacedTold_9 : decode cX4_displacedTold 9 = .ok (.aload_n 0, 1) := by decide +kernel
theorem dX4_displacedTold_10 : decode cX4_displacedTold 10 = .ok (.iload_n 1, 1) := by decide +kernel
theorem dX4_displacedTold_11 : decode cX4_displacedTold 11 = .ok (.lload_n 2, 1) := by decide +kernel
theorem dX4_displacedTold_12 : decode cX4_displacedTold 12 = .ok (.invokevirtual 167, 3) := by decide +kernel
theorem dX4_displacedTold_15 : decode cX4_displacedTold 15 = .ok (.goto 6, 3) := by decide +kernel
theorem dX4_displacedTold_18 : decode cX4_displacedTold 18 = .ok (.ldc2_w 110, 3) := by decide +kernel
theorem dX4_displacedTold_21 : decode cX4_displacedTold 21 = .ok (.lreturn, 1) := by decide +kernel
set_option maxRecDepth 20000 in
theorem ggX4_netTold_X4_isComputable : GoodIn wsX4_netTold wsX4_isComputable := goodIn_r _ [6, 7, 8, 9, 5, 10, 11, 12, 13, 14, 15, 16, 17, 18, 19, 20, 21, 22, 23, 24, 25, 26, 27, 28, 29, 30, 31, 32, 33, 34, 67, 68, 69, 70, 71, 72, 73, 74, 75, 76, 77, 78, 79] (by decide +kernel) (by decide +kernel)
set_option maxRecDepth 20000 in
theorem gX4_netTold_X4_isComputable : GoodIn wsX4_netTold (wsV RX4 170 RX4 yX4_isComputable wsX4_isComputable) := goodIn_app (goodIn_of _ (by decide +kernel)) ggX4_netTold_X4_isComputable
set_option maxRecDepth 20000 in
theorem ggX4_netTold_X4_net : GoodIn wsX4_netTold wsX4_net := goodIn_r _ [38, 39, 40, 41, 42, 5, 43, 44, 45, 7, 8, 9, 10, 11, 12, 13, 14, 15, 16, 17, 18, 19, 20, 21, 46, 47, 48, 49, 26, 27, 28, 29, 30, 31, 50, 51, 52, 53, 54, 55, 56, 57, 58, 59, 60, 61, 62, 63, 64, 65, 66, 67, 68, 69, 70, 71, 72, 73, 74, 75, 76, 77, 78, 79] (by decide +kernel) (by decide +kernel)
set_option maxRecDepth 20000 in
theorem gX4_netTold_X4_net : GoodIn wsX4_netTold (wsV RX4 174 RX4 yX4_net wsX4_net) := goodIn_app (goodIn_of _ (by decide +kernel)) ggX4_netTold_X4_net
theorem dX4_netTold_0 : decode cX4_netTold 0 = .ok (.aload_n 0, 1) := by decide +kernel
theorem dX4_netTold_1 : decode cX4_netTold 1 = .ok (.iload_n 1, 1) := by decide +kernel
theorem dX4_netTold_2 : decode cX4_netTold 2 = .ok (.lconst 0, 1) := by decide +kernel
theorem dX4_netTold_3 : decode cX4_netTold 3 = .ok (.invokevirtual 170, 3) := by decide +kernel
theorem dX4_netTold_6 : decode cX4_netTold 6 = .ok (.ifCond .eq 12, 3) := by decide +kernel
theorem dX4_netTold_9 : decode cX4_netTold 9 = .ok (.aload_n 0, 1) := by decide +kernel
theorem dX4_netTold_10 : decode cX4_netTold 10 = .ok (.iload_n 1, 1) := by decide +kernel
theorem dX4_netTold_11 : decode cX4_netTold 11 = .ok (.lconst 0, 1) := by decide +kernel
theorem dX4_netTold_12 : decode cX4_netTold 12 = .ok (.invokevirtual 174, 3) := by decide +kernel
theorem dX4_netTold_15 : decode cX4_netTold 15 = .ok (.goto 6, 3) := by decide +kernel
theorem dX4_netTold_18 : decode cX4_netTold 18 = .ok (.ldc2_w 110, 3) := by decide +kernel
theorem dX4_netTold_21 : decode cX4_netTold 21 = .ok (.lreturn, 1) := by decide +kernel
set_option maxRecDepth 20000 in
theorem ggX4_firstCorrection_X4_isSurvey : GoodIn wsX4_firstCorrection wsX4_isSurvey := goodIn_r _ [5, 6, 7, 8, 4, 9] (by decide +kernel) (by decide +kernel)
set_option maxRecDepth 20000 in
theorem gX4_firstCorrection_X4_isSurvey : GoodIn wsX4_firstCorrection (va_wsS RX4 121 yX4_isSurvey wsX4_isSurvey) := goodIn_app (goodIn_of _ (by decide +kernel)) ggX4_firstCorrection_X4_isSurvey
set_option maxRecDepth 20000 in
theorem ggX4_firstCorrection_X4_firstTold : GoodIn wsX4_firstCorrection wsX4_firstTold := goodIn_r _ [13, 14, 15, 16, 17, 4, 18, 19, 20, 21, 22, 23, 24, 25, 26, 27, 28, 29, 30, 31, 32, 33, 34, 35, 36, 37, 38, 39, 40, 41, 42, 43, 7, 8, 9, 44, 45, 46, 47, 48, 49, 50, 51, 52, 53, 54, 55, 56, 57, 58, 59, 60, 61, 62, 63, 64, 65, 66, 67, 68, 69, 70] (by decide +kernel) (by decide +kernel)
set_option maxRecDepth 20000 in
theorem gX4_firstCorrection_X4_firstTold : GoodIn wsX4_firstCorrection (wsV RX4 177 RX4 yX4_firstTold wsX4_firstTold) := goodIn_app (goodIn_of _ (by decide +kernel)) ggX4_firstCorrection_X4_firstTold
theorem dX4_firstCorrection_0 : decode cX4_firstCorrection 0 = .ok (.iload_n 1, 1) := by decide +kernel
theorem dX4_firstCorrection_1 : decode cX4_firstCorrection 1 = .ok (.invokestatic 121, 3) := by decide +kernel
theorem dX4_firstCorrection_4 : decode cX4_firstCorrection 4 = .ok (.ifCond .eq 11, 3) := by decide +kernel
theorem dX4_firstCorrection_7 : decode cX4_firstCorrection 7 = .ok (.aload_n 0, 1) := by decide +kernel
theorem dX4_firstCorrection_8 : decode cX4_firstCorrection 8 = .ok (.iload_n 1, 1) := by decide +kernel
theorem dX4_firstCorrection_9 : decode cX4_firstCorrection 9 = .ok (.invokevirtual 177, 3) := by decide +kernel
theorem dX4_firstCorrection_12 : decode cX4_firstCorrection 12 = .ok (.goto 6, 3) := by decide +kernel
theorem dX4_firstCorrection_15 : decode cX4_firstCorrection 15 = .ok (.ldc2_w 125, 3) := by decide +kernel
theorem dX4_firstCorrection_18 : decode cX4_firstCorrection 18 = .ok (.lreturn, 1) := by decide +kernel
set_option maxRecDepth 20000 in
theorem ggX4_secondCorrection_X4_isSurvey : GoodIn wsX4_secondCorrection wsX4_isSurvey := goodIn_r _ [5, 6, 7, 8, 4, 9] (by decide +kernel) (by decide +kernel)
set_option maxRecDepth 20000 in
theorem gX4_secondCorrection_X4_isSurvey : GoodIn wsX4_secondCorrection (va_wsS RX4 121 yX4_isSurvey wsX4_isSurvey) := goodIn_app (goodIn_of _ (by decide +kernel)) ggX4_secondCorrection_X4_isSurvey
set_option maxRecDepth 20000 in
theorem ggX4_secondCorrection_X4_secondTold : GoodIn wsX4_secondCorrection wsX4_secondTold := goodIn_r _ [13, 14, 15, 16, 17, 4, 18, 19, 20, 21, 22, 23, 24, 25, 26, 27, 28, 29, 30, 31, 32, 33, 34, 35, 36, 37, 38, 39, 40, 41, 42, 43, 7, 8, 9, 44, 45, 46, 47, 48, 49, 50, 51, 52, 53, 54, 55, 56, 57, 58, 59, 60, 61, 62, 63, 64, 65, 66, 67, 68, 69, 70, 71, 72] (by decide +kernel) (by decide +kernel)
set_option maxRecDepth 20000 in
theorem gX4_secondCorrection_X4_secondTold : GoodIn wsX4_secondCorrection (wsV RX4 180 RX4 yX4_secondTold wsX4_secondTold) := goodIn_app (goodIn_of _ (by decide +kernel)) ggX4_secondCorrection_X4_secondTold
theorem dX4_secondCorrection_0 : decode cX4_secondCorrection 0 = .ok (.iload_n 1, 1) := by decide +kernel
theorem dX4_secondCorrection_1 : decode cX4_secondCorrection 1 = .ok (.invokestatic 121, 3) := by decide +kernel
theorem dX4_secondCorrection_4 : decode cX4_secondCorrection 4 = .ok (.ifCond .eq 11, 3) := by decide +kernel
theorem dX4_secondCorrection_7 : decode cX4_secondCorrection 7 = .ok (.aload_n 0, 1) := by decide +kernel
theorem dX4_secondCorrection_8 : decode cX4_secondCorrection 8 = .ok (.iload_n 1, 1) := by decide +kernel
theorem dX4_secondCorrection_9 : decode cX4_secondCorrection 9 = .ok (.invokevirtual 180, 3) := by decide +kernel
theorem dX4_secondCorrection_12 : decode cX4_secondCorrection 12 = .ok (.goto 6, 3) := by decide +kernel
theorem dX4_secondCorrection_15 : decode cX4_secondCorrection 15 = .ok (.ldc2_w 125, 3) := by decide +kernel
theorem dX4_secondCorrection_18 : decode cX4_secondCorrection 18 = .ok (.lreturn, 1) := by decide +kernel
set_option maxRecDepth 20000 in
theorem ggX4_displacement_X4_isSurvey : GoodIn wsX4_displacement wsX4_isSurvey := goodIn_r _ [8, 9, 10, 11, 7, 12] (by decide +kernel) (by decide +kernel)
set_option maxRecDepth 20000 in
theorem gX4_displacement_X4_isSurvey : GoodIn wsX4_displacement (va_wsS RX4 121 yX4_isSurvey wsX4_isSurvey) := goodIn_app (goodIn_of _ (by decide +kernel)) ggX4_displacement_X4_isSurvey
set_option maxRecDepth 20000 in
theorem ggX4_displacement_X4_within : GoodIn wsX4_displacement wsX4_within := goodIn_r _ [12] (by decide +kernel) (by decide +kernel)
set_option maxRecDepth 20000 in
theorem gX4_displacement_X4_within : GoodIn wsX4_displacement (va_wsS RX4 41 yX4_within wsX4_within) := goodIn_app (goodIn_of _ (by decide +kernel)) ggX4_displacement_X4_within
set_option maxRecDepth 20000 in
theorem ggX4_displacement_X4_displacedTold : GoodIn wsX4_displacement wsX4_displacedTold := goodIn_r _ [16, 17, 18, 19, 20, 7, 21, 22, 23, 24, 25, 26, 27, 28, 29, 30, 31, 32, 33, 34, 35, 36, 37, 38, 39, 40, 41, 42, 43, 44, 45, 46, 10, 11, 12, 47, 48, 49, 50, 51, 52, 53, 54, 55, 56, 57, 58, 59, 60, 61, 62, 63, 64, 65, 66, 67, 68, 69, 70, 71, 72, 3, 73, 74, 75, 76, 77, 78, 79, 80, 81, 82, 83, 84, 85] (by decide +kernel) (by decide +kernel)
set_option maxRecDepth 20000 in
theorem gX4_displacement_X4_displacedTold : GoodIn wsX4_displacement (wsV RX4 185 RX4 yX4_displacedTold wsX4_displacedTold) := goodIn_app (goodIn_of _ (by decide +kernel)) ggX4_displacement_X4_displacedTold
theorem dX4_displacement_0 : decode cX4_displacement 0 = .ok (.iload_n 1, 1) := by decide +kernel
theorem dX4_displacement_1 : decode cX4_displacement 1 = .ok (.invokestatic 121, 3) := by decide +kernel
theorem dX4_displacement_4 : decode cX4_displacement 4 = .ok (.ifCond .ne 7, 3) := by decide +kernel
theorem dX4_displacement_7 : decode cX4_displacement 7 = .ok (.ldc2_w 125, 3) := by decide +kernel
theorem dX4_displacement_10 : decode cX4_displacement 10 = .ok (.lreturn, 1) := by decide +kernel
theorem dX4_displacement_11 : decode cX4_displacement 11 = .ok (.iload_n 2, 1) := by decide +kernel
theorem dX4_displacement_12 : decode cX4_displacement 12 = .ok (.i2l, 1) := by decide +kernel
theorem dX4_displacement_13 : decode cX4_displacement 13 = .ok (.ldc2_w 183, 3) := by decide +kernel
theorem dX4_displacement_16 : decode cX4_displacement 16 = .ok (.ldc2_w 159, 3) := by decide +kernel
theorem dX4_displacement_19 : decode cX4_displacement 19 = .ok (.invokestatic 41, 3) := by decide +kernel
theorem dX4_displacement_22 : decode cX4_displacement 22 = .ok (.ifCond .eq 13, 3) := by decide +kernel
theorem dX4_displacement_25 : decode cX4_displacement 25 = .ok (.aload_n 0, 1) := by decide +kernel
theorem dX4_displacement_26 : decode cX4_displacement 26 = .ok (.iload_n 1, 1) := by decide +kernel
theorem dX4_displacement_27 : decode cX4_displacement 27 = .ok (.iload_n 2, 1) := by decide +kernel
theorem dX4_displacement_28 : decode cX4_displacement 28 = .ok (.i2l, 1) := by decide +kernel
theorem dX4_displacement_29 : decode cX4_displacement 29 = .ok (.invokevirtual 185, 3) := by decide +kernel
theorem dX4_displacement_32 : decode cX4_displacement 32 = .ok (.goto 6, 3) := by decide +kernel
theorem dX4_displacement_35 : decode cX4_displacement 35 = .ok (.ldc2_w 45, 3) := by decide +kernel
theorem dX4_displacement_38 : decode cX4_displacement 38 = .ok (.lreturn, 1) := by decide +kernel
set_option maxRecDepth 20000 in
theorem ggX4_netWeight_X4_isSurvey : GoodIn wsX4_netWeight wsX4_isSurvey := goodIn_r _ [5, 6, 7, 8, 4, 9] (by decide +kernel) (by decide +kernel)
set_option maxRecDepth 20000 in
theorem gX4_netWeight_X4_isSurvey : GoodIn wsX4_netWeight (va_wsS RX4 121 yX4_isSurvey wsX4_isSurvey) := goodIn_app (goodIn_of _ (by decide +kernel)) ggX4_netWeight_X4_isSurvey
set_option maxRecDepth 20000 in
theorem ggX4_netWeight_X4_netTold : GoodIn wsX4_netWeight wsX4_netTold := goodIn_r _ [13, 14, 15, 16, 17, 4, 18, 19, 20, 21, 22, 23, 24, 25, 26, 27, 28, 29, 30, 31, 32, 33, 34, 35, 36, 37, 38, 39, 40, 41, 42, 43, 7, 8, 9, 44, 45, 46, 47, 48, 49, 50, 51, 52, 53, 54, 55, 56, 57, 58, 59, 60, 61, 62, 63, 64, 65, 66, 67, 68, 69, 70, 71, 72, 73, 74, 75, 76, 77, 78, 79, 80, 81, 82, 83, 84, 85, 86, 87, 88] (by decide +kernel) (by decide +kernel)
set_option maxRecDepth 20000 in
theorem gX4_netWeight_X4_netTold : GoodIn wsX4_netWeight (wsV RX4 188 RX4 yX4_netTold wsX4_netTold) := goodIn_app (goodIn_of _ (by decide +kernel)) ggX4_netWeight_X4_netTold
theorem dX4_netWeight_0 : decode cX4_netWeight 0 = .ok (.iload_n 1, 1) := by decide +kernel
theorem dX4_netWeight_1 : decode cX4_netWeight 1 = .ok (.invokestatic 121, 3) := by decide +kernel
theorem dX4_netWeight_4 : decode cX4_netWeight 4 = .ok (.ifCond .eq 11, 3) := by decide +kernel
theorem dX4_netWeight_7 : decode cX4_netWeight 7 = .ok (.aload_n 0, 1) := by decide +kernel
theorem dX4_netWeight_8 : decode cX4_netWeight 8 = .ok (.iload_n 1, 1) := by decide +kernel
theorem dX4_netWeight_9 : decode cX4_netWeight 9 = .ok (.invokevirtual 188, 3) := by decide +kernel
theorem dX4_netWeight_12 : decode cX4_netWeight 12 = .ok (.goto 6, 3) := by decide +kernel
theorem dX4_netWeight_15 : decode cX4_netWeight 15 = .ok (.ldc2_w 125, 3) := by decide +kernel
theorem dX4_netWeight_18 : decode cX4_netWeight 18 = .ok (.lreturn, 1) := by decide +kernel
set_option maxRecDepth 20000 in
theorem ggX4_cargoTold_X4_isComputable : GoodIn wsX4_cargoTold wsX4_isComputable := goodIn_r _ [6, 7, 8, 9, 5, 10, 11, 12, 13, 14, 15, 16, 17, 18, 19, 20, 21, 22, 23, 24, 25, 26, 27, 28, 29, 30, 31, 32, 33, 34, 67, 68, 69, 70, 71, 72, 73, 74, 75, 76, 77, 78, 79] (by decide +kernel) (by decide +kernel)
set_option maxRecDepth 20000 in
theorem gX4_cargoTold_X4_isComputable : GoodIn wsX4_cargoTold (wsV RX4 170 RX4 yX4_isComputable wsX4_isComputable) := goodIn_app (goodIn_of _ (by decide +kernel)) ggX4_cargoTold_X4_isComputable
set_option maxRecDepth 20000 in
theorem ggX4_cargoTold_X4_net : GoodIn wsX4_cargoTold wsX4_net := goodIn_r _ [38, 39, 40, 41, 42, 5, 43, 44, 45, 7, 8, 9, 10, 11, 12, 13, 14, 15, 16, 17, 18, 19, 20, 21, 46, 47, 48, 49, 26, 27, 28, 29, 30, 31, 50, 51, 52, 53, 54, 55, 56, 57, 58, 59, 60, 61, 62, 63, 64, 65, 66, 67, 68, 69, 70, 71, 72, 73, 74, 75, 76, 77, 78, 79] (by decide +kernel) (by decide +kernel)
set_option maxRecDepth 20000 in
theorem gX4_cargoTold_X4_net : GoodIn wsX4_cargoTold (wsV RX4 174 RX4 yX4_net wsX4_net) := goodIn_app (goodIn_of _ (by decide +kernel)) ggX4_cargoTold_X4_net
theorem dX4_cargoTold_0 : decode cX4_cargoTold 0 = .ok (.aload_n 0, 1) := by decide +kernel
theorem dX4_cargoTold_1 : decode cX4_cargoTold 1 = .ok (.iload_n 1, 1) := by decide +kernel
theorem dX4_cargoTold_2 : decode cX4_cargoTold 2 = .ok (.lconst 0, 1) := by decide +kernel
theorem dX4_cargoTold_3 : decode cX4_cargoTold 3 = .ok (.invokevirtual 170, 3) := by decide +kernel
theorem dX4_cargoTold_6 : decode cX4_cargoTold 6 = .ok (.ifCond .eq 28, 3) := by decide +kernel
theorem dX4_cargoTold_9 : decode cX4_cargoTold 9 = .ok (.aload_n 0, 1) := by decide +kernel
theorem dX4_cargoTold_10 : decode cX4_cargoTold 10 = .ok (.iload_n 2, 1) := by decide +kernel
theorem dX4_cargoTold_11 : decode cX4_cargoTold 11 = .ok (.lconst 0, 1) := by decide +kernel
theorem dX4_cargoTold_12 : decode cX4_cargoTold 12 = .ok (.invokevirtual 170, 3) := by decide +kernel
theorem dX4_cargoTold_15 : decode cX4_cargoTold 15 = .ok (.ifCond .eq 19, 3) := by decide +kernel
theorem dX4_cargoTold_18 : decode cX4_cargoTold 18 = .ok (.aload_n 0, 1) := by decide +kernel
theorem dX4_cargoTold_19 : decode cX4_cargoTold 19 = .ok (.iload_n 2, 1) := by decide +kernel
theorem dX4_cargoTold_20 : decode cX4_cargoTold 20 = .ok (.lconst 0, 1) := by decide +kernel
theorem dX4_cargoTold_21 : decode cX4_cargoTold 21 = .ok (.invokevirtual 174, 3) := by decide +kernel
theorem dX4_cargoTold_24 : decode cX4_cargoTold 24 = .ok (.aload_n 0, 1) := by decide +kernel
theorem dX4_cargoTold_25 : decode cX4_cargoTold 25 = .ok (.iload_n 1, 1) := by decide +kernel
theorem dX4_cargoTold_26 : decode cX4_cargoTold 26 = .ok (.lconst 0, 1) := by decide +kernel
theorem dX4_cargoTold_27 : decode cX4_cargoTold 27 = .ok (.invokevirtual 174, 3) := by decide +kernel
theorem dX4_cargoTold_30 : decode cX4_cargoTold 30 = .ok (.lsub, 1) := by decide +kernel
theorem dX4_cargoTold_31 : decode cX4_cargoTold 31 = .ok (.goto 6, 3) := by decide +kernel
theorem dX4_cargoTold_34 : decode cX4_cargoTold 34 = .ok (.ldc2_w 110, 3) := by decide +kernel
theorem dX4_cargoTold_37 : decode cX4_cargoTold 37 = .ok (.lreturn, 1) := by decide +kernel
set_option maxRecDepth 20000 in
theorem ggX4_cargo_X4_isSurvey : GoodIn wsX4_cargo wsX4_isSurvey := goodIn_r _ [5, 6, 7, 8, 4, 9] (by decide +kernel) (by decide +kernel)
set_option maxRecDepth 20000 in
theorem gX4_cargo_X4_isSurvey : GoodIn wsX4_cargo (va_wsS RX4 121 yX4_isSurvey wsX4_isSurvey) := goodIn_app (goodIn_of _ (by decide +kernel)) ggX4_cargo_X4_isSurvey
set_option maxRecDepth 20000 in
theorem ggX4_cargo_X4_cargoTold : GoodIn wsX4_cargo wsX4_cargoTold := goodIn_r _ [13, 14, 15, 16, 17, 4, 18, 19, 20, 21, 22, 23, 24, 25, 26, 27, 28, 29, 30, 31, 32, 33, 34, 35, 36, 37, 38, 39, 40, 41, 42, 43, 7, 8, 9, 44, 45, 46, 47, 48, 49, 50, 51, 52, 53, 54, 55, 56, 57, 58, 59, 60, 61, 62, 63, 64, 65, 66, 67, 68, 69, 70, 71, 72, 73, 74, 75, 76, 77, 78, 79, 80, 81, 82, 83, 84, 85, 86, 87, 88] (by decide +kernel) (by decide +kernel)
set_option maxRecDepth 20000 in
theorem gX4_cargo_X4_cargoTold : GoodIn wsX4_cargo (wsV RX4 191 RX4 yX4_cargoTold wsX4_cargoTold) := goodIn_app (goodIn_of _ (by decide +kernel)) ggX4_cargo_X4_cargoTold
theorem dX4_cargo_0 : decode cX4_cargo 0 = .ok (.iload_n 1, 1) := by decide +kernel
theorem dX4_cargo_1 : decode cX4_cargo 1 = .ok (.invokestatic 121, 3) := by decide +kernel
theorem dX4_cargo_4 : decode cX4_cargo 4 = .ok (.ifCond .eq 19, 3) := by decide +kernel
theorem dX4_cargo_7 : decode cX4_cargo 7 = .ok (.iload_n 2, 1) := by decide +kernel
theorem dX4_cargo_8 : decode cX4_cargo 8 = .ok (.invokestatic 121, 3) := by decide +kernel
theorem dX4_cargo_11 : decode cX4_cargo 11 = .ok (.ifCond .eq 12, 3) := by decide +kernel
theorem dX4_cargo_14 : decode cX4_cargo 14 = .ok (.aload_n 0, 1) := by decide +kernel
theorem dX4_cargo_15 : decode cX4_cargo 15 = .ok (.iload_n 1, 1) := by decide +kernel
theorem dX4_cargo_16 : decode cX4_cargo 16 = .ok (.iload_n 2, 1) := by decide +kernel
theorem dX4_cargo_17 : decode cX4_cargo 17 = .ok (.invokevirtual 191, 3) := by decide +kernel
theorem dX4_cargo_20 : decode cX4_cargo 20 = .ok (.goto 6, 3) := by decide +kernel
theorem dX4_cargo_23 : decode cX4_cargo 23 = .ok (.ldc2_w 125, 3) := by decide +kernel
theorem dX4_cargo_26 : decode cX4_cargo 26 = .ok (.lreturn, 1) := by decide +kernel
set_option maxRecDepth 20000 in
theorem ggX4_hasBounds_X4_isComputable : GoodIn wsX4_hasBounds wsX4_isComputable := goodIn_r _ [6, 7, 8, 9, 5, 10, 11, 12, 13, 14, 15, 16, 17, 18, 19, 20, 21, 22, 23, 24, 25, 26, 27, 28, 29, 30, 31, 32, 33, 34, 35, 36, 37, 38, 39, 40, 41, 42, 43, 44, 45, 46, 47] (by decide +kernel) (by decide +kernel)
set_option maxRecDepth 20000 in
theorem gX4_hasBounds_X4_isComputable : GoodIn wsX4_hasBounds (wsV RX4 170 RX4 yX4_isComputable wsX4_isComputable) := goodIn_app (goodIn_of _ (by decide +kernel)) ggX4_hasBounds_X4_isComputable
theorem dX4_hasBounds_0 : decode cX4_hasBounds 0 = .ok (.aload_n 0, 1) := by decide +kernel
theorem dX4_hasBounds_1 : decode cX4_hasBounds 1 = .ok (.iload_n 1, 1) := by decide +kernel
theorem dX4_hasBounds_2 : decode cX4_hasBounds 2 = .ok (.aload_n 0, 1) := by decide +kernel
theorem dX4_hasBounds_3 : decode cX4_hasBounds 3 = .ok (.getfield 118, 3) := by decide +kernel
theorem dX4_hasBounds_6 : decode cX4_hasBounds 6 = .ok (.lneg, 1) := by decide +kernel
theorem dX4_hasBounds_7 : decode cX4_hasBounds 7 = .ok (.invokevirtual 170, 3) := by decide +kernel
theorem dX4_hasBounds_10 : decode cX4_hasBounds 10 = .ok (.ifCond .eq 19, 3) := by decide +kernel
theorem dX4_hasBounds_13 : decode cX4_hasBounds 13 = .ok (.aload_n 0, 1) := by decide +kernel
theorem dX4_hasBounds_14 : decode cX4_hasBounds 14 = .ok (.iload_n 1, 1) := by decide +kernel
theorem dX4_hasBounds_15 : decode cX4_hasBounds 15 = .ok (.aload_n 0, 1) := by decide +kernel
theorem dX4_hasBounds_16 : decode cX4_hasBounds 16 = .ok (.getfield 118, 3) := by decide +kernel
theorem dX4_hasBounds_19 : decode cX4_hasBounds 19 = .ok (.invokevirtual 170, 3) := by decide +kernel
theorem dX4_hasBounds_22 : decode cX4_hasBounds 22 = .ok (.ifCond .eq 7, 3) := by decide +kernel
theorem dX4_hasBounds_25 : decode cX4_hasBounds 25 = .ok (.iconst 1, 1) := by decide +kernel
theorem dX4_hasBounds_26 : decode cX4_hasBounds 26 = .ok (.goto 4, 3) := by decide +kernel
theorem dX4_hasBounds_29 : decode cX4_hasBounds 29 = .ok (.iconst 0, 1) := by decide +kernel
theorem dX4_hasBounds_30 : decode cX4_hasBounds 30 = .ok (.ireturn, 1) := by decide +kernel
set_option maxRecDepth 20000 in
theorem ggX4_light_X4_net : GoodIn wsX4_light wsX4_net := goodIn_r _ [6, 7, 8, 9, 10, 5, 11, 12, 13, 14, 15, 16, 17, 18, 19, 20, 21, 22, 23, 24, 25, 26, 27, 28, 29, 30, 31, 32, 33, 34, 35, 36, 37, 38, 39, 40, 41, 42, 43, 44, 45, 46, 47, 48, 49, 50, 51, 52, 53, 54, 55, 56, 57, 58, 59, 60, 61, 62, 63, 64, 65, 66, 67, 68] (by decide +kernel) (by decide +kernel)
set_option maxRecDepth 20000 in
theorem gX4_light_X4_net : GoodIn wsX4_light (wsV RX4 174 RX4 yX4_net wsX4_net) := goodIn_app (goodIn_of _ (by decide +kernel)) ggX4_light_X4_net
theorem dX4_light_0 : decode cX4_light 0 = .ok (.aload_n 0, 1) := by decide +kernel
theorem dX4_light_1 : decode cX4_light 1 = .ok (.iload_n 1, 1) := by decide +kernel
theorem dX4_light_2 : decode cX4_light 2 = .ok (.aload_n 0, 1) := by decide +kernel
theorem dX4_light_3 : decode cX4_light 3 = .ok (.getfield 118, 3) := by decide +kernel
theorem dX4_light_6 : decode cX4_light 6 = .ok (.lneg, 1) := by decide +kernel
theorem dX4_light_7 : decode cX4_light 7 = .ok (.invokevirtual 174, 3) := by decide +kernel
theorem dX4_light_10 : decode cX4_light 10 = .ok (.lstore_n 2, 1) := by decide +kernel
theorem dX4_light_11 : decode cX4_light 11 = .ok (.aload_n 0, 1) := by decide +kernel
end
section
theorem dX4_light_12 : decode cX4_light 12 = .ok (.iload_n 1, 1) := by decide +kernel
theorem dX4_light_13 : decode cX4_light 13 = .ok (.aload_n 0, 1) := by decide +kernel
theorem dX4_light_14 : decode cX4_light 14 = .ok (.getfield 118, 3) := by decide +kernel
theorem dX4_light_17 : decode cX4_light 17 = .ok (.invokevirtual 174, 3) := by decide +kernel
theorem dX4_light_20 : decode cX4_light 20 = .ok (.lstore 4, 2) := by decide +kernel
theorem dX4_light_22 : decode cX4_light 22 = .ok (.lload_n 2, 1) := by decide +kernel
theorem dX4_light_23 : decode cX4_light 23 = .ok (.lload 4, 2) := by decide +kernel
theorem dX4_light_25 : decode cX4_light 25 = .ok (.lcmp, 1) := by decide +kernel
theorem dX4_light_26 : decode cX4_light 26 = .ok (.ifCond .ge 7, 3) := by decide +kernel
theorem dX4_light_29 : decode cX4_light 29 = .ok (.lload_n 2, 1) := by decide +kernel
theorem dX4_light_30 : decode cX4_light 30 = .ok (.goto 5, 3) := by decide +kernel
theorem dX4_light_33 : decode cX4_light 33 = .ok (.lload 4, 2) := by decide +kernel
theorem dX4_light_35 : decode cX4_light 35 = .ok (.lreturn, 1) := by decide +kernel
set_option maxRecDepth 20000 in
theorem ggX4_heavy_X4_net : GoodIn wsX4_heavy wsX4_net := goodIn_r _ [6, 7, 8, 9, 10, 5, 11, 12, 13, 14, 15, 16, 17, 18, 19, 20, 21, 22, 23, 24, 25, 26, 27, 28, 29, 30, 31, 32, 33, 34, 35, 36, 37, 38, 39, 40, 41, 42, 43, 44, 45, 46, 47, 48, 49, 50, 51, 52, 53, 54, 55, 56, 57, 58, 59, 60, 61, 62, 63, 64, 65, 66, 67, 68] (by decide +kernel) (by decide +kernel)
set_option maxRecDepth 20000 in
theorem gX4_heavy_X4_net : GoodIn wsX4_heavy (wsV RX4 174 RX4 yX4_net wsX4_net) := goodIn_app (goodIn_of _ (by decide +kernel)) ggX4_heavy_X4_net
theorem dX4_heavy_0 : decode cX4_heavy 0 = .ok (.aload_n 0, 1) := by decide +kernel
theorem dX4_heavy_1 : decode cX4_heavy 1 = .ok (.iload_n 1, 1) := by decide +kernel
theorem dX4_heavy_2 : decode cX4_heavy 2 = .ok (.aload_n 0, 1) := by decide +kernel
theorem dX4_heavy_3 : decode cX4_heavy 3 = .ok (.getfield 118, 3) := by decide +kernel
theorem dX4_heavy_6 : decode cX4_heavy 6 = .ok (.lneg, 1) := by decide +kernel
theorem dX4_heavy_7 : decode cX4_heavy 7 = .ok (.invokevirtual 174, 3) := by decide +kernel
theorem dX4_heavy_10 : decode cX4_heavy 10 = .ok (.lstore_n 2, 1) := by decide +kernel
theorem dX4_heavy_11 : decode cX4_heavy 11 = .ok (.aload_n 0, 1) := by decide +kernel
theorem dX4_heavy_12 : decode cX4_heavy 12 = .ok (.iload_n 1, 1) := by decide +kernel
theorem dX4_heavy_13 : decode cX4_heavy 13 = .ok (.aload_n 0, 1) := by decide +kernel
theorem dX4_heavy_14 : decode cX4_heavy 14 = .ok (.getfield 118, 3) := by decide +kernel
theorem dX4_heavy_17 : decode cX4_heavy 17 = .ok (.invokevirtual 174, 3) := by decide +kernel
theorem dX4_heavy_20 : decode cX4_heavy 20 = .ok (.lstore 4, 2) := by decide +kernel
theorem dX4_heavy_22 : decode cX4_heavy 22 = .ok (.lload_n 2, 1) := by decide +kernel
theorem dX4_heavy_23 : decode cX4_heavy 23 = .ok (.lload 4, 2) := by decide +kernel
theorem dX4_heavy_25 : decode cX4_heavy 25 = .ok (.lcmp, 1) := by decide +kernel
theorem dX4_heavy_26 : decode cX4_heavy 26 = .ok (.ifCond .le 7, 3) := by decide +kernel
theorem dX4_heavy_29 : decode cX4_heavy 29 = .ok (.lload_n 2, 1) := by decide +kernel
theorem dX4_heavy_30 : decode cX4_heavy 30 = .ok (.goto 5, 3) := by decide +kernel
theorem dX4_heavy_33 : decode cX4_heavy 33 = .ok (.lload 4, 2) := by decide +kernel
theorem dX4_heavy_35 : decode cX4_heavy 35 = .ok (.lreturn, 1) := by decide +kernel
set_option maxRecDepth 20000 in
theorem ggX4_lowTold_X4_hasBounds : GoodIn wsX4_lowTold wsX4_hasBounds := goodIn_r _ [6, 7, 8, 9, 10, 5, 11, 12, 13, 14, 15, 16, 17, 18, 19, 20, 21, 22, 23, 24, 25, 26, 27, 28, 29, 30, 31, 32, 33, 34, 35, 36, 37, 38, 39, 80, 81, 82, 83, 84, 85, 86, 87, 88, 89, 90, 91, 92] (by decide +kernel) (by decide +kernel)
set_option maxRecDepth 20000 in
theorem gX4_lowTold_X4_hasBounds : GoodIn wsX4_lowTold (wsV RX4 194 RX4 yX4_hasBounds wsX4_hasBounds) := goodIn_app (goodIn_of _ (by decide +kernel)) ggX4_lowTold_X4_hasBounds
set_option maxRecDepth 20000 in
theorem ggX4_lowTold_X4_light : GoodIn wsX4_lowTold wsX4_light := goodIn_r _ [43, 7, 44, 45, 46, 5, 47, 48, 49, 50, 51, 52, 53, 54, 12, 13, 14, 15, 16, 17, 18, 19, 20, 21, 22, 23, 24, 25, 26, 55, 56, 57, 58, 31, 32, 33, 34, 35, 36, 59, 60, 61, 62, 63, 64, 65, 66, 67, 68, 69, 70, 71, 72, 73, 74, 75, 80, 81, 82, 83, 84, 85, 86, 87, 88, 89, 90, 91, 92] (by decide +kernel) (by decide +kernel)
set_option maxRecDepth 20000 in
theorem gX4_lowTold_X4_light : GoodIn wsX4_lowTold (wsV RX4 197 RX4 yX4_light wsX4_light) := goodIn_app (goodIn_of _ (by decide +kernel)) ggX4_lowTold_X4_light
set_option maxRecDepth 20000 in
theorem ggX4_lowTold_X4_heavy : GoodIn wsX4_lowTold wsX4_heavy := goodIn_r _ [79, 7, 44, 45, 46, 5, 47, 48, 49, 50, 51, 52, 53, 54, 12, 13, 14, 15, 16, 17, 18, 19, 20, 21, 22, 23, 24, 25, 26, 55, 56, 57, 58, 31, 32, 33, 34, 35, 36, 59, 60, 61, 62, 63, 64, 65, 66, 67, 68, 69, 70, 71, 72, 73, 74, 75, 80, 81, 82, 83, 84, 85, 86, 87, 88, 89, 90, 91, 92] (by decide +kernel) (by decide +kernel)
set_option maxRecDepth 20000 in
theorem gX4_lowTold_X4_heavy : GoodIn wsX4_lowTold (wsV RX4 200 RX4 yX4_heavy wsX4_heavy) := goodIn_app (goodIn_of _ (by decide +kernel)) ggX4_lowTold_X4_heavy
theorem dX4_lowTold_0 : decode cX4_lowTold 0 = .ok (.aload_n 0, 1) := by decide +kernel
theorem dX4_lowTold_1 : decode cX4_lowTold 1 = .ok (.iload_n 1, 1) := by decide +kernel
theorem dX4_lowTold_2 : decode cX4_lowTold 2 = .ok (.invokevirtual 194, 3) := by decide +kernel
theorem dX4_lowTold_5 : decode cX4_lowTold 5 = .ok (.ifCond .eq 25, 3) := by decide +kernel
theorem dX4_lowTold_8 : decode cX4_lowTold 8 = .ok (.aload_n 0, 1) := by decide +kernel
theorem dX4_lowTold_9 : decode cX4_lowTold 9 = .ok (.iload_n 2, 1) := by decide +kernel
theorem dX4_lowTold_10 : decode cX4_lowTold 10 = .ok (.invokevirtual 194, 3) := by decide +kernel
theorem dX4_lowTold_13 : decode cX4_lowTold 13 = .ok (.ifCond .eq 17, 3) := by decide +kernel
theorem dX4_lowTold_16 : decode cX4_lowTold 16 = .ok (.aload_n 0, 1) := by decide +kernel
theorem dX4_lowTold_17 : decode cX4_lowTold 17 = .ok (.iload_n 2, 1) := by decide +kernel
theorem dX4_lowTold_18 : decode cX4_lowTold 18 = .ok (.invokevirtual 197, 3) := by decide +kernel
theorem dX4_lowTold_21 : decode cX4_lowTold 21 = .ok (.aload_n 0, 1) := by decide +kernel
theorem dX4_lowTold_22 : decode cX4_lowTold 22 = .ok (.iload_n 1, 1) := by decide +kernel
theorem dX4_lowTold_23 : decode cX4_lowTold 23 = .ok (.invokevirtual 200, 3) := by decide +kernel
theorem dX4_lowTold_26 : decode cX4_lowTold 26 = .ok (.lsub, 1) := by decide +kernel
theorem dX4_lowTold_27 : decode cX4_lowTold 27 = .ok (.goto 6, 3) := by decide +kernel
theorem dX4_lowTold_30 : decode cX4_lowTold 30 = .ok (.ldc2_w 110, 3) := by decide +kernel
theorem dX4_lowTold_33 : decode cX4_lowTold 33 = .ok (.lreturn, 1) := by decide +kernel
set_option maxRecDepth 20000 in
theorem ggX4_highTold_X4_hasBounds : GoodIn wsX4_highTold wsX4_hasBounds := goodIn_r _ [6, 7, 8, 9, 10, 5, 11, 12, 13, 14, 15, 16, 17, 18, 19, 20, 21, 22, 23, 24, 25, 26, 27, 28, 29, 30, 31, 32, 33, 34, 35, 36, 37, 38, 39, 80, 81, 82, 83, 84, 85, 86, 87, 88, 89, 90, 91, 92] (by decide +kernel) (by decide +kernel)
set_option maxRecDepth 20000 in
theorem gX4_highTold_X4_hasBounds : GoodIn wsX4_highTold (wsV RX4 194 RX4 yX4_hasBounds wsX4_hasBounds) := goodIn_app (goodIn_of _ (by decide +kernel)) ggX4_highTold_X4_hasBounds
set_option maxRecDepth 20000 in
theorem ggX4_highTold_X4_heavy : GoodIn wsX4_highTold wsX4_heavy := goodIn_r _ [43, 7, 44, 45, 46, 5, 47, 48, 49, 50, 51, 52, 53, 54, 12, 13, 14, 15, 16, 17, 18, 19, 20, 21, 22, 23, 24, 25, 26, 55, 56, 57, 58, 31, 32, 33, 34, 35, 36, 59, 60, 61, 62, 63, 64, 65, 66, 67, 68, 69, 70, 71, 72, 73, 74, 75, 80, 81, 82, 83, 84, 85, 86, 87, 88, 89, 90, 91, 92] (by decide +kernel) (by decide +kernel)
set_option maxRecDepth 20000 in
theorem gX4_highTold_X4_heavy : GoodIn wsX4_highTold (wsV RX4 200 RX4 yX4_heavy wsX4_heavy) := goodIn_app (goodIn_of _ (by decide +kernel)) ggX4_highTold_X4_heavy
set_option maxRecDepth 20000 in
theorem ggX4_highTold_X4_light : GoodIn wsX4_highTold wsX4_light := goodIn_r _ [79, 7, 44, 45, 46, 5, 47, 48, 49, 50, 51, 52, 53, 54, 12, 13, 14, 15, 16, 17, 18, 19, 20, 21, 22, 23, 24, 25, 26, 55, 56, 57, 58, 31, 32, 33, 34, 35, 36, 59, 60, 61, 62, 63, 64, 65, 66, 67, 68, 69, 70, 71, 72, 73, 74, 75, 80, 81, 82, 83, 84, 85, 86, 87, 88, 89, 90, 91, 92] (by decide +kernel) (by decide +kernel)
set_option maxRecDepth 20000 in
theorem gX4_highTold_X4_light : GoodIn wsX4_highTold (wsV RX4 197 RX4 yX4_light wsX4_light) := goodIn_app (goodIn_of _ (by decide +kernel)) ggX4_highTold_X4_light
theorem dX4_highTold_0 : decode cX4_highTold 0 = .ok (.aload_n 0, 1) := by decide +kernel
theorem dX4_highTold_1 : decode cX4_highTold 1 = .ok (.iload_n 1, 1) := by decide +kernel
theorem dX4_highTold_2 : decode cX4_highTold 2 = .ok (.invokevirtual 194, 3) := by decide +kernel
theorem dX4_highTold_5 : decode cX4_highTold 5 = .ok (.ifCond .eq 25, 3) := by decide +kernel
theorem dX4_highTold_8 : decode cX4_highTold 8 = .ok (.aload_n 0, 1) := by decide +kernel
theorem dX4_highTold_9 : decode cX4_highTold 9 = .ok (.iload_n 2, 1) := by decide +kernel
theorem dX4_highTold_10 : decode cX4_highTold 10 = .ok (.invokevirtual 194, 3) := by decide +kernel
theorem dX4_highTold_13 : decode cX4_highTold 13 = .ok (.ifCond .eq 17, 3) := by decide +kernel
theorem dX4_highTold_16 : decode cX4_highTold 16 = .ok (.aload_n 0, 1) := by decide +kernel
theorem dX4_highTold_17 : decode cX4_highTold 17 = .ok (.iload_n 2, 1) := by decide +kernel
theorem dX4_highTold_18 : decode cX4_highTold 18 = .ok (.invokevirtual 200, 3) := by decide +kernel
theorem dX4_highTold_21 : decode cX4_highTold 21 = .ok (.aload_n 0, 1) := by decide +kernel
theorem dX4_highTold_22 : decode cX4_highTold 22 = .ok (.iload_n 1, 1) := by decide +kernel
theorem dX4_highTold_23 : decode cX4_highTold 23 = .ok (.invokevirtual 197, 3) := by decide +kernel
theorem dX4_highTold_26 : decode cX4_highTold 26 = .ok (.lsub, 1) := by decide +kernel
theorem dX4_highTold_27 : decode cX4_highTold 27 = .ok (.goto 6, 3) := by decide +kernel
theorem dX4_highTold_30 : decode cX4_highTold 30 = .ok (.ldc2_w 110, 3) := by decide +kernel
theorem dX4_highTold_33 : decode cX4_highTold 33 = .ok (.lreturn, 1) := by decide +kernel
set_option maxRecDepth 20000 in
theorem ggX4_cargoLow_X4_isSurvey : GoodIn wsX4_cargoLow wsX4_isSurvey := goodIn_r _ [5, 6, 7, 8, 4, 9] (by decide +kernel) (by decide +kernel)
set_option maxRecDepth 20000 in
theorem gX4_cargoLow_X4_isSurvey : GoodIn wsX4_cargoLow (va_wsS RX4 121 yX4_isSurvey wsX4_isSurvey) := goodIn_app (goodIn_of _ (by decide +kernel)) ggX4_cargoLow_X4_isSurvey
set_option maxRecDepth 20000 in
theorem ggX4_cargoLow_X4_lowTold : GoodIn wsX4_cargoLow wsX4_lowTold := goodIn_r _ [13, 14, 15, 16, 17, 4, 18, 19, 20, 21, 22, 23, 24, 25, 26, 27, 28, 29, 30, 31, 32, 33, 34, 35, 36, 37, 38, 39, 40, 41, 42, 43, 44, 45, 46, 47, 48, 7, 8, 9, 49, 50, 51, 52, 53, 54, 55, 56, 57, 58, 59, 60, 61, 62, 63, 64, 65, 66, 67, 68, 69, 70, 71, 72, 73, 74, 75, 76, 77, 78, 79, 80, 81, 82, 83, 84, 85, 86, 87, 88, 89, 90, 91, 92, 93, 94, 95, 96, 97, 98, 99, 100, 101] (by decide +kernel) (by decide +kernel)
set_option maxRecDepth 20000 in
theorem gX4_cargoLow_X4_lowTold : GoodIn wsX4_cargoLow (wsV RX4 203 RX4 yX4_lowTold wsX4_lowTold) := goodIn_app (goodIn_of _ (by decide +kernel)) ggX4_cargoLow_X4_lowTold
theorem dX4_cargoLow_0 : decode cX4_cargoLow 0 = .ok (.iload_n 1, 1) := by decide +kernel
theorem dX4_cargoLow_1 : decode cX4_cargoLow 1 = .ok (.invokestatic 121, 3) := by decide +kernel
theorem dX4_cargoLow_4 : decode cX4_cargoLow 4 = .ok (.ifCond .eq 19, 3) := by decide +kernel
theorem dX4_cargoLow_7 : decode cX4_cargoLow 7 = .ok (.iload_n 2, 1) := by decide +kernel
theorem dX4_cargoLow_8 : decode cX4_cargoLow 8 = .ok (.invokestatic 121, 3) := by decide +kernel
theorem dX4_cargoLow_11 : decode cX4_cargoLow 11 = .ok (.ifCond .eq 12, 3) := by decide +kernel
theorem dX4_cargoLow_14 : decode cX4_cargoLow 14 = .ok (.aload_n 0, 1) := by decide +kernel
theorem dX4_cargoLow_15 : decode cX4_cargoLow 15 = .ok (.iload_n 1, 1) := by decide +kernel
theorem dX4_cargoLow_16 : decode cX4_cargoLow 16 = .ok (.iload_n 2, 1) := by decide +kernel
theorem dX4_cargoLow_17 : decode cX4_cargoLow 17 = .ok (.invokevirtual 203, 3) := by decide +kernel
theorem dX4_cargoLow_20 : decode cX4_cargoLow 20 = .ok (.goto 6, 3) := by decide +kernel
theorem dX4_cargoLow_23 : decode cX4_cargoLow 23 = .ok (.ldc2_w 125, 3) := by decide +kernel
theorem dX4_cargoLow_26 : decode cX4_cargoLow 26 = .ok (.lreturn, 1) := by decide +kernel
set_option maxRecDepth 20000 in
theorem ggX4_cargoHigh_X4_isSurvey : GoodIn wsX4_cargoHigh wsX4_isSurvey := goodIn_r _ [5, 6, 7, 8, 4, 9] (by decide +kernel) (by decide +kernel)
set_option maxRecDepth 20000 in
theorem gX4_cargoHigh_X4_isSurvey : GoodIn wsX4_cargoHigh (va_wsS RX4 121 yX4_isSurvey wsX4_isSurvey) := goodIn_app (goodIn_of _ (by decide +kernel)) ggX4_cargoHigh_X4_isSurvey
set_option maxRecDepth 20000 in
theorem ggX4_cargoHigh_X4_highTold : GoodIn wsX4_cargoHigh wsX4_highTold := goodIn_r _ [13, 14, 15, 16, 17, 4, 18, 19, 20, 21, 22, 23, 24, 25, 26, 27, 28, 29, 30, 31, 32, 33, 34, 35, 36, 37, 38, 39, 40, 41, 42, 43, 44, 45, 46, 47, 48, 7, 8, 9, 49, 50, 51, 52, 53, 54, 55, 56, 57, 58, 59, 60, 61, 62, 63, 64, 65, 66, 67, 68, 69, 70, 71, 72, 73, 74, 75, 76, 77, 78, 79, 80, 81, 82, 83, 84, 85, 86, 87, 88, 89, 90, 91, 92, 93, 94, 95, 96, 97, 98, 99, 100, 101] (by decide +kernel) (by decide +kernel)
set_option maxRecDepth 20000 in
theorem gX4_cargoHigh_X4_highTold : GoodIn wsX4_cargoHigh (wsV RX4 206 RX4 yX4_highTold wsX4_highTold) := goodIn_app (goodIn_of _ (by decide +kernel)) ggX4_cargoHigh_X4_highTold
theorem dX4_cargoHigh_0 : decode cX4_cargoHigh 0 = .ok (.iload_n 1, 1) := by decide +kernel
theorem dX4_cargoHigh_1 : decode cX4_cargoHigh 1 = .ok (.invokestatic 121, 3) := by decide +kernel
theorem dX4_cargoHigh_4 : decode cX4_cargoHigh 4 = .ok (.ifCond .eq 19, 3) := by decide +kernel
theorem dX4_cargoHigh_7 : decode cX4_cargoHigh 7 = .ok (.iload_n 2, 1) := by decide +kernel
theorem dX4_cargoHigh_8 : decode cX4_cargoHigh 8 = .ok (.invokestatic 121, 3) := by decide +kernel
theorem dX4_cargoHigh_11 : decode cX4_cargoHigh 11 = .ok (.ifCond .eq 12, 3) := by decide +kernel
theorem dX4_cargoHigh_14 : decode cX4_cargoHigh 14 = .ok (.aload_n 0, 1) := by decide +kernel
theorem dX4_cargoHigh_15 : decode cX4_cargoHigh 15 = .ok (.iload_n 1, 1) := by decide +kernel
theorem dX4_cargoHigh_16 : decode cX4_cargoHigh 16 = .ok (.iload_n 2, 1) := by decide +kernel
theorem dX4_cargoHigh_17 : decode cX4_cargoHigh 17 = .ok (.invokevirtual 206, 3) := by decide +kernel
theorem dX4_cargoHigh_20 : decode cX4_cargoHigh 20 = .ok (.goto 6, 3) := by decide +kernel
theorem dX4_cargoHigh_23 : decode cX4_cargoHigh 23 = .ok (.ldc2_w 125, 3) := by decide +kernel
theorem dX4_cargoHigh_26 : decode cX4_cargoHigh 26 = .ok (.lreturn, 1) := by decide +kernel
set_option maxRecDepth 20000 in
theorem ggX4_draftFor_X4_cell : GoodIn wsX4_draftFor wsX4_cell := goodIn_r _ [8, 9, 17, 18, 19, 20, 21, 22, 23, 24, 25, 26, 27, 28, 29] (by decide +kernel) (by decide +kernel)
set_option maxRecDepth 20000 in
theorem gX4_draftFor_X4_cell : GoodIn wsX4_draftFor (wsV RX4 88 RX4 yX4_cell wsX4_cell) := goodIn_app (goodIn_of _ (by decide +kernel)) ggX4_draftFor_X4_cell
set_option maxRecDepth 20000 in
theorem ggX4_draftFor_X4_at : GoodIn wsX4_draftFor wsX4_at := goodIn_r _ [13, 1, 4, 5, 6, 7, 8, 9, 14, 15, 16, 17, 18, 19, 20, 21, 22, 23, 24, 25, 26, 27, 28, 29] (by decide +kernel) (by decide +kernel)
set_option maxRecDepth 20000 in
theorem gX4_draftFor_X4_at : GoodIn wsX4_draftFor (wsV RX4 106 RX4 yX4_at wsX4_at) := goodIn_app (goodIn_of _ (by decide +kernel)) ggX4_draftFor_X4_at
theorem dX4_draftFor_0 : decode cX4_draftFor 0 = .ok (.aload_n 0, 1) := by decide +kernel
theorem dX4_draftFor_1 : decode cX4_draftFor 1 = .ok (.getfield 85, 3) := by decide +kernel
theorem dX4_draftFor_4 : decode cX4_draftFor 4 = .ok (.ifCond .eq 20, 3) := by decide +kernel
theorem dX4_draftFor_7 : decode cX4_draftFor 7 = .ok (.aload_n 0, 1) := by decide +kernel
theorem dX4_draftFor_8 : decode cX4_draftFor 8 = .ok (.aload_n 0, 1) := by decide +kernel
theorem dX4_draftFor_9 : decode cX4_draftFor 9 = .ok (.getfield 85, 3) := by decide +kernel
theorem dX4_draftFor_12 : decode cX4_draftFor 12 = .ok (.iconst 1, 1) := by decide +kernel
theorem dX4_draftFor_13 : decode cX4_draftFor 13 = .ok (.isub, 1) := by decide +kernel
theorem dX4_draftFor_14 : decode cX4_draftFor 14 = .ok (.iconst 1, 1) := by decide +kernel
theorem dX4_draftFor_15 : decode cX4_draftFor 15 = .ok (.invokevirtual 88, 3) := by decide +kernel
theorem dX4_draftFor_18 : decode cX4_draftFor 18 = .ok (.iload_n 1, 1) := by decide +kernel
theorem dX4_draftFor_19 : decode cX4_draftFor 19 = .ok (.i2l, 1) := by decide +kernel
theorem dX4_draftFor_20 : decode cX4_draftFor 20 = .ok (.lcmp, 1) := by decide +kernel
theorem dX4_draftFor_21 : decode cX4_draftFor 21 = .ok (.ifCond .ge 7, 3) := by decide +kernel
theorem dX4_draftFor_24 : decode cX4_draftFor 24 = .ok (.ldc2_w 110, 3) := by decide +kernel
theorem dX4_draftFor_27 : decode cX4_draftFor 27 = .ok (.lreturn, 1) := by decide +kernel
theorem dX4_draftFor_28 : decode cX4_draftFor 28 = .ok (.aload_n 0, 1) := by decide +kernel
theorem dX4_draftFor_29 : decode cX4_draftFor 29 = .ok (.iconst 0, 1) := by decide +kernel
theorem dX4_draftFor_30 : decode cX4_draftFor 30 = .ok (.iconst 0, 1) := by decide +kernel
theorem dX4_draftFor_31 : decode cX4_draftFor 31 = .ok (.invokevirtual 88, 3) := by decide +kernel
theorem dX4_draftFor_34 : decode cX4_draftFor 34 = .ok (.lstore_n 2, 1) := by decide +kernel
theorem dX4_draftFor_35 : decode cX4_draftFor 35 = .ok (.aload_n 0, 1) := by decide +kernel
theorem dX4_draftFor_36 : decode cX4_draftFor 36 = .ok (.aload_n 0, 1) := by decide +kernel
theorem dX4_draftFor_37 : decode cX4_draftFor 37 = .ok (.getfield 85, 3) := by decide +kernel
theorem dX4_draftFor_40 : decode cX4_draftFor 40 = .ok (.iconst 1, 1) := by decide +kernel
theorem dX4_draftFor_41 : decode cX4_draftFor 41 = .ok (.isub, 1) := by decide +kernel
theorem dX4_draftFor_42 : decode cX4_draftFor 42 = .ok (.iconst 0, 1) := by decide +kernel
theorem dX4_draftFor_43 : decode cX4_draftFor 43 = .ok (.invokevirtual 88, 3) := by decide +kernel
theorem dX4_draftFor_46 : decode cX4_draftFor 46 = .ok (.lstore 4, 2) := by decide +kernel
theorem dX4_draftFor_48 : decode cX4_draftFor 48 = .ok (.lload_n 2, 1) := by decide +kernel
theorem dX4_draftFor_49 : decode cX4_draftFor 49 = .ok (.lload 4, 2) := by decide +kernel
theorem dX4_draftFor_51 : decode cX4_draftFor 51 = .ok (.lcmp, 1) := by decide +kernel
theorem dX4_draftFor_52 : decode cX4_draftFor 52 = .ok (.ifCond .ge 41, 3) := by decide +kernel
theorem dX4_draftFor_55 : decode cX4_draftFor 55 = .ok (.lload_n 2, 1) := by decide +kernel
theorem dX4_draftFor_56 : decode cX4_draftFor 56 = .ok (.lload 4, 2) := by decide +kernel
theorem dX4_draftFor_58 : decode cX4_draftFor 58 = .ok (.ladd, 1) := by decide +kernel
theorem dX4_draftFor_59 : decode cX4_draftFor 59 = .ok (.ldc2_w 133, 3) := by decide +kernel
theorem dX4_draftFor_62 : decode cX4_draftFor 62 = .ok (.ldiv, 1) := by decide +kernel
theorem dX4_draftFor_63 : decode cX4_draftFor 63 = .ok (.lstore 6, 2) := by decide +kernel
theorem dX4_draftFor_65 : decode cX4_draftFor 65 = .ok (.aload_n 0, 1) := by decide +kernel
theorem dX4_draftFor_66 : decode cX4_draftFor 66 = .ok (.iconst 0, 1) := by decide +kernel
theorem dX4_draftFor_67 : decode cX4_draftFor 67 = .ok (.lload 6, 2) := by decide +kernel
theorem dX4_draftFor_69 : decode cX4_draftFor 69 = .ok (.invokevirtual 106, 3) := by decide +kernel
theorem dX4_draftFor_72 : decode cX4_draftFor 72 = .ok (.iload_n 1, 1) := by decide +kernel
theorem dX4_draftFor_73 : decode cX4_draftFor 73 = .ok (.i2l, 1) := by decide +kernel
theorem dX4_draftFor_74 : decode cX4_draftFor 74 = .ok (.lcmp, 1) := by decide +kernel
theorem dX4_draftFor_75 : decode cX4_draftFor 75 = .ok (.ifCond .lt 10, 3) := by decide +kernel
theorem dX4_draftFor_78 : decode cX4_draftFor 78 = .ok (.lload 6, 2) := by decide +kernel
theorem dX4_draftFor_80 : decode cX4_draftFor 80 = .ok (.lstore 4, 2) := by decide +kernel
theorem dX4_draftFor_82 : decode cX4_draftFor 82 = .ok (.goto 8, 3) := by decide +kernel
theorem dX4_draftFor_85 : decode cX4_draftFor 85 = .ok (.lload 6, 2) := by decide +kernel
theorem dX4_draftFor_87 : decode cX4_draftFor 87 = .ok (.lconst 1, 1) := by decide +kernel
theorem dX4_draftFor_88 : decode cX4_draftFor 88 = .ok (.ladd, 1) := by decide +kernel
theorem dX4_draftFor_89 : decode cX4_draftFor 89 = .ok (.lstore_n 2, 1) := by decide +kernel
theorem dX4_draftFor_90 : decode cX4_draftFor 90 = .ok (.goto (-42), 3) := by decide +kernel
theorem dX4_draftFor_93 : decode cX4_draftFor 93 = .ok (.lload_n 2, 1) := by decide +kernel
theorem dX4_draftFor_94 : decode cX4_draftFor 94 = .ok (.lreturn, 1) := by decide +kernel
set_option maxRecDepth 20000 in
theorem ggX4_heaviestNow_X4_isComputable : GoodIn wsX4_heaviestNow wsX4_isComputable := goodIn_r _ [6, 7, 8, 9, 5, 10, 11, 12, 13, 14, 15, 16, 17, 18, 19, 20, 21, 22, 23, 24, 25, 26, 27, 28, 29, 30, 31, 32, 33, 34, 67, 68, 69, 70, 71, 72, 73, 74, 75, 76, 77, 78, 79] (by decide +kernel) (by decide +kernel)
set_option maxRecDepth 20000 in
theorem gX4_heaviestNow_X4_isComputable : GoodIn wsX4_heaviestNow (wsV RX4 170 RX4 yX4_isComputable wsX4_isComputable) := goodIn_app (goodIn_of _ (by decide +kernel)) ggX4_heaviestNow_X4_isComputable
set_option maxRecDepth 20000 in
theorem ggX4_heaviestNow_X4_net : GoodIn wsX4_heaviestNow wsX4_net := goodIn_r _ [38, 39, 40, 41, 42, 5, 43, 44, 45, 7, 8, 9, 10, 11, 12, 13, 14, 15, 16, 17, 18, 19, 20, 21, 46, 47, 48, 49, 26, 27, 28, 29, 30, 31, 50, 51, 52, 53, 54, 55, 56, 57, 58, 59, 60, 61, 62, 63, 64, 65, 66, 67, 68, 69, 70, 71, 72, 73, 74, 75, 76, 77, 78, 79] (by decide +kernel) (by decide +kernel)
set_option maxRecDepth 20000 in
theorem gX4_heaviestNow_X4_net : GoodIn wsX4_heaviestNow (wsV RX4 174 RX4 yX4_net wsX4_net) := goodIn_app (goodIn_of _ (by decide +kernel)) ggX4_heaviestNow_X4_net
theorem dX4_heaviestNow_0 : decode cX4_heaviestNow 0 = .ok (.iconst (-1), 1) := by decide +kernel
theorem dX4_heaviestNow_1 : decode cX4_heaviestNow 1 = .ok (.istore_n 1, 1) := by decide +kernel
theorem dX4_heaviestNow_2 : decode cX4_heaviestNow 2 = .ok (.iconst 0, 1) := by decide +kernel
theorem dX4_heaviestNow_3 : decode cX4_heaviestNow 3 = .ok (.istore_n 2, 1) := by decide +kernel
theorem dX4_heaviestNow_4 : decode cX4_heaviestNow 4 = .ok (.iload_n 2, 1) := by decide +kernel
theorem dX4_heaviestNow_5 : decode cX4_heaviestNow 5 = .ok (.iconst 4, 1) := by decide +kernel
theorem dX4_heaviestNow_6 : decode cX4_heaviestNow 6 = .ok (.if_icmp .ge 54, 3) := by decide +kernel
theorem dX4_heaviestNow_9 : decode cX4_heaviestNow 9 = .ok (.aload_n 0, 1) := by decide +kernel
theorem dX4_heaviestNow_10 : decode cX4_heaviestNow 10 = .ok (.iload_n 2, 1) := by decide +kernel
theorem dX4_heaviestNow_11 : decode cX4_heaviestNow 11 = .ok (.lconst 0, 1) := by decide +kernel
theorem dX4_heaviestNow_12 : decode cX4_heaviestNow 12 = .ok (.invokevirtual 170, 3) := by decide +kernel
theorem dX4_heaviestNow_15 : decode cX4_heaviestNow 15 = .ok (.ifCond .eq 27, 3) := by decide +kernel
theorem dX4_heaviestNow_18 : decode cX4_heaviestNow 18 = .ok (.iload_n 1, 1) := by decide +kernel
theorem dX4_heaviestNow_19 : decode cX4_heaviestNow 19 = .ok (.ifCond .lt 19, 3) := by decide +kernel
theorem dX4_heaviestNow_22 : decode cX4_heaviestNow 22 = .ok (.aload_n 0, 1) := by decide +kernel
theorem dX4_heaviestNow_23 : decode cX4_heaviestNow 23 = .ok (.iload_n 2, 1) := by decide +kernel
theorem dX4_heaviestNow_24 : decode cX4_heaviestNow 24 = .ok (.lconst 0, 1) := by decide +kernel
theorem dX4_heaviestNow_25 : decode cX4_heaviestNow 25 = .ok (.invokevirtual 174, 3) := by decide +kernel
theorem dX4_heaviestNow_28 : decode cX4_heaviestNow 28 = .ok (.aload_n 0, 1) := by decide +kernel
theorem dX4_heaviestNow_29 : decode cX4_heaviestNow 29 = .ok (.iload_n 1, 1) := by decide +kernel
theorem dX4_heaviestNow_30 : decode cX4_heaviestNow 30 = .ok (.lconst 0, 1) := by decide +kernel
theorem dX4_heaviestNow_31 : decode cX4_heaviestNow 31 = .ok (.invokevirtual 174, 3) := by decide +kernel
theorem dX4_heaviestNow_34 : decode cX4_heaviestNow 34 = .ok (.lcmp, 1) := by decide +kernel
theorem dX4_heaviestNow_35 : decode cX4_heaviestNow 35 = .ok (.ifCond .le 7, 3) := by decide +kernel
theorem dX4_heaviestNow_38 : decode cX4_heaviestNow 38 = .ok (.iconst 1, 1) := by decide +kernel
theorem dX4_heaviestNow_39 : decode cX4_heaviestNow 39 = .ok (.goto 4, 3) := by decide +kernel
theorem dX4_heaviestNow_42 : decode cX4_heaviestNow 42 = .ok (.iconst 0, 1) := by decide +kernel
theorem dX4_heaviestNow_43 : decode cX4_heaviestNow 43 = .ok (.istore_n 3, 1) := by decide +kernel
theorem dX4_heaviestNow_44 : decode cX4_heaviestNow 44 = .ok (.iload_n 3, 1) := by decide +kernel
theorem dX4_heaviestNow_45 : decode cX4_heaviestNow 45 = .ok (.ifCond .eq 7, 3) := by decide +kernel
theorem dX4_heaviestNow_48 : decode cX4_heaviestNow 48 = .ok (.iload_n 2, 1) := by decide +kernel
theorem dX4_heaviestNow_49 : decode cX4_heaviestNow 49 = .ok (.goto 4, 3) := by decide +kernel
theorem dX4_heaviestNow_52 : decode cX4_heaviestNow 52 = .ok (.iload_n 1, 1) := by decide +kernel
theorem dX4_heaviestNow_53 : decode cX4_heaviestNow 53 = .ok (.istore_n 1, 1) := by decide +kernel
theorem dX4_heaviestNow_54 : decode cX4_heaviestNow 54 = .ok (.iinc 2 1, 3) := by decide +kernel
theorem dX4_heaviestNow_57 : decode cX4_heaviestNow 57 = .ok (.goto (-53), 3) := by decide +kernel
theorem dX4_heaviestNow_60 : decode cX4_heaviestNow 60 = .ok (.iload_n 1, 1) := by decide +kernel
theorem dX4_heaviestNow_61 : decode cX4_heaviestNow 61 = .ok (.ifCond .ge 9, 3) := by decide +kernel
theorem dX4_heaviestNow_64 : decode cX4_heaviestNow 64 = .ok (.ldc2_w 110, 3) := by decide +kernel
theorem dX4_heaviestNow_67 : decode cX4_heaviestNow 67 = .ok (.goto 5, 3) := by decide +kernel
theorem dX4_heaviestNow_70 : decode cX4_heaviestNow 70 = .ok (.iload_n 1, 1) := by decide +kernel
theorem dX4_heaviestNow_71 : decode cX4_heaviestNow 71 = .ok (.i2l, 1) := by decide +kernel
theorem dX4_heaviestNow_72 : decode cX4_heaviestNow 72 = .ok (.lreturn, 1) := by decide +kernel
set_option maxRecDepth 20000 in
theorem ggX4_heaviest_X4_heaviestNow : GoodIn wsX4_heaviest wsX4_heaviestNow := goodIn_r _ [5, 6, 7, 8, 9, 4, 10, 11, 12, 13, 14, 15, 16, 17, 18, 19, 20, 21, 22, 23, 24, 25, 26, 27, 28, 29, 30, 31, 32, 33, 34, 35, 36, 37, 38, 39, 40, 41, 42, 43, 44, 45, 46, 47, 48, 49, 50, 51, 52, 53, 54, 55, 56, 57, 58, 59, 60, 61, 62, 63, 64, 65, 66, 67, 68, 69, 70, 71, 72, 73, 74, 75, 76, 77, 78, 79, 80, 81, 82, 83] (by decide +kernel) (by decide +kernel)
set_option maxRecDepth 20000 in
theorem gX4_heaviest_X4_heaviestNow : GoodIn wsX4_heaviest (wsV RX4 209 RX4 yX4_heaviestNow wsX4_heaviestNow) := goodIn_app (goodIn_of _ (by decide +kernel)) ggX4_heaviest_X4_heaviestNow
theorem dX4_heaviest_0 : decode cX4_heaviest 0 = .ok (.aload_n 0, 1) := by decide +kernel
theorem dX4_heaviest_1 : decode cX4_heaviest 1 = .ok (.invokevirtual 209, 3) := by decide +kernel
theorem dX4_heaviest_4 : decode cX4_heaviest 4 = .ok (.lreturn, 1) := by decide +kernel
theorem dX4_rowCount_0 : decode cX4_rowCount 0 = .ok (.aload_n 0, 1) := by decide +kernel
theorem dX4_rowCount_1 : decode cX4_rowCount 1 = .ok (.getfield 85, 3) := by decide +kernel
theorem dX4_rowCount_4 : decode cX4_rowCount 4 = .ok (.i2l, 1) := by decide +kernel
theorem dX4_rowCount_5 : decode cX4_rowCount 5 = .ok (.lreturn, 1) := by decide +kernel
theorem dX4_mix_0 : decode cX4_mix 0 = .ok (.aload_n 0, 1) := by decide +kernel
theorem dX4_mix_1 : decode cX4_mix 1 = .ok (.ldc2_w 213, 3) := by decide +kernel
theorem dX4_mix_4 : decode cX4_mix 4 = .ok (.aload_n 0, 1) := by decide +kernel
theorem dX4_mix_5 : decode cX4_mix 5 = .ok (.getfield 215, 3) := by decide +kernel
theorem dX4_mix_8 : decode cX4_mix 8 = .ok (.lmul, 1) := by decide +kernel
theorem dX4_mix_9 : decode cX4_mix 9 = .ok (.lload_n 1, 1) := by decide +kernel
theorem dX4_mix_10 : decode cX4_mix 10 = .ok (.ladd, 1) := by decide +kernel
theorem dX4_mix_11 : decode cX4_mix 11 = .ok (.putfield 215, 3) := by decide +kernel
theorem dX4_mix_14 : decode cX4_mix 14 = .ok (.return_, 1) := by decide +kernel
set_option maxRecDepth 20000 in
theorem ggX4_mixSurvey_X4_mix : GoodIn wsX4_mixSurvey wsX4_mix := goodIn_r _ [8, 9, 10, 98, 99, 100, 101, 102, 103, 104, 105, 106, 107, 108, 109, 110] (by decide +kernel) (by decide +kernel)
set_option maxRecDepth 20000 in
theorem gX4_mixSurvey_X4_mix : GoodIn wsX4_mixSurvey (wsV RX4 218 RX4 yX4_mix wsX4_mix) := goodIn_app (goodIn_of _ (by decide +kernel)) ggX4_mixSurvey_X4_mix
set_option maxRecDepth 20000 in
theorem ggX4_mixSurvey_X4_trimOf : GoodIn wsX4_mixSurvey wsX4_trimOf := goodIn_r _ [14, 15, 16, 17, 7, 18, 1, 19, 20, 21, 22, 98, 99, 100, 101, 102, 103, 104, 105, 106, 107, 108, 109, 110] (by decide +kernel) (by decide +kernel)
set_option maxRecDepth 20000 in
theorem gX4_mixSurvey_X4_trimOf : GoodIn wsX4_mixSurvey (wsV RX4 143 RX4 yX4_trimOf wsX4_trimOf) := goodIn_app (goodIn_of _ (by decide +kernel)) ggX4_mixSurvey_X4_trimOf
set_option maxRecDepth 20000 in
theorem ggX4_mixSurvey_X4_deflectionOf : GoodIn wsX4_mixSurvey wsX4_deflectionOf := goodIn_r _ [26, 19, 15, 16, 17, 7, 18, 1, 20, 21, 22, 98, 99, 100, 101, 102, 103, 104, 105, 106, 107, 108, 109, 110] (by decide +kernel) (by decide +kernel)
set_option maxRecDepth 20000 in
theorem gX4_mixSurvey_X4_deflectionOf : GoodIn wsX4_mixSurvey (wsV RX4 146 RX4 yX4_deflectionOf wsX4_deflectionOf) := goodIn_app (goodIn_of _ (by decide +kernel)) ggX4_mixSurvey_X4_deflectionOf
set_option maxRecDepth 20000 in
theorem ggX4_mixSurvey_X4_heelOf : GoodIn wsX4_mixSurvey wsX4_heelOf := goodIn_r _ [30, 1, 98, 99, 100, 101, 102, 103, 104, 105, 106, 107, 108, 109, 110] (by decide +kernel) (by decide +kernel)
set_option maxRecDepth 20000 in
theorem gX4_mixSurvey_X4_heelOf : GoodIn wsX4_mixSurvey (wsV RX4 149 RX4 yX4_heelOf wsX4_heelOf) := goodIn_app (goodIn_of _ (by decide +kernel)) ggX4_mixSurvey_X4_heelOf
set_option maxRecDepth 20000 in
theorem ggX4_mixSurvey_X4_quarter : GoodIn wsX4_mixSurvey wsX4_quarter := goodIn_r _ [34, 35, 36, 15, 16, 17, 7, 18, 1, 19, 20, 21, 22, 98, 99, 100, 101, 102, 103, 104, 105, 106, 107, 108, 109, 110] (by decide +kernel) (by decide +kernel)
set_option maxRecDepth 20000 in
theorem gX4_mixSurvey_X4_quarter : GoodIn wsX4_mixSurvey (wsV RX4 152 RX4 yX4_quarter wsX4_quarter) := goodIn_app (goodIn_of _ (by decide +kernel)) ggX4_mixSurvey_X4_quarter
set_option maxRecDepth 20000 in
theorem ggX4_mixSurvey_X4_firstTold : GoodIn wsX4_mixSurvey wsX4_firstTold := goodIn_r _ [40, 41, 42, 43, 44, 7, 45, 31, 32, 33, 34, 35, 36, 15, 16, 17, 18, 1, 19, 20, 21, 22, 46, 47, 48, 49, 50, 51, 52, 53, 54, 55, 56, 57, 58, 59, 60, 61, 62, 63, 64, 11, 12, 13, 14, 65, 66, 67, 68, 98, 99, 100, 101, 102, 103, 104, 105, 106, 107, 108, 109, 110] (by decide +kernel) (by decide +kernel)
set_option maxRecDepth 20000 in
theorem gX4_mixSurvey_X4_firstTold : GoodIn wsX4_mixSurvey (wsV RX4 177 RX4 yX4_firstTold wsX4_firstTold) := goodIn_app (goodIn_of _ (by decide +kernel)) ggX4_mixSurvey_X4_firstTold
set_option maxRecDepth 20000 in
theorem ggX4_mixSurvey_X4_secondTold : GoodIn wsX4_mixSurvey wsX4_secondTold := goodIn_r _ [72, 41, 42, 43, 44, 7, 45, 31, 32, 33, 34, 35, 36, 15, 16, 17, 18, 1, 19, 20, 21, 22, 46, 47, 48, 49, 50, 51, 52, 53, 54, 55, 56, 57, 58, 73, 74, 75, 76, 3, 77, 78, 64, 11, 12, 13, 14, 65, 66, 67, 68, 98, 99, 100, 101, 102, 103, 104, 105, 106, 107, 108, 109, 110] (by decide +kernel) (by decide +kernel)
set_option maxRecDepth 20000 in
theorem gX4_mixSurvey_X4_secondTold : GoodIn wsX4_mixSurvey (wsV RX4 180 RX4 yX4_secondTold wsX4_secondTold) := goodIn_app (goodIn_of _ (by decide +kernel)) ggX4_mixSurvey_X4_secondTold
set_option maxRecDepth 20000 in
theorem ggX4_mixSurvey_X4_displacedTold : GoodIn wsX4_mixSurvey wsX4_displacedTold := goodIn_r _ [82, 41, 42, 43, 44, 7, 45, 31, 32, 33, 34, 35, 36, 15, 16, 17, 18, 1, 19, 20, 21, 22, 46, 47, 48, 49, 50, 51, 52, 53, 54, 55, 56, 57, 58, 83, 84, 85, 86, 87, 88, 65, 66, 67, 68, 59, 60, 61, 62, 63, 64, 11, 12, 13, 14, 73, 74, 75, 76, 3, 77, 78, 98, 99, 100, 101, 102, 103, 104, 105, 106, 107, 108, 109, 110] (by decide +kernel) (by decide +kernel)
set_option maxRecDepth 20000 in
theorem gX4_mixSurvey_X4_displacedTold : GoodIn wsX4_mixSurvey (wsV RX4 185 RX4 yX4_displacedTold wsX4_displacedTold) := goodIn_app (goodIn_of _ (by decide +kernel)) ggX4_mixSurvey_X4_displacedTold
set_option maxRecDepth 20000 in
theorem ggX4_mixSurvey_X4_netTold : GoodIn wsX4_mixSurvey wsX4_netTold := goodIn_r _ [92, 41, 42, 43, 44, 7, 45, 31, 32, 33, 34, 35, 36, 15, 16, 17, 18, 1, 19, 20, 21, 22, 46, 47, 48, 49, 50, 51, 52, 53, 54, 55, 56, 57, 58, 93, 94, 95, 96, 97, 83, 84, 85, 86, 87, 88, 65, 66, 67, 68, 59, 60, 61, 62, 63, 64, 11, 12, 13, 14, 73, 74, 75, 76, 3, 77, 78, 98, 99, 100, 101, 102, 103, 104, 105, 106, 107, 108, 109, 110] (by decide +kernel) (by decide +kernel)
set_option maxRecDepth 20000 in
theorem gX4_mixSurvey_X4_netTold : GoodIn wsX4_mixSurvey (wsV RX4 188 RX4 yX4_netTold wsX4_netTold) := goodIn_app (goodIn_of _ (by decide +kernel)) ggX4_mixSurvey_X4_netTold
theorem dX4_mixSurvey_0 : decode cX4_mixSurvey 0 = .ok (.iconst 0, 1) := by decide +kernel
theorem dX4_mixSurvey_1 : decode cX4_mixSurvey 1 = .ok (.istore_n 2, 1) := by decide +kernel
theorem dX4_mixSurvey_2 : decode cX4_mixSurvey 2 = .ok (.iload_n 2, 1) := by decide +kernel
theorem dX4_mixSurvey_3 : decode cX4_mixSurvey 3 = .ok (.bipush 6, 2) := by decide +kernel
theorem dX4_mixSurvey_5 : decode cX4_mixSurvey 5 = .ok (.if_icmp .ge 24, 3) := by decide +kernel
theorem dX4_mixSurvey_8 : decode cX4_mixSurvey 8 = .ok (.aload_n 0, 1) := by decide +kernel
theorem dX4_mixSurvey_9 : decode cX4_mixSurvey 9 = .ok (.aload_n 0, 1) := by decide +kernel
theorem dX4_mixSurvey_10 : decode cX4_mixSurvey 10 = .ok (.getfield 17, 3) := by decide +kernel
theorem dX4_mixSurvey_13 : decode cX4_mixSurvey 13 = .ok (.bipush 6, 2) := by decide +kernel
theorem dX4_mixSurvey_15 : decode cX4_mixSurvey 15 = .ok (.iload_n 1, 1) := by decide +kernel
theorem dX4_mixSurvey_16 : decode cX4_mixSurvey 16 = .ok (.imul, 1) := by decide +kernel
theorem dX4_mixSurvey_17 : decode cX4_mixSurvey 17 = .ok (.iload_n 2, 1) := by decide +kernel
theorem dX4_mixSurvey_18 : decode cX4_mixSurvey 18 = .ok (.iadd, 1) := by decide +kernel
theorem dX4_mixSurvey_19 : decode cX4_mixSurvey 19 = .ok (.laload, 1) := by decide +kernel
theorem dX4_mixSurvey_20 : decode cX4_mixSurvey 20 = .ok (.invokevirtual 218, 3) := by decide +kernel
theorem dX4_mixSurvey_23 : decode cX4_mixSurvey 23 = .ok (.iinc 2 1, 3) := by decide +kernel
theorem dX4_mixSurvey_26 : decode cX4_mixSurvey 26 = .ok (.goto (-24), 3) := by decide +kernel
theorem dX4_mixSurvey_29 : decode cX4_mixSurvey 29 = .ok (.aload_n 0, 1) := by decide +kernel
theorem dX4_mixSurvey_30 : decode cX4_mixSurvey 30 = .ok (.aload_n 0, 1) := by decide +kernel
theorem dX4_mixSurvey_31 : decode cX4_mixSurvey 31 = .ok (.iload_n 1, 1) := by decide +kernel
theorem dX4_mixSurvey_32 : decode cX4_mixSurvey 32 = .ok (.lconst 0, 1) := by decide +kernel
theorem dX4_mixSurvey_33 : decode cX4_mixSurvey 33 = .ok (.invokevirtual 143, 3) := by decide +kernel
theorem dX4_mixSurvey_36 : decode cX4_mixSurvey 36 = .ok (.invokevirtual 218, 3) := by decide +kernel
theorem dX4_mixSurvey_39 : decode cX4_mixSurvey 39 = .ok (.aload_n 0, 1) := by decide +kernel
theorem dX4_mixSurvey_40 : decode cX4_mixSurvey 40 = .ok (.aload_n 0, 1) := by decide +kernel
theorem dX4_mixSurvey_41 : decode cX4_mixSurvey 41 = .ok (.iload_n 1, 1) := by decide +kernel
theorem dX4_mixSurvey_42 : decode cX4_mixSurvey 42 = .ok (.invokevirtual 146, 3) := by decide +kernel
theorem dX4_mixSurvey_45 : decode cX4_mixSurvey 45 = .ok (.invokevirtual 218, 3) := by decide +kernel
theorem dX4_mixSurvey_48 : decode cX4_mixSurvey 48 = .ok (.aload_n 0, 1) := by decide +kernel
theorem dX4_mixSurvey_49 : decode cX4_mixSurvey 49 = .ok (.aload_n 0, 1) := by decide +kernel
theorem dX4_mixSurvey_50 : decode cX4_mixSurvey 50 = .ok (.iload_n 1, 1) := by decide +kernel
theorem dX4_mixSurvey_51 : decode cX4_mixSurvey 51 = .ok (.invokevirtual 149, 3) := by decide +kernel
theorem dX4_mixSurvey_54 : decode cX4_mixSurvey 54 = .ok (.invokevirtual 218, 3) := by decide +kernel
theorem dX4_mixSurvey_57 : decode cX4_mixSurvey 57 = .ok (.aload_n 0, 1) := by decide +kernel
theorem dX4_mixSurvey_58 : decode cX4_mixSurvey 58 = .ok (.aload_n 0, 1) := by decide +kernel
theorem dX4_mixSurvey_59 : decode cX4_mixSurvey 59 = .ok (.iload_n 1, 1) := by decide +kernel
theorem dX4_mixSurvey_60 : decode cX4_mixSurvey 60 = .ok (.lconst 0, 1) := by decide +kernel
theorem dX4_mixSurvey_61 : decode cX4_mixSurvey 61 = .ok (.invokevirtual 152, 3) := by decide +kernel
theorem dX4_mixSurvey_64 : decode cX4_mixSurvey 64 = .ok (.invokevirtual 218, 3) := by decide +kernel
theorem dX4_mixSurvey_67 : decode cX4_mixSurvey 67 = .ok (.aload_n 0, 1) := by decide +kernel
theorem dX4_mixSurvey_68 : decode cX4_mixSurvey 68 = .ok (.aload_n 0, 1) := by decide +kernel
theorem dX4_mixSurvey_69 : decode cX4_mixSurvey 69 = .ok (.iload_n 1, 1) := by decide +kernel
theorem dX4_mixSurvey_70 : decode cX4_mixSurvey 70 = .ok (.invokevirtual 177, 3) := by decide +kernel
theorem dX4_mixSurvey_73 : decode cX4_mixSurvey 73 = .ok (.invokevirtual 218, 3) := by decide +kernel
theorem dX4_mixSurvey_76 : decode cX4_mixSurvey 76 = .ok (.aload_n 0, 1) := by decide +kernel
theorem dX4_mixSurvey_77 : decode cX4_mixSurvey 77 = .ok (.aload_n 0, 1) := by decide +kernel
theorem dX4_mixSurvey_78 : decode cX4_mixSurvey 78 = .ok (.iload_n 1, 1) := by decide +kernel
theorem dX4_mixSurvey_79 : decode cX4_mixSurvey 79 = .ok (.invokevirtual 180, 3) := by decide +kernel
theorem dX4_mixSurvey_82 : decode cX4_mixSurvey 82 = .ok (.invokevirtual 218, 3) := by decide +kernel
theorem dX4_mixSurvey_85 : decode cX4_mixSurvey 85 = .ok (.aload_n 0, 1) := by decide +kernel
theorem dX4_mixSurvey_86 : decode cX4_mixSurvey 86 = .ok (.aload_n 0, 1) := by decide +kernel
theorem dX4_mixSurvey_87 : decode cX4_mixSurvey 87 = .ok (.iload_n 1, 1) := by decide +kernel
theorem dX4_mixSurvey_88 : decode cX4_mixSurvey 88 = .ok (.ldc2_w 222, 3) := by decide +kernel
theorem dX4_mixSurvey_91 : decode cX4_mixSurvey 91 = .ok (.invokevirtual 185, 3) := by decide +kernel
theorem dX4_mixSurvey_94 : decode cX4_mixSurvey 94 = .ok (.invokevirtual 218, 3) := by decide +kernel
theorem dX4_mixSurvey_97 : decode cX4_mixSurvey 97 = .ok (.aload_n 0, 1) := by decide +kernel
theorem dX4_mixSurvey_98 : decode cX4_mixSurvey 98 = .ok (.aload_n 0, 1) := by decide +kernel
theorem dX4_mixSurvey_99 : decode cX4_mixSurvey 99 = .ok (.iload_n 1, 1) := by decide +kernel
theorem dX4_mixSurvey_100 : decode cX4_mixSurvey 100 = .ok (.lconst 0, 1) := by decide +kernel
theorem dX4_mixSurvey_101 : decode cX4_mixSurvey 101 = .ok (.invokevirtual 185, 3) := by decide +kernel
theorem dX4_mixSurvey_104 : decode cX4_mixSurvey 104 = .ok (.invokevirtual 218, 3) := by decide +kernel
theorem dX4_mixSurvey_107 : decode cX4_mixSurvey 107 = .ok (.aload_n 0, 1) := by decide +kernel
theorem dX4_mixSurvey_108 : decode cX4_mixSurvey 108 = .ok (.aload_n 0, 1) := by decide +kernel
theorem dX4_mixSurvey_109 : decode cX4_mixSurvey 109 = .ok (.iload_n 1, 1) := by decide +kernel
theorem dX4_mixSurvey_110 : decode cX4_mixSurvey 110 = .ok (.ldc2_w 155, 3) := by decide +kernel
theorem dX4_mixSurvey_113 : decode cX4_mixSurvey 113 = .ok (.invokevirtual 185, 3) := by decide +kernel
theorem dX4_mixSurvey_116 : decode cX4_mixSurvey 116 = .ok (.invokevirtual 218, 3) := by decide +kernel
theorem dX4_mixSurvey_119 : decode cX4_mixSurvey 119 = .ok (.aload_n 0, 1) := by decide +kernel
theorem dX4_mixSurvey_120 : decode cX4_mixSurvey 120 = .ok (.aload_n 0, 1) := by decide +kernel
theorem dX4_mixSurvey_121 : decode cX4_mixSurvey 121 = .ok (.iload_n 1, 1) := by decide +kernel
theorem dX4_mixSurvey_122 : decode cX4_mixSurvey 122 = .ok (.invokevirtual 188, 3) := by decide +kernel
theorem dX4_mixSurvey_125 : decode cX4_mixSurvey 125 = .ok (.invokevirtual 218, 3) := by decide +kernel
theorem dX4_mixSurvey_128 : decode cX4_mixSurvey 128 = .ok (.return_, 1) := by decide +kernel
set_option maxRecDepth 20000 in
theorem ggX4_digest_X4_mix : GoodIn wsX4_digest wsX4_mix := goodIn_r _ [13, 14, 2, 134, 135, 136, 137, 138, 139, 140, 141, 142, 143, 144, 145, 146] (by decide +kernel) (by decide +kernel)
set_option maxRecDepth 20000 in
theorem gX4_digest_X4_mix : GoodIn wsX4_digest (wsV RX4 218 RX4 yX4_mix wsX4_mix) := goodIn_app (goodIn_of _ (by decide +kernel)) ggX4_digest_X4_mix
set_option maxRecDepth 20000 in
theorem ggX4_digest_X4_mixSurvey : GoodIn wsX4_digest wsX4_mixSurvey := goodIn_r _ [18, 19, 20, 21, 9, 10, 11, 12, 13, 14, 2, 22, 23, 24, 25, 26, 27, 28, 29, 30, 31, 32, 33, 34, 35, 36, 37, 38, 39, 40, 41, 42, 43, 44, 45, 46, 47, 48, 49, 50, 51, 52, 53, 54, 55, 56, 57, 58, 59, 60, 3, 61, 62, 63, 64, 4, 65, 66, 67, 68, 69, 70, 71, 72, 5, 73, 74, 75, 76, 77, 78, 79, 80, 81, 82, 83, 84, 85, 86, 87, 88, 89, 90, 91, 92, 93, 94, 95, 96, 97, 98, 99, 100, 101, 102, 103, 104, 105, 134, 135, 136, 137, 138, 139, 140, 141, 142, 143, 144, 145, 146] (by decide +kernel) (by decide +kernel)
set_option maxRecDepth 20000 in
theorem gX4_digest_X4_mixSurvey : GoodIn wsX4_digest (wsV RX4 226 RX4 yX4_mixSurvey wsX4_mixSurvey) := goodIn_app (goodIn_of _ (by decide +kernel)) ggX4_digest_X4_mixSurvey
set_option maxRecDepth 20000 in
theorem ggX4_digest_X4_cargoTold : GoodIn wsX4_digest wsX4_cargoTold := goodIn_r _ [109, 52, 53, 54, 55, 12, 56, 42, 43, 44, 45, 46, 47, 26, 27, 28, 29, 19, 30, 31, 32, 33, 57, 58, 59, 60, 3, 61, 62, 63, 64, 4, 65, 66, 67, 101, 102, 103, 104, 105, 91, 92, 93, 94, 95, 96, 73, 74, 75, 76, 68, 69, 70, 71, 72, 5, 22, 23, 24, 25, 81, 82, 83, 84, 21, 85, 86, 134, 135, 136, 137, 138, 139, 140, 141, 142, 143, 144, 145, 146] (by decide +kernel) (by decide +kernel)
set_option maxRecDepth 20000 in
theorem gX4_digest_X4_cargoTold : GoodIn wsX4_digest (wsV RX4 191 RX4 yX4_cargoTold wsX4_cargoTold) := goodIn_app (goodIn_of _ (by decide +kernel)) ggX4_digest_X4_cargoTold
set_option maxRecDepth 20000 in
theorem ggX4_digest_X4_lowTold : GoodIn wsX4_digest wsX4_lowTold := goodIn_r _ [113, 52, 114, 115, 116, 12, 117, 6, 53, 54, 55, 56, 42, 43, 44, 45, 46, 47, 26, 27, 28, 29, 19, 30, 31, 32, 33, 57, 58, 59, 60, 3, 61, 62, 63, 64, 4, 65, 66, 67, 118, 119, 120, 121, 101, 102, 103, 104, 105, 91, 92, 93, 94, 95, 96, 73, 74, 75, 76, 68, 69, 70, 71, 72, 5, 22, 23, 24, 25, 81, 82, 83, 84, 21, 85, 86, 122, 123, 124, 125, 134, 135, 136, 137, 138, 139, 140, 141, 142, 143, 144, 145, 146] (by decide +kernel) (by decide +kernel)
set_option maxRecDepth 20000 in
theorem gX4_digest_X4_lowTold : GoodIn wsX4_digest (wsV RX4 203 RX4 yX4_lowTold wsX4_lowTold) := goodIn_app (goodIn_of _ (by decide +kernel)) ggX4_digest_X4_lowTold
set_option maxRecDepth 20000 in
theorem ggX4_digest_X4_highTold : GoodIn wsX4_digest wsX4_highTold := goodIn_r _ [129, 52, 114, 115, 116, 12, 117, 6, 53, 54, 55, 56, 42, 43, 44, 45, 46, 47, 26, 27, 28, 29, 19, 30, 31, 32, 33, 57, 58, 59, 60, 3, 61, 62, 63, 64, 4, 65, 66, 67, 122, 123, 124, 125, 101, 102, 103, 104, 105, 91, 92, 93, 94, 95, 96, 73, 74, 75, 76, 68, 69, 70, 71, 72, 5, 22, 23, 24, 25, 81, 82, 83, 84, 21, 85, 86, 118, 119, 120, 121, 134, 135, 136, 137, 138, 139, 140, 141, 142, 143, 144, 145, 146] (by decide +kernel) (by decide +kernel)
set_option maxRecDepth 20000 in
theorem gX4_digest_X4_highTold : GoodIn wsX4_digest (wsV RX4 206 RX4 yX4_highTold wsX4_highTold) := goodIn_app (goodIn_of _ (by decide +kernel)) ggX4_digest_X4_highTold
set_option maxRecDepth 20000 in
theorem ggX4_digest_X4_heaviestNow : GoodIn wsX4_digest wsX4_heaviestNow := goodIn_r _ [133, 52, 53, 54, 55, 12, 56, 42, 43, 44, 45, 46, 47, 26, 27, 28, 29, 19, 30, 31, 32, 33, 57, 58, 59, 60, 3, 61, 62, 63, 64, 4, 65, 66, 67, 101, 102, 103, 104, 105, 91, 92, 93, 94, 95, 96, 73, 74, 75, 76, 68, 69, 70, 71, 72, 5, 22, 23, 24, 25, 81, 82, 83, 84, 21, 85, 86, 134, 135, 136, 137, 138, 139, 140, 141, 142, 143, 144, 145, 146] (by decide +kernel) (by decide +kernel)
set_option maxRecDepth 20000 in
theorem gX4_digest_X4_heaviestNow : GoodIn wsX4_digest (wsV RX4 209 RX4 yX4_heaviestNow wsX4_heaviestNow) := goodIn_app (goodIn_of _ (by decide +kernel)) ggX4_digest_X4_heaviestNow
theorem dX4_digest_0 : decode cX4_digest 0 = .ok (.aload_n 0, 1) := by decide +kernel
theorem dX4_digest_1 : decode cX4_digest 1 = .ok (.ldc2_w 224, 3) := by decide +kernel
theorem dX4_digest_4 : decode cX4_digest 4 = .ok (.putfield 215, 3) := by decide +kernel
theorem dX4_digest_7 : decode cX4_digest 7 = .ok (.aload_n 0, 1) := by decide +kernel
theorem dX4_digest_8 : decode cX4_digest 8 = .ok (.aload_n 0, 1) := by decide +kernel
theorem dX4_digest_9 : decode cX4_digest 9 = .ok (.getfield 85, 3) := by decide +kernel
theorem dX4_digest_12 : decode cX4_digest 12 = .ok (.i2l, 1) := by decide +kernel
theorem dX4_digest_13 : decode cX4_digest 13 = .ok (.invokevirtual 218, 3) := by decide +kernel
theorem dX4_digest_16 : decode cX4_digest 16 = .ok (.iconst 0, 1) := by decide +kernel
theorem dX4_digest_17 : decode cX4_digest 17 = .ok (.istore_n 1, 1) := by decide +kernel
theorem dX4_digest_18 : decode cX4_digest 18 = .ok (.iload_n 1, 1) := by decide +kernel
theorem dX4_digest_19 : decode cX4_digest 19 = .ok (.iconst 5, 1) := by decide +kernel
theorem dX4_digest_20 : decode cX4_digest 20 = .ok (.aload_n 0, 1) := by decide +kernel
theorem dX4_digest_21 : decode cX4_digest 21 = .ok (.getfield 85, 3) := by decide +kernel
theorem dX4_digest_24 : decode cX4_digest 24 = .ok (.imul, 1) := by decide +kernel
theorem dX4_digest_25 : decode cX4_digest 25 = .ok (.if_icmp .ge 19, 3) := by decide +kernel
theorem dX4_digest_28 : decode cX4_digest 28 = .ok (.aload_n 0, 1) := by decide +kernel
theorem dX4_digest_29 : decode cX4_digest 29 = .ok (.aload_n 0, 1) := by decide +kernel
theorem dX4_digest_30 : decode cX4_digest 30 = .ok (.getfield 13, 3) := by decide +kernel
theorem dX4_digest_33 : decode cX4_digest 33 = .ok (.iload_n 1, 1) := by decide +kernel
theorem dX4_digest_34 : decode cX4_digest 34 = .ok (.laload, 1) := by decide +kernel
theorem dX4_digest_35 : decode cX4_digest 35 = .ok (.invokevirtual 218, 3) := by decide +kernel
theorem dX4_digest_38 : decode cX4_digest 38 = .ok (.iinc 1 1, 3) := by decide +kernel
theorem dX4_digest_41 : decode cX4_digest 41 = .ok (.goto (-23), 3) := by decide +kernel
theorem dX4_digest_44 : decode cX4_digest 44 = .ok (.iconst 0, 1) := by decide +kernel
theorem dX4_digest_45 : decode cX4_digest 45 = .ok (.istore_n 1, 1) := by decide +kernel
theorem dX4_digest_46 : decode cX4_digest 46 = .ok (.iload_n 1, 1) := by decide +kernel
theorem dX4_digest_47 : decode cX4_digest 47 = .ok (.iconst 4, 1) := by decide +kernel
theorem dX4_digest_48 : decode cX4_digest 48 = .ok (.if_icmp .ge 14, 3) := by decide +kernel
theorem dX4_digest_51 : decode cX4_digest 51 = .ok (.aload_n 0, 1) := by decide +kernel
theorem dX4_digest_52 : decode cX4_digest 52 = .ok (.iload_n 1, 1) := by decide +kernel
theorem dX4_digest_53 : decode cX4_digest 53 = .ok (.invokevirtual 226, 3) := by decide +kernel
theorem dX4_digest_56 : decode cX4_digest 56 = .ok (.iinc 1 1, 3) := by decide +kernel
theorem dX4_digest_59 : decode cX4_digest 59 = .ok (.goto (-13), 3) := by decide +kernel
theorem dX4_digest_62 : decode cX4_digest 62 = .ok (.aload_n 0, 1) := by decide +kernel
theorem dX4_digest_63 : decode cX4_digest 63 = .ok (.aload_n 0, 1) := by decide +kernel
theorem dX4_digest_64 : decode cX4_digest 64 = .ok (.iconst 0, 1) := by decide +kernel
theorem dX4_digest_65 : decode cX4_digest 65 = .ok (.iconst 1, 1) := by decide +kernel
theorem dX4_digest_66 : decode cX4_digest 66 = .ok (.invokevirtual 191, 3) := by decide +kernel
theorem dX4_digest_69 : decode cX4_digest 69 = .ok (.invokevirtual 218, 3) := by decide +kernel
theorem dX4_digest_72 : decode cX4_digest 72 = .ok (.aload_n 0, 1) := by decide +kernel
theorem dX4_digest_73 : decode cX4_digest 73 = .ok (.aload_n 0, 1) := by decide +kernel
theorem dX4_digest_74 : decode cX4_digest 74 = .ok (.iconst 0, 1) := by decide +kernel
theorem dX4_digest_75 : decode cX4_digest 75 = .ok (.iconst 1, 1) := by decide +kernel
theorem dX4_digest_76 : decode cX4_digest 76 = .ok (.invokevirtual 203, 3) := by decide +kernel
theorem dX4_digest_79 : decode cX4_digest 79 = .ok (.invokevirtual 218, 3) := by decide +kernel
theorem dX4_digest_82 : decode cX4_digest 82 = .ok (.aload_n 0, 1) := by decide +kernel
theorem dX4_digest_83 : decode cX4_digest 83 = .ok (.aload_n 0, 1) := by decide +kernel
theorem dX4_digest_84 : decode cX4_digest 84 = .ok (.iconst 0, 1) := by decide +kernel
theorem dX4_digest_85 : decode cX4_digest 85 = .ok (.iconst 1, 1) := by decide +kernel
theorem dX4_digest_86 : decode cX4_digest 86 = .ok (.invokevirtual 206, 3) := by decide +kernel
theorem dX4_digest_89 : decode cX4_digest 89 = .ok (.invokevirtual 218, 3) := by decide +kernel
theorem dX4_digest_92 : decode cX4_digest 92 = .ok (.aload_n 0, 1) := by decide +kernel
theorem dX4_digest_93 : decode cX4_digest 93 = .ok (.aload_n 0, 1) := by decide +kernel
theorem dX4_digest_94 : decode cX4_digest 94 = .ok (.invokevirtual 209, 3) := by decide +kernel
theorem dX4_digest_97 : decode cX4_digest 97 = .ok (.invokevirtual 218, 3) := by decide +kernel
theorem dX4_digest_100 : decode cX4_digest 100 = .ok (.aload_n 0, 1) := by decide +kernel
theorem dX4_digest_101 : decode cX4_digest 101 = .ok (.aload_n 0, 1) := by decide +kernel
theorem dX4_digest_102 : decode cX4_digest 102 = .ok (.getfield 28, 3) := by decide +kernel
theorem dX4_digest_105 : decode cX4_digest 105 = .ok (.invokevirtual 218, 3) := by decide +kernel
theorem dX4_digest_108 : decode cX4_digest 108 = .ok (.aload_n 0, 1) := by decide +kernel
theorem dX4_digest_109 : decode cX4_digest 109 = .ok (.aload_n 0, 1) := by decide +kernel
theorem dX4_digest_110 : decode cX4_digest 110 = .ok (.getfield 118, 3) := by decide +kernel
theorem dX4_digest_113 : decode cX4_digest 113 = .ok (.invokevirtual 218, 3) := by decide +kernel
theorem dX4_digest_116 : decode cX4_digest 116 = .ok (.aload_n 0, 1) := by decide +kernel
theorem dX4_digest_117 : decode cX4_digest 117 = .ok (.aload_n 0, 1) := by decide +kernel
theorem dX4_digest_118 : decode cX4_digest 118 = .ok (.getfield 47, 3) := by decide +kernel
theorem dX4_digest_121 : decode cX4_digest 121 = .ok (.i2l, 1) := by decide +kernel
theorem dX4_digest_122 : decode cX4_digest 122 = .ok (.invokevirtual 218, 3) := by decide +kernel
theorem dX4_digest_125 : decode cX4_digest 125 = .ok (.iconst 0, 1) := by decide +kernel
theorem dX4_digest_126 : decode cX4_digest 126 = .ok (.istore_n 1, 1) := by decide +kernel
theorem dX4_digest_127 : decode cX4_digest 127 = .ok (.iload_n 1, 1) := by decide +kernel
end
section
theorem dX4_digest_128 : decode cX4_digest 128 = .ok (.aload_n 0, 1) := by decide +kernel
theorem dX4_digest_129 : decode cX4_digest 129 = .ok (.getfield 47, 3) := by decide +kernel
theorem dX4_digest_132 : decode cX4_digest 132 = .ok (.if_icmp .ge 20, 3) := by decide +kernel
theorem dX4_digest_135 : decode cX4_digest 135 = .ok (.aload_n 0, 1) := by decide +kernel
theorem dX4_digest_136 : decode cX4_digest 136 = .ok (.aload_n 0, 1) := by decide +kernel
theorem dX4_digest_137 : decode cX4_digest 137 = .ok (.getfield 7, 3) := by decide +kernel
theorem dX4_digest_140 : decode cX4_digest 140 = .ok (.iload_n 1, 1) := by decide +kernel
theorem dX4_digest_141 : decode cX4_digest 141 = .ok (.iaload, 1) := by decide +kernel
theorem dX4_digest_142 : decode cX4_digest 142 = .ok (.i2l, 1) := by decide +kernel
theorem dX4_digest_143 : decode cX4_digest 143 = .ok (.invokevirtual 218, 3) := by decide +kernel
theorem dX4_digest_146 : decode cX4_digest 146 = .ok (.iinc 1 1, 3) := by decide +kernel
theorem dX4_digest_149 : decode cX4_digest 149 = .ok (.goto (-22), 3) := by decide +kernel
theorem dX4_digest_152 : decode cX4_digest 152 = .ok (.aload_n 0, 1) := by decide +kernel
theorem dX4_digest_153 : decode cX4_digest 153 = .ok (.getfield 215, 3) := by decide +kernel
theorem dX4_digest_156 : decode cX4_digest 156 = .ok (.lreturn, 1) := by decide +kernel
theorem dJ9_floorDiv_f86c9_0 : decode cJ9_floorDiv_f86c9 0 = .ok (.lload_n 0, 1) := by decide +kernel
theorem dJ9_floorDiv_f86c9_1 : decode cJ9_floorDiv_f86c9 1 = .ok (.lload_n 2, 1) := by decide +kernel
theorem dJ9_floorDiv_f86c9_2 : decode cJ9_floorDiv_f86c9 2 = .ok (.ldiv, 1) := by decide +kernel
theorem dJ9_floorDiv_f86c9_3 : decode cJ9_floorDiv_f86c9 3 = .ok (.lstore 4, 2) := by decide +kernel
theorem dJ9_floorDiv_f86c9_5 : decode cJ9_floorDiv_f86c9 5 = .ok (.lload_n 0, 1) := by decide +kernel
theorem dJ9_floorDiv_f86c9_6 : decode cJ9_floorDiv_f86c9 6 = .ok (.lload_n 2, 1) := by decide +kernel
theorem dJ9_floorDiv_f86c9_7 : decode cJ9_floorDiv_f86c9 7 = .ok (.lxor, 1) := by decide +kernel
theorem dJ9_floorDiv_f86c9_8 : decode cJ9_floorDiv_f86c9 8 = .ok (.lconst 0, 1) := by decide +kernel
theorem dJ9_floorDiv_f86c9_9 : decode cJ9_floorDiv_f86c9 9 = .ok (.lcmp, 1) := by decide +kernel
theorem dJ9_floorDiv_f86c9_10 : decode cJ9_floorDiv_f86c9 10 = .ok (.ifCond .ge 17, 3) := by decide +kernel
theorem dJ9_floorDiv_f86c9_13 : decode cJ9_floorDiv_f86c9 13 = .ok (.lload 4, 2) := by decide +kernel
theorem dJ9_floorDiv_f86c9_15 : decode cJ9_floorDiv_f86c9 15 = .ok (.lload_n 2, 1) := by decide +kernel
theorem dJ9_floorDiv_f86c9_16 : decode cJ9_floorDiv_f86c9 16 = .ok (.lmul, 1) := by decide +kernel
theorem dJ9_floorDiv_f86c9_17 : decode cJ9_floorDiv_f86c9 17 = .ok (.lload_n 0, 1) := by decide +kernel
theorem dJ9_floorDiv_f86c9_18 : decode cJ9_floorDiv_f86c9 18 = .ok (.lcmp, 1) := by decide +kernel
theorem dJ9_floorDiv_f86c9_19 : decode cJ9_floorDiv_f86c9 19 = .ok (.ifCond .eq 8, 3) := by decide +kernel
theorem dJ9_floorDiv_f86c9_22 : decode cJ9_floorDiv_f86c9 22 = .ok (.lload 4, 2) := by decide +kernel
theorem dJ9_floorDiv_f86c9_24 : decode cJ9_floorDiv_f86c9 24 = .ok (.lconst 1, 1) := by decide +kernel
theorem dJ9_floorDiv_f86c9_25 : decode cJ9_floorDiv_f86c9 25 = .ok (.lsub, 1) := by decide +kernel
theorem dJ9_floorDiv_f86c9_26 : decode cJ9_floorDiv_f86c9 26 = .ok (.lreturn, 1) := by decide +kernel
theorem dJ9_floorDiv_f86c9_27 : decode cJ9_floorDiv_f86c9 27 = .ok (.lload 4, 2) := by decide +kernel
theorem dJ9_floorDiv_f86c9_29 : decode cJ9_floorDiv_f86c9 29 = .ok (.lreturn, 1) := by decide +kernel
theorem dJ9_max_f86c9_0 : decode cJ9_max_f86c9 0 = .ok (.lload_n 0, 1) := by decide +kernel
theorem dJ9_max_f86c9_1 : decode cJ9_max_f86c9 1 = .ok (.lload_n 2, 1) := by decide +kernel
theorem dJ9_max_f86c9_2 : decode cJ9_max_f86c9 2 = .ok (.lcmp, 1) := by decide +kernel
theorem dJ9_max_f86c9_3 : decode cJ9_max_f86c9 3 = .ok (.ifCond .lt 7, 3) := by decide +kernel
theorem dJ9_max_f86c9_6 : decode cJ9_max_f86c9 6 = .ok (.lload_n 0, 1) := by decide +kernel
theorem dJ9_max_f86c9_7 : decode cJ9_max_f86c9 7 = .ok (.goto 4, 3) := by decide +kernel
theorem dJ9_max_f86c9_10 : decode cJ9_max_f86c9 10 = .ok (.lload_n 2, 1) := by decide +kernel
theorem dJ9_max_f86c9_11 : decode cJ9_max_f86c9 11 = .ok (.lreturn, 1) := by decide +kernel
theorem dJ9_min_f86c9_0 : decode cJ9_min_f86c9 0 = .ok (.lload_n 0, 1) := by decide +kernel
theorem dJ9_min_f86c9_1 : decode cJ9_min_f86c9 1 = .ok (.lload_n 2, 1) := by decide +kernel
theorem dJ9_min_f86c9_2 : decode cJ9_min_f86c9 2 = .ok (.lcmp, 1) := by decide +kernel
theorem dJ9_min_f86c9_3 : decode cJ9_min_f86c9 3 = .ok (.ifCond .gt 7, 3) := by decide +kernel
theorem dJ9_min_f86c9_6 : decode cJ9_min_f86c9 6 = .ok (.lload_n 0, 1) := by decide +kernel
theorem dJ9_min_f86c9_7 : decode cJ9_min_f86c9 7 = .ok (.goto 4, 3) := by decide +kernel
theorem dJ9_min_f86c9_10 : decode cJ9_min_f86c9 10 = .ok (.lload_n 2, 1) := by decide +kernel
theorem dJ9_min_f86c9_11 : decode cJ9_min_f86c9 11 = .ok (.lreturn, 1) := by decide +kernel
set_option maxRecDepth 20000 in
theorem ggL_law_X3_init : GoodIn wsL_law wsX3_init := goodIn_r _ [8, 9, 10, 11, 12, 13, 14, 15, 16, 17, 18, 19, 20, 21, 22, 23, 24, 25, 26, 27, 28, 29, 30, 31, 32, 33, 34, 35, 36, 37, 38, 39, 40, 41, 42, 43, 44, 45, 657, 658, 659, 660, 661, 662, 663, 677, 678, 679, 680, 681, 682, 683, 684, 685, 686] (by decide +kernel) (by decide +kernel)
set_option maxRecDepth 20000 in
theorem gL_law_X3_init : GoodIn wsL_law (wsX3_init) := ggL_law_X3_init
set_option maxRecDepth 20000 in
theorem ggL_law_X4_init : GoodIn wsL_law wsX4_init := goodIn_r _ [48, 49, 10, 11, 12, 50, 33, 51, 52, 53, 54, 55, 56, 57, 58, 664, 665, 666, 667, 668, 669, 670, 671, 672, 673, 674, 675, 676] (by decide +kernel) (by decide +kernel)
set_option maxRecDepth 20000 in
theorem gL_law_X4_init : GoodIn wsL_law (wsX4_init) := ggL_law_X4_init
set_option maxRecDepth 20000 in
theorem ggL_law_X3_append : GoodIn wsL_law wsX3_append := goodIn_r _ [62, 63, 14, 64, 13, 657, 658, 659, 660, 661, 662, 663] (by decide +kernel) (by decide +kernel)
set_option maxRecDepth 20000 in
theorem gL_law_X3_append : GoodIn wsL_law (wsV RL 13 RX3 yX3_append wsX3_append) := goodIn_app (goodIn_of _ (by decide +kernel)) ggL_law_X3_append
set_option maxRecDepth 20000 in
theorem ggL_law_X4_append : GoodIn wsL_law wsX4_append := goodIn_r _ [68, 69, 70, 71, 72, 73, 50, 74, 75, 5, 76, 664, 665, 666, 667, 668, 669, 670, 671, 672, 673, 674, 675, 676] (by decide +kernel) (by decide +kernel)
set_option maxRecDepth 20000 in
theorem gL_law_X4_append : GoodIn wsL_law (wsV RL 17 RX4 yX4_append wsX4_append) := goodIn_app (goodIn_of _ (by decide +kernel)) ggL_law_X4_append
set_option maxRecDepth 20000 in
theorem ggL_law_X3_clearBuffer : GoodIn wsL_law wsX3_clearBuffer := goodIn_r _ [80, 14, 657, 658, 659, 660, 661, 662, 663] (by decide +kernel) (by decide +kernel)
set_option maxRecDepth 20000 in
theorem gL_law_X3_clearBuffer : GoodIn wsL_law (wsV RL 18 RX3 yX3_clearBuffer wsX3_clearBuffer) := goodIn_app (goodIn_of _ (by decide +kernel)) ggL_law_X3_clearBuffer
set_option maxRecDepth 20000 in
theorem ggL_law_X4_clearBuffer : GoodIn wsL_law wsX4_clearBuffer := goodIn_r _ [84, 72, 664, 665, 666, 667, 668, 669, 670, 671, 672, 673, 674, 675, 676] (by decide +kernel) (by decide +kernel)
set_option maxRecDepth 20000 in
theorem gL_law_X4_clearBuffer : GoodIn wsL_law (wsV RL 22 RX4 yX4_clearBuffer wsX4_clearBuffer) := goodIn_app (goodIn_of _ (by decide +kernel)) ggL_law_X4_clearBuffer
set_option maxRecDepth 20000 in
theorem ggL_law_X3_errorPosition : GoodIn wsL_law wsX3_errorPosition := goodIn_r _ [88, 89, 90, 91, 2, 92, 18, 14, 13, 93, 94, 95, 17, 96, 97, 98, 99, 100, 101, 102, 103, 104, 105, 106, 107, 108, 109, 110, 111, 112, 113, 114, 115, 116, 117, 118, 119, 120, 121, 34, 657, 658, 659, 660, 661, 662, 663, 677, 678, 679, 680, 681] (by decide +kernel) (by decide +kernel)
set_option maxRecDepth 20000 in
theorem gL_law_X3_errorPosition : GoodIn wsL_law (wsV RL 23 RX3 yX3_errorPosition wsX3_errorPosition) := goodIn_app (goodIn_of _ (by decide +kernel)) ggL_law_X3_errorPosition
set_option maxRecDepth 20000 in
theorem ggL_law_X4_errorPosition : GoodIn wsL_law wsX4_errorPosition := goodIn_r _ [125, 126, 127, 128, 129, 5, 130, 72, 50, 131, 132, 133, 57, 134, 74, 75, 76, 135, 136, 137, 138, 139, 140, 141, 142, 664, 665, 666, 667, 668, 669, 670, 671, 672, 673, 674, 675, 676] (by decide +kernel) (by decide +kernel)
set_option maxRecDepth 20000 in
theorem gL_law_X4_errorPosition : GoodIn wsL_law (wsV RL 26 RX4 yX4_errorPosition wsX4_errorPosition) := goodIn_app (goodIn_of _ (by decide +kernel)) ggL_law_X4_errorPosition
set_option maxRecDepth 20000 in
theorem ggL_law_X3_addRow : GoodIn wsL_law wsX3_addRow := goodIn_r _ [146, 14, 18, 147, 22, 64, 148, 89, 90, 91, 2, 92, 13, 93, 94, 95, 17, 96, 97, 98, 99, 100, 101, 102, 103, 104, 105, 106, 107, 108, 109, 110, 111, 112, 113, 114, 115, 116, 117, 118, 119, 120, 121, 34, 149, 150, 151, 152, 153, 154, 155, 21, 156, 157, 158, 159, 160, 161, 162, 163, 164, 165, 166, 167, 168, 169, 170, 171, 172, 173, 38, 174, 175, 176, 177, 178, 657, 658, 659, 660, 661, 662, 663, 682, 683, 677, 678, 679, 680, 681] (by decide +kernel) (by decide +kernel)
set_option maxRecDepth 20000 in
theorem gL_law_X3_addRow : GoodIn wsL_law (wsV RL 27 RX3 yX3_addRow wsX3_addRow) := goodIn_app (goodIn_of _ (by decide +kernel)) ggL_law_X3_addRow
set_option maxRecDepth 20000 in
theorem ggL_law_X4_addRow : GoodIn wsL_law wsX4_addRow := goodIn_r _ [182, 134, 183, 184, 73, 57, 185, 51, 72, 127, 128, 129, 5, 130, 126, 50, 131, 132, 133, 74, 75, 76, 135, 136, 137, 138, 139, 140, 141, 142, 186, 187, 188, 189, 664, 665, 666, 667, 668, 669, 670, 671, 672, 673, 674, 675, 676] (by decide +kernel) (by decide +kernel)
set_option maxRecDepth 20000 in
theorem gL_law_X4_addRow : GoodIn wsL_law (wsV RL 30 RX4 yX4_addRow wsX4_addRow) := goodIn_app (goodIn_of _ (by decide +kernel)) ggL_law_X4_addRow
set_option maxRecDepth 20000 in
theorem ggL_law_X3_clearTable : GoodIn wsL_law wsX3_clearTable := goodIn_r _ [193, 22, 657, 658, 659, 660, 661, 662, 663, 682, 683] (by decide +kernel) (by decide +kernel)
set_option maxRecDepth 20000 in
theorem gL_law_X3_clearTable : GoodIn wsL_law (wsV RL 31 RX3 yX3_clearTable wsX3_clearTable) := goodIn_app (goodIn_of _ (by decide +kernel)) ggL_law_X3_clearTable
set_option maxRecDepth 20000 in
theorem ggL_law_X4_clearTable : GoodIn wsL_law wsX4_clearTable := goodIn_r _ [197, 184, 664, 665, 666, 667, 668, 669, 670, 671, 672, 673, 674, 675, 676] (by decide +kernel) (by decide +kernel)
set_option maxRecDepth 20000 in
theorem gL_law_X4_clearTable : GoodIn wsL_law (wsV RL 34 RX4 yX4_clearTable wsX4_clearTable) := goodIn_app (goodIn_of _ (by decide +kernel)) ggL_law_X4_clearTable
set_option maxRecDepth 20000 in
theorem ggL_law_X3_rowDraft : GoodIn wsL_law wsX3_rowDraft := goodIn_r _ [201, 22, 202, 203, 171, 172, 21, 173, 157, 38, 657, 658, 659, 660, 661, 662, 663, 682, 683] (by decide +kernel) (by decide +kernel)
set_option maxRecDepth 20000 in
theorem gL_law_X3_rowDraft : GoodIn wsL_law (wsV RL 35 RX3 yX3_rowDraft wsX3_rowDraft) := goodIn_app (goodIn_of _ (by decide +kernel)) ggL_law_X3_rowDraft
set_option maxRecDepth 20000 in
theorem ggL_law_X4_rowDraft : GoodIn wsL_law wsX4_rowDraft := goodIn_r _ [207, 184, 208, 74, 75, 5, 76, 186, 187, 188, 189, 51, 664, 665, 666, 667, 668, 669, 670, 671, 672, 673, 674, 675, 676] (by decide +kernel) (by decide +kernel)
set_option maxRecDepth 20000 in
theorem gL_law_X4_rowDraft : GoodIn wsL_law (wsV RL 38 RX4 yX4_rowDraft wsX4_rowDraft) := goodIn_app (goodIn_of _ (by decide +kernel)) ggL_law_X4_rowDraft
set_option maxRecDepth 20000 in
theorem ggL_law_X3_tableValue : GoodIn wsL_law wsX3_tableValue := goodIn_r _ [212, 202, 22, 213, 214, 215, 21, 216, 157, 217, 170, 171, 172, 173, 38, 218, 219, 220, 221, 657, 658, 659, 660, 661, 662, 663, 682, 683] (by decide +kernel) (by decide +kernel)
set_option maxRecDepth 20000 in
theorem gL_law_X3_tableValue : GoodIn wsL_law (wsV RL 39 RX3 yX3_tableValue wsX3_tableValue) := goodIn_app (goodIn_of _ (by decide +kernel)) ggL_law_X3_tableValue
set_option maxRecDepth 20000 in
theorem ggL_law_X4_tableValue : GoodIn wsL_law wsX4_tableValue := goodIn_r _ [225, 226, 208, 227, 74, 75, 5, 76, 228, 229, 230, 231, 184, 186, 187, 188, 189, 51, 232, 233, 234, 235, 236, 237, 238, 664, 665, 666, 667, 668, 669, 670, 671, 672, 673, 674, 675, 676] (by decide +kernel) (by decide +kernel)
set_option maxRecDepth 20000 in
theorem gL_law_X4_tableValue : GoodIn wsL_law (wsV RL 43 RX4 yX4_tableValue wsX4_tableValue) := goodIn_app (goodIn_of _ (by decide +kernel)) ggL_law_X4_tableValue
set_option maxRecDepth 20000 in
theorem ggL_law_X3_setLength : GoodIn wsL_law wsX3_setLength := goodIn_r _ [242, 243, 63, 28, 657, 658, 659, 660, 661, 662, 663] (by decide +kernel) (by decide +kernel)
set_option maxRecDepth 20000 in
theorem gL_law_X3_setLength : GoodIn wsL_law (wsV RL 44 RX3 yX3_setLength wsX3_setLength) := goodIn_app (goodIn_of _ (by decide +kernel)) ggL_law_X3_setLength
set_option maxRecDepth 20000 in
theorem ggL_law_X4_setLength : GoodIn wsL_law wsX4_setLength := goodIn_r _ [247, 248, 249, 71, 56, 74, 75, 5, 76, 664, 665, 666, 667, 668, 669, 670, 671, 672, 673, 674, 675, 676] (by decide +kernel) (by decide +kernel)
set_option maxRecDepth 20000 in
theorem gL_law_X4_setLength : GoodIn wsL_law (wsV RL 47 RX4 yX4_setLength wsX4_setLength) := goodIn_app (goodIn_of _ (by decide +kernel)) ggL_law_X4_setLength
set_option maxRecDepth 20000 in
theorem ggL_law_X3_setMargin : GoodIn wsL_law wsX3_setMargin := goodIn_r _ [253, 63, 29, 657, 658, 659, 660, 661, 662, 663] (by decide +kernel) (by decide +kernel)
set_option maxRecDepth 20000 in
theorem gL_law_X3_setMargin : GoodIn wsL_law (wsV RL 48 RX3 yX3_setMargin wsX3_setMargin) := goodIn_app (goodIn_of _ (by decide +kernel)) ggL_law_X3_setMargin
set_option maxRecDepth 20000 in
theorem ggL_law_X4_setMargin : GoodIn wsL_law wsX4_setMargin := goodIn_r _ [257, 258, 71, 259, 74, 75, 5, 76, 664, 665, 666, 667, 668, 669, 670, 671, 672, 673, 674, 675, 676] (by decide +kernel) (by decide +kernel)
set_option maxRecDepth 20000 in
theorem gL_law_X4_setMargin : GoodIn wsL_law (wsV RL 51 RX4 yX4_setMargin wsX4_setMargin) := goodIn_app (goodIn_of _ (by decide +kernel)) ggL_law_X4_setMargin
set_option maxRecDepth 20000 in
theorem ggL_law_X3_setReading : GoodIn wsL_law wsX3_setReading := goodIn_r _ [263, 264, 202, 63, 265, 266, 267, 2, 268, 24, 684, 685, 686, 657, 658, 659, 660, 661, 662, 663] (by decide +kernel) (by decide +kernel)
set_option maxRecDepth 20000 in
theorem gL_law_X3_setReading : GoodIn wsL_law (wsV RL 52 RX3 yX3_setReading wsX3_setReading) := goodIn_app (goodIn_of _ (by decide +kernel)) ggL_law_X3_setReading
set_option maxRecDepth 20000 in
theorem ggL_law_X4_setReading : GoodIn wsL_law wsX4_setReading := goodIn_r _ [272, 273, 274, 208, 138, 71, 52, 275, 276, 5, 277, 226, 74, 75, 76, 664, 665, 666, 667, 668, 669, 670, 671, 672, 673, 674, 675, 676] (by decide +kernel) (by decide +kernel)
set_option maxRecDepth 20000 in
theorem gL_law_X4_setReading : GoodIn wsL_law (wsV RL 56 RX4 yX4_setReading wsX4_setReading) := goodIn_app (goodIn_of _ (by decide +kernel)) ggL_law_X4_setReading
set_option maxRecDepth 20000 in
theorem ggL_law_X3_reading : GoodIn wsL_law wsX3_reading := goodIn_r _ [281, 264, 202, 265, 266, 267, 2, 268, 24, 684, 685, 686, 657, 658, 659, 660, 661, 662, 663] (by decide +kernel) (by decide +kernel)
set_option maxRecDepth 20000 in
theorem gL_law_X3_reading : GoodIn wsL_law (wsV RL 57 RX3 yX3_reading wsX3_reading) := goodIn_app (goodIn_of _ (by decide +kernel)) ggL_law_X3_reading
set_option maxRecDepth 20000 in
theorem ggL_law_X4_reading : GoodIn wsL_law wsX4_reading := goodIn_r _ [285, 273, 274, 52, 208, 275, 276, 5, 277, 226, 74, 75, 76, 664, 665, 666, 667, 668, 669, 670, 671, 672, 673, 674, 675, 676] (by decide +kernel) (by decide +kernel)
set_option maxRecDepth 20000 in
theorem gL_law_X4_reading : GoodIn wsL_law (wsV RL 60 RX4 yX4_reading wsX4_reading) := goodIn_app (goodIn_of _ (by decide +kernel)) ggL_law_X4_reading
set_option maxRecDepth 20000 in
theorem ggL_law_X3_setDensity : GoodIn wsL_law wsX3_setDensity := goodIn_r _ [289, 264, 63, 265, 266, 267, 2, 268, 24, 684, 685, 686, 657, 658, 659, 660, 661, 662, 663] (by decide +kernel) (by decide +kernel)
set_option maxRecDepth 20000 in
theorem gL_law_X3_setDensity : GoodIn wsL_law (wsV RL 61 RX3 yX3_setDensity wsX3_setDensity) := goodIn_app (goodIn_of _ (by decide +kernel)) ggL_law_X3_setDensity
set_option maxRecDepth 20000 in
theorem ggL_law_X4_setDensity : GoodIn wsL_law wsX4_setDensity := goodIn_r _ [293, 273, 294, 295, 71, 53, 275, 276, 5, 277, 226, 74, 75, 76, 664, 665, 666, 667, 668, 669, 670, 671, 672, 673, 674, 675, 676] (by decide +kernel) (by decide +kernel)
set_option maxRecDepth 20000 in
theorem gL_law_X4_setDensity : GoodIn wsL_law (wsV RL 64 RX4 yX4_setDensity wsX4_setDensity) := goodIn_app (goodIn_of _ (by decide +kernel)) ggL_law_X4_setDensity
set_option maxRecDepth 20000 in
theorem ggL_law_X3_setDeduction : GoodIn wsL_law wsX3_setDeduction := goodIn_r _ [299, 264, 202, 300, 63, 265, 266, 267, 2, 268, 24, 684, 685, 686, 657, 658, 659, 660, 661, 662, 663] (by decide +kernel) (by decide +kernel)
set_option maxRecDepth 20000 in
theorem gL_law_X3_setDeduction : GoodIn wsL_law (wsV RL 65 RX3 yX3_setDeduction wsX3_setDeduction) := goodIn_app (goodIn_of _ (by decide +kernel)) ggL_law_X3_setDeduction
set_option maxRecDepth 20000 in
theorem ggL_law_X4_setDeduction : GoodIn wsL_law wsX4_setDeduction := goodIn_r _ [304, 273, 226, 208, 139, 71, 54, 275, 276, 5, 277, 74, 75, 76, 664, 665, 666, 667, 668, 669, 670, 671, 672, 673, 674, 675, 676] (by decide +kernel) (by decide +kernel)
set_option maxRecDepth 20000 in
theorem gL_law_X4_setDeduction : GoodIn wsL_law (wsV RL 68 RX4 yX4_setDeduction wsX4_setDeduction) := goodIn_app (goodIn_of _ (by decide +kernel)) ggL_law_X4_setDeduction
set_option maxRecDepth 20000 in
theorem ggL_law_X3_trim : GoodIn wsL_law wsX3_trim := goodIn_r _ [308, 264, 265, 266, 267, 2, 268, 24, 309, 310, 311, 26, 312, 313, 314, 315, 316, 42, 317, 318, 219, 220, 221, 319, 320, 321, 322, 657, 658, 659, 660, 661, 662, 663, 684, 685, 686] (by decide +kernel) (by decide +kernel)
set_option maxRecDepth 20000 in
theorem gL_law_X3_trim : GoodIn wsL_law (wsV RL 69 RX3 yX3_trim wsX3_trim) := goodIn_app (goodIn_of _ (by decide +kernel)) ggL_law_X3_trim
set_option maxRecDepth 20000 in
theorem ggL_law_X4_trim : GoodIn wsL_law wsX4_trim := goodIn_r _ [326, 273, 275, 276, 5, 277, 226, 74, 75, 76, 327, 328, 329, 330, 331, 332, 333, 334, 52, 335, 236, 237, 238, 664, 665, 666, 667, 668, 669, 670, 671, 672, 673, 674, 675, 676] (by decide +kernel) (by decide +kernel)
set_option maxRecDepth 20000 in
theorem gL_law_X4_trim : GoodIn wsL_law (wsV RL 72 RX4 yX4_trim wsX4_trim) := goodIn_app (goodIn_of _ (by decide +kernel)) ggL_law_X4_trim
set_option maxRecDepth 20000 in
theorem ggL_law_X3_deflection : GoodIn wsL_law wsX3_deflection := goodIn_r _ [339, 264, 265, 266, 267, 2, 268, 24, 340, 341, 342, 26, 343, 317, 344, 345, 346, 347, 42, 318, 219, 220, 221, 319, 320, 321, 322, 313, 314, 315, 316, 657, 658, 659, 660, 661, 662, 663, 684, 685, 686] (by decide +kernel) (by decide +kernel)
set_option maxRecDepth 20000 in
theorem gL_law_X3_deflection : GoodIn wsL_law (wsV RL 73 RX3 yX3_deflection wsX3_deflection) := goodIn_app (goodIn_of _ (by decide +kernel)) ggL_law_X3_deflection
set_option maxRecDepth 20000 in
theorem ggL_law_X4_deflection : GoodIn wsL_law wsX4_deflection := goodIn_r _ [351, 273, 275, 276, 5, 277, 226, 74, 75, 76, 352, 353, 354, 355, 335, 331, 332, 333, 334, 52, 236, 237, 238, 664, 665, 666, 667, 668, 669, 670, 671, 672, 673, 674, 675, 676] (by decide +kernel) (by decide +kernel)
set_option maxRecDepth 20000 in
theorem gL_law_X4_deflection : GoodIn wsL_law (wsV RL 76 RX4 yX4_deflection wsX4_deflection) := goodIn_app (goodIn_of _ (by decide +kernel)) ggL_law_X4_deflection
set_option maxRecDepth 20000 in
theorem ggL_law_X3_heel : GoodIn wsL_law wsX3_heel := goodIn_r _ [359, 264, 265, 266, 267, 2, 268, 24, 360, 361, 362, 26, 363, 42, 657, 658, 659, 660, 661, 662, 663, 684, 685, 686] (by decide +kernel) (by decide +kernel)
set_option maxRecDepth 20000 in
theorem gL_law_X3_heel : GoodIn wsL_law (wsV RL 77 RX3 yX3_heel wsX3_heel) := goodIn_app (goodIn_of _ (by decide +kernel)) ggL_law_X3_heel
set_option maxRecDepth 20000 in
theorem ggL_law_X4_heel : GoodIn wsL_law wsX4_heel := goodIn_r _ [367, 273, 275, 276, 5, 277, 226, 74, 75, 76, 368, 369, 370, 371, 52, 664, 665, 666, 667, 668, 669, 670, 671, 672, 673, 674, 675, 676] (by decide +kernel) (by decide +kernel)
set_option maxRecDepth 20000 in
theorem gL_law_X4_heel : GoodIn wsL_law (wsV RL 80 RX4 yX4_heel wsX4_heel) := goodIn_app (goodIn_of _ (by decide +kernel)) ggL_law_X4_heel
set_option maxRecDepth 20000 in
theorem ggL_law_X3_quarterMean : GoodIn wsL_law wsX3_quarterMean := goodIn_r _ [375, 264, 265, 266, 267, 2, 268, 24, 376, 377, 378, 26, 379, 380, 381, 319, 320, 321, 322, 42, 317, 318, 219, 220, 221, 344, 345, 346, 347, 313, 314, 315, 316, 657, 658, 659, 660, 661, 662, 663, 684, 685, 686] (by decide +kernel) (by decide +kernel)
set_option maxRecDepth 20000 in
theorem gL_law_X3_quarterMean : GoodIn wsL_law (wsV RL 81 RX3 yX3_quarterMean wsX3_quarterMean) := goodIn_app (goodIn_of _ (by decide +kernel)) ggL_law_X3_quarterMean
set_option maxRecDepth 20000 in
theorem ggL_law_X4_quarterMean : GoodIn wsL_law wsX4_quarterMean := goodIn_r _ [385, 273, 275, 276, 5, 277, 226, 74, 75, 76, 386, 387, 388, 389, 390, 391, 331, 332, 333, 334, 52, 335, 236, 237, 238, 664, 665, 666, 667, 668, 669, 670, 671, 672, 673, 674, 675, 676] (by decide +kernel) (by decide +kernel)
set_option maxRecDepth 20000 in
theorem gL_law_X4_quarterMean : GoodIn wsL_law (wsV RL 84 RX4 yX4_quarterMean wsX4_quarterMean) := goodIn_app (goodIn_of _ (by decide +kernel)) ggL_law_X4_quarterMean
set_option maxRecDepth 20000 in
theorem ggL_law_X3_firstCorrection : GoodIn wsL_law wsX3_firstCorrection := goodIn_r _ [395, 264, 396, 265, 266, 267, 2, 268, 24, 397, 398, 399, 400, 22, 376, 377, 378, 26, 379, 380, 381, 319, 320, 321, 322, 42, 317, 318, 219, 220, 221, 344, 345, 346, 347, 313, 314, 315, 316, 401, 402, 403, 21, 404, 157, 405, 406, 407, 408, 170, 171, 172, 173, 38, 166, 167, 168, 169, 309, 310, 311, 312, 409, 410, 411, 412, 413, 28, 213, 214, 215, 216, 217, 218, 414, 415, 416, 417, 657, 658, 659, 660, 661, 662, 663, 684, 685, 686, 682, 683] (by decide +kernel) (by decide +kernel)
set_option maxRecDepth 20000 in
theorem gL_law_X3_firstCorrection : GoodIn wsL_law (wsV RL 85 RX3 yX3_firstCorrection wsX3_firstCorrection) := goodIn_app (goodIn_of _ (by decide +kernel)) ggL_law_X3_firstCorrection
set_option maxRecDepth 20000 in
theorem ggL_law_X4_firstCorrection : GoodIn wsL_law wsX4_firstCorrection := goodIn_r _ [421, 273, 275, 276, 5, 277, 226, 74, 75, 76, 422, 423, 424, 425, 227, 426, 427, 428, 429, 386, 387, 388, 389, 390, 391, 331, 332, 333, 334, 52, 335, 236, 237, 238, 228, 229, 230, 231, 184, 186, 187, 188, 189, 51, 430, 431, 432, 433, 258, 56, 327, 328, 329, 330, 232, 233, 234, 235, 664, 665, 666, 667, 668, 669, 670, 671, 672, 673, 674, 675, 676] (by decide +kernel) (by decide +kernel)
set_option maxRecDepth 20000 in
theorem gL_law_X4_firstCorrection : GoodIn wsL_law (wsV RL 88 RX4 yX4_firstCorrection wsX4_firstCorrection) := goodIn_app (goodIn_of _ (by decide +kernel)) ggL_law_X4_firstCorrection
set_option maxRecDepth 20000 in
theorem ggL_law_X3_secondCorrection : GoodIn wsL_law wsX3_secondCorrection := goodIn_r _ [437, 264, 396, 265, 266, 267, 2, 268, 24, 397, 398, 399, 400, 22, 376, 377, 378, 26, 379, 380, 381, 319, 320, 321, 322, 42, 317, 318, 219, 220, 221, 344, 345, 346, 347, 313, 314, 315, 316, 401, 402, 403, 21, 404, 157, 405, 406, 407, 408, 170, 171, 172, 173, 38, 166, 167, 168, 169, 309, 310, 311, 312, 438, 439, 440, 441, 442, 443, 444, 445, 446, 447, 448, 449, 450, 451, 28, 452, 453, 213, 214, 215, 216, 217, 218, 414, 415, 416, 417, 657, 658, 659, 660, 661, 662, 663, 684, 685, 686, 682, 683] (by decide +kernel) (by decide +kernel)
set_option maxRecDepth 20000 in
theorem gL_law_X3_secondCorrection : GoodIn wsL_law (wsV RL 89 RX3 yX3_secondCorrection wsX3_secondCorrection) := goodIn_app (goodIn_of _ (by decide +kernel)) ggL_law_X3_secondCorrection
set_option maxRecDepth 20000 in
theorem ggL_law_X4_secondCorrection : GoodIn wsL_law wsX4_secondCorrection := goodIn_r _ [457, 273, 275, 276, 5, 277, 226, 74, 75, 76, 458, 459, 460, 461, 227, 426, 427, 428, 429, 386, 387, 388, 389, 390, 391, 331, 332, 333, 334, 52, 335, 236, 237, 238, 228, 229, 230, 231, 184, 186, 187, 188, 189, 51, 462, 463, 464, 465, 466, 467, 468, 56, 327, 328, 329, 330, 232, 233, 234, 235, 664, 665, 666, 667, 668, 669, 670, 671, 672, 673, 674, 675, 676] (by decide +kernel) (by decide +kernel)
set_option maxRecDepth 20000 in
theorem gL_law_X4_secondCorrection : GoodIn wsL_law (wsV RL 92 RX4 yX4_secondCorrection wsX4_secondCorrection) := goodIn_app (goodIn_of _ (by decide +kernel)) ggL_law_X4_secondCorrection
set_option maxRecDepth 20000 in
theorem ggL_law_X3_displacement : GoodIn wsL_law wsX3_displacement := goodIn_r _ [472, 264, 63, 396, 265, 266, 267, 2, 268, 24, 397, 398, 399, 400, 22, 376, 377, 378, 26, 379, 380, 381, 319, 320, 321, 322, 42, 317, 318, 219, 220, 221, 344, 345, 346, 347, 313, 314, 315, 316, 401, 402, 403, 21, 404, 157, 405, 406, 407, 408, 170, 171, 172, 173, 38, 166, 167, 168, 169, 473, 474, 475, 476, 477, 309, 310, 311, 312, 213, 214, 215, 216, 217, 218, 409, 410, 411, 412, 413, 28, 414, 415, 416, 417, 438, 439, 440, 441, 442, 443, 444, 445, 446, 447, 448, 449, 450, 451, 452, 453, 657, 658, 659, 660, 661, 662, 663, 684, 685, 686, 682, 683] (by decide +kernel) (by decide +kernel)
set_option maxRecDepth 20000 in
theorem gL_law_X3_displacement : GoodIn wsL_law (wsV RL 93 RX3 yX3_displacement wsX3_displacement) := goodIn_app (goodIn_of _ (by decide +kernel)) ggL_law_X3_displacement
set_option maxRecDepth 20000 in
theorem ggL_law_X4_displacement : GoodIn wsL_law wsX4_displacement := goodIn_r _ [481, 273, 482, 468, 71, 275, 276, 5, 277, 226, 74, 75, 76, 483, 484, 485, 486, 227, 426, 427, 428, 429, 386, 387, 388, 389, 390, 391, 331, 332, 333, 334, 52, 335, 236, 237, 238, 228, 229, 230, 231, 184, 186, 187, 188, 189, 51, 487, 488, 489, 490, 53, 58, 232, 233, 234, 235, 430, 431, 432, 433, 258, 56, 327, 328, 329, 330, 462, 463, 464, 465, 466, 467, 664, 665, 666, 667, 668, 669, 670, 671, 672, 673, 674, 675, 676] (by decide +kernel) (by decide +kernel)
set_option maxRecDepth 20000 in
theorem gL_law_X4_displacement : GoodIn wsL_law (wsV RL 96 RX4 yX4_displacement wsX4_displacement) := goodIn_app (goodIn_of _ (by decide +kernel)) ggL_law_X4_displacement
set_option maxRecDepth 20000 in
theorem ggL_law_X3_netWeight : GoodIn wsL_law wsX3_netWeight := goodIn_r _ [494, 264, 396, 265, 266, 267, 2, 268, 24, 397, 398, 399, 400, 22, 376, 377, 378, 26, 379, 380, 381, 319, 320, 321, 322, 42, 317, 318, 219, 220, 221, 344, 345, 346, 347, 313, 314, 315, 316, 401, 402, 403, 21, 404, 157, 405, 406, 407, 408, 170, 171, 172, 173, 38, 166, 167, 168, 169, 495, 496, 497, 498, 473, 474, 475, 476, 477, 309, 310, 311, 312, 213, 214, 215, 216, 217, 218, 409, 410, 411, 412, 413, 28, 414, 415, 416, 417, 438, 439, 440, 441, 442, 443, 444, 445, 446, 447, 448, 449, 450, 451, 452, 453, 499, 500, 501, 502, 43, 657, 658, 659, 660, 661, 662, 663, 684, 685, 686, 682, 683] (by decide +kernel) (by decide +kernel)
set_option maxRecDepth 20000 in
theorem gL_law_X3_netWeight : GoodIn wsL_law (wsV RL 97 RX3 yX3_netWeight wsX3_netWeight) := goodIn_app (goodIn_of _ (by decide +kernel)) ggL_law_X3_netWeight
set_option maxRecDepth 20000 in
theorem ggL_law_X4_netWeight : GoodIn wsL_law wsX4_netWeight := goodIn_r _ [506, 273, 275, 276, 5, 277, 226, 74, 75, 76, 507, 508, 509, 510, 227, 426, 427, 428, 429, 386, 387, 388, 389, 390, 391, 331, 332, 333, 334, 52, 335, 236, 237, 238, 228, 229, 230, 231, 184, 186, 187, 188, 189, 51, 511, 512, 513, 514, 54, 487, 488, 489, 490, 53, 58, 232, 233, 234, 235, 430, 431, 432, 433, 258, 56, 327, 328, 329, 330, 462, 463, 464, 465, 466, 467, 468, 664, 665, 666, 667, 668, 669, 670, 671, 672, 673, 674, 675, 676] (by decide +kernel) (by decide +kernel)
set_option maxRecDepth 20000 in
theorem gL_law_X4_netWeight : GoodIn wsL_law (wsV RL 100 RX4 yX4_netWeight wsX4_netWeight) := goodIn_app (goodIn_of _ (by decide +kernel)) ggL_law_X4_netWeight
set_option maxRecDepth 20000 in
theorem ggL_law_X3_cargo : GoodIn wsL_law wsX3_cargo := goodIn_r _ [518, 264, 396, 265, 266, 267, 2, 268, 24, 397, 398, 399, 400, 22, 376, 377, 378, 26, 379, 380, 381, 319, 320, 321, 322, 42, 317, 318, 219, 220, 221, 344, 345, 346, 347, 313, 314, 315, 316, 401, 402, 403, 21, 404, 157, 405, 406, 407, 408, 170, 171, 172, 173, 38, 166, 167, 168, 169, 495, 496, 497, 498, 473, 474, 475, 476, 477, 309, 310, 311, 312, 213, 214, 215, 216, 217, 218, 409, 410, 411, 412, 413, 28, 414, 415, 416, 417, 438, 439, 440, 441, 442, 443, 444, 445, 446, 447, 448, 449, 450, 451, 452, 453, 499, 500, 501, 502, 43, 657, 658, 659, 660, 661, 662, 663, 684, 685, 686, 682, 683] (by decide +kernel) (by decide +kernel)
set_option maxRecDepth 20000 in
theorem gL_law_X3_cargo : GoodIn wsL_law (wsV RL 101 RX3 yX3_cargo wsX3_cargo) := goodIn_app (goodIn_of _ (by decide +kernel)) ggL_law_X3_cargo
set_option maxRecDepth 20000 in
theorem ggL_law_X4_cargo : GoodIn wsL_law wsX4_cargo := goodIn_r _ [522, 273, 275, 276, 5, 277, 226, 74, 75, 76, 523, 524, 525, 526, 227, 426, 427, 428, 429, 386, 387, 388, 389, 390, 391, 331, 332, 333, 334, 52, 335, 236, 237, 238, 228, 229, 230, 231, 184, 186, 187, 188, 189, 51, 511, 512, 513, 514, 54, 487, 488, 489, 490, 53, 58, 232, 233, 234, 235, 430, 431, 432, 433, 258, 56, 327, 328, 329, 330, 462, 463, 464, 465, 466, 467, 468, 664, 665, 666, 667, 668, 669, 670, 671, 672, 673, 674, 675, 676] (by decide +kernel) (by decide +kernel)
set_option maxRecDepth 20000 in
theorem gL_law_X4_cargo : GoodIn wsL_law (wsV RL 104 RX4 yX4_cargo wsX4_cargo) := goodIn_app (goodIn_of _ (by decide +kernel)) ggL_law_X4_cargo
set_option maxRecDepth 20000 in
theorem ggL_law_X3_cargoLow : GoodIn wsL_law wsX3_cargoLow := goodIn_r _ [530, 264, 396, 265, 266, 267, 2, 268, 24, 531, 532, 533, 534, 29, 397, 398, 399, 400, 22, 376, 377, 378, 26, 379, 380, 381, 319, 320, 321, 322, 42, 317, 318, 219, 220, 221, 344, 345, 346, 347, 313, 314, 315, 316, 401, 402, 403, 21, 404, 157, 405, 406, 407, 408, 170, 171, 172, 173, 38, 166, 167, 168, 169, 535, 536, 537, 538, 447, 448, 445, 449, 495, 496, 497, 498, 473, 474, 475, 476, 477, 309, 310, 311, 312, 213, 214, 215, 216, 217, 218, 409, 410, 411, 412, 413, 28, 414, 415, 416, 417, 438, 439, 440, 441, 442, 443, 444, 446, 450, 451, 452, 453, 499, 500, 501, 502, 43, 539, 540, 541, 542, 657, 658, 659, 660, 661, 662, 663, 684, 685, 686, 682, 683] (by decide +kernel) (by decide +kernel)
set_option maxRecDepth 20000 in
theorem gL_law_X3_cargoLow : GoodIn wsL_law (wsV RL 105 RX3 yX3_cargoLow wsX3_cargoLow) := goodIn_app (goodIn_of _ (by decide +kernel)) ggL_law_X3_cargoLow
set_option maxRecDepth 20000 in
theorem ggL_law_X4_cargoLow : GoodIn wsL_law wsX4_cargoLow := goodIn_r _ [546, 273, 275, 276, 5, 277, 226, 74, 75, 76, 547, 548, 549, 550, 227, 551, 552, 553, 554, 259, 426, 427, 428, 429, 386, 387, 388, 389, 390, 391, 331, 332, 333, 334, 52, 335, 236, 237, 238, 228, 229, 230, 231, 184, 186, 187, 188, 189, 51, 555, 556, 557, 558, 511, 512, 513, 514, 54, 487, 488, 489, 490, 53, 58, 232, 233, 234, 235, 430, 431, 432, 433, 258, 56, 327, 328, 329, 330, 462, 463, 464, 465, 466, 467, 468, 559, 560, 561, 562, 664, 665, 666, 667, 668, 669, 670, 671, 672, 673, 674, 675, 676] (by decide +kernel) (by decide +kernel)
set_option maxRecDepth 20000 in
theorem gL_law_X4_cargoLow : GoodIn wsL_law (wsV RL 108 RX4 yX4_cargoLow wsX4_cargoLow) := goodIn_app (goodIn_of _ (by decide +kernel)) ggL_law_X4_cargoLow
set_option maxRecDepth 20000 in
theorem ggL_law_X3_cargoHigh : GoodIn wsL_law wsX3_cargoHigh := goodIn_r _ [566, 264, 396, 265, 266, 267, 2, 268, 24, 531, 532, 533, 534, 29, 397, 398, 399, 400, 22, 376, 377, 378, 26, 379, 380, 381, 319, 320, 321, 322, 42, 317, 318, 219, 220, 221, 344, 345, 346, 347, 313, 314, 315, 316, 401, 402, 403, 21, 404, 157, 405, 406, 407, 408, 170, 171, 172, 173, 38, 166, 167, 168, 169, 539, 540, 541, 542, 443, 444, 445, 446, 495, 496, 497, 498, 473, 474, 475, 476, 477, 309, 310, 311, 312, 213, 214, 215, 216, 217, 218, 409, 410, 411, 412, 413, 28, 414, 415, 416, 417, 438, 439, 440, 441, 442, 447, 448, 449, 450, 451, 452, 453, 499, 500, 501, 502, 43, 535, 536, 537, 538, 657, 658, 659, 660, 661, 662, 663, 684, 685, 686, 682, 683] (by decide +kernel) (by decide +kernel)
set_option maxRecDepth 20000 in
theorem gL_law_X3_cargoHigh : GoodIn wsL_law (wsV RL 109 RX3 yX3_cargoHigh wsX3_cargoHigh) := goodIn_app (goodIn_of _ (by decide +kernel)) ggL_law_X3_cargoHigh
set_option maxRecDepth 20000 in
theorem ggL_law_X4_cargoHigh : GoodIn wsL_law wsX4_cargoHigh := goodIn_r _ [570, 273, 275, 276, 5, 277, 226, 74, 75, 76, 571, 572, 573, 574, 227, 551, 552, 553, 554, 259, 426, 427, 428, 429, 386, 387, 388, 389, 390, 391, 331, 332, 333, 334, 52, 335, 236, 237, 238, 228, 229, 230, 231, 184, 186, 187, 188, 189, 51, 559, 560, 561, 562, 511, 512, 513, 514, 54, 487, 488, 489, 490, 53, 58, 232, 233, 234, 235, 430, 431, 432, 433, 258, 56, 327, 328, 329, 330, 462, 463, 464, 465, 466, 467, 468, 555, 556, 557, 558, 664, 665, 666, 667, 668, 669, 670, 671, 672, 673, 674, 675, 676] (by decide +kernel) (by decide +kernel)
set_option maxRecDepth 20000 in
theorem gL_law_X4_cargoHigh : GoodIn wsL_law (wsV RL 112 RX4 yX4_cargoHigh wsX4_cargoHigh) := goodIn_app (goodIn_of _ (by decide +kernel)) ggL_law_X4_cargoHigh
set_option maxRecDepth 20000 in
theorem ggL_law_X3_draftFor : GoodIn wsL_law wsX3_draftFor := goodIn_r _ [578, 22, 579, 580, 581, 21, 582, 157, 217, 170, 171, 172, 173, 38, 405, 406, 407, 408, 415, 2, 416, 417, 219, 220, 221, 657, 658, 659, 660, 661, 662, 663, 682, 683] (by decide +kernel) (by decide +kernel)
set_option maxRecDepth 20000 in
theorem gL_law_X3_draftFor : GoodIn wsL_law (wsV RL 113 RX3 yX3_draftFor wsX3_draftFor) := goodIn_app (goodIn_of _ (by decide +kernel)) ggL_law_X3_draftFor
set_option maxRecDepth 20000 in
theorem ggL_law_X4_draftFor : GoodIn wsL_law wsX4_draftFor := goodIn_r _ [586, 184, 227, 335, 186, 187, 188, 5, 189, 51, 232, 233, 234, 235, 236, 237, 238, 664, 665, 666, 667, 668, 669, 670, 671, 672, 673, 674, 675, 676] (by decide +kernel) (by decide +kernel)
set_option maxRecDepth 20000 in
theorem gL_law_X4_draftFor : GoodIn wsL_law (wsV RL 116 RX4 yX4_draftFor wsX4_draftFor) := goodIn_app (goodIn_of _ (by decide +kernel)) ggL_law_X4_draftFor
set_option maxRecDepth 20000 in
theorem ggL_law_X3_heaviest : GoodIn wsL_law wsX3_heaviest := goodIn_r _ [590, 396, 265, 266, 267, 2, 268, 24, 397, 398, 399, 400, 22, 376, 377, 378, 26, 379, 380, 381, 319, 320, 321, 322, 42, 317, 318, 219, 220, 221, 344, 345, 346, 347, 313, 314, 315, 316, 401, 402, 403, 21, 404, 157, 405, 406, 407, 408, 170, 171, 172, 173, 38, 166, 167, 168, 169, 495, 496, 497, 498, 473, 474, 475, 476, 477, 309, 310, 311, 312, 213, 214, 215, 216, 217, 218, 409, 410, 411, 412, 413, 28, 414, 415, 416, 417, 438, 439, 440, 441, 442, 443, 444, 445, 446, 447, 448, 449, 450, 451, 452, 453, 499, 500, 501, 502, 43, 657, 658, 659, 660, 661, 662, 663, 684, 685, 686, 682, 683] (by decide +kernel) (by decide +kernel)
set_option maxRecDepth 20000 in
theorem gL_law_X3_heaviest : GoodIn wsL_law (wsV RL 117 RX3 yX3_heaviest wsX3_heaviest) := goodIn_app (goodIn_of _ (by decide +kernel)) ggL_law_X3_heaviest
set_option maxRecDepth 20000 in
theorem ggL_law_X4_heaviest : GoodIn wsL_law wsX4_heaviest := goodIn_r _ [594, 595, 596, 597, 5, 598, 227, 426, 427, 428, 429, 386, 387, 388, 389, 390, 391, 331, 332, 333, 334, 52, 335, 236, 237, 238, 228, 229, 230, 231, 184, 186, 187, 188, 189, 51, 74, 75, 76, 511, 512, 513, 514, 54, 487, 488, 489, 490, 53, 58, 232, 233, 234, 235, 430, 431, 432, 433, 258, 56, 327, 328, 329, 330, 462, 463, 464, 465, 466, 467, 468, 664, 665, 666, 667, 668, 669, 670, 671, 672, 673, 674, 675, 676] (by decide +kernel) (by decide +kernel)
set_option maxRecDepth 20000 in
theorem gL_law_X4_heaviest : GoodIn wsL_law (wsV RL 120 RX4 yX4_heaviest wsX4_heaviest) := goodIn_app (goodIn_of _ (by decide +kernel)) ggL_law_X4_heaviest
set_option maxRecDepth 20000 in
theorem ggL_law_X3_rowCount : GoodIn wsL_law wsX3_rowCount := goodIn_r _ [602, 22, 657, 658, 659, 660, 661, 662, 663, 682, 683] (by decide +kernel) (by decide +kernel)
set_option maxRecDepth 20000 in
theorem gL_law_X3_rowCount : GoodIn wsL_law (wsV RL 121 RX3 yX3_rowCount wsX3_rowCount) := goodIn_app (goodIn_of _ (by decide +kernel)) ggL_law_X3_rowCount
set_option maxRecDepth 20000 in
theorem ggL_law_X4_rowCount : GoodIn wsL_law wsX4_rowCount := goodIn_r _ [606, 184, 664, 665, 666, 667, 668, 669, 670, 671, 672, 673, 674, 675, 676] (by decide +kernel) (by decide +kernel)
set_option maxRecDepth 20000 in
theorem gL_law_X4_rowCount : GoodIn wsL_law (wsV RL 124 RX4 yX4_rowCount wsX4_rowCount) := goodIn_app (goodIn_of _ (by decide +kernel)) ggL_law_X4_rowCount
set_option maxRecDepth 20000 in
theorem ggL_law_X3_digest : GoodIn wsL_law wsX3_digest := goodIn_r _ [610, 611, 28, 29, 612, 613, 614, 2, 615, 22, 616, 617, 618, 619, 203, 171, 172, 21, 173, 157, 38, 620, 621, 622, 623, 624, 279, 280, 281, 264, 202, 265, 266, 267, 268, 24, 625, 306, 307, 308, 309, 310, 311, 26, 312, 313, 314, 315, 316, 42, 317, 318, 219, 220, 221, 319, 320, 321, 322, 626, 337, 338, 339, 340, 341, 342, 343, 344, 345, 346, 347, 627, 357, 358, 359, 360, 361, 362, 363, 628, 373, 374, 375, 376, 377, 378, 379, 380, 381, 629, 393, 394, 395, 396, 397, 398, 399, 400, 401, 402, 403, 404, 405, 406, 407, 408, 170, 166, 167, 168, 169, 409, 410, 411, 412, 413, 213, 214, 215, 216, 217, 218, 414, 415, 416, 417, 630, 435, 436, 437, 438, 439, 440, 441, 442, 443, 444, 445, 446, 447, 448, 449, 450, 451, 452, 453, 631, 470, 471, 472, 63, 473, 474, 475, 476, 477, 632, 492, 493, 494, 495, 496, 497, 498, 499, 500, 501, 502, 43, 633, 516, 517, 518, 634, 528, 529, 530, 531, 532, 533, 534, 535, 536, 537, 538, 539, 540, 541, 542, 635, 564, 565, 566, 636, 588, 589, 590, 637, 638, 639, 640, 14, 13, 657, 658, 659, 660, 661, 662, 663, 682, 683, 684, 685, 686] (by decide +kernel) (by decide +kernel)
set_option maxRecDepth 20000 in
theorem gL_law_X3_digest : GoodIn wsL_law (wsV RL 125 RX3 yX3_digest wsX3_digest) := goodIn_app (goodIn_of _ (by decide +kernel)) ggL_law_X3_digest
set_option maxRecDepth 20000 in
theorem ggL_law_X4_digest : GoodIn wsL_law wsX4_digest := goodIn_r _ [644, 645, 646, 184, 51, 56, 259, 72, 50, 647, 648, 649, 5, 650, 651, 652, 653, 654, 655, 52, 656, 466, 327, 328, 329, 330, 331, 332, 333, 334, 335, 236, 237, 238, 352, 353, 354, 355, 368, 369, 370, 371, 386, 387, 388, 389, 390, 391, 422, 423, 424, 425, 227, 426, 427, 428, 429, 228, 229, 230, 231, 186, 187, 188, 189, 74, 75, 76, 430, 431, 432, 433, 258, 232, 233, 234, 235, 458, 459, 460, 461, 462, 463, 464, 465, 467, 468, 483, 484, 485, 486, 487, 488, 489, 490, 53, 58, 507, 508, 509, 510, 511, 512, 513, 514, 54, 523, 524, 525, 526, 547, 548, 549, 550, 551, 552, 553, 554, 555, 556, 557, 558, 559, 560, 561, 562, 571, 572, 573, 574, 595, 596, 597, 598, 664, 665, 666, 667, 668, 669, 670, 671, 672, 673, 674, 675, 676] (by decide +kernel) (by decide +kernel)
set_option maxRecDepth 20000 in
theorem gL_law_X4_digest : GoodIn wsL_law (wsV RL 128 RX4 yX4_digest wsX4_digest) := goodIn_app (goodIn_of _ (by decide +kernel)) ggL_law_X4_digest
theorem dL_law_0 : decode cL_law 0 = .ok (.new 7, 3) := by decide +kernel
theorem dL_law_3 : decode cL_law 3 = .ok (.dup, 1) := by decide +kernel
theorem dL_law_4 : decode cL_law 4 = .ok (.invokespecial 9, 3) := by decide +kernel
theorem dL_law_7 : decode cL_law 7 = .ok (.astore_n 1, 1) := by decide +kernel
theorem dL_law_8 : decode cL_law 8 = .ok (.new 10, 3) := by decide +kernel
theorem dL_law_11 : decode cL_law 11 = .ok (.dup, 1) := by decide +kernel
theorem dL_law_12 : decode cL_law 12 = .ok (.invokespecial 12, 3) := by decide +kernel
theorem dL_law_15 : decode cL_law 15 = .ok (.astore_n 2, 1) := by decide +kernel
theorem dL_law_16 : decode cL_law 16 = .ok (.iconst 0, 1) := by decide +kernel
theorem dL_law_17 : decode cL_law 17 = .ok (.istore_n 3, 1) := by decide +kernel
theorem dL_law_18 : decode cL_law 18 = .ok (.iload_n 3, 1) := by decide +kernel
theorem dL_law_19 : decode cL_law 19 = .ok (.aload_n 0, 1) := by decide +kernel
theorem dL_law_20 : decode cL_law 20 = .ok (.arraylength, 1) := by decide +kernel
theorem dL_law_21 : decode cL_law 21 = .ok (.iconst 4, 1) := by decide +kernel
theorem dL_law_22 : decode cL_law 22 = .ok (.isub, 1) := by decide +kernel
theorem dL_law_23 : decode cL_law 23 = .ok (.if_icmp .gt 855, 3) := by decide +kernel
theorem dL_law_26 : decode cL_law 26 = .ok (.aload_n 0, 1) := by decide +kernel
theorem dL_law_27 : decode cL_law 27 = .ok (.iload_n 3, 1) := by decide +kernel
theorem dL_law_28 : decode cL_law 28 = .ok (.iaload, 1) := by decide +kernel
theorem dL_law_29 : decode cL_law 29 = .ok (.bipush 31, 2) := by decide +kernel
theorem dL_law_31 : decode cL_law 31 = .ok (.iand, 1) := by decide +kernel
theorem dL_law_32 : decode cL_law 32 = .ok (.tableswitch 840 0 27 #[128, 152, 166, 180, 194, 208, 232, 266, 290, 314, 358, 392, 426, 470, 494, 518, 542, 566, 590, 614, 648, 672, 706, 740, 774, 798, 812, 826], 128) := by decide +kernel
theorem dL_law_160 : decode cL_law 160 = .ok (.aload_n 1, 1) := by decide +kernel
theorem dL_law_161 : decode cL_law 161 = .ok (.aload_n 0, 1) := by decide +kernel
theorem dL_law_162 : decode cL_law 162 = .ok (.iload_n 3, 1) := by decide +kernel
theorem dL_law_163 : decode cL_law 163 = .ok (.iconst 1, 1) := by decide +kernel
theorem dL_law_164 : decode cL_law 164 = .ok (.iadd, 1) := by decide +kernel
theorem dL_law_165 : decode cL_law 165 = .ok (.iaload, 1) := by decide +kernel
theorem dL_law_166 : decode cL_law 166 = .ok (.invokevirtual 13, 3) := by decide +kernel
theorem dL_law_169 : decode cL_law 169 = .ok (.aload_n 2, 1) := by decide +kernel
theorem dL_law_170 : decode cL_law 170 = .ok (.aload_n 0, 1) := by decide +kernel
theorem dL_law_171 : decode cL_law 171 = .ok (.iload_n 3, 1) := by decide +kernel
theorem dL_law_172 : decode cL_law 172 = .ok (.iconst 1, 1) := by decide +kernel
theorem dL_law_173 : decode cL_law 173 = .ok (.iadd, 1) := by decide +kernel
theorem dL_law_174 : decode cL_law 174 = .ok (.iaload, 1) := by decide +kernel
theorem dL_law_175 : decode cL_law 175 = .ok (.invokevirtual 17, 3) := by decide +kernel
theorem dL_law_178 : decode cL_law 178 = .ok (.lcmp, 1) := by decide +kernel
theorem dL_law_179 : decode cL_law 179 = .ok (.ifCond .eq 693, 3) := by decide +kernel
theorem dL_law_182 : decode cL_law 182 = .ok (.iconst 0, 1) := by decide +kernel
theorem dL_law_183 : decode cL_law 183 = .ok (.ireturn, 1) := by decide +kernel
theorem dL_law_184 : decode cL_law 184 = .ok (.aload_n 1, 1) := by decide +kernel
theorem dL_law_185 : decode cL_law 185 = .ok (.invokevirtual 18, 3) := by decide +kernel
theorem dL_law_188 : decode cL_law 188 = .ok (.aload_n 2, 1) := by decide +kernel
theorem dL_law_189 : decode cL_law 189 = .ok (.invokevirtual 22, 3) := by decide +kernel
theorem dL_law_192 : decode cL_law 192 = .ok (.lcmp, 1) := by decide +kernel
theorem dL_law_193 : decode cL_law 193 = .ok (.ifCond .eq 679, 3) := by decide +kernel
theorem dL_law_196 : decode cL_law 196 = .ok (.iconst 0, 1) := by decide +kernel
theorem dL_law_197 : decode cL_law 197 = .ok (.ireturn, 1) := by decide +kernel
theorem dL_law_198 : decode cL_law 198 = .ok (.aload_n 1, 1) := by decide +kernel
theorem dL_law_199 : decode cL_law 199 = .ok (.invokevirtual 23, 3) := by decide +kernel
theorem dL_law_202 : decode cL_law 202 = .ok (.aload_n 2, 1) := by decide +kernel
theorem dL_law_203 : decode cL_law 203 = .ok (.invokevirtual 26, 3) := by decide +kernel
theorem dL_law_206 : decode cL_law 206 = .ok (.lcmp, 1) := by decide +kernel
theorem dL_law_207 : decode cL_law 207 = .ok (.ifCond .eq 665, 3) := by decide +kernel
theorem dL_law_210 : decode cL_law 210 = .ok (.iconst 0, 1) := by decide +kernel
theorem dL_law_211 : decode cL_law 211 = .ok (.ireturn, 1) := by decide +kernel
theorem dL_law_212 : decode cL_law 212 = .ok (.aload_n 1, 1) := by decide +kernel
theorem dL_law_213 : decode cL_law 213 = .ok (.invokevirtual 27, 3) := by decide +kernel
theorem dL_law_216 : decode cL_law 216 = .ok (.aload_n 2, 1) := by decide +kernel
theorem dL_law_217 : decode cL_law 217 = .ok (.invokevirtual 30, 3) := by decide +kernel
theorem dL_law_220 : decode cL_law 220 = .ok (.lcmp, 1) := by decide +kernel
theorem dL_law_221 : decode cL_law 221 = .ok (.ifCond .eq 651, 3) := by decide +kernel
theorem dL_law_224 : decode cL_law 224 = .ok (.iconst 0, 1) := by decide +kernel
theorem dL_law_225 : decode cL_law 225 = .ok (.ireturn, 1) := by decide +kernel
theorem dL_law_226 : decode cL_law 226 = .ok (.aload_n 1, 1) := by decide +kernel
theorem dL_law_227 : decode cL_law 227 = .ok (.invokevirtual 31, 3) := by decide +kernel
theorem dL_law_230 : decode cL_law 230 = .ok (.aload_n 2, 1) := by decide +kernel
theorem dL_law_231 : decode cL_law 231 = .ok (.invokevirtual 34, 3) := by decide +kernel
theorem dL_law_234 : decode cL_law 234 = .ok (.lcmp, 1) := by decide +kernel
theorem dL_law_235 : decode cL_law 235 = .ok (.ifCond .eq 637, 3) := by decide +kernel
theorem dL_law_238 : decode cL_law 238 = .ok (.iconst 0, 1) := by decide +kernel
theorem dL_law_239 : decode cL_law 239 = .ok (.ireturn, 1) := by decide +kernel
theorem dL_law_240 : decode cL_law 240 = .ok (.aload_n 1, 1) := by decide +kernel
theorem dL_law_241 : decode cL_law 241 = .ok (.aload_n 0, 1) := by decide +kernel
theorem dL_law_242 : decode cL_law 242 = .ok (.iload_n 3, 1) := by decide +kernel
theorem dL_law_243 : decode cL_law 243 = .ok (.iconst 1, 1) := by decide +kernel
theorem dL_law_244 : decode cL_law 244 = .ok (.iadd, 1) := by decide +kernel
theorem dL_law_245 : decode cL_law 245 = .ok (.iaload, 1) := by decide +kernel
theorem dL_law_246 : decode cL_law 246 = .ok (.invokevirtual 35, 3) := by decide +kernel
theorem dL_law_249 : decode cL_law 249 = .ok (.aload_n 2, 1) := by decide +kernel
theorem dL_law_250 : decode cL_law 250 = .ok (.aload_n 0, 1) := by decide +kernel
theorem dL_law_251 : decode cL_law 251 = .ok (.iload_n 3, 1) := by decide +kernel
theorem dL_law_252 : decode cL_law 252 = .ok (.iconst 1, 1) := by decide +kernel
theorem dL_law_253 : decode cL_law 253 = .ok (.iadd, 1) := by decide +kernel
theorem dL_law_254 : decode cL_law 254 = .ok (.iaload, 1) := by decide +kernel
theorem dL_law_255 : decode cL_law 255 = .ok (.invokevirtual 38, 3) := by decide +kernel
theorem dL_law_258 : decode cL_law 258 = .ok (.lcmp, 1) := by decide +kernel
theorem dL_law_259 : decode cL_law 259 = .ok (.ifCond .eq 613, 3) := by decide +kernel
theorem dL_law_262 : decode cL_law 262 = .ok (.iconst 0, 1) := by decide +kernel
theorem dL_law_263 : decode cL_law 263 = .ok (.ireturn, 1) := by decide +kernel
theorem dL_law_264 : decode cL_law 264 = .ok (.aload_n 1, 1) := by decide +kernel
theorem dL_law_265 : decode cL_law 265 = .ok (.aload_n 0, 1) := by decide +kernel
theorem dL_law_266 : decode cL_law 266 = .ok (.iload_n 3, 1) := by decide +kernel
theorem dL_law_267 : decode cL_law 267 = .ok (.iconst 1, 1) := by decide +kernel
theorem dL_law_268 : decode cL_law 268 = .ok (.iadd, 1) := by decide +kernel
theorem dL_law_269 : decode cL_law 269 = .ok (.iaload, 1) := by decide +kernel
theorem dL_law_270 : decode cL_law 270 = .ok (.aload_n 0, 1) := by decide +kernel
theorem dL_law_271 : decode cL_law 271 = .ok (.iload_n 3, 1) := by decide +kernel
theorem dL_law_272 : decode cL_law 272 = .ok (.iconst 2, 1) := by decide +kernel
theorem dL_law_273 : decode cL_law 273 = .ok (.iadd, 1) := by decide +kernel
theorem dL_law_274 : decode cL_law 274 = .ok (.iaload, 1) := by decide +kernel
theorem dL_law_275 : decode cL_law 275 = .ok (.invokevirtual 39, 3) := by decide +kernel
theorem dL_law_278 : decode cL_law 278 = .ok (.aload_n 2, 1) := by decide +kernel
theorem dL_law_279 : decode cL_law 279 = .ok (.aload_n 0, 1) := by decide +kernel
theorem dL_law_280 : decode cL_law 280 = .ok (.iload_n 3, 1) := by decide +kernel
theorem dL_law_281 : decode cL_law 281 = .ok (.iconst 1, 1) := by decide +kernel
theorem dL_law_282 : decode cL_law 282 = .ok (.iadd, 1) := by decide +kernel
theorem dL_law_283 : decode cL_law 283 = .ok (.iaload, 1) := by decide +kernel
theorem dL_law_284 : decode cL_law 284 = .ok (.aload_n 0, 1) := by decide +kernel
theorem dL_law_285 : decode cL_law 285 = .ok (.iload_n 3, 1) := by decide +kernel
theorem dL_law_286 : decode cL_law 286 = .ok (.iconst 2, 1) := by decide +kernel
theorem dL_law_287 : decode cL_law 287 = .ok (.iadd, 1) := by decide +kernel
theorem dL_law_288 : decode cL_law 288 = .ok (.iaload, 1) := by decide +kernel
theorem dL_law_289 : decode cL_law 289 = .ok (.invokevirtual 43, 3) := by decide +kernel
theorem dL_law_292 : decode cL_law 292 = .ok (.lcmp, 1) := by decide +kernel
theorem dL_law_293 : decode cL_law 293 = .ok (.ifCond .eq 579, 3) := by decide +kernel
theorem dL_law_296 : decode cL_law 296 = .ok (.iconst 0, 1) := by decide +kernel
theorem dL_law_297 : decode cL_law 297 = .ok (.ireturn, 1) := by decide +kernel
theorem dL_law_298 : decode cL_law 298 = .ok (.aload_n 1, 1) := by decide +kernel
theorem dL_law_299 : decode cL_law 299 = .ok (.aload_n 0, 1) := by decide +kernel
theorem dL_law_300 : decode cL_law 300 = .ok (.iload_n 3, 1) := by decide +kernel
theorem dL_law_301 : decode cL_law 301 = .ok (.iconst 1, 1) := by decide +kernel
theorem dL_law_302 : decode cL_law 302 = .ok (.iadd, 1) := by decide +kernel
theorem dL_law_303 : decode cL_law 303 = .ok (.iaload, 1) := by decide +kernel
theorem dL_law_304 : decode cL_law 304 = .ok (.invokevirtual 44, 3) := by decide +kernel
theorem dL_law_307 : decode cL_law 307 = .ok (.aload_n 2, 1) := by decide +kernel
theorem dL_law_308 : decode cL_law 308 = .ok (.aload_n 0, 1) := by decide +kernel
theorem dL_law_309 : decode cL_law 309 = .ok (.iload_n 3, 1) := by decide +kernel
theorem dL_law_310 : decode cL_law 310 = .ok (.iconst 1, 1) := by decide +kernel
theorem dL_law_311 : decode cL_law 311 = .ok (.iadd, 1) := by decide +kernel
theorem dL_law_312 : decode cL_law 312 = .ok (.iaload, 1) := by decide +kernel
theorem dL_law_313 : decode cL_law 313 = .ok (.invokevirtual 47, 3) := by decide +kernel
theorem dL_law_316 : decode cL_law 316 = .ok (.lcmp, 1) := by decide +kernel
theorem dL_law_317 : decode cL_law 317 = .ok (.ifCond .eq 555, 3) := by decide +kernel
theorem dL_law_320 : decode cL_law 320 = .ok (.iconst 0, 1) := by decide +kernel
theorem dL_law_321 : decode cL_law 321 = .ok (.ireturn, 1) := by decide +kernel
theorem dL_law_322 : decode cL_law 322 = .ok (.aload_n 1, 1) := by decide +kernel
theorem dL_law_323 : decode cL_law 323 = .ok (.aload_n 0, 1) := by decide +kernel
theorem dL_law_324 : decode cL_law 324 = .ok (.iload_n 3, 1) := by decide +kernel
theorem dL_law_325 : decode cL_law 325 = .ok (.iconst 1, 1) := by decide +kernel
theorem dL_law_326 : decode cL_law 326 = .ok (.iadd, 1) := by decide +kernel
theorem dL_law_327 : decode cL_law 327 = .ok (.iaload, 1) := by decide +kernel
theorem dL_law_328 : decode cL_law 328 = .ok (.invokevirtual 48, 3) := by decide +kernel
theorem dL_law_331 : decode cL_law 331 = .ok (.aload_n 2, 1) := by decide +kernel
theorem dL_law_332 : decode cL_law 332 = .ok (.aload_n 0, 1) := by decide +kernel
theorem dL_law_333 : decode cL_law 333 = .ok (.iload_n 3, 1) := by decide +kernel
theorem dL_law_334 : decode cL_law 334 = .ok (.iconst 1, 1) := by decide +kernel
theorem dL_law_335 : decode cL_law 335 = .ok (.iadd, 1) := by decide +kernel
theorem dL_law_336 : decode cL_law 336 = .ok (.iaload, 1) := by decide +kernel
theorem dL_law_337 : decode cL_law 337 = .ok (.invokevirtual 51, 3) := by decide +kernel
theorem dL_law_340 : decode cL_law 340 = .ok (.lcmp, 1) := by decide +kernel
theorem dL_law_341 : decode cL_law 341 = .ok (.ifCond .eq 531, 3) := by decide +kernel
theorem dL_law_344 : decode cL_law 344 = .ok (.iconst 0, 1) := by decide +kernel
theorem dL_law_345 : decode cL_law 345 = .ok (.ireturn, 1) := by decide +kernel
theorem dL_law_346 : decode cL_law 346 = .ok (.aload_n 1, 1) := by decide +kernel
theorem dL_law_347 : decode cL_law 347 = .ok (.aload_n 0, 1) := by decide +kernel
theorem dL_law_348 : decode cL_law 348 = .ok (.iload_n 3, 1) := by decide +kernel
theorem dL_law_349 : decode cL_law 349 = .ok (.iconst 1, 1) := by decide +kernel
theorem dL_law_350 : decode cL_law 350 = .ok (.iadd, 1) := by decide +kernel
theorem dL_law_351 : decode cL_law 351 = .ok (.iaload, 1) := by decide +kernel
theorem dL_law_352 : decode cL_law 352 = .ok (.aload_n 0, 1) := by decide +kernel
theorem dL_law_353 : decode cL_law 353 = .ok (.iload_n 3, 1) := by decide +kernel
theorem dL_law_354 : decode cL_law 354 = .ok (.iconst 2, 1) := by decide +kernel
theorem dL_law_355 : decode cL_law 355 = .ok (.iadd, 1) := by decide +kernel
theorem dL_law_356 : decode cL_law 356 = .ok (.iaload, 1) := by decide +kernel
theorem dL_law_357 : decode cL_law 357 = .ok (.aload_n 0, 1) := by decide +kernel
theorem dL_law_358 : decode cL_law 358 = .ok (.iload_n 3, 1) := by decide +kernel
theorem dL_law_359 : decode cL_law 359 = .ok (.iconst 3, 1) := by decide +kernel
theorem dL_law_360 : decode cL_law 360 = .ok (.iadd, 1) := by decide +kernel
theorem dL_law_361 : decode cL_law 361 = .ok (.iaload, 1) := by decide +kernel
theorem dL_law_362 : decode cL_law 362 = .ok (.invokevirtual 52, 3) := by decide +kernel
theorem dL_law_365 : decode cL_law 365 = .ok (.aload_n 2, 1) := by decide +kernel
theorem dL_law_366 : decode cL_law 366 = .ok (.aload_n 0, 1) := by decide +kernel
theorem dL_law_367 : decode cL_law 367 = .ok (.iload_n 3, 1) := by decide +kernel
theorem dL_law_368 : decode cL_law 368 = .ok (.iconst 1, 1) := by decide +kernel
theorem dL_law_369 : decode cL_law 369 = .ok (.iadd, 1) := by decide +kernel
theorem dL_law_370 : decode cL_law 370 = .ok (.iaload, 1) := by decide +kernel
theorem dL_law_371 : decode cL_law 371 = .ok (.aload_n 0, 1) := by decide +kernel
theorem dL_law_372 : decode cL_law 372 = .ok (.iload_n 3, 1) := by decide +kernel
theorem dL_law_373 : decode cL_law 373 = .ok (.iconst 2, 1) := by decide +kernel
theorem dL_law_374 : decode cL_law 374 = .ok (.iadd, 1) := by decide +kernel
theorem dL_law_375 : decode cL_law 375 = .ok (.iaload, 1) := by decide +kernel
theorem dL_law_376 : decode cL_law 376 = .ok (.aload_n 0, 1) := by decide +kernel
theorem dL_law_377 : decode cL_law 377 = .ok (.iload_n 3, 1) := by decide +kernel
theorem dL_law_378 : decode cL_law 378 = .ok (.iconst 3, 1) := by decide +kernel
theorem dL_law_379 : decode cL_law 379 = .ok (.iadd, 1) := by decide +kernel
theorem dL_law_380 : decode cL_law 380 = .ok (.iaload, 1) := by decide +kernel
theorem dL_law_381 : decode cL_law 381 = .ok (.invokevirtual 56, 3) := by decide +kernel
theorem dL_law_384 : decode cL_law 384 = .ok (.lcmp, 1) := by decide +kernel
theorem dL_law_385 : decode cL_law 385 = .ok (.ifCond .eq 487, 3) := by decide +kernel
theorem dL_law_388 : decode cL_law 388 = .ok (.iconst 0, 1) := by decide +kernel
theorem dL_law_389 : decode cL_law 389 = .ok (.ireturn, 1) := by decide +kernel
theorem dL_law_390 : decode cL_law 390 = .ok (.aload_n 1, 1) := by decide +kernel
theorem dL_law_391 : decode cL_law 391 = .ok (.aload_n 0, 1) := by decide +kernel
theorem dL_law_392 : decode cL_law 392 = .ok (.iload_n 3, 1) := by decide +kernel
theorem dL_law_393 : decode cL_law 393 = .ok (.iconst 1, 1) := by decide +kernel
end
section
theorem dL_law_394 : decode cL_law 394 = .ok (.iadd, 1) := by decide +kernel
theorem dL_law_395 : decode cL_law 395 = .ok (.iaload, 1) := by decide +kernel
theorem dL_law_396 : decode cL_law 396 = .ok (.aload_n 0, 1) := by decide +kernel
theorem dL_law_397 : decode cL_law 397 = .ok (.iload_n 3, 1) := by decide +kernel
theorem dL_law_398 : decode cL_law 398 = .ok (.iconst 2, 1) := by decide +kernel
theorem dL_law_399 : decode cL_law 399 = .ok (.iadd, 1) := by decide +kernel
theorem dL_law_400 : decode cL_law 400 = .ok (.iaload, 1) := by decide +kernel
theorem dL_law_401 : decode cL_law 401 = .ok (.invokevirtual 57, 3) := by decide +kernel
theorem dL_law_404 : decode cL_law 404 = .ok (.aload_n 2, 1) := by decide +kernel
theorem dL_law_405 : decode cL_law 405 = .ok (.aload_n 0, 1) := by decide +kernel
theorem dL_law_406 : decode cL_law 406 = .ok (.iload_n 3, 1) := by decide +kernel
theorem dL_law_407 : decode cL_law 407 = .ok (.iconst 1, 1) := by decide +kernel
theorem dL_law_408 : decode cL_law 408 = .ok (.iadd, 1) := by decide +kernel
theorem dL_law_409 : decode cL_law 409 = .ok (.iaload, 1) := by decide +kernel
theorem dL_law_410 : decode cL_law 410 = .ok (.aload_n 0, 1) := by decide +kernel
theorem dL_law_411 : decode cL_law 411 = .ok (.iload_n 3, 1) := by decide +kernel
theorem dL_law_412 : decode cL_law 412 = .ok (.iconst 2, 1) := by decide +kernel
theorem dL_law_413 : decode cL_law 413 = .ok (.iadd, 1) := by decide +kernel
theorem dL_law_414 : decode cL_law 414 = .ok (.iaload, 1) := by decide +kernel
theorem dL_law_415 : decode cL_law 415 = .ok (.invokevirtual 60, 3) := by decide +kernel
theorem dL_law_418 : decode cL_law 418 = .ok (.lcmp, 1) := by decide +kernel
theorem dL_law_419 : decode cL_law 419 = .ok (.ifCond .eq 453, 3) := by decide +kernel
theorem dL_law_422 : decode cL_law 422 = .ok (.iconst 0, 1) := by decide +kernel
theorem dL_law_423 : decode cL_law 423 = .ok (.ireturn, 1) := by decide +kernel
theorem dL_law_424 : decode cL_law 424 = .ok (.aload_n 1, 1) := by decide +kernel
theorem dL_law_425 : decode cL_law 425 = .ok (.aload_n 0, 1) := by decide +kernel
theorem dL_law_426 : decode cL_law 426 = .ok (.iload_n 3, 1) := by decide +kernel
theorem dL_law_427 : decode cL_law 427 = .ok (.iconst 1, 1) := by decide +kernel
theorem dL_law_428 : decode cL_law 428 = .ok (.iadd, 1) := by decide +kernel
theorem dL_law_429 : decode cL_law 429 = .ok (.iaload, 1) := by decide +kernel
theorem dL_law_430 : decode cL_law 430 = .ok (.aload_n 0, 1) := by decide +kernel
theorem dL_law_431 : decode cL_law 431 = .ok (.iload_n 3, 1) := by decide +kernel
theorem dL_law_432 : decode cL_law 432 = .ok (.iconst 2, 1) := by decide +kernel
theorem dL_law_433 : decode cL_law 433 = .ok (.iadd, 1) := by decide +kernel
theorem dL_law_434 : decode cL_law 434 = .ok (.iaload, 1) := by decide +kernel
theorem dL_law_435 : decode cL_law 435 = .ok (.invokevirtual 61, 3) := by decide +kernel
theorem dL_law_438 : decode cL_law 438 = .ok (.aload_n 2, 1) := by decide +kernel
theorem dL_law_439 : decode cL_law 439 = .ok (.aload_n 0, 1) := by decide +kernel
theorem dL_law_440 : decode cL_law 440 = .ok (.iload_n 3, 1) := by decide +kernel
theorem dL_law_441 : decode cL_law 441 = .ok (.iconst 1, 1) := by decide +kernel
theorem dL_law_442 : decode cL_law 442 = .ok (.iadd, 1) := by decide +kernel
theorem dL_law_443 : decode cL_law 443 = .ok (.iaload, 1) := by decide +kernel
theorem dL_law_444 : decode cL_law 444 = .ok (.aload_n 0, 1) := by decide +kernel
theorem dL_law_445 : decode cL_law 445 = .ok (.iload_n 3, 1) := by decide +kernel
theorem dL_law_446 : decode cL_law 446 = .ok (.iconst 2, 1) := by decide +kernel
theorem dL_law_447 : decode cL_law 447 = .ok (.iadd, 1) := by decide +kernel
theorem dL_law_448 : decode cL_law 448 = .ok (.iaload, 1) := by decide +kernel
theorem dL_law_449 : decode cL_law 449 = .ok (.invokevirtual 64, 3) := by decide +kernel
theorem dL_law_452 : decode cL_law 452 = .ok (.lcmp, 1) := by decide +kernel
theorem dL_law_453 : decode cL_law 453 = .ok (.ifCond .eq 419, 3) := by decide +kernel
theorem dL_law_456 : decode cL_law 456 = .ok (.iconst 0, 1) := by decide +kernel
theorem dL_law_457 : decode cL_law 457 = .ok (.ireturn, 1) := by decide +kernel
theorem dL_law_458 : decode cL_law 458 = .ok (.aload_n 1, 1) := by decide +kernel
theorem dL_law_459 : decode cL_law 459 = .ok (.aload_n 0, 1) := by decide +kernel
theorem dL_law_460 : decode cL_law 460 = .ok (.iload_n 3, 1) := by decide +kernel
theorem dL_law_461 : decode cL_law 461 = .ok (.iconst 1, 1) := by decide +kernel
theorem dL_law_462 : decode cL_law 462 = .ok (.iadd, 1) := by decide +kernel
theorem dL_law_463 : decode cL_law 463 = .ok (.iaload, 1) := by decide +kernel
theorem dL_law_464 : decode cL_law 464 = .ok (.aload_n 0, 1) := by decide +kernel
theorem dL_law_465 : decode cL_law 465 = .ok (.iload_n 3, 1) := by decide +kernel
theorem dL_law_466 : decode cL_law 466 = .ok (.iconst 2, 1) := by decide +kernel
theorem dL_law_467 : decode cL_law 467 = .ok (.iadd, 1) := by decide +kernel
theorem dL_law_468 : decode cL_law 468 = .ok (.iaload, 1) := by decide +kernel
theorem dL_law_469 : decode cL_law 469 = .ok (.aload_n 0, 1) := by decide +kernel
theorem dL_law_470 : decode cL_law 470 = .ok (.iload_n 3, 1) := by decide +kernel
theorem dL_law_471 : decode cL_law 471 = .ok (.iconst 3, 1) := by decide +kernel
theorem dL_law_472 : decode cL_law 472 = .ok (.iadd, 1) := by decide +kernel
theorem dL_law_473 : decode cL_law 473 = .ok (.iaload, 1) := by decide +kernel
theorem dL_law_474 : decode cL_law 474 = .ok (.invokevirtual 65, 3) := by decide +kernel
theorem dL_law_477 : decode cL_law 477 = .ok (.aload_n 2, 1) := by decide +kernel
theorem dL_law_478 : decode cL_law 478 = .ok (.aload_n 0, 1) := by decide +kernel
theorem dL_law_479 : decode cL_law 479 = .ok (.iload_n 3, 1) := by decide +kernel
theorem dL_law_480 : decode cL_law 480 = .ok (.iconst 1, 1) := by decide +kernel
theorem dL_law_481 : decode cL_law 481 = .ok (.iadd, 1) := by decide +kernel
theorem dL_law_482 : decode cL_law 482 = .ok (.iaload, 1) := by decide +kernel
theorem dL_law_483 : decode cL_law 483 = .ok (.aload_n 0, 1) := by decide +kernel
theorem dL_law_484 : decode cL_law 484 = .ok (.iload_n 3, 1) := by decide +kernel
theorem dL_law_485 : decode cL_law 485 = .ok (.iconst 2, 1) := by decide +kernel
theorem dL_law_486 : decode cL_law 486 = .ok (.iadd, 1) := by decide +kernel
theorem dL_law_487 : decode cL_law 487 = .ok (.iaload, 1) := by decide +kernel
theorem dL_law_488 : decode cL_law 488 = .ok (.aload_n 0, 1) := by decide +kernel
theorem dL_law_489 : decode cL_law 489 = .ok (.iload_n 3, 1) := by decide +kernel
theorem dL_law_490 : decode cL_law 490 = .ok (.iconst 3, 1) := by decide +kernel
theorem dL_law_491 : decode cL_law 491 = .ok (.iadd, 1) := by decide +kernel
theorem dL_law_492 : decode cL_law 492 = .ok (.iaload, 1) := by decide +kernel
theorem dL_law_493 : decode cL_law 493 = .ok (.invokevirtual 68, 3) := by decide +kernel
theorem dL_law_496 : decode cL_law 496 = .ok (.lcmp, 1) := by decide +kernel
theorem dL_law_497 : decode cL_law 497 = .ok (.ifCond .eq 375, 3) := by decide +kernel
theorem dL_law_500 : decode cL_law 500 = .ok (.iconst 0, 1) := by decide +kernel
theorem dL_law_501 : decode cL_law 501 = .ok (.ireturn, 1) := by decide +kernel
theorem dL_law_502 : decode cL_law 502 = .ok (.aload_n 1, 1) := by decide +kernel
theorem dL_law_503 : decode cL_law 503 = .ok (.aload_n 0, 1) := by decide +kernel
theorem dL_law_504 : decode cL_law 504 = .ok (.iload_n 3, 1) := by decide +kernel
theorem dL_law_505 : decode cL_law 505 = .ok (.iconst 1, 1) := by decide +kernel
theorem dL_law_506 : decode cL_law 506 = .ok (.iadd, 1) := by decide +kernel
theorem dL_law_507 : decode cL_law 507 = .ok (.iaload, 1) := by decide +kernel
theorem dL_law_508 : decode cL_law 508 = .ok (.invokevirtual 69, 3) := by decide +kernel
theorem dL_law_511 : decode cL_law 511 = .ok (.aload_n 2, 1) := by decide +kernel
theorem dL_law_512 : decode cL_law 512 = .ok (.aload_n 0, 1) := by decide +kernel
theorem dL_law_513 : decode cL_law 513 = .ok (.iload_n 3, 1) := by decide +kernel
theorem dL_law_514 : decode cL_law 514 = .ok (.iconst 1, 1) := by decide +kernel
theorem dL_law_515 : decode cL_law 515 = .ok (.iadd, 1) := by decide +kernel
theorem dL_law_516 : decode cL_law 516 = .ok (.iaload, 1) := by decide +kernel
theorem dL_law_517 : decode cL_law 517 = .ok (.invokevirtual 72, 3) := by decide +kernel
theorem dL_law_520 : decode cL_law 520 = .ok (.lcmp, 1) := by decide +kernel
theorem dL_law_521 : decode cL_law 521 = .ok (.ifCond .eq 351, 3) := by decide +kernel
theorem dL_law_524 : decode cL_law 524 = .ok (.iconst 0, 1) := by decide +kernel
theorem dL_law_525 : decode cL_law 525 = .ok (.ireturn, 1) := by decide +kernel
theorem dL_law_526 : decode cL_law 526 = .ok (.aload_n 1, 1) := by decide +kernel
theorem dL_law_527 : decode cL_law 527 = .ok (.aload_n 0, 1) := by decide +kernel
theorem dL_law_528 : decode cL_law 528 = .ok (.iload_n 3, 1) := by decide +kernel
theorem dL_law_529 : decode cL_law 529 = .ok (.iconst 1, 1) := by decide +kernel
theorem dL_law_530 : decode cL_law 530 = .ok (.iadd, 1) := by decide +kernel
theorem dL_law_531 : decode cL_law 531 = .ok (.iaload, 1) := by decide +kernel
theorem dL_law_532 : decode cL_law 532 = .ok (.invokevirtual 73, 3) := by decide +kernel
theorem dL_law_535 : decode cL_law 535 = .ok (.aload_n 2, 1) := by decide +kernel
theorem dL_law_536 : decode cL_law 536 = .ok (.aload_n 0, 1) := by decide +kernel
theorem dL_law_537 : decode cL_law 537 = .ok (.iload_n 3, 1) := by decide +kernel
theorem dL_law_538 : decode cL_law 538 = .ok (.iconst 1, 1) := by decide +kernel
theorem dL_law_539 : decode cL_law 539 = .ok (.iadd, 1) := by decide +kernel
theorem dL_law_540 : decode cL_law 540 = .ok (.iaload, 1) := by decide +kernel
theorem dL_law_541 : decode cL_law 541 = .ok (.invokevirtual 76, 3) := by decide +kernel
theorem dL_law_544 : decode cL_law 544 = .ok (.lcmp, 1) := by decide +kernel
theorem dL_law_545 : decode cL_law 545 = .ok (.ifCond .eq 327, 3) := by decide +kernel
theorem dL_law_548 : decode cL_law 548 = .ok (.iconst 0, 1) := by decide +kernel
theorem dL_law_549 : decode cL_law 549 = .ok (.ireturn, 1) := by decide +kernel
theorem dL_law_550 : decode cL_law 550 = .ok (.aload_n 1, 1) := by decide +kernel
theorem dL_law_551 : decode cL_law 551 = .ok (.aload_n 0, 1) := by decide +kernel
theorem dL_law_552 : decode cL_law 552 = .ok (.iload_n 3, 1) := by decide +kernel
theorem dL_law_553 : decode cL_law 553 = .ok (.iconst 1, 1) := by decide +kernel
theorem dL_law_554 : decode cL_law 554 = .ok (.iadd, 1) := by decide +kernel
theorem dL_law_555 : decode cL_law 555 = .ok (.iaload, 1) := by decide +kernel
theorem dL_law_556 : decode cL_law 556 = .ok (.invokevirtual 77, 3) := by decide +kernel
theorem dL_law_559 : decode cL_law 559 = .ok (.aload_n 2, 1) := by decide +kernel
theorem dL_law_560 : decode cL_law 560 = .ok (.aload_n 0, 1) := by decide +kernel
theorem dL_law_561 : decode cL_law 561 = .ok (.iload_n 3, 1) := by decide +kernel
theorem dL_law_562 : decode cL_law 562 = .ok (.iconst 1, 1) := by decide +kernel
theorem dL_law_563 : decode cL_law 563 = .ok (.iadd, 1) := by decide +kernel
theorem dL_law_564 : decode cL_law 564 = .ok (.iaload, 1) := by decide +kernel
theorem dL_law_565 : decode cL_law 565 = .ok (.invokevirtual 80, 3) := by decide +kernel
theorem dL_law_568 : decode cL_law 568 = .ok (.lcmp, 1) := by decide +kernel
theorem dL_law_569 : decode cL_law 569 = .ok (.ifCond .eq 303, 3) := by decide +kernel
theorem dL_law_572 : decode cL_law 572 = .ok (.iconst 0, 1) := by decide +kernel
theorem dL_law_573 : decode cL_law 573 = .ok (.ireturn, 1) := by decide +kernel
theorem dL_law_574 : decode cL_law 574 = .ok (.aload_n 1, 1) := by decide +kernel
theorem dL_law_575 : decode cL_law 575 = .ok (.aload_n 0, 1) := by decide +kernel
theorem dL_law_576 : decode cL_law 576 = .ok (.iload_n 3, 1) := by decide +kernel
theorem dL_law_577 : decode cL_law 577 = .ok (.iconst 1, 1) := by decide +kernel
theorem dL_law_578 : decode cL_law 578 = .ok (.iadd, 1) := by decide +kernel
theorem dL_law_579 : decode cL_law 579 = .ok (.iaload, 1) := by decide +kernel
theorem dL_law_580 : decode cL_law 580 = .ok (.invokevirtual 81, 3) := by decide +kernel
theorem dL_law_583 : decode cL_law 583 = .ok (.aload_n 2, 1) := by decide +kernel
theorem dL_law_584 : decode cL_law 584 = .ok (.aload_n 0, 1) := by decide +kernel
theorem dL_law_585 : decode cL_law 585 = .ok (.iload_n 3, 1) := by decide +kernel
theorem dL_law_586 : decode cL_law 586 = .ok (.iconst 1, 1) := by decide +kernel
theorem dL_law_587 : decode cL_law 587 = .ok (.iadd, 1) := by decide +kernel
theorem dL_law_588 : decode cL_law 588 = .ok (.iaload, 1) := by decide +kernel
theorem dL_law_589 : decode cL_law 589 = .ok (.invokevirtual 84, 3) := by decide +kernel
theorem dL_law_592 : decode cL_law 592 = .ok (.lcmp, 1) := by decide +kernel
theorem dL_law_593 : decode cL_law 593 = .ok (.ifCond .eq 279, 3) := by decide +kernel
theorem dL_law_596 : decode cL_law 596 = .ok (.iconst 0, 1) := by decide +kernel
theorem dL_law_597 : decode cL_law 597 = .ok (.ireturn, 1) := by decide +kernel
theorem dL_law_598 : decode cL_law 598 = .ok (.aload_n 1, 1) := by decide +kernel
theorem dL_law_599 : decode cL_law 599 = .ok (.aload_n 0, 1) := by decide +kernel
theorem dL_law_600 : decode cL_law 600 = .ok (.iload_n 3, 1) := by decide +kernel
theorem dL_law_601 : decode cL_law 601 = .ok (.iconst 1, 1) := by decide +kernel
theorem dL_law_602 : decode cL_law 602 = .ok (.iadd, 1) := by decide +kernel
theorem dL_law_603 : decode cL_law 603 = .ok (.iaload, 1) := by decide +kernel
theorem dL_law_604 : decode cL_law 604 = .ok (.invokevirtual 85, 3) := by decide +kernel
theorem dL_law_607 : decode cL_law 607 = .ok (.aload_n 2, 1) := by decide +kernel
theorem dL_law_608 : decode cL_law 608 = .ok (.aload_n 0, 1) := by decide +kernel
theorem dL_law_609 : decode cL_law 609 = .ok (.iload_n 3, 1) := by decide +kernel
theorem dL_law_610 : decode cL_law 610 = .ok (.iconst 1, 1) := by decide +kernel
theorem dL_law_611 : decode cL_law 611 = .ok (.iadd, 1) := by decide +kernel
theorem dL_law_612 : decode cL_law 612 = .ok (.iaload, 1) := by decide +kernel
theorem dL_law_613 : decode cL_law 613 = .ok (.invokevirtual 88, 3) := by decide +kernel
theorem dL_law_616 : decode cL_law 616 = .ok (.lcmp, 1) := by decide +kernel
theorem dL_law_617 : decode cL_law 617 = .ok (.ifCond .eq 255, 3) := by decide +kernel
theorem dL_law_620 : decode cL_law 620 = .ok (.iconst 0, 1) := by decide +kernel
theorem dL_law_621 : decode cL_law 621 = .ok (.ireturn, 1) := by decide +kernel
theorem dL_law_622 : decode cL_law 622 = .ok (.aload_n 1, 1) := by decide +kernel
theorem dL_law_623 : decode cL_law 623 = .ok (.aload_n 0, 1) := by decide +kernel
theorem dL_law_624 : decode cL_law 624 = .ok (.iload_n 3, 1) := by decide +kernel
theorem dL_law_625 : decode cL_law 625 = .ok (.iconst 1, 1) := by decide +kernel
theorem dL_law_626 : decode cL_law 626 = .ok (.iadd, 1) := by decide +kernel
theorem dL_law_627 : decode cL_law 627 = .ok (.iaload, 1) := by decide +kernel
theorem dL_law_628 : decode cL_law 628 = .ok (.invokevirtual 89, 3) := by decide +kernel
theorem dL_law_631 : decode cL_law 631 = .ok (.aload_n 2, 1) := by decide +kernel
theorem dL_law_632 : decode cL_law 632 = .ok (.aload_n 0, 1) := by decide +kernel
theorem dL_law_633 : decode cL_law 633 = .ok (.iload_n 3, 1) := by decide +kernel
theorem dL_law_634 : decode cL_law 634 = .ok (.iconst 1, 1) := by decide +kernel
theorem dL_law_635 : decode cL_law 635 = .ok (.iadd, 1) := by decide +kernel
theorem dL_law_636 : decode cL_law 636 = .ok (.iaload, 1) := by decide +kernel
theorem dL_law_637 : decode cL_law 637 = .ok (.invokevirtual 92, 3) := by decide +kernel
theorem dL_law_640 : decode cL_law 640 = .ok (.lcmp, 1) := by decide +kernel
theorem dL_law_641 : decode cL_law 641 = .ok (.ifCond .eq 231, 3) := by decide +kernel
theorem dL_law_644 : decode cL_law 644 = .ok (.iconst 0, 1) := by decide +kernel
theorem dL_law_645 : decode cL_law 645 = .ok (.ireturn, 1) := by decide +kernel
theorem dL_law_646 : decode cL_law 646 = .ok (.aload_n 1, 1) := by decide +kernel
theorem dL_law_647 : decode cL_law 647 = .ok (.aload_n 0, 1) := by decide +kernel
theorem dL_law_648 : decode cL_law 648 = .ok (.iload_n 3, 1) := by decide +kernel
theorem dL_law_649 : decode cL_law 649 = .ok (.iconst 1, 1) := by decide +kernel
theorem dL_law_650 : decode cL_law 650 = .ok (.iadd, 1) := by decide +kernel
theorem dL_law_651 : decode cL_law 651 = .ok (.iaload, 1) := by decide +kernel
theorem dL_law_652 : decode cL_law 652 = .ok (.aload_n 0, 1) := by decide +kernel
theorem dL_law_653 : decode cL_law 653 = .ok (.iload_n 3, 1) := by decide +kernel
theorem dL_law_654 : decode cL_law 654 = .ok (.iconst 2, 1) := by decide +kernel
theorem dL_law_655 : decode cL_law 655 = .ok (.iadd, 1) := by decide +kernel
theorem dL_law_656 : decode cL_law 656 = .ok (.iaload, 1) := by decide +kernel
theorem dL_law_657 : decode cL_law 657 = .ok (.invokevirtual 93, 3) := by decide +kernel
theorem dL_law_660 : decode cL_law 660 = .ok (.aload_n 2, 1) := by decide +kernel
theorem dL_law_661 : decode cL_law 661 = .ok (.aload_n 0, 1) := by decide +kernel
theorem dL_law_662 : decode cL_law 662 = .ok (.iload_n 3, 1) := by decide +kernel
theorem dL_law_663 : decode cL_law 663 = .ok (.iconst 1, 1) := by decide +kernel
theorem dL_law_664 : decode cL_law 664 = .ok (.iadd, 1) := by decide +kernel
theorem dL_law_665 : decode cL_law 665 = .ok (.iaload, 1) := by decide +kernel
theorem dL_law_666 : decode cL_law 666 = .ok (.aload_n 0, 1) := by decide +kernel
theorem dL_law_667 : decode cL_law 667 = .ok (.iload_n 3, 1) := by decide +kernel
theorem dL_law_668 : decode cL_law 668 = .ok (.iconst 2, 1) := by decide +kernel
theorem dL_law_669 : decode cL_law 669 = .ok (.iadd, 1) := by decide +kernel
theorem dL_law_670 : decode cL_law 670 = .ok (.iaload, 1) := by decide +kernel
theorem dL_law_671 : decode cL_law 671 = .ok (.invokevirtual 96, 3) := by decide +kernel
theorem dL_law_674 : decode cL_law 674 = .ok (.lcmp, 1) := by decide +kernel
theorem dL_law_675 : decode cL_law 675 = .ok (.ifCond .eq 197, 3) := by decide +kernel
theorem dL_law_678 : decode cL_law 678 = .ok (.iconst 0, 1) := by decide +kernel
theorem dL_law_679 : decode cL_law 679 = .ok (.ireturn, 1) := by decide +kernel
theorem dL_law_680 : decode cL_law 680 = .ok (.aload_n 1, 1) := by decide +kernel
theorem dL_law_681 : decode cL_law 681 = .ok (.aload_n 0, 1) := by decide +kernel
theorem dL_law_682 : decode cL_law 682 = .ok (.iload_n 3, 1) := by decide +kernel
theorem dL_law_683 : decode cL_law 683 = .ok (.iconst 1, 1) := by decide +kernel
theorem dL_law_684 : decode cL_law 684 = .ok (.iadd, 1) := by decide +kernel
theorem dL_law_685 : decode cL_law 685 = .ok (.iaload, 1) := by decide +kernel
theorem dL_law_686 : decode cL_law 686 = .ok (.invokevirtual 97, 3) := by decide +kernel
theorem dL_law_689 : decode cL_law 689 = .ok (.aload_n 2, 1) := by decide +kernel
theorem dL_law_690 : decode cL_law 690 = .ok (.aload_n 0, 1) := by decide +kernel
theorem dL_law_691 : decode cL_law 691 = .ok (.iload_n 3, 1) := by decide +kernel
theorem dL_law_692 : decode cL_law 692 = .ok (.iconst 1, 1) := by decide +kernel
theorem dL_law_693 : decode cL_law 693 = .ok (.iadd, 1) := by decide +kernel
theorem dL_law_694 : decode cL_law 694 = .ok (.iaload, 1) := by decide +kernel
theorem dL_law_695 : decode cL_law 695 = .ok (.invokevirtual 100, 3) := by decide +kernel
theorem dL_law_698 : decode cL_law 698 = .ok (.lcmp, 1) := by decide +kernel
theorem dL_law_699 : decode cL_law 699 = .ok (.ifCond .eq 173, 3) := by decide +kernel
theorem dL_law_702 : decode cL_law 702 = .ok (.iconst 0, 1) := by decide +kernel
theorem dL_law_703 : decode cL_law 703 = .ok (.ireturn, 1) := by decide +kernel
theorem dL_law_704 : decode cL_law 704 = .ok (.aload_n 1, 1) := by decide +kernel
theorem dL_law_705 : decode cL_law 705 = .ok (.aload_n 0, 1) := by decide +kernel
theorem dL_law_706 : decode cL_law 706 = .ok (.iload_n 3, 1) := by decide +kernel
theorem dL_law_707 : decode cL_law 707 = .ok (.iconst 1, 1) := by decide +kernel
theorem dL_law_708 : decode cL_law 708 = .ok (.iadd, 1) := by decide +kernel
theorem dL_law_709 : decode cL_law 709 = .ok (.iaload, 1) := by decide +kernel
theorem dL_law_710 : decode cL_law 710 = .ok (.aload_n 0, 1) := by decide +kernel
theorem dL_law_711 : decode cL_law 711 = .ok (.iload_n 3, 1) := by decide +kernel
theorem dL_law_712 : decode cL_law 712 = .ok (.iconst 2, 1) := by decide +kernel
theorem dL_law_713 : decode cL_law 713 = .ok (.iadd, 1) := by decide +kernel
theorem dL_law_714 : decode cL_law 714 = .ok (.iaload, 1) := by decide +kernel
theorem dL_law_715 : decode cL_law 715 = .ok (.invokevirtual 101, 3) := by decide +kernel
theorem dL_law_718 : decode cL_law 718 = .ok (.aload_n 2, 1) := by decide +kernel
theorem dL_law_719 : decode cL_law 719 = .ok (.aload_n 0, 1) := by decide +kernel
theorem dL_law_720 : decode cL_law 720 = .ok (.iload_n 3, 1) := by decide +kernel
theorem dL_law_721 : decode cL_law 721 = .ok (.iconst 1, 1) := by decide +kernel
theorem dL_law_722 : decode cL_law 722 = .ok (.iadd, 1) := by decide +kernel
theorem dL_law_723 : decode cL_law 723 = .ok (.iaload, 1) := by decide +kernel
theorem dL_law_724 : decode cL_law 724 = .ok (.aload_n 0, 1) := by decide +kernel
theorem dL_law_725 : decode cL_law 725 = .ok (.iload_n 3, 1) := by decide +kernel
theorem dL_law_726 : decode cL_law 726 = .ok (.iconst 2, 1) := by decide +kernel
theorem dL_law_727 : decode cL_law 727 = .ok (.iadd, 1) := by decide +kernel
theorem dL_law_728 : decode cL_law 728 = .ok (.iaload, 1) := by decide +kernel
theorem dL_law_729 : decode cL_law 729 = .ok (.invokevirtual 104, 3) := by decide +kernel
theorem dL_law_732 : decode cL_law 732 = .ok (.lcmp, 1) := by decide +kernel
theorem dL_law_733 : decode cL_law 733 = .ok (.ifCond .eq 139, 3) := by decide +kernel
theorem dL_law_736 : decode cL_law 736 = .ok (.iconst 0, 1) := by decide +kernel
theorem dL_law_737 : decode cL_law 737 = .ok (.ireturn, 1) := by decide +kernel
theorem dL_law_738 : decode cL_law 738 = .ok (.aload_n 1, 1) := by decide +kernel
theorem dL_law_739 : decode cL_law 739 = .ok (.aload_n 0, 1) := by decide +kernel
theorem dL_law_740 : decode cL_law 740 = .ok (.iload_n 3, 1) := by decide +kernel
theorem dL_law_741 : decode cL_law 741 = .ok (.iconst 1, 1) := by decide +kernel
theorem dL_law_742 : decode cL_law 742 = .ok (.iadd, 1) := by decide +kernel
theorem dL_law_743 : decode cL_law 743 = .ok (.iaload, 1) := by decide +kernel
theorem dL_law_744 : decode cL_law 744 = .ok (.aload_n 0, 1) := by decide +kernel
theorem dL_law_745 : decode cL_law 745 = .ok (.iload_n 3, 1) := by decide +kernel
theorem dL_law_746 : decode cL_law 746 = .ok (.iconst 2, 1) := by decide +kernel
theorem dL_law_747 : decode cL_law 747 = .ok (.iadd, 1) := by decide +kernel
theorem dL_law_748 : decode cL_law 748 = .ok (.iaload, 1) := by decide +kernel
theorem dL_law_749 : decode cL_law 749 = .ok (.invokevirtual 105, 3) := by decide +kernel
theorem dL_law_752 : decode cL_law 752 = .ok (.aload_n 2, 1) := by decide +kernel
theorem dL_law_753 : decode cL_law 753 = .ok (.aload_n 0, 1) := by decide +kernel
theorem dL_law_754 : decode cL_law 754 = .ok (.iload_n 3, 1) := by decide +kernel
theorem dL_law_755 : decode cL_law 755 = .ok (.iconst 1, 1) := by decide +kernel
theorem dL_law_756 : decode cL_law 756 = .ok (.iadd, 1) := by decide +kernel
theorem dL_law_757 : decode cL_law 757 = .ok (.iaload, 1) := by decide +kernel
theorem dL_law_758 : decode cL_law 758 = .ok (.aload_n 0, 1) := by decide +kernel
theorem dL_law_759 : decode cL_law 759 = .ok (.iload_n 3, 1) := by decide +kernel
theorem dL_law_760 : decode cL_law 760 = .ok (.iconst 2, 1) := by decide +kernel
theorem dL_law_761 : decode cL_law 761 = .ok (.iadd, 1) := by decide +kernel
theorem dL_law_762 : decode cL_law 762 = .ok (.iaload, 1) := by decide +kernel
theorem dL_law_763 : decode cL_law 763 = .ok (.invokevirtual 108, 3) := by decide +kernel
theorem dL_law_766 : decode cL_law 766 = .ok (.lcmp, 1) := by decide +kernel
theorem dL_law_767 : decode cL_law 767 = .ok (.ifCond .eq 105, 3) := by decide +kernel
theorem dL_law_770 : decode cL_law 770 = .ok (.iconst 0, 1) := by decide +kernel
theorem dL_law_771 : decode cL_law 771 = .ok (.ireturn, 1) := by decide +kernel
theorem dL_law_772 : decode cL_law 772 = .ok (.aload_n 1, 1) := by decide +kernel
theorem dL_law_773 : decode cL_law 773 = .ok (.aload_n 0, 1) := by decide +kernel
theorem dL_law_774 : decode cL_law 774 = .ok (.iload_n 3, 1) := by decide +kernel
theorem dL_law_775 : decode cL_law 775 = .ok (.iconst 1, 1) := by decide +kernel
theorem dL_law_776 : decode cL_law 776 = .ok (.iadd, 1) := by decide +kernel
theorem dL_law_777 : decode cL_law 777 = .ok (.iaload, 1) := by decide +kernel
theorem dL_law_778 : decode cL_law 778 = .ok (.aload_n 0, 1) := by decide +kernel
theorem dL_law_779 : decode cL_law 779 = .ok (.iload_n 3, 1) := by decide +kernel
theorem dL_law_780 : decode cL_law 780 = .ok (.iconst 2, 1) := by decide +kernel
theorem dL_law_781 : decode cL_law 781 = .ok (.iadd, 1) := by decide +kernel
theorem dL_law_782 : decode cL_law 782 = .ok (.iaload, 1) := by decide +kernel
theorem dL_law_783 : decode cL_law 783 = .ok (.invokevirtual 109, 3) := by decide +kernel
theorem dL_law_786 : decode cL_law 786 = .ok (.aload_n 2, 1) := by decide +kernel
theorem dL_law_787 : decode cL_law 787 = .ok (.aload_n 0, 1) := by decide +kernel
theorem dL_law_788 : decode cL_law 788 = .ok (.iload_n 3, 1) := by decide +kernel
theorem dL_law_789 : decode cL_law 789 = .ok (.iconst 1, 1) := by decide +kernel
theorem dL_law_790 : decode cL_law 790 = .ok (.iadd, 1) := by decide +kernel
theorem dL_law_791 : decode cL_law 791 = .ok (.iaload, 1) := by decide +kernel
theorem dL_law_792 : decode cL_law 792 = .ok (.aload_n 0, 1) := by decide +kernel
theorem dL_law_793 : decode cL_law 793 = .ok (.iload_n 3, 1) := by decide +kernel
theorem dL_law_794 : decode cL_law 794 = .ok (.iconst 2, 1) := by decide +kernel
theorem dL_law_795 : decode cL_law 795 = .ok (.iadd, 1) := by decide +kernel
theorem dL_law_796 : decode cL_law 796 = .ok (.iaload, 1) := by decide +kernel
theorem dL_law_797 : decode cL_law 797 = .ok (.invokevirtual 112, 3) := by decide +kernel
theorem dL_law_800 : decode cL_law 800 = .ok (.lcmp, 1) := by decide +kernel
theorem dL_law_801 : decode cL_law 801 = .ok (.ifCond .eq 71, 3) := by decide +kernel
theorem dL_law_804 : decode cL_law 804 = .ok (.iconst 0, 1) := by decide +kernel
theorem dL_law_805 : decode cL_law 805 = .ok (.ireturn, 1) := by decide +kernel
theorem dL_law_806 : decode cL_law 806 = .ok (.aload_n 1, 1) := by decide +kernel
theorem dL_law_807 : decode cL_law 807 = .ok (.aload_n 0, 1) := by decide +kernel
theorem dL_law_808 : decode cL_law 808 = .ok (.iload_n 3, 1) := by decide +kernel
theorem dL_law_809 : decode cL_law 809 = .ok (.iconst 1, 1) := by decide +kernel
theorem dL_law_810 : decode cL_law 810 = .ok (.iadd, 1) := by decide +kernel
theorem dL_law_811 : decode cL_law 811 = .ok (.iaload, 1) := by decide +kernel
theorem dL_law_812 : decode cL_law 812 = .ok (.invokevirtual 113, 3) := by decide +kernel
theorem dL_law_815 : decode cL_law 815 = .ok (.aload_n 2, 1) := by decide +kernel
theorem dL_law_816 : decode cL_law 816 = .ok (.aload_n 0, 1) := by decide +kernel
theorem dL_law_817 : decode cL_law 817 = .ok (.iload_n 3, 1) := by decide +kernel
theorem dL_law_818 : decode cL_law 818 = .ok (.iconst 1, 1) := by decide +kernel
theorem dL_law_819 : decode cL_law 819 = .ok (.iadd, 1) := by decide +kernel
theorem dL_law_820 : decode cL_law 820 = .ok (.iaload, 1) := by decide +kernel
theorem dL_law_821 : decode cL_law 821 = .ok (.invokevirtual 116, 3) := by decide +kernel
theorem dL_law_824 : decode cL_law 824 = .ok (.lcmp, 1) := by decide +kernel
theorem dL_law_825 : decode cL_law 825 = .ok (.ifCond .eq 47, 3) := by decide +kernel
theorem dL_law_828 : decode cL_law 828 = .ok (.iconst 0, 1) := by decide +kernel
theorem dL_law_829 : decode cL_law 829 = .ok (.ireturn, 1) := by decide +kernel
theorem dL_law_830 : decode cL_law 830 = .ok (.aload_n 1, 1) := by decide +kernel
theorem dL_law_831 : decode cL_law 831 = .ok (.invokevirtual 117, 3) := by decide +kernel
theorem dL_law_834 : decode cL_law 834 = .ok (.aload_n 2, 1) := by decide +kernel
theorem dL_law_835 : decode cL_law 835 = .ok (.invokevirtual 120, 3) := by decide +kernel
theorem dL_law_838 : decode cL_law 838 = .ok (.lcmp, 1) := by decide +kernel
theorem dL_law_839 : decode cL_law 839 = .ok (.ifCond .eq 33, 3) := by decide +kernel
theorem dL_law_842 : decode cL_law 842 = .ok (.iconst 0, 1) := by decide +kernel
theorem dL_law_843 : decode cL_law 843 = .ok (.ireturn, 1) := by decide +kernel
theorem dL_law_844 : decode cL_law 844 = .ok (.aload_n 1, 1) := by decide +kernel
theorem dL_law_845 : decode cL_law 845 = .ok (.invokevirtual 121, 3) := by decide +kernel
theorem dL_law_848 : decode cL_law 848 = .ok (.aload_n 2, 1) := by decide +kernel
theorem dL_law_849 : decode cL_law 849 = .ok (.invokevirtual 124, 3) := by decide +kernel
theorem dL_law_852 : decode cL_law 852 = .ok (.lcmp, 1) := by decide +kernel
theorem dL_law_853 : decode cL_law 853 = .ok (.ifCond .eq 19, 3) := by decide +kernel
theorem dL_law_856 : decode cL_law 856 = .ok (.iconst 0, 1) := by decide +kernel
theorem dL_law_857 : decode cL_law 857 = .ok (.ireturn, 1) := by decide +kernel
theorem dL_law_858 : decode cL_law 858 = .ok (.aload_n 1, 1) := by decide +kernel
theorem dL_law_859 : decode cL_law 859 = .ok (.invokevirtual 125, 3) := by decide +kernel
theorem dL_law_862 : decode cL_law 862 = .ok (.aload_n 2, 1) := by decide +kernel
theorem dL_law_863 : decode cL_law 863 = .ok (.invokevirtual 128, 3) := by decide +kernel
theorem dL_law_866 : decode cL_law 866 = .ok (.lcmp, 1) := by decide +kernel
theorem dL_law_867 : decode cL_law 867 = .ok (.ifCond .eq 5, 3) := by decide +kernel
theorem dL_law_870 : decode cL_law 870 = .ok (.iconst 0, 1) := by decide +kernel
theorem dL_law_871 : decode cL_law 871 = .ok (.ireturn, 1) := by decide +kernel
theorem dL_law_872 : decode cL_law 872 = .ok (.iinc 3 4, 3) := by decide +kernel
theorem dL_law_875 : decode cL_law 875 = .ok (.goto (-857), 3) := by decide +kernel
theorem dL_law_878 : decode cL_law 878 = .ok (.iconst 1, 1) := by decide +kernel
theorem dL_law_879 : decode cL_law 879 = .ok (.ireturn, 1) := by decide +kernel
abbrev vwCl : List vw_C := [(RX0, TX0, 5), (RX1, TX1, 3), (RX2, TX2, 2), (RX3, TX3, 7), (RX4, TX4, 13)]
end
section
/-! Rules over the kit: reading calls, writing calls, branches, ends. -/
def PR (G : va_G) (tys : List (ClassId × FieldType)) (w : va_W) (U : State) : Prop := va_P G vwCl w U.heap ∧ va_K G vwCl tys U
/-- a contract of a method that only reads: from the world w it answers r, and the heap is as it was -/
def RdC (l : Launch) (y : MethodName) (ws : List Cond) (rm : Room) (G : va_G) (tys : List (ClassId × FieldType)) (w : va_W) (As : List Value) (r : Value) : Prop := Met l y ws rm (va_Pc As (PR G tys w)) (k2_QcV r) 0 0 (fun _ => False)
/-- what a method that writes starts from -/
def PW (G : va_G) (tys : List (ClassId × FieldType)) (w : va_W) (sz : Nat) (U : State) : Prop := U.heap.size = sz ∧ va_P G vwCl w U.heap ∧ va_K G vwCl tys U ∧ va_D (fun _ => True) w
/-- its end -/
def QW (G : va_G) (w : va_W) (sz : Nat) (post : Option Value → va_W → Prop) : Array Value → State → Outcome → State → Prop := fun _ st oc t => (∃ (v : Option Value) (w1 : va_W), oc = .returned v ∧ post v w1 ∧ va_P G vwCl w1 t.heap ∧ va_D (va_A w sz) w1) ∧ va_F (va_A w sz) st t
/-- a contract of a method that writes in its world w and makes nothing: it answers v, and its world is w1, with post v w1 -/
def WrC (l : Launch) (y : MethodName) (ws : List Cond) (rm : Room) (G : va_G) (tys : List (ClassId × FieldType)) (w : va_W) (As : List Value) (post : Option Value → va_W → Prop) : Prop := ∀ sz : Nat, Met l y ws rm (va_Pc As (PW G tys w sz)) (QW G w sz post) 0 0 (va_A w sz)
theorem PR_blind {G : va_G} {tys : List (ClassId × FieldType)} {w : va_W} {As : List Value} : FrameBlind (va_Pc As (PR G tys w)) := fun a U g mk q => by
  obtain ⟨q0, qP, qK⟩ := q
  exact ⟨q0, qP, va_K.moved (u := U) (U := U.calling g mk a) (Vm.Alike.refl U.vm) qK⟩
theorem PW_blind {G : va_G} {tys : List (ClassId × FieldType)} {w : va_W} {sz : Nat} {As : List Value} : FrameBlind (va_Pc As (PW G tys w sz)) := fun a U g mk q => by
  obtain ⟨q0, qz, qP, qK, qD⟩ := q
  exact ⟨q0, qz, qP, va_K.moved (u := U) (U := U.calling g mk a) (Vm.Alike.refl U.vm) qK, qD⟩
/-- the class's static table, that nobody writes -/
def grN (k : Nat) : Int64 := match k with
  | 0 => 30000
  | 1 => 9999999
  | 2 => 20000
  | 3 => 100000
  | _ => 200000
def ST (tG : Nat) (A : Nat → Prop) (U : State) (H : Heap) : Prop := va_Z "DraftSurvey" "GREATEST" "[J" (.ref tG) A U H ∧ va_T .long tG 5 (fun k => .long (grN k)) A U H
def PG (G : va_G) (tys : List (ClassId × FieldType)) (tG : Nat) (w : va_W) (sz : Nat) (U : State) : Prop := PW G tys w sz U ∧ ST tG (va_A w sz) U U.heap
/-- as WrC, with the static table -/
def WrG (l : Launch) (y : MethodName) (ws : List Cond) (rm : Room) (G : va_G) (tys : List (ClassId × FieldType)) (tG : Nat) (w : va_W) (As : List Value) (post : Option Value → va_W → Prop) : Prop := ∀ sz : Nat, Met l y ws rm (va_Pc As (PG G tys tG w sz)) (QW G w sz post) 0 0 (va_A w sz)
theorem PG_blind {G : va_G} {tys : List (ClassId × FieldType)} {tG : Nat} {w : va_W} {sz : Nat} {As : List Value} : FrameBlind (va_Pc As (PG G tys tG w sz)) := fun a U g mk q => by
  obtain ⟨q0, qW, qZ, qT⟩ := q
  exact ⟨q0, (PW_blind a U g mk ⟨q0, qW⟩).2, va_Z.moved (u := U) (U := U.calling g mk a) (Vm.Alike.refl U.vm) qZ, va_T.moved (u := U) (U := U.calling g mk a) (Vm.Alike.refl U.vm) qT⟩
section BASE
variable {p : Program} {l : Launch} {e : Env} {R : Room} {s : State} {m : MethodId} {args : Array Value} {below : List Frame} {meth : Method} {c : Code} {H : Heap} {locs : List Loc} {cells slots : Nat} {Q : State → Prop}
variable {y : MethodName} {bytes cc : ByteArray} {maxL nL n index : Nat} {ret : Option FieldType} {ws : List Cond} {rm : Room} {Ts : List Cond} {own : String} {b : Addr} {As rest st : List Value} {pc : Nat} {ls : Array Slot} {G : va_G} {tys : List (ClassId × FieldType)} {w : va_W} {r : Value}
theorem rd_callV (S : CallFix p m c cc nL s args Ts own) (hM : RdC l y ws rm G tys w (.ref b :: As) r) (cw : CallW R s args own y.cls index y bytes maxL ret ws rm 0 0 n)
    (hK : va_K G vwCl tys s) (hP : va_P G vwCl w H) (q0 ci : Nat) {fs : List Value} (he : w[q0]? = some (b, .inr (ci, fs))) {q : vw_C} (hc : vwCl[ci]? = some q) (hq : q.1 = y.cls)
    (hn : As.length = n) (hsize : ls.size = nL) (hstack : st = As.reverse ++ .ref b :: rest) (hW : (rest.map fun v => v.category).sum ≤ 8) (hdg : decode cc pc = .ok (.invokevirtual index, 3)) (hf : cells ≤ R.cells ∧ slots ≤ R.slots)
    (kk : W p l e R s m args below meth c H locs cells slots Q (F0 m (pc + 3) ls (r :: rest))) : W p l e R s m args below meth c H locs cells slots Q (F0 m pc ls st) := by
  subst hstack
  obtain ⟨cell, h1, h2, h3⟩ := va_recv hK hP hc he
  exact W.callV (W.runV (C := y.cls) (As := As) (rest := rest) S hM cw ⟨PR_blind, ⟨cell, h1, h2, by rw [← hq]; exact h3⟩, fun U hU hW => ⟨rfl, by rw [hU]; exact hP, va_K.moved hW.alike hK⟩⟩ rfl hn hsize rfl (lv_room hW) hdg hf) kk
theorem rd_callS (S : CallFix p m c cc nL s args Ts own) (hM : RdC l y ws rm G tys w As r) (cw : CallB R s args own index y bytes maxL ret ws rm 0 0 n ∧ (Cond.static y).before args s = true)
    (hK : va_K G vwCl tys s) (hP : va_P G vwCl w H)
    (hn : As.length = n) (hsize : ls.size = nL) (hstack : st = As.reverse ++ rest) (hW : (rest.map fun v => v.category).sum ≤ 8) (hdg : decode cc pc = .ok (.invokestatic index, 3)) (hf : cells ≤ R.cells ∧ slots ≤ R.slots)
    (kk : W p l e R s m args below meth c H locs cells slots Q (F0 m (pc + 3) ls (r :: rest))) : W p l e R s m args below meth c H locs cells slots Q (F0 m pc ls st) := by
  subst hstack
  have hr : va_Run p l e R s m args below meth c H locs cells slots 0 0 (F0 m pc ls (As.reverse ++ rest)) rest (k2_QcV r As.toArray) (fun _ => False) := va_runS (As := As) (rest := rest) S hM cw ⟨PR_blind, fun U hU hW => ⟨rfl, by rw [hU]; exact hP, va_K.moved hW.alike hK⟩⟩ rfl hn hsize rfl (lv_room hW) hdg hf
  exact W.callV hr.run kk
/-- a call of a method that writes, in the caller's own world -/
theorem wr_callV {A0 : Nat → Prop} {H0 : Heap} {post : Option Value → va_W → Prop} (S : CallFix p m c cc nL s args Ts own) (hM : WrC l y ws rm G tys w (.ref b :: As) post) (cw : CallW R s args own y.cls index y bytes maxL ret ws rm 0 0 n)
    (hK : va_K G vwCl tys s) (hP : va_P G vwCl w H) (hD : va_D A0 w) (hS : va_S A0 H0 H locs) (hA : ∀ q, H0.size ≤ q → A0 q) (q0 ci : Nat) {fs : List Value} (he : w[q0]? = some (b, .inr (ci, fs))) {q : vw_C} (hc : vwCl[ci]? = some q) (hq : q.1 = y.cls)
    (hn : As.length = n) (hsize : ls.size = nL) (hstack : st = As.reverse ++ .ref b :: rest) (hW : (rest.map fun v => v.category).sum ≤ 8) (hdg : decode cc pc = .ok (.invokevirtual index, 3)) (hf : cells ≤ R.cells ∧ slots ≤ R.slots)
    (kk : ∀ (v : Option Value) (w1 : va_W) (H1 : Heap) (locs1 : List Loc), post v w1 → va_P G vwCl w1 H1 → va_D A0 w1 → va_S A0 H0 H1 locs1 → W p l e R s m args below meth c H1 locs1 cells slots Q (F0 m (pc + 3) ls (v.toList ++ rest))) : W p l e R s m args below meth c H locs cells slots Q (F0 m pc ls st) := by
  subst hstack
  obtain ⟨cell, h1, h2, h3⟩ := va_recv hK hP hc he
  have hfree : ∀ z, va_A w H.size z → A0 z := by
    intro z h
    rcases h with ⟨k, e1, h⟩ | h
    · exact hD.2 k (z, e1) h
    · exact hA z (Nat.le_trans hS.1 h)
  have hr : va_Run p l e R s m args below meth c H locs cells slots 0 0 (F0 m pc ls (As.reverse ++ .ref b :: rest)) rest (QW G w H.size post (Value.ref b :: As).toArray) (va_A w H.size) :=
    va_runV (C := y.cls) (As := As) (rest := rest) S (hM H.size) cw ⟨PW_blind, ⟨cell, h1, h2, by rw [← hq]; exact h3⟩, fun U hU hW => ⟨rfl, by rw [hU], by rw [hU]; exact hP, va_K.moved hW.alike hK, hD.weaken (fun _ _ _ _ => trivial)⟩⟩ rfl hn hsize rfl (lv_room hW) hdg hf
  intro T hT X
  obtain ⟨v, st₀, t, T', L, h0, X', hL, e1, e2, ⟨⟨v1, w1, hv, hp, hp1, hd1⟩, hz, hk⟩, stp⟩ := hr T hT X
  cases hv
  rw [h0] at hz hk
  obtain ⟨t2, a1, b1⟩ := kk v w1 T'.heap (locs ++ L) hp (by rw [e1]; exact hp1) (hd1.weaken (fun _ _ _ z => hfree _ z))
    ⟨Nat.le_trans hS.1 (by rw [e1]; exact hz), fun z h1 h2 => by rw [e1, hk z (Nat.lt_of_lt_of_le h1 hS.1) (fun x => h2 (hfree z x))]; exact hS.2.1 z h1 h2, fun z hz => by
      rcases List.mem_append.mp hz with h | h
      · exact hS.2.2 z h
      · exact hfree _ (hL z h)⟩ T' rfl X'
  exact ⟨t2, stp t2 a1, b1⟩
/-- the same, of a method that reads the static table -/
theorem wr_callG {tG : Nat} {A0 : Nat → Prop} {H0 : Heap} {post : Option Value → va_W → Prop} (S : CallFix p m c cc nL s args Ts own) (hM : WrG l y ws rm G tys tG w (.ref b :: As) post) (cw : CallW R s args own y.cls index y bytes maxL ret ws rm 0 0 n)
    (hK : va_K G vwCl tys s) (hP : va_P G vwCl w H) (hD : va_D A0 w) (hS : va_S A0 H0 H locs) (hA : ∀ q, H0.size ≤ q → A0 q) (hZ : ST tG A0 s H0) (q0 ci : Nat) {fs : List Value} (he : w[q0]? = some (b, .inr (ci, fs))) {q : vw_C} (hc : vwCl[ci]? = some q) (hq : q.1 = y.cls)
    (hn : As.length = n) (hsize : ls.size = nL) (hstack : st = As.reverse ++ .ref b :: rest) (hW : (rest.map fun v => v.category).sum ≤ 8) (hdg : decode cc pc = .ok (.invokevirtual index, 3)) (hf : cells ≤ R.cells ∧ slots ≤ R.slots)
    (kk : ∀ (v : Option Value) (w1 : va_W) (H1 : Heap) (locs1 : List Loc), post v w1 → va_P G vwCl w1 H1 → va_D A0 w1 → va_S A0 H0 H1 locs1 → W p l e R s m args below meth c H1 locs1 cells slots Q (F0 m (pc + 3) ls (v.toList ++ rest))) : W p l e R s m args below meth c H locs cells slots Q (F0 m pc ls st) := by
  subst hstack
  obtain ⟨cell, h1, h2, h3⟩ := va_recv hK hP hc he
  have hfree : ∀ z, va_A w H.size z → A0 z := by
    intro z h
    rcases h with ⟨k, e1, h⟩ | h
    · exact hD.2 k (z, e1) h
    · exact hA z (Nat.le_trans hS.1 h)
  have hr : va_Run p l e R s m args below meth c H locs cells slots 0 0 (F0 m pc ls (As.reverse ++ .ref b :: rest)) rest (QW G w H.size post (Value.ref b :: As).toArray) (va_A w H.size) :=
    va_runV (C := y.cls) (As := As) (rest := rest) S (hM H.size) cw ⟨PG_blind, ⟨cell, h1, h2, by rw [← hq]; exact h3⟩, fun U hU hW => ⟨rfl, ⟨by rw [hU], by rw [hU]; exact hP, va_K.moved hW.alike hK, hD.weaken (fun _ _ _ _ => trivial)⟩, by
      rw [hU]
      exact ⟨va_Z.moved hW.alike ((hZ.1.kept hS.2.1).narrow hfree), va_T.moved hW.alike ((hZ.2.kept hS.2.1).narrow hfree)⟩⟩⟩ rfl hn hsize rfl (lv_room hW) hdg hf
  intro T hT X
  obtain ⟨v, st₀, t, T', L, h0, X', hL, e1, e2, ⟨⟨v1, w1, hv, hp, hp1, hd1⟩, hz, hk⟩, stp⟩ := hr T hT X
  cases hv
  rw [h0] at hz hk
  obtain ⟨t2, a1, b1⟩ := kk v w1 T'.heap (locs ++ L) hp (by rw [e1]; exact hp1) (hd1.weaken (fun _ _ _ z => hfree _ z))
    ⟨Nat.le_trans hS.1 (by rw [e1]; exact hz), fun z h1 h2 => by rw [e1, hk z (Nat.lt_of_lt_of_le h1 hS.1) (fun x => h2 (hfree z x))]; exact hS.2.1 z h1 h2, fun z hz => by
      rcases List.mem_append.mp hz with h | h
      · exact hS.2.2 z h
      · exact hfree _ (hL z h)⟩ T' rfl X'
  exact ⟨t2, stp t2 a1, b1⟩
theorem rd_lret {v : Int64} (hx : p.tables.exec = Jvm.exec) (hb : c.code = cc) (hr : meth.sig.returnType = some .long) (hlocks : meth.locks = false) (hv : Value.long v = r) (hdg : decode cc pc = .ok (.lreturn, 1)) : W p l e R s m args below meth c s.heap [] cells slots (MQ below (k2_QcV r) args s cells slots (fun _ => False)) (F0 m pc ls [.long v]) := by
  subst hv
  exact W.lret hx hb hr (fun t ht hW => ⟨rfl, ht⟩) (fun _ h => by cases h) hdg hlocks
theorem rd_iret {v : Int32} (hx : p.tables.exec = Jvm.exec) (hb : c.code = cc) (hr : meth.sig.returnType = some .int) (hlocks : meth.locks = false) (hv : Value.int v = r) (hdg : decode cc pc = .ok (.ireturn, 1)) : W p l e R s m args below meth c s.heap [] cells slots (MQ below (k2_QcV r) args s cells slots (fun _ => False)) (F0 m pc ls [.int v]) := by
  subst hv
  exact W.iret hx hb hr (fun t ht hW => ⟨rfl, ht⟩) (fun _ h => by cases h) hdg hlocks
theorem bl_nar {v : Int32} (h : v = 0 ∨ v = 1) : narrow .boolean (.int v) = .int v := by
  rcases h with rfl | rfl <;> rfl
theorem bl_fit {v : Int32} (h : v = 0 ∨ v = 1) : fits .boolean (.int v) = true := by
  rcases h with rfl | rfl <;> rfl
theorem bl_if {P : Prop} [Decidable P] : (if P then (1 : Int32) else 0) = 0 ∨ (if P then (1 : Int32) else 0) = 1 := by
  by_cases h : P <;> simp [h]
theorem rd_zret {v : Int32} (hx : p.tables.exec = Jvm.exec) (hb : c.code = cc) (hr : meth.sig.returnType = some .boolean) (hlocks : meth.locks = false) (h01 : v = 0 ∨ v = 1) (hv : Value.int v = r) (hdg : decode cc pc = .ok (.ireturn, 1)) : W p l e R s m args below meth c s.heap [] cells slots (MQ below (k2_QcV r) args s cells slots (fun _ => False)) (F0 m pc ls [.int v]) := by
  subst hv
  exact W.zret hx hb hr (bl_nar h01) (fun t ht hW => ⟨rfl, ht⟩) (fun _ h => by cases h) hdg hlocks
theorem rd_aret {v : Value} {rt : FieldType} (hx : p.tables.exec = Jvm.exec) (hb : c.code = cc) (hr : meth.sig.returnType = some rt) (hrt : (∃ n, rt = .object n) ∨ ∃ t, rt = .array t) (hva : v = .null ∨ ∃ a, v = .ref a) (hlocks : meth.locks = false) (hv : v = r) (hdg : decode cc pc = .ok (.areturn, 1)) : W p l e R s m args below meth c s.heap [] cells slots (MQ below (k2_QcV r) args s cells slots (fun _ => False)) (F0 m pc ls [v]) := by
  subst hv
  exact W.aret hx hb hr hrt hva (fun t ht hW => ⟨rfl, ht⟩) (fun _ h => by cases h) hdg hlocks
-- ends of writing methods
theorem wr_lret {v : Int64} {A0 : Nat → Prop} {sz : Nat} {w0 w1 : va_W} {post : Option Value → va_W → Prop} (hx : p.tables.exec = Jvm.exec) (hb : c.code = cc) (hr : meth.sig.returnType = some .long) (hlocks : meth.locks = false) (hAe : va_A w0 sz = A0) (hP : va_P G vwCl w1 H) (hD : va_D A0 w1) (hS : va_S A0 s.heap H locs) (hv : post (some (.long v)) w1) (hdg : decode cc pc = .ok (.lreturn, 1)) : W p l e R s m args below meth c H locs cells slots (MQ below (QW G w0 sz post) args s cells slots (va_A w0 sz)) (F0 m pc ls [.long v]) := by
  subst hAe
  exact W.lret hx hb hr (fun t ht hW => ⟨⟨_, w1, rfl, hv, by rw [ht]; exact hP, hD⟩, hS.F ht⟩) hS.2.2 hdg hlocks
theorem wr_iret {v : Int32} {A0 : Nat → Prop} {sz : Nat} {w0 w1 : va_W} {post : Option Value → va_W → Prop} (hx : p.tables.exec = Jvm.exec) (hb : c.code = cc) (hr : meth.sig.returnType = some .int) (hlocks : meth.locks = false) (hAe : va_A w0 sz = A0) (hP : va_P G vwCl w1 H) (hD : va_D A0 w1) (hS : va_S A0 s.heap H locs) (hv : post (some (.int v)) w1) (hdg : decode cc pc = .ok (.ireturn, 1)) : W p l e R s m args below meth c H locs cells slots (MQ below (QW G w0 sz post) args s cells slots (va_A w0 sz)) (F0 m pc ls [.int v]) := by
  subst hAe
  exact W.iret hx hb hr (fun t ht hW => ⟨⟨_, w1, rfl, hv, by rw [ht]; exact hP, hD⟩, hS.F ht⟩) hS.2.2 hdg hlocks
theorem wr_zret {v : Int32} {A0 : Nat → Prop} {sz : Nat} {w0 w1 : va_W} {post : Option Value → va_W → Prop} (hx : p.tables.exec = Jvm.exec) (hb : c.code = cc) (hr : meth.sig.returnType = some .boolean) (hlocks : meth.locks = false) (hAe : va_A w0 sz = A0) (h01 : v = 0 ∨ v = 1) (hP : va_P G vwCl w1 H) (hD : va_D A0 w1) (hS : va_S A0 s.heap H locs) (hv : post (some (.int v)) w1) (hdg : decode cc pc = .ok (.ireturn, 1)) : W p l e R s m args below meth c H locs cells slots (MQ below (QW G w0 sz post) args s cells slots (va_A w0 sz)) (F0 m pc ls [.int v]) := by
  subst hAe
  exact W.zret hx hb hr (bl_nar h01) (fun t ht hW => ⟨⟨_, w1, rfl, hv, by rw [ht]; exact hP, hD⟩, hS.F ht⟩) hS.2.2 hdg hlocks
theorem wr_vret {A0 : Nat → Prop} {sz : Nat} {w0 w1 : va_W} {post : Option Value → va_W → Prop} (hx : p.tables.exec = Jvm.exec) (hb : c.code = cc) (hr : meth.sig.returnType = none) (hlocks : meth.locks = false) (hAe : va_A w0 sz = A0) (hP : va_P G vwCl w1 H) (hD : va_D A0 w1) (hS : va_S A0 s.heap H locs) (hv : post none w1) (hdg : decode cc pc = .ok (.return_, 1)) : W p l e R s m args below meth c H locs cells slots (MQ below (QW G w0 sz post) args s cells slots (va_A w0 sz)) (F0 m pc ls []) := by
  subst hAe
  exact W.vret hx hb hr (fun t ht hW => ⟨⟨_, w1, rfl, hv, by rw [ht]; exact hP, hD⟩, hS.F ht⟩) hS.2.2 hdg hlocks
-- a compare of longs and the branch behind it
theorem lc_lt (hx : p.tables.exec = Jvm.exec) (hb : c.code = cc) {x y : Int64} {off : Int} {tgt : Nat} (d1 : decode cc pc = .ok (.lcmp, 1)) (d2 : decode cc (pc + 1) = .ok (.ifCond .lt off, 3)) (ht : ((pc + 1 : Nat) : Int) + off = (tgt : Int)) (kt : x < y → W p l e R s m args below meth c H locs cells slots Q (F0 m tgt ls rest)) (kf : ¬ x < y → W p l e R s m args below meth c H locs cells slots Q (F0 m (pc + 1 + 3) ls rest)) : W p l e R s m args below meth c H locs cells slots Q (F0 m pc ls (.long y :: .long x :: rest)) :=
  W.lcmp hx hb d1 (lv_if_lt hx hb d2 ht (fun h => kt ((lg_cmp_lt x y).mp h)) (fun h => kf (fun q => h ((lg_cmp_lt x y).mpr q))))
theorem lc_ge (hx : p.tables.exec = Jvm.exec) (hb : c.code = cc) {x y : Int64} {off : Int} {tgt : Nat} (d1 : decode cc pc = .ok (.lcmp, 1)) (d2 : decode cc (pc + 1) = .ok (.ifCond .ge off, 3)) (ht : ((pc + 1 : Nat) : Int) + off = (tgt : Int)) (kt : ¬ x < y → W p l e R s m args below meth c H locs cells slots Q (F0 m tgt ls rest)) (kf : x < y → W p l e R s m args below meth c H locs cells slots Q (F0 m (pc + 1 + 3) ls rest)) : W p l e R s m args below meth c H locs cells slots Q (F0 m pc ls (.long y :: .long x :: rest)) :=
  W.lcmp hx hb d1 (lv_if_ge hx hb d2 ht (fun h => kt (Int64.not_lt.mpr ((lg_cmp_ge x y).mp h))) (fun h => kf (Int64.not_le.mp (fun q => h ((lg_cmp_ge x y).mpr q)))))
theorem lc_gt (hx : p.tables.exec = Jvm.exec) (hb : c.code = cc) {x y : Int64} {off : Int} {tgt : Nat} (d1 : decode cc pc = .ok (.lcmp, 1)) (d2 : decode cc (pc + 1) = .ok (.ifCond .gt off, 3)) (ht : ((pc + 1 : Nat) : Int) + off = (tgt : Int)) (kt : y < x → W p l e R s m args below meth c H locs cells slots Q (F0 m tgt ls rest)) (kf : ¬ y < x → W p l e R s m args below meth c H locs cells slots Q (F0 m (pc + 1 + 3) ls rest)) : W p l e R s m args below meth c H locs cells slots Q (F0 m pc ls (.long y :: .long x :: rest)) :=
  W.lcmp hx hb d1 (lv_if_gt hx hb d2 ht (fun h => kt ((lg_cmp_gt x y).mp h)) (fun h => kf (fun q => h ((lg_cmp_gt x y).mpr q))))
theorem lc_le (hx : p.tables.exec = Jvm.exec) (hb : c.code = cc) {x y : Int64} {off : Int} {tgt : Nat} (d1 : decode cc pc = .ok (.lcmp, 1)) (d2 : decode cc (pc + 1) = .ok (.ifCond .le off, 3)) (ht : ((pc + 1 : Nat) : Int) + off = (tgt : Int)) (kt : ¬ y < x → W p l e R s m args below meth c H locs cells slots Q (F0 m tgt ls rest)) (kf : y < x → W p l e R s m args below meth c H locs cells slots Q (F0 m (pc + 1 + 3) ls rest)) : W p l e R s m args below meth c H locs cells slots Q (F0 m pc ls (.long y :: .long x :: rest)) :=
  W.lcmp hx hb d1 (lv_if_le hx hb d2 ht (fun h => kt (Int64.not_lt.mpr ((lg_cmp_le x y).mp h))) (fun h => kf (Int64.not_le.mp (fun q => h ((lg_cmp_le x y).mpr q)))))
theorem lc_eq (hx : p.tables.exec = Jvm.exec) (hb : c.code = cc) {x y : Int64} {off : Int} {tgt : Nat} (d1 : decode cc pc = .ok (.lcmp, 1)) (d2 : decode cc (pc + 1) = .ok (.ifCond .eq off, 3)) (ht : ((pc + 1 : Nat) : Int) + off = (tgt : Int)) (kt : x = y → W p l e R s m args below meth c H locs cells slots Q (F0 m tgt ls rest)) (kf : ¬ x = y → W p l e R s m args below meth c H locs cells slots Q (F0 m (pc + 1 + 3) ls rest)) : W p l e R s m args below meth c H locs cells slots Q (F0 m pc ls (.long y :: .long x :: rest)) :=
  W.lcmp hx hb d1 (lv_if_eq hx hb d2 ht (fun h => kt ((lg_cmp_eq x y).mp h)) (fun h => kf (fun q => h ((lg_cmp_eq x y).mpr q))))
theorem lc_ne (hx : p.tables.exec = Jvm.exec) (hb : c.code = cc) {x y : Int64} {off : Int} {tgt : Nat} (d1 : decode cc pc = .ok (.lcmp, 1)) (d2 : decode cc (pc + 1) = .ok (.ifCond .ne off, 3)) (ht : ((pc + 1 : Nat) : Int) + off = (tgt : Int)) (kt : ¬ x = y → W p l e R s m args below meth c H locs cells slots Q (F0 m tgt ls rest)) (kf : x = y → W p l e R s m args below meth c H locs cells slots Q (F0 m (pc + 1 + 3) ls rest)) : W p l e R s m args below meth c H locs cells slots Q (F0 m pc ls (.long y :: .long x :: rest)) :=
  W.lcmp hx hb d1 (lv_if_ne hx hb d2 ht (fun h => kt (fun q => h ((lg_cmp_eq x y).mpr q))) (fun h => kf ((lg_cmp_eq x y).mp (Decidable.of_not_not h))))
-- a branch on a truth value
theorem br_beq (hx : p.tables.exec = Jvm.exec) (hb : c.code = cc) {P : Prop} [Decidable P] {off : Int} {tgt : Nat} (hdg : decode cc pc = .ok (.ifCond .eq off, 3)) (ht : (pc : Int) + off = (tgt : Int)) (kt : ¬ P → W p l e R s m args below meth c H locs cells slots Q (F0 m tgt ls rest)) (kf : P → W p l e R s m args below meth c H locs cells slots Q (F0 m (pc + 3) ls rest)) : W p l e R s m args below meth c H locs cells slots Q (F0 m pc ls (.int (if P then 1 else 0) :: rest)) :=
  lv_if_eq hx hb hdg ht (fun h => kt (fun q => by rw [if_pos q] at h; exact absurd h (by decide))) (fun h => kf (Decidable.of_not_not (fun q => h (if_neg q))))
theorem br_bne (hx : p.tables.exec = Jvm.exec) (hb : c.code = cc) {P : Prop} [Decidable P] {off : Int} {tgt : Nat} (hdg : decode cc pc = .ok (.ifCond .ne off, 3)) (ht : (pc : Int) + off = (tgt : Int)) (kt : P → W p l e R s m args below meth c H locs cells slots Q (F0 m tgt ls rest)) (kf : ¬ P → W p l e R s m args below meth c H locs cells slots Q (F0 m (pc + 3) ls rest)) : W p l e R s m args below meth c H locs cells slots Q (F0 m pc ls (.int (if P then 1 else 0) :: rest)) :=
  lv_if_ne hx hb hdg ht (fun h => kt (Decidable.of_not_not (fun q => h (if_neg q)))) (fun h => kf (fun q => h (by rw [if_pos q]; decide)))
-- compares of ints, in < and =
theorem ic_ge (hx : p.tables.exec = Jvm.exec) (hb : c.code = cc) {x y : Int32} {off : Int} {tgt : Nat} (hdg : decode cc pc = .ok (.if_icmp .ge off, 3)) (ht : (pc : Int) + off = (tgt : Int)) (kt : ¬ x < y → W p l e R s m args below meth c H locs cells slots Q (F0 m tgt ls rest)) (kf : x < y → W p l e R s m args below meth c H locs cells slots Q (F0 m (pc + 3) ls rest)) : W p l e R s m args below meth c H locs cells slots Q (F0 m pc ls (.int y :: .int x :: rest)) :=
  lv_icmp_ge hx hb hdg ht (fun h => kt (Int32.not_lt.mpr h)) (fun h => kf (Int32.not_le.mp h))
theorem ic_le (hx : p.tables.exec = Jvm.exec) (hb : c.code = cc) {x y : Int32} {off : Int} {tgt : Nat} (hdg : decode cc pc = .ok (.if_icmp .le off, 3)) (ht : (pc : Int) + off = (tgt : Int)) (kt : ¬ y < x → W p l e R s m args below meth c H locs cells slots Q (F0 m tgt ls rest)) (kf : y < x → W p l e R s m args below meth c H locs cells slots Q (F0 m (pc + 3) ls rest)) : W p l e R s m args below meth c H locs cells slots Q (F0 m pc ls (.int y :: .int x :: rest)) :=
  lv_icmp_le hx hb hdg ht (fun h => kt (Int32.not_lt.mpr h)) (fun h => kf (Int32.not_le.mp h))
theorem ic_if_ge (hx : p.tables.exec = Jvm.exec) (hb : c.code = cc) {x : Int32} {off : Int} {tgt : Nat} (hdg : decode cc pc = .ok (.ifCond .ge off, 3)) (ht : (pc : Int) + off = (tgt : Int)) (kt : ¬ x < 0 → W p l e R s m args below meth c H locs cells slots Q (F0 m tgt ls rest)) (kf : x < 0 → W p l e R s m args below meth c H locs cells slots Q (F0 m (pc + 3) ls rest)) : W p l e R s m args below meth c H locs cells slots Q (F0 m pc ls (.int x :: rest)) :=
  lv_if_ge hx hb hdg ht (fun h => kt (Int32.not_lt.mpr h)) (fun h => kf (Int32.not_le.mp h))
theorem ic_if_le (hx : p.tables.exec = Jvm.exec) (hb : c.code = cc) {x : Int32} {off : Int} {tgt : Nat} (hdg : decode cc pc = .ok (.ifCond .le off, 3)) (ht : (pc : Int) + off = (tgt : Int)) (kt : ¬ 0 < x → W p l e R s m args below meth c H locs cells slots Q (F0 m tgt ls rest)) (kf : 0 < x → W p l e R s m args below meth c H locs cells slots Q (F0 m (pc + 3) ls rest)) : W p l e R s m args below meth c H locs cells slots Q (F0 m pc ls (.int x :: rest)) :=
  lv_if_le hx hb hdg ht (fun h => kt (Int32.not_lt.mpr h)) (fun h => kf (Int32.not_le.mp h))
theorem ic_ne (hx : p.tables.exec = Jvm.exec) (hb : c.code = cc) {x y : Int32} {off : Int} {tgt : Nat} (hdg : decode cc pc = .ok (.if_icmp .ne off, 3)) (ht : (pc : Int) + off = (tgt : Int)) (kt : ¬ x = y → W p l e R s m args below meth c H locs cells slots Q (F0 m tgt ls rest)) (kf : x = y → W p l e R s m args below meth c H locs cells slots Q (F0 m (pc + 3) ls rest)) : W p l e R s m args below meth c H locs cells slots Q (F0 m pc ls (.int y :: .int x :: rest)) :=
  lv_icmp_ne hx hb hdg ht (fun h => kt h) (fun h => kf (Decidable.of_not_not h))
theorem ic_if_ne (hx : p.tables.exec = Jvm.exec) (hb : c.code = cc) {x : Int32} {off : Int} {tgt : Nat} (hdg : decode cc pc = .ok (.ifCond .ne off, 3)) (ht : (pc : Int) + off = (tgt : Int)) (kt : ¬ x = 0 → W p l e R s m args below meth c H locs cells slots Q (F0 m tgt ls rest)) (kf : x = 0 → W p l e R s m args below meth c H locs cells slots Q (F0 m (pc + 3) ls rest)) : W p l e R s m args below meth c H locs cells slots Q (F0 m pc ls (.int x :: rest)) :=
  lv_if_ne hx hb hdg ht (fun h => kt h) (fun h => kf (Decidable.of_not_not h))
-- arrays, by places
theorem ar_l {cA : ClassId} {n k a : Nat} {f : Nat → Int64} {i : Int32} {v : Int64} (hx : p.tables.exec = Jvm.exec) (hb : c.code = cc) (hK : va_K G vwCl tys s) (hP : va_P G vwCl w H) (q0 t0 : Nat) (ha : w[q0]? = some (a, .inl (cA, n, .inr (.inl f)))) (ht : tys[t0]? = some (cA, .long)) (hi : i = nI k) (hk : k < n) (hn : n < 2 ^ 31) (hv : f k = v) (hdg : decode cc pc = .ok (.laload, 1))
    (kk : W p l e R s m args below meth c H locs cells slots Q (F0 m (pc + 1) ls (.long v :: rest))) : W p l e R s m args below meth c H locs cells slots Q (F0 m pc ls (.int i :: .ref a :: rest)) := by
  subst hi; subst hv
  have hc : (nI k).toNatClampNeg = k := nI_clamp (by omega)
  refine va_lald hx hb hK hP q0 t0 ha ht (vp_in_nI hk hn) hdg ?_
  rw [hc]; exact kk
theorem ar_i {cA : ClassId} {n k a : Nat} {f : Nat → Int32} {i : Int32} {v : Int32} (hx : p.tables.exec = Jvm.exec) (hb : c.code = cc) (hK : va_K G vwCl tys s) (hP : va_P G vwCl w H) (q0 t0 : Nat) (ha : w[q0]? = some (a, .inl (cA, n, .inl f))) (ht : tys[t0]? = some (cA, .int)) (hi : i = nI k) (hk : k < n) (hn : n < 2 ^ 31) (hv : f k = v) (hdg : decode cc pc = .ok (.iaload, 1))
    (kk : W p l e R s m args below meth c H locs cells slots Q (F0 m (pc + 1) ls (.int v :: rest))) : W p l e R s m args below meth c H locs cells slots Q (F0 m pc ls (.int i :: .ref a :: rest)) := by
  subst hi; subst hv
  have hc : (nI k).toNatClampNeg = k := nI_clamp (by omega)
  refine va_iald hx hb hK hP q0 t0 ha ht (vp_in_nI hk hn) hdg ?_
  rw [hc]; exact kk
theorem ar_q {cA : ClassId} {E : String} {n k a x : Nat} {f : Nat → Option Nat} {i : Int32} (hx : p.tables.exec = Jvm.exec) (hb : c.code = cc) (hK : va_K G vwCl tys s) (hP : va_P G vwCl w H) (q0 t0 : Nat) (ha : w[q0]? = some (a, .inl (cA, n, .inr (.inr (.inr (.inr f)))))) (ht : tys[t0]? = some (cA, .object E)) (hi : i = nI k) (hk : k < n) (hn : n < 2 ^ 31) (hv : f k = some x) (hdg : decode cc pc = .ok (.aaload, 1))
    (kk : W p l e R s m args below meth c H locs cells slots Q (F0 m (pc + 1) ls (.ref x :: rest))) : W p l e R s m args below meth c H locs cells slots Q (F0 m pc ls (.int i :: .ref a :: rest)) := by
  subst hi
  have hc : (nI k).toNatClampNeg = k := nI_clamp (by omega)
  refine va_aldq hx hb hK hP q0 t0 ha ht (vp_in_nI hk hn) hdg ?_
  rw [hc, hv]; exact kk
theorem as_l {A : Nat → Prop} {H0 : Heap} {cA : ClassId} {n k a : Nat} {f : Nat → Int64} {i : Int32} {x : Int64} (hx : p.tables.exec = Jvm.exec) (hb : c.code = cc) (hK : va_K G vwCl tys s) (hP : va_P G vwCl w H) (hD : va_D A w) (hS : va_S A H0 H locs) (q0 t0 : Nat) (ha : w[q0]? = some (a, .inl (cA, n, .inr (.inl f)))) (ht : tys[t0]? = some (cA, .long)) (hi : i = nI k) (hk : k < n) (hn : n < 2 ^ 31) (hdg : decode cc pc = .ok (.lastore, 1))
    (kk : ∀ (H1 : Heap) (locs1 : List Loc), va_P G vwCl (w.set q0 (a, .inl (cA, n, .inr (.inl (vp_updL f k x))))) H1 → va_D A (w.set q0 (a, .inl (cA, n, .inr (.inl (vp_updL f k x))))) → va_S A H0 H1 locs1 → W p l e R s m args below meth c H1 locs1 cells slots Q (F0 m (pc + 1) ls rest)) : W p l e R s m args below meth c H locs cells slots Q (F0 m pc ls (.long x :: .int i :: .ref a :: rest)) := by
  subst hi
  have hc : (nI k).toNatClampNeg = k := nI_clamp (by omega)
  refine va_last hx hb hK hP hD hS q0 t0 ha ht (vp_in_nI hk hn) hdg (fun H1 locs1 h1 h2 h3 => ?_)
  rw [hc] at h1 h2
  exact kk H1 locs1 h1 h2 h3
theorem as_i {A : Nat → Prop} {H0 : Heap} {cA : ClassId} {n k a : Nat} {f : Nat → Int32} {i : Int32} {x : Int32} (hx : p.tables.exec = Jvm.exec) (hb : c.code = cc) (hK : va_K G vwCl tys s) (hP : va_P G vwCl w H) (hD : va_D A w) (hS : va_S A H0 H locs) (q0 t0 : Nat) (ha : w[q0]? = some (a, .inl (cA, n, .inl f))) (ht : tys[t0]? = some (cA, .int)) (hi : i = nI k) (hk : k < n) (hn : n < 2 ^ 31) (hdg : decode cc pc = .ok (.iastore, 1))
    (kk : ∀ (H1 : Heap) (locs1 : List Loc), va_P G vwCl (w.set q0 (a, .inl (cA, n, .inl (upd f k x)))) H1 → va_D A (w.set q0 (a, .inl (cA, n, .inl (upd f k x)))) → va_S A H0 H1 locs1 → W p l e R s m args below meth c H1 locs1 cells slots Q (F0 m (pc + 1) ls rest)) : W p l e R s m args below meth c H locs cells slots Q (F0 m pc ls (.int x :: .int i :: .ref a :: rest)) := by
  subst hi
  have hc : (nI k).toNatClampNeg = k := nI_clamp (by omega)
  refine va_iast hx hb hK hP hD hS q0 t0 ha ht (vp_in_nI hk hn) hdg (fun H1 locs1 h1 h2 h3 => ?_)
  rw [hc] at h1 h2
  exact kk H1 locs1 h1 h2 h3
/-- another text of the value on top -/
theorem tp_l {x v : Int64} (h : x = v) (kk : W p l e R s m args below meth c H locs cells slots Q (F0 m pc ls (.long v :: rest))) : W p l e R s m args below meth c H locs cells slots Q (F0 m pc ls (.long x :: rest)) := h ▸ kk
theorem tp_i {x v : Int32} (h : x = v) (kk : W p l e R s m args below meth c H locs cells slots Q (F0 m pc ls (.int v :: rest))) : W p l e R s m args below meth c H locs cells slots Q (F0 m pc ls (.int x :: rest)) := h ▸ kk
theorem tp_v {x v : Value} (h : x = v) (kk : W p l e R s m args below meth c H locs cells slots Q (F0 m pc ls (v :: rest))) : W p l e R s m args below meth c H locs cells slots Q (F0 m pc ls (x :: rest)) := h ▸ kk
end BASE
end
section
/-! The state, and what is computed of it. -/
/-- the state: buffer's length and characters, rows and cells of the table, readings, densities, deductions, length, margin -/
abbrev SG : Type := Nat × (Nat → Int32) × Nat × (Nat → Int64) × (Nat → Int64) × (Nat → Int64) × (Nat → Int64) × Int64 × Int64
abbrev g_bl (σ : SG) : Nat := σ.1
abbrev g_bf (σ : SG) : Nat → Int32 := σ.2.1
abbrev g_n (σ : SG) : Nat := σ.2.2.1
abbrev g_tb (σ : SG) : Nat → Int64 := σ.2.2.2.1
abbrev g_rd (σ : SG) : Nat → Int64 := σ.2.2.2.2.1
abbrev g_dn (σ : SG) : Nat → Int64 := σ.2.2.2.2.2.1
abbrev g_dd (σ : SG) : Nat → Int64 := σ.2.2.2.2.2.2.1
abbrev g_len (σ : SG) : Int64 := σ.2.2.2.2.2.2.2.1
abbrev g_mar (σ : SG) : Int64 := σ.2.2.2.2.2.2.2.2
abbrev u_bl (σ : SG) (v : Nat) : SG := (v, σ.2)
abbrev u_bf (σ : SG) (v : Nat → Int32) : SG := (σ.1, v, σ.2.2)
abbrev u_n (σ : SG) (v : Nat) : SG := (σ.1, σ.2.1, v, σ.2.2.2)
abbrev u_tb (σ : SG) (v : Nat → Int64) : SG := (σ.1, σ.2.1, σ.2.2.1, v, σ.2.2.2.2)
abbrev u_rd (σ : SG) (v : Nat → Int64) : SG := (σ.1, σ.2.1, σ.2.2.1, σ.2.2.2.1, v, σ.2.2.2.2.2)
abbrev u_dn (σ : SG) (v : Nat → Int64) : SG := (σ.1, σ.2.1, σ.2.2.1, σ.2.2.2.1, σ.2.2.2.2.1, v, σ.2.2.2.2.2.2)
abbrev u_dd (σ : SG) (v : Nat → Int64) : SG := (σ.1, σ.2.1, σ.2.2.1, σ.2.2.2.1, σ.2.2.2.2.1, σ.2.2.2.2.2.1, v, σ.2.2.2.2.2.2.2)
abbrev u_len (σ : SG) (v : Int64) : SG := (σ.1, σ.2.1, σ.2.2.1, σ.2.2.2.1, σ.2.2.2.2.1, σ.2.2.2.2.2.1, σ.2.2.2.2.2.2.1, v, σ.2.2.2.2.2.2.2.2)
abbrev u_mar (σ : SG) (v : Int64) : SG := (σ.1, σ.2.1, σ.2.2.1, σ.2.2.2.1, σ.2.2.2.2.1, σ.2.2.2.2.2.1, σ.2.2.2.2.2.2.1, σ.2.2.2.2.2.2.2.1, v)
/-- the reader of the class: numbers, place, digits, negative, magnitude -/
abbrev KX : Type := (Nat → Int64) × Int32 × Int32 × Int32 × Int64
abbrev k_nu (κ : KX) : Nat → Int64 := κ.1
abbrev k_pl (κ : KX) : Int32 := κ.2.1
abbrev k_dg (κ : KX) : Int32 := κ.2.2.1
abbrev k_ng (κ : KX) : Int32 := κ.2.2.2.1
abbrev k_mg (κ : KX) : Int64 := κ.2.2.2.2
abbrev v_nu (κ : KX) (v : Nat → Int64) : KX := (v, κ.2)
abbrev v_pl (κ : KX) (v : Int32) : KX := (κ.1, v, κ.2.2)
abbrev v_dg (κ : KX) (v : Int32) : KX := (κ.1, κ.2.1, v, κ.2.2.2)
abbrev v_ng (κ : KX) (v : Int32) : KX := (κ.1, κ.2.1, κ.2.2.1, v, κ.2.2.2.2)
abbrev v_mg (κ : KX) (v : Int64) : KX := (κ.1, κ.2.1, κ.2.2.1, κ.2.2.2.1, v)
/-- the reference's own: read, errorAt, isRow, h -/
abbrev KM : Type := (Nat → Int64) × Int32 × Int32 × Int64
abbrev m_rd (ρ : KM) : Nat → Int64 := ρ.1
abbrev m_er (ρ : KM) : Int32 := ρ.2.1
abbrev m_ir (ρ : KM) : Int32 := ρ.2.2.1
abbrev m_h (ρ : KM) : Int64 := ρ.2.2.2
abbrev x_rd (ρ : KM) (v : Nat → Int64) : KM := (v, ρ.2)
abbrev x_er (ρ : KM) (v : Int32) : KM := (ρ.1, v, ρ.2.2)
abbrev x_ir (ρ : KM) (v : Int32) : KM := (ρ.1, ρ.2.1, v, ρ.2.2.2)
abbrev x_h (ρ : KM) (v : Int64) : KM := (ρ.1, ρ.2.1, ρ.2.2.1, v)
-- the worlds
/-- n places of f from o on -/
def slc (f : Nat → Int64) (o n k : Nat) : Int64 := if k < n then f (o + k) else 0
theorem slc_at {f : Nat → Int64} {o n k : Nat} (h : k < n) : slc f o n k = f (o + k) := if_pos h
theorem slc_in {f : Nat → Int64} {o n k : Nat} (x : Int64) (h : k < n) : vp_updL (slc f o n) k x = slc (vp_updL f (o + k) x) o n := by
  funext i
  unfold vp_updL slc
  by_cases e : i = k
  · subst e; simp [h]
  · simp [e]
theorem slc_out {f : Nat → Int64} {o n i : Nat} (x : Int64) (h : i < o ∨ o + n ≤ i) : slc (vp_updL f i x) o n = slc f o n := by
  funext k
  unfold slc vp_updL
  by_cases hk : k < n
  · simp only [hk, if_true]
    rw [if_neg (by omega)]
  · simp [hk]
abbrev tysC (C : Nat → ClassId) : List (ClassId × FieldType) := [(C 0, .int), (C 1, .long), (C 2, .object "DraftSurvey$Survey")]
def wX (C : Nat → ClassId) (a : Nat → Nat) (σ : SG) (κ : KX) : va_W := [
  (a 0, .inr (3, [.ref (a 1), .int (nI (g_bl σ)), .ref (a 2), .ref (a 4), .ref (a 6), .long (g_len σ), .long (g_mar σ)])),
  (a 1, .inl (C 0, 40, .inl (g_bf σ))),
  (a 2, .inr (0, [.ref (a 3), .int (k_pl κ), .int (k_dg κ), .int (k_ng κ), .long (k_mg κ)])),
  (a 3, .inl (C 1, 5, .inr (.inl (k_nu κ)))),
  (a 4, .inr (2, [.ref (a 5), .int (nI (g_n σ))])),
  (a 5, .inl (C 1, 50, .inr (.inl (g_tb σ)))),
  (a 6, .inl (C 2, 4, .inr (.inr (.inr (.inr (fun k => some (a (7 + 3 * k)))))))),
  (a (7 + 3 * 0), .inr (1, [.ref (a (8 + 3 * 0)), .ref (a (9 + 3 * 0)), .long (g_dn σ 0)])),
  (a (8 + 3 * 0), .inl (C 1, 6, .inr (.inl (slc (g_rd σ) (6 * 0) 6)))),
  (a (9 + 3 * 0), .inl (C 1, 4, .inr (.inl (slc (g_dd σ) (4 * 0) 4)))),
  (a (7 + 3 * 1), .inr (1, [.ref (a (8 + 3 * 1)), .ref (a (9 + 3 * 1)), .long (g_dn σ 1)])),
  (a (8 + 3 * 1), .inl (C 1, 6, .inr (.inl (slc (g_rd σ) (6 * 1) 6)))),
  (a (9 + 3 * 1), .inl (C 1, 4, .inr (.inl (slc (g_dd σ) (4 * 1) 4)))),
  (a (7 + 3 * 2), .inr (1, [.ref (a (8 + 3 * 2)), .ref (a (9 + 3 * 2)), .long (g_dn σ 2)])),
  (a (8 + 3 * 2), .inl (C 1, 6, .inr (.inl (slc (g_rd σ) (6 * 2) 6)))),
  (a (9 + 3 * 2), .inl (C 1, 4, .inr (.inl (slc (g_dd σ) (4 * 2) 4)))),
  (a (7 + 3 * 3), .inr (1, [.ref (a (8 + 3 * 3)), .ref (a (9 + 3 * 3)), .long (g_dn σ 3)])),
  (a (8 + 3 * 3), .inl (C 1, 6, .inr (.inl (slc (g_rd σ) (6 * 3) 6)))),
  (a (9 + 3 * 3), .inl (C 1, 4, .inr (.inl (slc (g_dd σ) (4 * 3) 4))))]
def wM (C : Nat → ClassId) (b : Nat → Nat) (σ : SG) (ρ : KM) : va_W := [
  (b 0, .inr (4, [.int (nI (g_bl σ)), .ref (b 1), .int (nI (g_n σ)), .ref (b 2), .ref (b 3), .ref (b 4), .ref (b 5), .long (g_len σ), .long (g_mar σ), .ref (b 6), .int (m_er ρ), .int (m_ir ρ), .long (m_h ρ)])),
  (b 1, .inl (C 0, 40, .inl (g_bf σ))),
  (b 2, .inl (C 1, 50, .inr (.inl (g_tb σ)))),
  (b 3, .inl (C 1, 24, .inr (.inl (g_rd σ)))),
  (b 4, .inl (C 1, 4, .inr (.inl (g_dn σ)))),
  (b 5, .inl (C 1, 16, .inr (.inl (g_dd σ)))),
  (b 6, .inl (C 1, 5, .inr (.inl (m_rd ρ))))]
section WORLDS
variable {C : Nat → ClassId} {a b : Nat → Nat} {σ : SG} {κ : KX} {ρ : KM}
theorem wX_e0 : (wX C a σ κ)[0]? = some (a 0, .inr (3, [.ref (a 1), .int (nI (g_bl σ)), .ref (a 2), .ref (a 4), .ref (a 6), .long (g_len σ), .long (g_mar σ)])) := rfl
theorem wX_e1 : (wX C a σ κ)[1]? = some (a 1, .inl (C 0, 40, .inl (g_bf σ))) := rfl
theorem wX_e2 : (wX C a σ κ)[2]? = some (a 2, .inr (0, [.ref (a 3), .int (k_pl κ), .int (k_dg κ), .int (k_ng κ), .long (k_mg κ)])) := rfl
theorem wX_e3 : (wX C a σ κ)[3]? = some (a 3, .inl (C 1, 5, .inr (.inl (k_nu κ)))) := rfl
theorem wX_e4 : (wX C a σ κ)[4]? = some (a 4, .inr (2, [.ref (a 5), .int (nI (g_n σ))])) := rfl
theorem wX_e5 : (wX C a σ κ)[5]? = some (a 5, .inl (C 1, 50, .inr (.inl (g_tb σ)))) := rfl
theorem wX_e6 : (wX C a σ κ)[6]? = some (a 6, .inl (C 2, 4, .inr (.inr (.inr (.inr (fun k => some (a (7 + 3 * k)))))))) := rfl
theorem wX_sv {j : Nat} (hj : j < 4) : (wX C a σ κ)[7 + 3 * j]? = some (a (7 + 3 * j), .inr (1, [.ref (a (8 + 3 * j)), .ref (a (9 + 3 * j)), .long (g_dn σ j)])) :=
  match j, hj with
  | 0, _ => rfl
  | 1, _ => rfl
  | 2, _ => rfl
  | 3, _ => rfl
theorem wX_rd {j : Nat} (hj : j < 4) : (wX C a σ κ)[8 + 3 * j]? = some (a (8 + 3 * j), .inl (C 1, 6, .inr (.inl (slc (g_rd σ) (6 * j) 6)))) :=
  match j, hj with
  | 0, _ => rfl
  | 1, _ => rfl
  | 2, _ => rfl
  | 3, _ => rfl
theorem wX_dd {j : Nat} (hj : j < 4) : (wX C a σ κ)[9 + 3 * j]? = some (a (9 + 3 * j), .inl (C 1, 4, .inr (.inl (slc (g_dd σ) (4 * j) 4)))) :=
  match j, hj with
  | 0, _ => rfl
  | 1, _ => rfl
  | 2, _ => rfl
  | 3, _ => rfl
theorem wX_srd {j k : Nat} (hj : j < 4) (hk : k < 6) (x : Int64) : (wX C a σ κ).set (8 + 3 * j) (a (8 + 3 * j), .inl (C 1, 6, .inr (.inl (vp_updL (slc (g_rd σ) (6 * j) 6) k x)))) = wX C a (u_rd σ (vp_updL (g_rd σ) (6 * j + k) x)) κ := by
  rw [slc_in x hk]
  match j, hj with
  | 0, _ => simp only [wX, u_rd, g_rd]; rw [slc_out x (o := 6 * 1) (by omega), slc_out x (o := 6 * 2) (by omega), slc_out x (o := 6 * 3) (by omega)]; rfl
  | 1, _ => simp only [wX, u_rd, g_rd]; rw [slc_out x (o := 6 * 0) (by omega), slc_out x (o := 6 * 2) (by omega), slc_out x (o := 6 * 3) (by omega)]; rfl
  | 2, _ => simp only [wX, u_rd, g_rd]; rw [slc_out x (o := 6 * 0) (by omega), slc_out x (o := 6 * 1) (by omega), slc_out x (o := 6 * 3) (by omega)]; rfl
  | 3, _ => simp only [wX, u_rd, g_rd]; rw [slc_out x (o := 6 * 0) (by omega), slc_out x (o := 6 * 1) (by omega), slc_out x (o := 6 * 2) (by omega)]; rfl
theorem wX_sdd {j k : Nat} (hj : j < 4) (hk : k < 4) (x : Int64) : (wX C a σ κ).set (9 + 3 * j) (a (9 + 3 * j), .inl (C 1, 4, .inr (.inl (vp_updL (slc (g_dd σ) (4 * j) 4) k x)))) = wX C a (u_dd σ (vp_updL (g_dd σ) (4 * j + k) x)) κ := by
  rw [slc_in x hk]
  match j, hj with
  | 0, _ => simp only [wX, u_dd, g_dd]; rw [slc_out x (o := 4 * 1) (by omega), slc_out x (o := 4 * 2) (by omega), slc_out x (o := 4 * 3) (by omega)]; rfl
  | 1, _ => simp only [wX, u_dd, g_dd]; rw [slc_out x (o := 4 * 0) (by omega), slc_out x (o := 4 * 2) (by omega), slc_out x (o := 4 * 3) (by omega)]; rfl
  | 2, _ => simp only [wX, u_dd, g_dd]; rw [slc_out x (o := 4 * 0) (by omega), slc_out x (o := 4 * 1) (by omega), slc_out x (o := 4 * 3) (by omega)]; rfl
  | 3, _ => simp only [wX, u_dd, g_dd]; rw [slc_out x (o := 4 * 0) (by omega), slc_out x (o := 4 * 1) (by omega), slc_out x (o := 4 * 2) (by omega)]; rfl
theorem wX_sdn {j : Nat} (hj : j < 4) (x : Int64) : (wX C a σ κ).set (7 + 3 * j) (a (7 + 3 * j), .inr (1, [.ref (a (8 + 3 * j)), .ref (a (9 + 3 * j)), .long x])) = wX C a (u_dn σ (vp_updL (g_dn σ) j x)) κ :=
  match j, hj with
  | 0, _ => rfl
  | 1, _ => rfl
  | 2, _ => rfl
  | 3, _ => rfl
theorem wM_e0 : (wM C b σ ρ)[0]? = some (b 0, .inr (4, [.int (nI (g_bl σ)), .ref (b 1), .int (nI (g_n σ)), .ref (b 2), .ref (b 3), .ref (b 4), .ref (b 5), .long (g_len σ), .long (g_mar σ), .ref (b 6), .int (m_er ρ), .int (m_ir ρ), .long (m_h ρ)])) := rfl
theorem wM_e1 : (wM C b σ ρ)[1]? = some (b 1, .inl (C 0, 40, .inl (g_bf σ))) := rfl
theorem wM_e2 : (wM C b σ ρ)[2]? = some (b 2, .inl (C 1, 50, .inr (.inl (g_tb σ)))) := rfl
theorem wM_e3 : (wM C b σ ρ)[3]? = some (b 3, .inl (C 1, 24, .inr (.inl (g_rd σ)))) := rfl
theorem wM_e4 : (wM C b σ ρ)[4]? = some (b 4, .inl (C 1, 4, .inr (.inl (g_dn σ)))) := rfl
theorem wM_e5 : (wM C b σ ρ)[5]? = some (b 5, .inl (C 1, 16, .inr (.inl (g_dd σ)))) := rfl
theorem wM_e6 : (wM C b σ ρ)[6]? = some (b 6, .inl (C 1, 5, .inr (.inl (m_rd ρ)))) := rfl
end WORLDS
-- what is computed
abbrev NO_S : Int64 := -9000000000000000001
abbrev NO_I : Int64 := -9000000000000000002
abbrev OOR : Int64 := -9000000000000000003
abbrev INV : Int64 := -9000000000000000004
abbrev NAS : Int64 := -9000000000000000005
abbrev FUL : Int64 := -9000000000000000006
abbrev NCO : Int64 := -9000000000000000007
/-- Math.floorDiv -/
def fd (x y : Int64) : Int64 := if (x ^^^ y) < 0 ∧ ¬ x / y * y = x then x / y - 1 else x / y
/-- the class's quotient -/
def qt (x y : Int64) : Int64 := if y = 0 then 0 else fd x y
def fF (σ : SG) (j : Nat) : Int64 := fd (g_rd σ (6 * j + 0) + g_rd σ (6 * j + 1)) 2
def fM (σ : SG) (j : Nat) : Int64 := fd (g_rd σ (6 * j + 2) + g_rd σ (6 * j + 3)) 2
def fA (σ : SG) (j : Nat) : Int64 := fd (g_rd σ (6 * j + 4) + g_rd σ (6 * j + 5)) 2
def tr (σ : SG) (j : Nat) : Int64 := fA σ j - fF σ j
def df (σ : SG) (j : Nat) : Int64 := fM σ j - fd (fF σ j + fA σ j) 2
def hl_ (σ : SG) (j : Nat) : Int64 := g_rd σ (6 * j + 3) - g_rd σ (6 * j + 2)
def qm (σ : SG) (j : Nat) : Int64 := fd (fF σ j + 6 * fM σ j + fA σ j) 8
def de (σ : SG) (j : Nat) : Int64 := 0 + g_dd σ (4 * j + 0) + g_dd σ (4 * j + 1) + g_dd σ (4 * j + 2) + g_dd σ (4 * j + 3)
abbrev fst_ (σ : SG) : Int64 := g_tb σ (5 * 0 + 0)
abbrev lst_ (σ : SG) : Int64 := g_tb σ (5 * (g_n σ - 1) + 0)
abbrev cov (σ : SG) (d : Int64) : Prop := 0 < g_n σ ∧ ¬ d < fst_ σ ∧ ¬ lst_ σ < d
/-- the first place from i on, of k, where f isn't below d -/
def upf (f : Nat → Int64) (d : Int64) : Nat → Nat → Nat
  | i, 0 => i
  | i, k + 1 => if f i < d then upf f d (i + 1) k else i
/-- the value between row u - 1 and row u -/
def ipl (σ : SG) (p : Nat) (d : Int64) (u : Nat) : Int64 :=
  g_tb σ (5 * (u - 1) + p) + fd ((g_tb σ (5 * u + p) - g_tb σ (5 * (u - 1) + p)) * (d - g_tb σ (5 * (u - 1) + 0))) (g_tb σ (5 * u + 0) - g_tb σ (5 * (u - 1) + 0))
def vaU (σ : SG) (p : Nat) (d : Int64) (u : Nat) : Int64 :=
  if ¬ u < g_n σ then NCO
  else if g_tb σ (5 * u + 0) = d then g_tb σ (5 * u + p)
  else if u = 0 then NCO
  else if g_tb σ (5 * u + 0) - g_tb σ (5 * (u - 1) + 0) = 0 then g_tb σ (5 * (u - 1) + p)
  else ipl σ p d u
def vA (σ : SG) (p : Nat) (d : Int64) : Int64 := vaU σ p d (upf (fun r => g_tb σ (5 * r + 0)) d 0 (g_n σ))
def ldU (σ : SG) (x : Int64) (u : Nat) : Int64 :=
  if ¬ u < g_n σ then NCO
  else if u = 0 then fst_ σ
  else g_tb σ (5 * (u - 1) + 0) - qt (-(x - g_tb σ (5 * (u - 1) + 1)) * (g_tb σ (5 * u + 0) - g_tb σ (5 * (u - 1) + 0))) (g_tb σ (5 * u + 1) - g_tb σ (5 * (u - 1) + 1))
def lD (σ : SG) (x : Int64) : Int64 := ldU σ x (upf (fun r => g_tb σ (5 * r + 1)) x 0 (g_n σ))
def fc (σ : SG) (d t : Int64) : Int64 := qt (t * vA σ 2 d * vA σ 3 d) (100 * g_len σ)
def mxL (x y : Int64) : Int64 := if y < x then x else y
def mnL (x y : Int64) : Int64 := if y < x then y else x
def sc (σ : SG) (d t : Int64) : Int64 := qt (50 * t * t * (vA σ 4 (mnL (d + 500) (lst_ σ)) - vA σ 4 (mxL (d - 500) (fst_ σ)))) (1000 * g_len σ)
def dp (σ : SG) (j : Nat) (h : Int64) : Int64 := fd ((vA σ 1 (qm σ j + h) + fc σ (qm σ j + h) (tr σ j) + sc σ (qm σ j + h) (tr σ j)) * g_dn σ j) 1025
def nw (σ : SG) (j : Nat) (h : Int64) : Int64 := dp σ j h - de σ j
abbrev cmp (σ : SG) (j : Nat) (h : Int64) : Prop := cov σ (qm σ j + h)
abbrev cmm (σ : SG) (j : Nat) : Prop := cmp σ j (-(g_mar σ)) ∧ cmp σ j (g_mar σ)
def li (σ : SG) (j : Nat) : Int64 := mnL (nw σ j (-(g_mar σ))) (nw σ j (g_mar σ))
def he (σ : SG) (j : Nat) : Int64 := mxL (nw σ j (-(g_mar σ))) (nw σ j (g_mar σ))
/-- the best of the first k surveys -/
def hb (σ : SG) : Nat → Option Nat
  | 0 => none
  | k + 1 => if cmp σ k 0 then (match hb σ k with
    | none => some k
    | some i => if nw σ i 0 < nw σ k 0 then some k else some i) else hb σ k
def hbA (o : Option Nat) : Int64 := match o with
  | none => NCO
  | some i => lN i
def hbW (σ : SG) (o : Option Nat) : Int64 := match o with
  | none => 0
  | some i => nw σ i 0
-- the answers
abbrev inS (x : Int32) (n : Int32) : Prop := ¬ x < 0 ∧ x < n
def aTrim (σ : SG) (x : Int32) : Int64 := if inS x 4 then tr σ x.toNatClampNeg else NO_S
def aDefl (σ : SG) (x : Int32) : Int64 := if inS x 4 then df σ x.toNatClampNeg else NO_S
def aHeel (σ : SG) (x : Int32) : Int64 := if inS x 4 then hl_ σ x.toNatClampNeg else NO_S
def aQuar (σ : SG) (x : Int32) : Int64 := if inS x 4 then qm σ x.toNatClampNeg else NO_S
def aRead (σ : SG) (x k : Int32) : Int64 := if inS x 4 then (if inS k 6 then g_rd σ (6 * x.toNatClampNeg + k.toNatClampNeg) else NO_I) else NO_S
def tFirst (σ : SG) (j : Nat) : Int64 := if cmp σ j 0 then fc σ (qm σ j) (tr σ j) else NCO
def tSecond (σ : SG) (j : Nat) : Int64 := if cmp σ j 0 then sc σ (qm σ j) (tr σ j) else NCO
def tDisp (σ : SG) (j : Nat) (h : Int64) : Int64 := if cmp σ j h then dp σ j h else NCO
def tNet (σ : SG) (j : Nat) : Int64 := if cmp σ j 0 then nw σ j 0 else NCO
def tCargo (σ : SG) (i j : Nat) : Int64 := if cmp σ i 0 ∧ cmp σ j 0 then nw σ j 0 - nw σ i 0 else NCO
def tLow (σ : SG) (i j : Nat) : Int64 := if cmm σ i ∧ cmm σ j then li σ j - he σ i else NCO
def tHigh (σ : SG) (i j : Nat) : Int64 := if cmm σ i ∧ cmm σ j then he σ j - li σ i else NCO
def aFirst (σ : SG) (x : Int32) : Int64 := if inS x 4 then tFirst σ x.toNatClampNeg else NO_S
def aSecond (σ : SG) (x : Int32) : Int64 := if inS x 4 then tSecond σ x.toNatClampNeg else NO_S
def aDisp (σ : SG) (x h : Int32) : Int64 := if inS x 4 then (if ¬ h < -1000 ∧ ¬ 1000 < h then tDisp σ x.toNatClampNeg h.toInt64 else OOR) else NO_S
def aNet (σ : SG) (x : Int32) : Int64 := if inS x 4 then tNet σ x.toNatClampNeg else NO_S
def aCargo (σ : SG) (x y : Int32) : Int64 := if inS x 4 ∧ inS y 4 then tCargo σ x.toNatClampNeg y.toNatClampNeg else NO_S
def aLow (σ : SG) (x y : Int32) : Int64 := if inS x 4 ∧ inS y 4 then tLow σ x.toNatClampNeg y.toNatClampNeg else NO_S
def aHigh (σ : SG) (x y : Int32) : Int64 := if inS x 4 ∧ inS y 4 then tHigh σ x.toNatClampNeg y.toNatClampNeg else NO_S
def aDraftFor (σ : SG) (x : Int32) : Int64 := lD σ x.toInt64
def aHeaviest (σ : SG) : Int64 := hbA (hb σ 4)
def aRowDraft (σ : SG) (x : Int32) : Int64 := if ¬ x < 0 ∧ x < nI (g_n σ) then g_tb σ (5 * x.toNatClampNeg + 0) else NO_I
def aValue (σ : SG) (k d : Int32) : Int64 := if inS k 4 then (if cov σ d.toInt64 then vA σ (k.toNatClampNeg + 1) d.toInt64 else NCO) else NO_I
/-- the hash: over f 0 .. f (k - 1) -/
def hsL (f : Nat → Int64) (h : Int64) : Nat → Int64
  | 0 => h
  | k + 1 => 31 * hsL f h k + f k
def hsO (h v : Int64) : Int64 := 31 * h + v
def hsS (σ : SG) (j : Nat) (h : Int64) : Int64 :=
  hsO (hsO (hsO (hsO (hsO (hsO (hsO (hsO (hsO (hsO (hsL (fun k => g_rd σ (6 * j + k)) h 6) (tr σ j)) (df σ j)) (hl_ σ j)) (qm σ j)) (tFirst σ j)) (tSecond σ j)) (tDisp σ j (-500))) (tDisp σ j 0)) (tDisp σ j 500)) (tNet σ j)
def hsT (σ : SG) : Int64 := hsL (g_tb σ) (hsO 1759 (lN (g_n σ))) (5 * g_n σ)
def hsE (σ : SG) (h : Int64) : Int64 := hsO (hsO (hsO (hsO (hsO (hsO h (tCargo σ 0 1)) (tLow σ 0 1)) (tHigh σ 0 1)) (hbA (hb σ 4))) (g_len σ)) (g_mar σ)
def hsB (σ : SG) (h : Int64) : Int64 := hsL (fun k => (g_bf σ k).toInt64) (hsO h (lN (g_bl σ))) (g_bl σ)
def aDigest (σ : SG) : Int64 := hsB σ (hsE σ (hsS σ 3 (hsS σ 2 (hsS σ 1 (hsS σ 0 (hsT σ))))))
-- the reader
def gr (k : Nat) : Int64 := match k with
  | 0 => 30000
  | 1 => 9999999
  | 2 => 20000
  | 3 => 100000
  | _ => 200000
/-- a digit is read -/
def kDig (κ : KX) (d : Int32) : Option KX :=
  if (0 < k_dg κ ∧ k_mg κ = 0) ∨ (¬ k_ng κ = 0 ∧ k_dg κ = 0 ∧ d = 0) then none
  else if gr (k_pl κ).toNatClampNeg < 10 * k_mg κ + d.toInt64 then none
  else some (vp_updL (k_nu κ) (k_pl κ).toNatClampNeg (if k_ng κ = 0 then 10 * k_mg κ + d.toInt64 else -(10 * k_mg κ + d.toInt64)), k_pl κ, k_dg κ + 1, k_ng κ, 10 * k_mg κ + d.toInt64)
def kCom (κ : KX) : Option KX := if k_dg κ = 0 ∨ ¬ k_pl κ < 4 then none else some (k_nu κ, k_pl κ + 1, 0, 0, 0)
def kMin (κ : KX) : Option KX := if ¬ k_pl κ = 3 ∨ ¬ k_ng κ = 0 ∨ 0 < k_dg κ then none else some (k_nu κ, k_pl κ, k_dg κ, 1, k_mg κ)
def kSt (κ : KX) (c : Int32) : Option KX := if c = 44 then kCom κ else if c = 45 then kMin κ else if ¬ c < 48 ∧ ¬ 57 < c then kDig κ (c - 48) else none
/-- the reader over the characters i .. i + k - 1: where it stops, and its state there -/
def kRun (f : Nat → Int32) : Nat → Nat → KX → Nat × KX
  | i, 0, κ => (i, κ)
  | i, k + 1, κ => match kSt κ (f i) with
    | none => (i, κ)
    | some κ1 => kRun f (i + 1) k κ1
def k0 (f : Nat → Int64) : KX := (f, 0, 0, 0, 0)
def rdr (σ : SG) : Nat × KX := kRun (g_bf σ) 0 (g_bl σ) (k0 (fun _ => 0))
abbrev whole_ (σ : SG) : Prop := (rdr σ).1 = g_bl σ ∧ k_pl (rdr σ).2 = 4 ∧ 0 < k_dg (rdr σ).2
abbrev row_ (σ : SG) : Nat → Int64 := k_nu (rdr σ).2
abbrev asc_ (σ : SG) : Prop := g_n σ = 0 ∨ (lst_ σ < row_ σ 0 ∧ ¬ row_ σ 1 < g_tb σ (5 * (g_n σ - 1) + 1))
def aAppend (σ : SG) (c : Int32) : Int64 := if ¬ c < 32 ∧ ¬ 126 < c then (if g_bl σ < 40 then lN (g_bl σ + 1) else FUL) else OOR
def nAppend (σ : SG) (c : Int32) : SG := if ¬ c < 32 ∧ ¬ 126 < c then (if g_bl σ < 40 then u_bl (u_bf σ (upd (g_bf σ) (g_bl σ) c)) (g_bl σ + 1) else σ) else σ
def aError (σ : SG) : Int64 := lN (rdr σ).1
def aAdd (σ : SG) : Int64 := if whole_ σ then (if g_n σ < 10 then (if asc_ σ then lN (g_n σ + 1) else NAS) else FUL) else INV
/-- the first k numbers of the row are put behind the table -/
def putR (t : Nat → Int64) (n : Nat) (f : Nat → Int64) : Nat → (Nat → Int64)
  | 0 => t
  | k + 1 => vp_updL (putR t n f k) (5 * n + k) (f k)
def nAdd (σ : SG) : SG := if whole_ σ then (if g_n σ < 10 then (if asc_ σ then u_bl (u_n (u_tb σ (putR (g_tb σ) (g_n σ) (row_ σ) 5)) (g_n σ + 1)) 0 else σ) else σ) else σ
def aSetL (σ : SG) (x : Int32) : Int64 := if ¬ x < 10000 ∧ ¬ 400000 < x then g_len σ else OOR
def nSetL (σ : SG) (x : Int32) : SG := if ¬ x < 10000 ∧ ¬ 400000 < x then u_len σ x.toInt64 else σ
def aSetM (σ : SG) (x : Int32) : Int64 := if ¬ x < 0 ∧ ¬ 100 < x then g_mar σ else OOR
def nSetM (σ : SG) (x : Int32) : SG := if ¬ x < 0 ∧ ¬ 100 < x then u_mar σ x.toInt64 else σ
def aSetR (σ : SG) (x k d : Int32) : Int64 := if inS x 4 then (if inS k 6 then (if ¬ d < 0 ∧ ¬ 30000 < d then g_rd σ (6 * x.toNatClampNeg + k.toNatClampNeg) else OOR) else NO_I) else NO_S
def nSetR (σ : SG) (x k d : Int32) : SG := if inS x 4 ∧ inS k 6 ∧ ¬ d < 0 ∧ ¬ 30000 < d then u_rd σ (vp_updL (g_rd σ) (6 * x.toNatClampNeg + k.toNatClampNeg) d.toInt64) else σ
def aSetD (σ : SG) (x d : Int32) : Int64 := if inS x 4 then (if ¬ d < 950 ∧ ¬ 1050 < d then g_dn σ x.toNatClampNeg else OOR) else NO_S
def nSetD (σ : SG) (x d : Int32) : SG := if inS x 4 ∧ ¬ d < 950 ∧ ¬ 1050 < d then u_dn σ (vp_updL (g_dn σ) x.toNatClampNeg d.toInt64) else σ
def aSetW (σ : SG) (x k d : Int32) : Int64 := if inS x 4 then (if inS k 4 then (if ¬ d < 0 ∧ ¬ 9999999 < d then g_dd σ (4 * x.toNatClampNeg + k.toNatClampNeg) else OOR) else NO_I) else NO_S
def nSetW (σ : SG) (x k d : Int32) : SG := if inS x 4 ∧ inS k 4 ∧ ¬ d < 0 ∧ ¬ 9999999 < d then u_dd σ (vp_updL (g_dd σ) (4 * x.toNatClampNeg + k.toNatClampNeg) d.toInt64) else σ
abbrev pX (C : Nat → ClassId) (a : Nat → Nat) (r : Int64) (σ : SG) : Option Value → va_W → Prop := fun v w1 => v = some (.long r) ∧ ∃ κ1 : KX, w1 = wX C a σ κ1
abbrev pM (C : Nat → ClassId) (b : Nat → Nat) (r : Int64) (σ : SG) : Option Value → va_W → Prop := fun v w1 => v = some (.long r) ∧ ∃ ρ1 : KM, w1 = wM C b σ ρ1
abbrev pE (v : Option Value) (w : va_W) : Option Value → va_W → Prop := fun v1 w1 => v1 = v ∧ w1 = w
end
