section
-- ===== PART A: goes FIRST, ahead of the names: the tables' words, and 'selects' of the private methods out of them =====
/-- a private method of a class that the tables say can be made, by its rows of tables_1 -/
def lw_okq (q : MethodName × Nat) : Prop := (q.1.cls ≠ "java/lang/invoke/MethodHandle" ∧ q.1.cls ≠ "java/lang/invoke/VarHandle") ∧ Cond.instantiable q.1.cls q.2 ∈ tables_1 ∧ Cond.privateMethod q.1 ∈ tables_1 ∧ Cond.instanceMethod q.1 ∈ tables_1
theorem lw_p0 : lw_okq (⟨"NearPhrases$Page", "goesOn", "(I)Z"⟩, 5) := ⟨⟨by decide +kernel, by decide +kernel⟩, List.mem_of_getElem? (i := 20) (by decide +kernel), List.mem_of_getElem? (i := 303) (by decide +kernel), List.mem_of_getElem? (i := 304) (by decide +kernel)⟩
theorem lw_p1 : lw_okq (⟨"NearPhrases$Page", "beginsSign", "(I)Z"⟩, 5) := ⟨⟨by decide +kernel, by decide +kernel⟩, List.mem_of_getElem? (i := 20) (by decide +kernel), List.mem_of_getElem? (i := 307) (by decide +kernel), List.mem_of_getElem? (i := 308) (by decide +kernel)⟩
theorem lw_p2 : lw_okq (⟨"NearPhrases$Page", "lengthensWord", "()Z"⟩, 5) := ⟨⟨by decide +kernel, by decide +kernel⟩, List.mem_of_getElem? (i := 20) (by decide +kernel), List.mem_of_getElem? (i := 314) (by decide +kernel), List.mem_of_getElem? (i := 315) (by decide +kernel)⟩
theorem lw_p3 : lw_okq (⟨"NearPhrases$Page", "endsSign", "(I)Z"⟩, 5) := ⟨⟨by decide +kernel, by decide +kernel⟩, List.mem_of_getElem? (i := 20) (by decide +kernel), List.mem_of_getElem? (i := 318) (by decide +kernel), List.mem_of_getElem? (i := 319) (by decide +kernel)⟩
theorem lw_p4 : lw_okq (⟨"NearPhrases$Segment", "addGramsOf", "(LNearPhrases$Sign;)V"⟩, 6) := ⟨⟨by decide +kernel, by decide +kernel⟩, List.mem_of_getElem? (i := 48) (by decide +kernel), List.mem_of_getElem? (i := 348) (by decide +kernel), List.mem_of_getElem? (i := 349) (by decide +kernel)⟩
theorem lw_p5 : lw_okq (⟨"NearPhrases$Segment", "insertGram", "(I)V"⟩, 6) := ⟨⟨by decide +kernel, by decide +kernel⟩, List.mem_of_getElem? (i := 48) (by decide +kernel), List.mem_of_getElem? (i := 358) (by decide +kernel), List.mem_of_getElem? (i := 359) (by decide +kernel)⟩
theorem lw_p6 : lw_okq (⟨"NearPhrases", "numberOfSame", "(LNearPhrases$Segment;)I"⟩, 14) := ⟨⟨by decide +kernel, by decide +kernel⟩, List.mem_of_getElem? (i := 12) (by decide +kernel), List.mem_of_getElem? (i := 362) (by decide +kernel), List.mem_of_getElem? (i := 363) (by decide +kernel)⟩
theorem lw_p7 : lw_okq (⟨"NearPhrases", "isKept", "(I)Z"⟩, 14) := ⟨⟨by decide +kernel, by decide +kernel⟩, List.mem_of_getElem? (i := 12) (by decide +kernel), List.mem_of_getElem? (i := 389) (by decide +kernel), List.mem_of_getElem? (i := 390) (by decide +kernel)⟩
theorem lw_p8 : lw_okq (⟨"NearPhrases", "isSignOfKept", "(II)Z"⟩, 14) := ⟨⟨by decide +kernel, by decide +kernel⟩, List.mem_of_getElem? (i := 12) (by decide +kernel), List.mem_of_getElem? (i := 430) (by decide +kernel), List.mem_of_getElem? (i := 431) (by decide +kernel)⟩
theorem lw_p9 : lw_okq (⟨"NearPhrases$Aligner", "leastEdits", "(LNearPhrases$Sign;LNearPhrases$Sign;)I"⟩, 3) := ⟨⟨by decide +kernel, by decide +kernel⟩, List.mem_of_getElem? (i := 118) (by decide +kernel), List.mem_of_getElem? (i := 451) (by decide +kernel), List.mem_of_getElem? (i := 452) (by decide +kernel)⟩
theorem lw_p10 : lw_okq (⟨"NearPhrases$Aligner", "fillBoth", "(LNearPhrases$Segment;LNearPhrases$Segment;I)V"⟩, 3) := ⟨⟨by decide +kernel, by decide +kernel⟩, List.mem_of_getElem? (i := 118) (by decide +kernel), List.mem_of_getElem? (i := 463) (by decide +kernel), List.mem_of_getElem? (i := 464) (by decide +kernel)⟩
theorem lw_p11 : lw_okq (⟨"NearPhrases$Aligner", "costOfBoth", "(LNearPhrases$Sign;LNearPhrases$Sign;I)I"⟩, 3) := ⟨⟨by decide +kernel, by decide +kernel⟩, List.mem_of_getElem? (i := 118) (by decide +kernel), List.mem_of_getElem? (i := 467) (by decide +kernel), List.mem_of_getElem? (i := 468) (by decide +kernel)⟩
theorem lw_p12 : lw_okq (⟨"NearPhrases$Aligner", "fillRest", "(LNearPhrases$Segment;LNearPhrases$Segment;I)V"⟩, 3) := ⟨⟨by decide +kernel, by decide +kernel⟩, List.mem_of_getElem? (i := 118) (by decide +kernel), List.mem_of_getElem? (i := 474) (by decide +kernel), List.mem_of_getElem? (i := 475) (by decide +kernel)⟩
theorem lw_p13 : lw_okq (⟨"NearPhrases$Aligner", "walkSteps", "(LNearPhrases$Segment;LNearPhrases$Segment;ILNearPhrases$Comparison;)V"⟩, 3) := ⟨⟨by decide +kernel, by decide +kernel⟩, List.mem_of_getElem? (i := 118) (by decide +kernel), List.mem_of_getElem? (i := 495) (by decide +kernel), List.mem_of_getElem? (i := 496) (by decide +kernel)⟩
theorem lw_p14 : lw_okq (⟨"NearPhrases", "hasQuestion", "()Z"⟩, 14) := ⟨⟨by decide +kernel, by decide +kernel⟩, List.mem_of_getElem? (i := 12) (by decide +kernel), List.mem_of_getElem? (i := 526) (by decide +kernel), List.mem_of_getElem? (i := 527) (by decide +kernel)⟩
theorem lw_p15 : lw_okq (⟨"NearPhrases", "refreshFindings", "()V"⟩, 14) := ⟨⟨by decide +kernel, by decide +kernel⟩, List.mem_of_getElem? (i := 12) (by decide +kernel), List.mem_of_getElem? (i := 530) (by decide +kernel), List.mem_of_getElem? (i := 531) (by decide +kernel)⟩
def lw_privs_1 : List (MethodName × Nat) := [(⟨"NearPhrases$Page", "goesOn", "(I)Z"⟩, 5), (⟨"NearPhrases$Page", "beginsSign", "(I)Z"⟩, 5), (⟨"NearPhrases$Page", "lengthensWord", "()Z"⟩, 5), (⟨"NearPhrases$Page", "endsSign", "(I)Z"⟩, 5), (⟨"NearPhrases$Segment", "addGramsOf", "(LNearPhrases$Sign;)V"⟩, 6), (⟨"NearPhrases$Segment", "insertGram", "(I)V"⟩, 6), (⟨"NearPhrases", "numberOfSame", "(LNearPhrases$Segment;)I"⟩, 14), (⟨"NearPhrases", "isKept", "(I)Z"⟩, 14), (⟨"NearPhrases", "isSignOfKept", "(II)Z"⟩, 14), (⟨"NearPhrases$Aligner", "leastEdits", "(LNearPhrases$Sign;LNearPhrases$Sign;)I"⟩, 3), (⟨"NearPhrases$Aligner", "fillBoth", "(LNearPhrases$Segment;LNearPhrases$Segment;I)V"⟩, 3), (⟨"NearPhrases$Aligner", "costOfBoth", "(LNearPhrases$Sign;LNearPhrases$Sign;I)I"⟩, 3), (⟨"NearPhrases$Aligner", "fillRest", "(LNearPhrases$Segment;LNearPhrases$Segment;I)V"⟩, 3), (⟨"NearPhrases$Aligner", "walkSteps", "(LNearPhrases$Segment;LNearPhrases$Segment;ILNearPhrases$Comparison;)V"⟩, 3), (⟨"NearPhrases", "hasQuestion", "()Z"⟩, 14), (⟨"NearPhrases", "refreshFindings", "()V"⟩, 14)]
theorem lw_r1 : ∀ q ∈ lw_privs_1, lw_okq q := List.forall_mem_cons.mpr ⟨lw_p0, List.forall_mem_cons.mpr ⟨lw_p1, List.forall_mem_cons.mpr ⟨lw_p2, List.forall_mem_cons.mpr ⟨lw_p3, List.forall_mem_cons.mpr ⟨lw_p4, List.forall_mem_cons.mpr ⟨lw_p5, List.forall_mem_cons.mpr ⟨lw_p6, List.forall_mem_cons.mpr ⟨lw_p7, List.forall_mem_cons.mpr ⟨lw_p8, List.forall_mem_cons.mpr ⟨lw_p9, List.forall_mem_cons.mpr ⟨lw_p10, List.forall_mem_cons.mpr ⟨lw_p11, List.forall_mem_cons.mpr ⟨lw_p12, List.forall_mem_cons.mpr ⟨lw_p13, List.forall_mem_cons.mpr ⟨lw_p14, List.forall_mem_cons.mpr ⟨lw_p15, fun _ h => absurd h List.not_mem_nil⟩⟩⟩⟩⟩⟩⟩⟩⟩⟩⟩⟩⟩⟩⟩⟩
theorem lw_p16 : lw_okq (⟨"NearPhrases$Findings", "insertMatch", "(I)V"⟩, 7) := ⟨⟨by decide +kernel, by decide +kernel⟩, List.mem_of_getElem? (i := 196) (by decide +kernel), List.mem_of_getElem? (i := 547) (by decide +kernel), List.mem_of_getElem? (i := 548) (by decide +kernel)⟩
theorem lw_p17 : lw_okq (⟨"NearPhrases$Findings", "cover", "(LNearPhrases$Comparison;)V"⟩, 7) := ⟨⟨by decide +kernel, by decide +kernel⟩, List.mem_of_getElem? (i := 196) (by decide +kernel), List.mem_of_getElem? (i := 555) (by decide +kernel), List.mem_of_getElem? (i := 556) (by decide +kernel)⟩
theorem lw_p18 : lw_okq (⟨"NearPhrases", "tellQuestion", "(I)I"⟩, 14) := ⟨⟨by decide +kernel, by decide +kernel⟩, List.mem_of_getElem? (i := 12) (by decide +kernel), List.mem_of_getElem? (i := 577) (by decide +kernel), List.mem_of_getElem? (i := 578) (by decide +kernel)⟩
theorem lw_p19 : lw_okq (⟨"NearPhrases$Findings", "countCovered", "()I"⟩, 7) := ⟨⟨by decide +kernel, by decide +kernel⟩, List.mem_of_getElem? (i := 196) (by decide +kernel), List.mem_of_getElem? (i := 585) (by decide +kernel), List.mem_of_getElem? (i := 586) (by decide +kernel)⟩
theorem lw_p20 : lw_okq (⟨"NearPhrases", "mixSegments", "(J)J"⟩, 14) := ⟨⟨by decide +kernel, by decide +kernel⟩, List.mem_of_getElem? (i := 12) (by decide +kernel), List.mem_of_getElem? (i := 602) (by decide +kernel), List.mem_of_getElem? (i := 603) (by decide +kernel)⟩
theorem lw_p21 : lw_okq (⟨"NearPhrases", "mixPairs", "(J)J"⟩, 14) := ⟨⟨by decide +kernel, by decide +kernel⟩, List.mem_of_getElem? (i := 12) (by decide +kernel), List.mem_of_getElem? (i := 610) (by decide +kernel), List.mem_of_getElem? (i := 611) (by decide +kernel)⟩
theorem lw_p22 : lw_okq (⟨"NearPhrases", "mixFindings", "(J)J"⟩, 14) := ⟨⟨by decide +kernel, by decide +kernel⟩, List.mem_of_getElem? (i := 12) (by decide +kernel), List.mem_of_getElem? (i := 614) (by decide +kernel), List.mem_of_getElem? (i := 615) (by decide +kernel)⟩
theorem lw_p23 : lw_okq (⟨"NearPhrasesModel", "readPage", "()I"⟩, 31) := ⟨⟨by decide +kernel, by decide +kernel⟩, List.mem_of_getElem? (i := 619) (by decide +kernel), List.mem_of_getElem? (i := 734) (by decide +kernel), List.mem_of_getElem? (i := 735) (by decide +kernel)⟩
theorem lw_p24 : lw_okq (⟨"NearPhrasesModel", "takes", "(I)Z"⟩, 31) := ⟨⟨by decide +kernel, by decide +kernel⟩, List.mem_of_getElem? (i := 619) (by decide +kernel), List.mem_of_getElem? (i := 738) (by decide +kernel), List.mem_of_getElem? (i := 739) (by decide +kernel)⟩
theorem lw_p25 : lw_okq (⟨"NearPhrasesModel", "begins", "(I)Z"⟩, 31) := ⟨⟨by decide +kernel, by decide +kernel⟩, List.mem_of_getElem? (i := 619) (by decide +kernel), List.mem_of_getElem? (i := 742) (by decide +kernel), List.mem_of_getElem? (i := 743) (by decide +kernel)⟩
theorem lw_p26 : lw_okq (⟨"NearPhrasesModel", "takesLetter", "(I)Z"⟩, 31) := ⟨⟨by decide +kernel, by decide +kernel⟩, List.mem_of_getElem? (i := 619) (by decide +kernel), List.mem_of_getElem? (i := 746) (by decide +kernel), List.mem_of_getElem? (i := 747) (by decide +kernel)⟩
theorem lw_p27 : lw_okq (⟨"NearPhrasesModel", "isSegment", "()Z"⟩, 31) := ⟨⟨by decide +kernel, by decide +kernel⟩, List.mem_of_getElem? (i := 619) (by decide +kernel), List.mem_of_getElem? (i := 754) (by decide +kernel), List.mem_of_getElem? (i := 755) (by decide +kernel)⟩
theorem lw_p28 : lw_okq (⟨"NearPhrasesModel", "areSame", "(II)Z"⟩, 31) := ⟨⟨by decide +kernel, by decide +kernel⟩, List.mem_of_getElem? (i := 619) (by decide +kernel), List.mem_of_getElem? (i := 758) (by decide +kernel), List.mem_of_getElem? (i := 759) (by decide +kernel)⟩
theorem lw_p29 : lw_okq (⟨"NearPhrasesModel", "isSameSign", "(II)Z"⟩, 31) := ⟨⟨by decide +kernel, by decide +kernel⟩, List.mem_of_getElem? (i := 619) (by decide +kernel), List.mem_of_getElem? (i := 762) (by decide +kernel), List.mem_of_getElem? (i := 763) (by decide +kernel)⟩
theorem lw_p30 : lw_okq (⟨"NearPhrasesModel", "copy", "(II)V"⟩, 31) := ⟨⟨by decide +kernel, by decide +kernel⟩, List.mem_of_getElem? (i := 619) (by decide +kernel), List.mem_of_getElem? (i := 766) (by decide +kernel), List.mem_of_getElem? (i := 767) (by decide +kernel)⟩
theorem lw_p31 : lw_okq (⟨"NearPhrasesModel", "isKept", "(I)Z"⟩, 31) := ⟨⟨by decide +kernel, by decide +kernel⟩, List.mem_of_getElem? (i := 619) (by decide +kernel), List.mem_of_getElem? (i := 774) (by decide +kernel), List.mem_of_getElem? (i := 775) (by decide +kernel)⟩
def lw_privs_2 : List (MethodName × Nat) := [(⟨"NearPhrases$Findings", "insertMatch", "(I)V"⟩, 7), (⟨"NearPhrases$Findings", "cover", "(LNearPhrases$Comparison;)V"⟩, 7), (⟨"NearPhrases", "tellQuestion", "(I)I"⟩, 14), (⟨"NearPhrases$Findings", "countCovered", "()I"⟩, 7), (⟨"NearPhrases", "mixSegments", "(J)J"⟩, 14), (⟨"NearPhrases", "mixPairs", "(J)J"⟩, 14), (⟨"NearPhrases", "mixFindings", "(J)J"⟩, 14), (⟨"NearPhrasesModel", "readPage", "()I"⟩, 31), (⟨"NearPhrasesModel", "takes", "(I)Z"⟩, 31), (⟨"NearPhrasesModel", "begins", "(I)Z"⟩, 31), (⟨"NearPhrasesModel", "takesLetter", "(I)Z"⟩, 31), (⟨"NearPhrasesModel", "isSegment", "()Z"⟩, 31), (⟨"NearPhrasesModel", "areSame", "(II)Z"⟩, 31), (⟨"NearPhrasesModel", "isSameSign", "(II)Z"⟩, 31), (⟨"NearPhrasesModel", "copy", "(II)V"⟩, 31), (⟨"NearPhrasesModel", "isKept", "(I)Z"⟩, 31)]
theorem lw_r2 : ∀ q ∈ lw_privs_2, lw_okq q := List.forall_mem_cons.mpr ⟨lw_p16, List.forall_mem_cons.mpr ⟨lw_p17, List.forall_mem_cons.mpr ⟨lw_p18, List.forall_mem_cons.mpr ⟨lw_p19, List.forall_mem_cons.mpr ⟨lw_p20, List.forall_mem_cons.mpr ⟨lw_p21, List.forall_mem_cons.mpr ⟨lw_p22, List.forall_mem_cons.mpr ⟨lw_p23, List.forall_mem_cons.mpr ⟨lw_p24, List.forall_mem_cons.mpr ⟨lw_p25, List.forall_mem_cons.mpr ⟨lw_p26, List.forall_mem_cons.mpr ⟨lw_p27, List.forall_mem_cons.mpr ⟨lw_p28, List.forall_mem_cons.mpr ⟨lw_p29, List.forall_mem_cons.mpr ⟨lw_p30, List.forall_mem_cons.mpr ⟨lw_p31, fun _ h => absurd h List.not_mem_nil⟩⟩⟩⟩⟩⟩⟩⟩⟩⟩⟩⟩⟩⟩⟩⟩
theorem lw_p32 : lw_okq (⟨"NearPhrasesModel", "segmentNow", "(II)I"⟩, 31) := ⟨⟨by decide +kernel, by decide +kernel⟩, List.mem_of_getElem? (i := 619) (by decide +kernel), List.mem_of_getElem? (i := 794) (by decide +kernel), List.mem_of_getElem? (i := 795) (by decide +kernel)⟩
theorem lw_p33 : lw_okq (⟨"NearPhrasesModel", "wordsOf", "(I)I"⟩, 31) := ⟨⟨by decide +kernel, by decide +kernel⟩, List.mem_of_getElem? (i := 619) (by decide +kernel), List.mem_of_getElem? (i := 798) (by decide +kernel), List.mem_of_getElem? (i := 799) (by decide +kernel)⟩
theorem lw_p34 : lw_okq (⟨"NearPhrasesModel", "isWord", "(I)Z"⟩, 31) := ⟨⟨by decide +kernel, by decide +kernel⟩, List.mem_of_getElem? (i := 619) (by decide +kernel), List.mem_of_getElem? (i := 802) (by decide +kernel), List.mem_of_getElem? (i := 803) (by decide +kernel)⟩
theorem lw_p35 : lw_okq (⟨"NearPhrasesModel", "tagsOf", "(I)I"⟩, 31) := ⟨⟨by decide +kernel, by decide +kernel⟩, List.mem_of_getElem? (i := 619) (by decide +kernel), List.mem_of_getElem? (i := 806) (by decide +kernel), List.mem_of_getElem? (i := 807) (by decide +kernel)⟩
theorem lw_p36 : lw_okq (⟨"NearPhrasesModel", "gramsOf", "(I)I"⟩, 31) := ⟨⟨by decide +kernel, by decide +kernel⟩, List.mem_of_getElem? (i := 619) (by decide +kernel), List.mem_of_getElem? (i := 810) (by decide +kernel), List.mem_of_getElem? (i := 811) (by decide +kernel)⟩
theorem lw_p37 : lw_okq (⟨"NearPhrasesModel", "costAll", "(I)I"⟩, 31) := ⟨⟨by decide +kernel, by decide +kernel⟩, List.mem_of_getElem? (i := 619) (by decide +kernel), List.mem_of_getElem? (i := 814) (by decide +kernel), List.mem_of_getElem? (i := 815) (by decide +kernel)⟩
theorem lw_p38 : lw_okq (⟨"NearPhrasesModel", "costOf", "(I)I"⟩, 31) := ⟨⟨by decide +kernel, by decide +kernel⟩, List.mem_of_getElem? (i := 619) (by decide +kernel), List.mem_of_getElem? (i := 818) (by decide +kernel), List.mem_of_getElem? (i := 819) (by decide +kernel)⟩
theorem lw_p39 : lw_okq (⟨"NearPhrasesModel", "isSign", "(II)Z"⟩, 31) := ⟨⟨by decide +kernel, by decide +kernel⟩, List.mem_of_getElem? (i := 619) (by decide +kernel), List.mem_of_getElem? (i := 826) (by decide +kernel), List.mem_of_getElem? (i := 827) (by decide +kernel)⟩
theorem lw_p40 : lw_okq (⟨"NearPhrasesModel", "signNow", "(II)I"⟩, 31) := ⟨⟨by decide +kernel, by decide +kernel⟩, List.mem_of_getElem? (i := 619) (by decide +kernel), List.mem_of_getElem? (i := 830) (by decide +kernel), List.mem_of_getElem? (i := 831) (by decide +kernel)⟩
theorem lw_p41 : lw_okq (⟨"NearPhrasesModel", "alikeNow", "(II)I"⟩, 31) := ⟨⟨by decide +kernel, by decide +kernel⟩, List.mem_of_getElem? (i := 619) (by decide +kernel), List.mem_of_getElem? (i := 838) (by decide +kernel), List.mem_of_getElem? (i := 839) (by decide +kernel)⟩
theorem lw_p42 : lw_okq (⟨"NearPhrasesModel", "changes", "(II)I"⟩, 31) := ⟨⟨by decide +kernel, by decide +kernel⟩, List.mem_of_getElem? (i := 619) (by decide +kernel), List.mem_of_getElem? (i := 842) (by decide +kernel), List.mem_of_getElem? (i := 843) (by decide +kernel)⟩
theorem lw_p43 : lw_okq (⟨"NearPhrasesModel", "twoNow", "(III)I"⟩, 31) := ⟨⟨by decide +kernel, by decide +kernel⟩, List.mem_of_getElem? (i := 619) (by decide +kernel), List.mem_of_getElem? (i := 853) (by decide +kernel), List.mem_of_getElem? (i := 854) (by decide +kernel)⟩
theorem lw_p44 : lw_okq (⟨"NearPhrasesModel", "farOf", "(II)I"⟩, 31) := ⟨⟨by decide +kernel, by decide +kernel⟩, List.mem_of_getElem? (i := 619) (by decide +kernel), List.mem_of_getElem? (i := 857) (by decide +kernel), List.mem_of_getElem? (i := 858) (by decide +kernel)⟩
theorem lw_p45 : lw_okq (⟨"NearPhrasesModel", "layPay", "(II)V"⟩, 31) := ⟨⟨by decide +kernel, by decide +kernel⟩, List.mem_of_getElem? (i := 619) (by decide +kernel), List.mem_of_getElem? (i := 861) (by decide +kernel), List.mem_of_getElem? (i := 862) (by decide +kernel)⟩
theorem lw_p46 : lw_okq (⟨"NearPhrasesModel", "bothCost", "(II)I"⟩, 31) := ⟨⟨by decide +kernel, by decide +kernel⟩, List.mem_of_getElem? (i := 619) (by decide +kernel), List.mem_of_getElem? (i := 866) (by decide +kernel), List.mem_of_getElem? (i := 867) (by decide +kernel)⟩
theorem lw_p47 : lw_okq (⟨"NearPhrasesModel", "allOf", "(II)I"⟩, 31) := ⟨⟨by decide +kernel, by decide +kernel⟩, List.mem_of_getElem? (i := 619) (by decide +kernel), List.mem_of_getElem? (i := 870) (by decide +kernel), List.mem_of_getElem? (i := 871) (by decide +kernel)⟩
def lw_privs_3 : List (MethodName × Nat) := [(⟨"NearPhrasesModel", "segmentNow", "(II)I"⟩, 31), (⟨"NearPhrasesModel", "wordsOf", "(I)I"⟩, 31), (⟨"NearPhrasesModel", "isWord", "(I)Z"⟩, 31), (⟨"NearPhrasesModel", "tagsOf", "(I)I"⟩, 31), (⟨"NearPhrasesModel", "gramsOf", "(I)I"⟩, 31), (⟨"NearPhrasesModel", "costAll", "(I)I"⟩, 31), (⟨"NearPhrasesModel", "costOf", "(I)I"⟩, 31), (⟨"NearPhrasesModel", "isSign", "(II)Z"⟩, 31), (⟨"NearPhrasesModel", "signNow", "(II)I"⟩, 31), (⟨"NearPhrasesModel", "alikeNow", "(II)I"⟩, 31), (⟨"NearPhrasesModel", "changes", "(II)I"⟩, 31), (⟨"NearPhrasesModel", "twoNow", "(III)I"⟩, 31), (⟨"NearPhrasesModel", "farOf", "(II)I"⟩, 31), (⟨"NearPhrasesModel", "layPay", "(II)V"⟩, 31), (⟨"NearPhrasesModel", "bothCost", "(II)I"⟩, 31), (⟨"NearPhrasesModel", "allOf", "(II)I"⟩, 31)]
theorem lw_r3 : ∀ q ∈ lw_privs_3, lw_okq q := List.forall_mem_cons.mpr ⟨lw_p32, List.forall_mem_cons.mpr ⟨lw_p33, List.forall_mem_cons.mpr ⟨lw_p34, List.forall_mem_cons.mpr ⟨lw_p35, List.forall_mem_cons.mpr ⟨lw_p36, List.forall_mem_cons.mpr ⟨lw_p37, List.forall_mem_cons.mpr ⟨lw_p38, List.forall_mem_cons.mpr ⟨lw_p39, List.forall_mem_cons.mpr ⟨lw_p40, List.forall_mem_cons.mpr ⟨lw_p41, List.forall_mem_cons.mpr ⟨lw_p42, List.forall_mem_cons.mpr ⟨lw_p43, List.forall_mem_cons.mpr ⟨lw_p44, List.forall_mem_cons.mpr ⟨lw_p45, List.forall_mem_cons.mpr ⟨lw_p46, List.forall_mem_cons.mpr ⟨lw_p47, fun _ h => absurd h List.not_mem_nil⟩⟩⟩⟩⟩⟩⟩⟩⟩⟩⟩⟩⟩⟩⟩⟩
theorem lw_p48 : lw_okq (⟨"NearPhrasesModel", "scoreOf", "(II)I"⟩, 31) := ⟨⟨by decide +kernel, by decide +kernel⟩, List.mem_of_getElem? (i := 619) (by decide +kernel), List.mem_of_getElem? (i := 874) (by decide +kernel), List.mem_of_getElem? (i := 875) (by decide +kernel)⟩
theorem lw_p49 : lw_okq (⟨"NearPhrasesModel", "sharedOf", "(II)I"⟩, 31) := ⟨⟨by decide +kernel, by decide +kernel⟩, List.mem_of_getElem? (i := 619) (by decide +kernel), List.mem_of_getElem? (i := 878) (by decide +kernel), List.mem_of_getElem? (i := 879) (by decide +kernel)⟩
theorem lw_p50 : lw_okq (⟨"NearPhrasesModel", "layGrams", "(I)V"⟩, 31) := ⟨⟨by decide +kernel, by decide +kernel⟩, List.mem_of_getElem? (i := 619) (by decide +kernel), List.mem_of_getElem? (i := 882) (by decide +kernel), List.mem_of_getElem? (i := 883) (by decide +kernel)⟩
theorem lw_p51 : lw_okq (⟨"NearPhrasesModel", "gramAt", "(II)I"⟩, 31) := ⟨⟨by decide +kernel, by decide +kernel⟩, List.mem_of_getElem? (i := 619) (by decide +kernel), List.mem_of_getElem? (i := 886) (by decide +kernel), List.mem_of_getElem? (i := 887) (by decide +kernel)⟩
theorem lw_p52 : lw_okq (⟨"NearPhrasesModel", "stepsOf", "(II)I"⟩, 31) := ⟨⟨by decide +kernel, by decide +kernel⟩, List.mem_of_getElem? (i := 619) (by decide +kernel), List.mem_of_getElem? (i := 893) (by decide +kernel), List.mem_of_getElem? (i := 894) (by decide +kernel)⟩
theorem lw_p53 : lw_okq (⟨"NearPhrasesModel", "laySteps", "(II)V"⟩, 31) := ⟨⟨by decide +kernel, by decide +kernel⟩, List.mem_of_getElem? (i := 619) (by decide +kernel), List.mem_of_getElem? (i := 897) (by decide +kernel), List.mem_of_getElem? (i := 898) (by decide +kernel)⟩
theorem lw_p54 : lw_okq (⟨"NearPhrasesModel", "putStep", "(IIII)V"⟩, 31) := ⟨⟨by decide +kernel, by decide +kernel⟩, List.mem_of_getElem? (i := 619) (by decide +kernel), List.mem_of_getElem? (i := 901) (by decide +kernel), List.mem_of_getElem? (i := 902) (by decide +kernel)⟩
theorem lw_p55 : lw_okq (⟨"NearPhrasesModel", "nearNow", "(II)I"⟩, 31) := ⟨⟨by decide +kernel, by decide +kernel⟩, List.mem_of_getElem? (i := 619) (by decide +kernel), List.mem_of_getElem? (i := 916) (by decide +kernel), List.mem_of_getElem? (i := 917) (by decide +kernel)⟩
theorem lw_p56 : lw_okq (⟨"NearPhrasesModel", "roomOf", "(I)I"⟩, 31) := ⟨⟨by decide +kernel, by decide +kernel⟩, List.mem_of_getElem? (i := 619) (by decide +kernel), List.mem_of_getElem? (i := 920) (by decide +kernel), List.mem_of_getElem? (i := 921) (by decide +kernel)⟩
theorem lw_p57 : lw_okq (⟨"NearPhrasesModel", "canByLengths", "(I)Z"⟩, 31) := ⟨⟨by decide +kernel, by decide +kernel⟩, List.mem_of_getElem? (i := 619) (by decide +kernel), List.mem_of_getElem? (i := 924) (by decide +kernel), List.mem_of_getElem? (i := 925) (by decide +kernel)⟩
theorem lw_p58 : lw_okq (⟨"NearPhrasesModel", "canByGrams", "(I)Z"⟩, 31) := ⟨⟨by decide +kernel, by decide +kernel⟩, List.mem_of_getElem? (i := 619) (by decide +kernel), List.mem_of_getElem? (i := 934) (by decide +kernel), List.mem_of_getElem? (i := 935) (by decide +kernel)⟩
theorem lw_p59 : lw_okq (⟨"NearPhrasesModel", "isMatch", "(I)Z"⟩, 31) := ⟨⟨by decide +kernel, by decide +kernel⟩, List.mem_of_getElem? (i := 619) (by decide +kernel), List.mem_of_getElem? (i := 938) (by decide +kernel), List.mem_of_getElem? (i := 939) (by decide +kernel)⟩
theorem lw_p60 : lw_okq (⟨"NearPhrasesModel", "tagSteps", "(I)I"⟩, 31) := ⟨⟨by decide +kernel, by decide +kernel⟩, List.mem_of_getElem? (i := 619) (by decide +kernel), List.mem_of_getElem? (i := 942) (by decide +kernel), List.mem_of_getElem? (i := 943) (by decide +kernel)⟩
theorem lw_p61 : lw_okq (⟨"NearPhrasesModel", "layRanks", "()V"⟩, 31) := ⟨⟨by decide +kernel, by decide +kernel⟩, List.mem_of_getElem? (i := 619) (by decide +kernel), List.mem_of_getElem? (i := 954) (by decide +kernel), List.mem_of_getElem? (i := 955) (by decide +kernel)⟩
theorem lw_p62 : lw_okq (⟨"NearPhrasesModel", "isAhead", "(II)Z"⟩, 31) := ⟨⟨by decide +kernel, by decide +kernel⟩, List.mem_of_getElem? (i := 619) (by decide +kernel), List.mem_of_getElem? (i := 958) (by decide +kernel), List.mem_of_getElem? (i := 959) (by decide +kernel)⟩
theorem lw_p63 : lw_okq (⟨"NearPhrasesModel", "questionNow", "(I)I"⟩, 31) := ⟨⟨by decide +kernel, by decide +kernel⟩, List.mem_of_getElem? (i := 619) (by decide +kernel), List.mem_of_getElem? (i := 966) (by decide +kernel), List.mem_of_getElem? (i := 967) (by decide +kernel)⟩
def lw_privs_4 : List (MethodName × Nat) := [(⟨"NearPhrasesModel", "scoreOf", "(II)I"⟩, 31), (⟨"NearPhrasesModel", "sharedOf", "(II)I"⟩, 31), (⟨"NearPhrasesModel", "layGrams", "(I)V"⟩, 31), (⟨"NearPhrasesModel", "gramAt", "(II)I"⟩, 31), (⟨"NearPhrasesModel", "stepsOf", "(II)I"⟩, 31), (⟨"NearPhrasesModel", "laySteps", "(II)V"⟩, 31), (⟨"NearPhrasesModel", "putStep", "(IIII)V"⟩, 31), (⟨"NearPhrasesModel", "nearNow", "(II)I"⟩, 31), (⟨"NearPhrasesModel", "roomOf", "(I)I"⟩, 31), (⟨"NearPhrasesModel", "canByLengths", "(I)Z"⟩, 31), (⟨"NearPhrasesModel", "canByGrams", "(I)Z"⟩, 31), (⟨"NearPhrasesModel", "isMatch", "(I)Z"⟩, 31), (⟨"NearPhrasesModel", "tagSteps", "(I)I"⟩, 31), (⟨"NearPhrasesModel", "layRanks", "()V"⟩, 31), (⟨"NearPhrasesModel", "isAhead", "(II)Z"⟩, 31), (⟨"NearPhrasesModel", "questionNow", "(I)I"⟩, 31)]
theorem lw_r4 : ∀ q ∈ lw_privs_4, lw_okq q := List.forall_mem_cons.mpr ⟨lw_p48, List.forall_mem_cons.mpr ⟨lw_p49, List.forall_mem_cons.mpr ⟨lw_p50, List.forall_mem_cons.mpr ⟨lw_p51, List.forall_mem_cons.mpr ⟨lw_p52, List.forall_mem_cons.mpr ⟨lw_p53, List.forall_mem_cons.mpr ⟨lw_p54, List.forall_mem_cons.mpr ⟨lw_p55, List.forall_mem_cons.mpr ⟨lw_p56, List.forall_mem_cons.mpr ⟨lw_p57, List.forall_mem_cons.mpr ⟨lw_p58, List.forall_mem_cons.mpr ⟨lw_p59, List.forall_mem_cons.mpr ⟨lw_p60, List.forall_mem_cons.mpr ⟨lw_p61, List.forall_mem_cons.mpr ⟨lw_p62, List.forall_mem_cons.mpr ⟨lw_p63, fun _ h => absurd h List.not_mem_nil⟩⟩⟩⟩⟩⟩⟩⟩⟩⟩⟩⟩⟩⟩⟩⟩
theorem lw_p64 : lw_okq (⟨"NearPhrasesModel", "matchesMany", "()I"⟩, 31) := ⟨⟨by decide +kernel, by decide +kernel⟩, List.mem_of_getElem? (i := 619) (by decide +kernel), List.mem_of_getElem? (i := 970) (by decide +kernel), List.mem_of_getElem? (i := 971) (by decide +kernel)⟩
theorem lw_p65 : lw_okq (⟨"NearPhrasesModel", "canMany", "(ZZ)I"⟩, 31) := ⟨⟨by decide +kernel, by decide +kernel⟩, List.mem_of_getElem? (i := 619) (by decide +kernel), List.mem_of_getElem? (i := 974) (by decide +kernel), List.mem_of_getElem? (i := 975) (by decide +kernel)⟩
theorem lw_p66 : lw_okq (⟨"NearPhrasesModel", "coveredMany", "()I"⟩, 31) := ⟨⟨by decide +kernel, by decide +kernel⟩, List.mem_of_getElem? (i := 619) (by decide +kernel), List.mem_of_getElem? (i := 978) (by decide +kernel), List.mem_of_getElem? (i := 979) (by decide +kernel)⟩
theorem lw_p67 : lw_okq (⟨"NearPhrasesModel", "layCovered", "()V"⟩, 31) := ⟨⟨by decide +kernel, by decide +kernel⟩, List.mem_of_getElem? (i := 619) (by decide +kernel), List.mem_of_getElem? (i := 982) (by decide +kernel), List.mem_of_getElem? (i := 983) (by decide +kernel)⟩
theorem lw_p68 : lw_okq (⟨"NearPhrasesModel", "howMany", "(I)I"⟩, 31) := ⟨⟨by decide +kernel, by decide +kernel⟩, List.mem_of_getElem? (i := 619) (by decide +kernel), List.mem_of_getElem? (i := 994) (by decide +kernel), List.mem_of_getElem? (i := 995) (by decide +kernel)⟩
theorem lw_p69 : lw_okq (⟨"NearPhrasesModel", "gramsAll", "()I"⟩, 31) := ⟨⟨by decide +kernel, by decide +kernel⟩, List.mem_of_getElem? (i := 619) (by decide +kernel), List.mem_of_getElem? (i := 998) (by decide +kernel), List.mem_of_getElem? (i := 999) (by decide +kernel)⟩
theorem lw_p70 : lw_okq (⟨"NearPhrasesModel", "mix", "(J)V"⟩, 31) := ⟨⟨by decide +kernel, by decide +kernel⟩, List.mem_of_getElem? (i := 619) (by decide +kernel), List.mem_of_getElem? (i := 1007) (by decide +kernel), List.mem_of_getElem? (i := 1008) (by decide +kernel)⟩
theorem lw_p71 : lw_okq (⟨"NearPhrasesModel", "mixQuestion", "()V"⟩, 31) := ⟨⟨by decide +kernel, by decide +kernel⟩, List.mem_of_getElem? (i := 619) (by decide +kernel), List.mem_of_getElem? (i := 1012) (by decide +kernel), List.mem_of_getElem? (i := 1013) (by decide +kernel)⟩
def lw_privs_5 : List (MethodName × Nat) := [(⟨"NearPhrasesModel", "matchesMany", "()I"⟩, 31), (⟨"NearPhrasesModel", "canMany", "(ZZ)I"⟩, 31), (⟨"NearPhrasesModel", "coveredMany", "()I"⟩, 31), (⟨"NearPhrasesModel", "layCovered", "()V"⟩, 31), (⟨"NearPhrasesModel", "howMany", "(I)I"⟩, 31), (⟨"NearPhrasesModel", "gramsAll", "()I"⟩, 31), (⟨"NearPhrasesModel", "mix", "(J)V"⟩, 31), (⟨"NearPhrasesModel", "mixQuestion", "()V"⟩, 31)]
theorem lw_r5 : ∀ q ∈ lw_privs_5, lw_okq q := List.forall_mem_cons.mpr ⟨lw_p64, List.forall_mem_cons.mpr ⟨lw_p65, List.forall_mem_cons.mpr ⟨lw_p66, List.forall_mem_cons.mpr ⟨lw_p67, List.forall_mem_cons.mpr ⟨lw_p68, List.forall_mem_cons.mpr ⟨lw_p69, List.forall_mem_cons.mpr ⟨lw_p70, List.forall_mem_cons.mpr ⟨lw_p71, fun _ h => absurd h List.not_mem_nil⟩⟩⟩⟩⟩⟩⟩⟩
def lw_privs : List (MethodName × Nat) := lw_privs_1 ++ (lw_privs_2 ++ (lw_privs_3 ++ (lw_privs_4 ++ (lw_privs_5))))
def lw_tbl : List Cond := k2_sels lw_privs ++ tables_1
theorem lw_privs_ok : ∀ q ∈ lw_privs, lw_okq q := by
  show ∀ q ∈ lw_privs_1 ++ (lw_privs_2 ++ (lw_privs_3 ++ (lw_privs_4 ++ (lw_privs_5)))), lw_okq q
  exact List.forall_mem_append.mpr ⟨lw_r1, List.forall_mem_append.mpr ⟨lw_r2, List.forall_mem_append.mpr ⟨lw_r3, List.forall_mem_append.mpr ⟨lw_r4, lw_r5⟩⟩⟩⟩
end
section
def RX0 : String := "NearPhrases$Aligner"
def TX0 : u_T := fun k => match k with
  | 0 => ("NearPhrases$Aligner", "both", "[[I", true)
  | 1 => ("NearPhrases$Aligner", "rest", "[[I", true)
  | _ => ("NearPhrases$Aligner", "edits", "[I", true)
def tyX0 : Nat → FieldType := fun k => match k with
  | 0 => .array (.array .int)
  | 1 => .array (.array .int)
  | _ => .array .int
abbrev wsX00 : List Cond := u_ws RX0 TX0 3
theorem nmX0 : ∀ a, a < 3 → ∀ b, b < 3 → a ≠ b → (TX0 a).2.1 ≠ (TX0 b).2.1 := by decide +kernel
theorem tyX0_ok : ∀ k, k < 3 → parseFieldDescriptor (TX0 k).2.2.1 = some (tyX0 k) := by decide +kernel
abbrev cX0_init : ByteArray := prog_2_method_1_code
def yX0_init : MethodName := ⟨RX0, "<init>", "()V"⟩
abbrev cX0_compare : ByteArray := prog_2_method_2_code
def yX0_compare : MethodName := ⟨RX0, "compare", "(LNearPhrases$Segment;LNearPhrases$Segment;ILNearPhrases$Comparison;)V"⟩
abbrev cX0_alikeOfWords : ByteArray := prog_2_method_3_code
def yX0_alikeOfWords : MethodName := ⟨RX0, "alikeOfWords", "(LNearPhrases$Sign;LNearPhrases$Sign;)I"⟩
abbrev cX0_fillBoth : ByteArray := prog_2_method_4_code
def yX0_fillBoth : MethodName := ⟨RX0, "fillBoth", "(LNearPhrases$Segment;LNearPhrases$Segment;I)V"⟩
abbrev cX0_costOfBoth : ByteArray := prog_2_method_5_code
def yX0_costOfBoth : MethodName := ⟨RX0, "costOfBoth", "(LNearPhrases$Sign;LNearPhrases$Sign;I)I"⟩
abbrev cX0_fillRest : ByteArray := prog_2_method_6_code
def yX0_fillRest : MethodName := ⟨RX0, "fillRest", "(LNearPhrases$Segment;LNearPhrases$Segment;I)V"⟩
abbrev cX0_walkSteps : ByteArray := prog_2_method_7_code
def yX0_walkSteps : MethodName := ⟨RX0, "walkSteps", "(LNearPhrases$Segment;LNearPhrases$Segment;ILNearPhrases$Comparison;)V"⟩
abbrev cX0_leastEdits : ByteArray := prog_2_method_8_code
def yX0_leastEdits : MethodName := ⟨RX0, "leastEdits", "(LNearPhrases$Sign;LNearPhrases$Sign;)I"⟩
def RX1 : String := "NearPhrases$Comparison"
def TX1 : u_T := fun k => match k with
  | 0 => ("NearPhrases$Comparison", "kindOf", "[I", true)
  | 1 => ("NearPhrases$Comparison", "costOf", "[I", true)
  | 2 => ("NearPhrases$Comparison", "oneOf", "[I", true)
  | 3 => ("NearPhrases$Comparison", "otherOf", "[I", true)
  | 4 => ("NearPhrases$Comparison", "far", "I", false)
  | 5 => ("NearPhrases$Comparison", "all", "I", false)
  | 6 => ("NearPhrases$Comparison", "shared", "I", false)
  | 7 => ("NearPhrases$Comparison", "steps", "I", false)
  | 8 => ("NearPhrases$Comparison", "tagSteps", "I", false)
  | 9 => ("NearPhrases$Comparison", "score", "I", false)
  | 10 => ("NearPhrases$Comparison", "room", "I", false)
  | 11 => ("NearPhrases$Comparison", "canByLengths", "Z", false)
  | 12 => ("NearPhrases$Comparison", "canByGrams", "Z", false)
  | _ => ("NearPhrases$Comparison", "isMatch", "Z", false)
def tyX1 : Nat → FieldType := fun k => match k with
  | 0 => .array .int
  | 1 => .array .int
  | 2 => .array .int
  | 3 => .array .int
  | 4 => .int
  | 5 => .int
  | 6 => .int
  | 7 => .int
  | 8 => .int
  | 9 => .int
  | 10 => .int
  | 11 => .boolean
  | 12 => .boolean
  | _ => .boolean
abbrev wsX10 : List Cond := u_ws RX1 TX1 14
theorem nmX1 : ∀ a, a < 14 → ∀ b, b < 14 → a ≠ b → (TX1 a).2.1 ≠ (TX1 b).2.1 := by decide +kernel
theorem tyX1_ok : ∀ k, k < 14 → parseFieldDescriptor (TX1 k).2.2.1 = some (tyX1 k) := by decide +kernel
abbrev cX1_init : ByteArray := prog_3_method_1_code
def yX1_init : MethodName := ⟨RX1, "<init>", "()V"⟩
abbrev cX1_clearSteps : ByteArray := prog_3_method_2_code
def yX1_clearSteps : MethodName := ⟨RX1, "clearSteps", "()V"⟩
abbrev cX1_addStep : ByteArray := prog_3_method_3_code
def yX1_addStep : MethodName := ⟨RX1, "addStep", "(IIIIZ)V"⟩
abbrev cX1_setScore : ByteArray := prog_3_method_4_code
def yX1_setScore : MethodName := ⟨RX1, "setScore", "()V"⟩
abbrev cX1_judge : ByteArray := prog_3_method_5_code
def yX1_judge : MethodName := ⟨RX1, "judge", "(LNearPhrases$Segment;LNearPhrases$Segment;II)V"⟩
abbrev cX1_ranksAheadOf : ByteArray := prog_3_method_6_code
def yX1_ranksAheadOf : MethodName := ⟨RX1, "ranksAheadOf", "(LNearPhrases$Comparison;)Z"⟩
abbrev cX1_tell : ByteArray := prog_3_method_7_code
def yX1_tell : MethodName := ⟨RX1, "tell", "(I)I"⟩
abbrev cX1_tellStep : ByteArray := prog_3_method_8_code
def yX1_tellStep : MethodName := ⟨RX1, "tellStep", "(II)I"⟩
def RX2 : String := "NearPhrases$Findings"
def TX2 : u_T := fun k => match k with
  | 0 => ("NearPhrases$Findings", "rows", "[LNearPhrases$Comparison;", true)
  | 1 => ("NearPhrases$Findings", "ranks", "[I", true)
  | 2 => ("NearPhrases$Findings", "covers", "[Z", true)
  | 3 => ("NearPhrases$Findings", "matches", "I", false)
  | 4 => ("NearPhrases$Findings", "byLengths", "I", false)
  | 5 => ("NearPhrases$Findings", "byGrams", "I", false)
  | _ => ("NearPhrases$Findings", "byBoth", "I", false)
def tyX2 : Nat → FieldType := fun k => match k with
  | 0 => .array (.object "NearPhrases$Comparison")
  | 1 => .array .int
  | 2 => .array .boolean
  | 3 => .int
  | 4 => .int
  | 5 => .int
  | _ => .int
abbrev wsX20 : List Cond := u_ws RX2 TX2 7
theorem nmX2 : ∀ a, a < 7 → ∀ b, b < 7 → a ≠ b → (TX2 a).2.1 ≠ (TX2 b).2.1 := by decide +kernel
theorem tyX2_ok : ∀ k, k < 7 → parseFieldDescriptor (TX2 k).2.2.1 = some (tyX2 k) := by decide +kernel
abbrev cX2_init : ByteArray := prog_4_method_1_code
def yX2_init : MethodName := ⟨RX2, "<init>", "()V"⟩
abbrev cX2_gather : ByteArray := prog_4_method_2_code
def yX2_gather : MethodName := ⟨RX2, "gather", "(I)V"⟩
abbrev cX2_tell : ByteArray := prog_4_method_3_code
def yX2_tell : MethodName := ⟨RX2, "tell", "(I)I"⟩
abbrev cX2_insertMatch : ByteArray := prog_4_method_4_code
def yX2_insertMatch : MethodName := ⟨RX2, "insertMatch", "(I)V"⟩
abbrev cX2_cover : ByteArray := prog_4_method_5_code
def yX2_cover : MethodName := ⟨RX2, "cover", "(LNearPhrases$Comparison;)V"⟩
abbrev cX2_countCovered : ByteArray := prog_4_method_6_code
def yX2_countCovered : MethodName := ⟨RX2, "countCovered", "()I"⟩
def RX3 : String := "NearPhrases$GramIndex"
def TX3 : u_T := fun k => match k with
  | 0 => ("NearPhrases$GramIndex", "holders", "[I", true)
  | _ => ("NearPhrases$GramIndex", "kinds", "I", false)
def tyX3 : Nat → FieldType := fun k => match k with
  | 0 => .array .int
  | _ => .int
abbrev wsX30 : List Cond := u_ws RX3 TX3 2
theorem nmX3 : ∀ a, a < 2 → ∀ b, b < 2 → a ≠ b → (TX3 a).2.1 ≠ (TX3 b).2.1 := by decide +kernel
theorem tyX3_ok : ∀ k, k < 2 → parseFieldDescriptor (TX3 k).2.2.1 = some (tyX3 k) := by decide +kernel
abbrev cX3_init : ByteArray := prog_5_method_1_code
def yX3_init : MethodName := ⟨RX3, "<init>", "()V"⟩
abbrev cX3_holdersOf : ByteArray := prog_5_method_2_code
def yX3_holdersOf : MethodName := ⟨RX3, "holdersOf", "(I)I"⟩
abbrev cX3_add : ByteArray := prog_5_method_3_code
def yX3_add : MethodName := ⟨RX3, "add", "(LNearPhrases$Segment;)V"⟩
abbrev cX3_remove : ByteArray := prog_5_method_4_code
def yX3_remove : MethodName := ⟨RX3, "remove", "(LNearPhrases$Segment;)V"⟩
def RX4 : String := "NearPhrases$Page"
def TX4 : u_T := fun k => match k with
  | 0 => ("NearPhrases$Page", "codes", "[I", true)
  | 1 => ("NearPhrases$Page", "size", "I", false)
  | 2 => ("NearPhrases$Page", "stage", "I", false)
  | 3 => ("NearPhrases$Page", "signsBegun", "I", false)
  | _ => ("NearPhrases$Page", "lettersOfWord", "I", false)
def tyX4 : Nat → FieldType := fun k => match k with
  | 0 => .array .int
  | 1 => .int
  | 2 => .int
  | 3 => .int
  | _ => .int
abbrev wsX40 : List Cond := u_ws RX4 TX4 5
theorem nmX4 : ∀ a, a < 5 → ∀ b, b < 5 → a ≠ b → (TX4 a).2.1 ≠ (TX4 b).2.1 := by decide +kernel
theorem tyX4_ok : ∀ k, k < 5 → parseFieldDescriptor (TX4 k).2.2.1 = some (tyX4 k) := by decide +kernel
abbrev cX4_init : ByteArray := prog_6_method_1_code
def yX4_init : MethodName := ⟨RX4, "<init>", "()V"⟩
abbrev cX4_isFull : ByteArray := prog_6_method_2_code
def yX4_isFull : MethodName := ⟨RX4, "isFull", "()Z"⟩
abbrev cX4_append : ByteArray := prog_6_method_3_code
def yX4_append : MethodName := ⟨RX4, "append", "(I)V"⟩
abbrev cX4_clear : ByteArray := prog_6_method_4_code
def yX4_clear : MethodName := ⟨RX4, "clear", "()V"⟩
abbrev cX4_firstFault : ByteArray := prog_6_method_5_code
def yX4_firstFault : MethodName := ⟨RX4, "firstFault", "()I"⟩
abbrev cX4_isSegment : ByteArray := prog_6_method_6_code
def yX4_isSegment : MethodName := ⟨RX4, "isSegment", "()Z"⟩
abbrev cX4_goesOn : ByteArray := prog_6_method_7_code
def yX4_goesOn : MethodName := ⟨RX4, "goesOn", "(I)Z"⟩
abbrev cX4_beginsSign : ByteArray := prog_6_method_8_code
def yX4_beginsSign : MethodName := ⟨RX4, "beginsSign", "(I)Z"⟩
abbrev cX4_lengthensWord : ByteArray := prog_6_method_9_code
def yX4_lengthensWord : MethodName := ⟨RX4, "lengthensWord", "()Z"⟩
abbrev cX4_endsSign : ByteArray := prog_6_method_10_code
def yX4_endsSign : MethodName := ⟨RX4, "endsSign", "(I)Z"⟩
def RX5 : String := "NearPhrases$Segment"
def TX5 : u_T := fun k => match k with
  | 0 => ("NearPhrases$Segment", "row", "[LNearPhrases$Sign;", true)
  | 1 => ("NearPhrases$Segment", "grams", "[I", true)
  | 2 => ("NearPhrases$Segment", "signs", "I", false)
  | 3 => ("NearPhrases$Segment", "words", "I", false)
  | 4 => ("NearPhrases$Segment", "gramCount", "I", false)
  | _ => ("NearPhrases$Segment", "timesTold", "I", false)
def tyX5 : Nat → FieldType := fun k => match k with
  | 0 => .array (.object "NearPhrases$Sign")
  | 1 => .array .int
  | 2 => .int
  | 3 => .int
  | 4 => .int
  | _ => .int
abbrev wsX50 : List Cond := u_ws RX5 TX5 6
theorem nmX5 : ∀ a, a < 6 → ∀ b, b < 6 → a ≠ b → (TX5 a).2.1 ≠ (TX5 b).2.1 := by decide +kernel
theorem tyX5_ok : ∀ k, k < 6 → parseFieldDescriptor (TX5 k).2.2.1 = some (tyX5 k) := by decide +kernel
abbrev cX5_init : ByteArray := prog_7_method_1_code
def yX5_init : MethodName := ⟨RX5, "<init>", "()V"⟩
abbrev cX5_read : ByteArray := prog_7_method_2_code
def yX5_read : MethodName := ⟨RX5, "read", "(LNearPhrases$Page;)V"⟩
abbrev cX5_tags : ByteArray := prog_7_method_3_code
def yX5_tags : MethodName := ⟨RX5, "tags", "()I"⟩
abbrev cX5_cost : ByteArray := prog_7_method_4_code
def yX5_cost : MethodName := ⟨RX5, "cost", "(I)I"⟩
abbrev cX5_isSameAs : ByteArray := prog_7_method_5_code
def yX5_isSameAs : MethodName := ⟨RX5, "isSameAs", "(LNearPhrases$Segment;)Z"⟩
abbrev cX5_tell : ByteArray := prog_7_method_6_code
def yX5_tell : MethodName := ⟨RX5, "tell", "(II)I"⟩
abbrev cX5_sharedWith : ByteArray := prog_7_method_7_code
def yX5_sharedWith : MethodName := ⟨RX5, "sharedWith", "(LNearPhrases$Segment;)I"⟩
abbrev cX5_isFirstOfItsKind : ByteArray := prog_7_method_8_code
def yX5_isFirstOfItsKind : MethodName := ⟨RX5, "isFirstOfItsKind", "(I)Z"⟩
abbrev cX5_addGramsOf : ByteArray := prog_7_method_9_code
def yX5_addGramsOf : MethodName := ⟨RX5, "addGramsOf", "(LNearPhrases$Sign;)V"⟩
abbrev cX5_insertGram : ByteArray := prog_7_method_10_code
def yX5_insertGram : MethodName := ⟨RX5, "insertGram", "(I)V"⟩
def RX6 : String := "NearPhrases$Sign"
def TX6 : u_T := fun k => match k with
  | 0 => ("NearPhrases$Sign", "letters", "[I", true)
  | 1 => ("NearPhrases$Sign", "length", "I", false)
  | _ => ("NearPhrases$Sign", "digit", "I", false)
def tyX6 : Nat → FieldType := fun k => match k with
  | 0 => .array .int
  | 1 => .int
  | _ => .int
abbrev wsX60 : List Cond := u_ws RX6 TX6 3
theorem nmX6 : ∀ a, a < 3 → ∀ b, b < 3 → a ≠ b → (TX6 a).2.1 ≠ (TX6 b).2.1 := by decide +kernel
theorem tyX6_ok : ∀ k, k < 3 → parseFieldDescriptor (TX6 k).2.2.1 = some (tyX6 k) := by decide +kernel
abbrev cX6_init : ByteArray := prog_8_method_1_code
def yX6_init : MethodName := ⟨RX6, "<init>", "()V"⟩
abbrev cX6_clear : ByteArray := prog_8_method_2_code
def yX6_clear : MethodName := ⟨RX6, "clear", "()V"⟩
abbrev cX6_take : ByteArray := prog_8_method_3_code
def yX6_take : MethodName := ⟨RX6, "take", "(I)V"⟩
abbrev cX6_isWord : ByteArray := prog_8_method_4_code
def yX6_isWord : MethodName := ⟨RX6, "isWord", "()Z"⟩
abbrev cX6_cost : ByteArray := prog_8_method_5_code
def yX6_cost : MethodName := ⟨RX6, "cost", "(I)I"⟩
abbrev cX6_isSameAs : ByteArray := prog_8_method_6_code
def yX6_isSameAs : MethodName := ⟨RX6, "isSameAs", "(LNearPhrases$Sign;)Z"⟩
abbrev cX6_tell : ByteArray := prog_8_method_7_code
def yX6_tell : MethodName := ⟨RX6, "tell", "(I)I"⟩
def RX7 : String := "NearPhrases"
def TX7 : u_T := fun k => match k with
  | 0 => ("NearPhrases", "page", "LNearPhrases$Page;", true)
  | 1 => ("NearPhrases", "shelf", "[LNearPhrases$Segment;", true)
  | 2 => ("NearPhrases", "asked", "LNearPhrases$Segment;", true)
  | 3 => ("NearPhrases", "index", "LNearPhrases$GramIndex;", true)
  | 4 => ("NearPhrases", "aligner", "LNearPhrases$Aligner;", true)
  | 5 => ("NearPhrases", "pair", "LNearPhrases$Comparison;", true)
  | 6 => ("NearPhrases", "findings", "LNearPhrases$Findings;", true)
  | 7 => ("NearPhrases", "keptNow", "I", false)
  | 8 => ("NearPhrases", "tagCost", "I", false)
  | 9 => ("NearPhrases", "leastScore", "I", false)
  | 10 => ("NearPhrases", "keptEver", "I", false)
  | 11 => ("NearPhrases", "droppedEver", "I", false)
  | 12 => ("NearPhrases", "askedEver", "I", false)
  | _ => ("NearPhrases", "findingsAreStale", "Z", false)
def tyX7 : Nat → FieldType := fun k => match k with
  | 0 => .object "NearPhrases$Page"
  | 1 => .array (.object "NearPhrases$Segment")
  | 2 => .object "NearPhrases$Segment"
  | 3 => .object "NearPhrases$GramIndex"
  | 4 => .object "NearPhrases$Aligner"
  | 5 => .object "NearPhrases$Comparison"
  | 6 => .object "NearPhrases$Findings"
  | 7 => .int
  | 8 => .int
  | 9 => .int
  | 10 => .int
  | 11 => .int
  | 12 => .int
  | _ => .boolean
abbrev wsX70 : List Cond := u_ws RX7 TX7 14
theorem nmX7 : ∀ a, a < 14 → ∀ b, b < 14 → a ≠ b → (TX7 a).2.1 ≠ (TX7 b).2.1 := by decide +kernel
theorem tyX7_ok : ∀ k, k < 14 → parseFieldDescriptor (TX7 k).2.2.1 = some (tyX7 k) := by decide +kernel
abbrev cX7_init : ByteArray := prog_1_method_1_code
def yX7_init : MethodName := ⟨RX7, "<init>", "()V"⟩
abbrev cX7_letter : ByteArray := prog_1_method_2_code
def yX7_letter : MethodName := ⟨RX7, "letter", "(I)I"⟩
abbrev cX7_blank : ByteArray := prog_1_method_3_code
def yX7_blank : MethodName := ⟨RX7, "blank", "()I"⟩
abbrev cX7_fault : ByteArray := prog_1_method_4_code
def yX7_fault : MethodName := ⟨RX7, "fault", "()I"⟩
abbrev cX7_keep : ByteArray := prog_1_method_5_code
def yX7_keep : MethodName := ⟨RX7, "keep", "()I"⟩
abbrev cX7_drop : ByteArray := prog_1_method_6_code
def yX7_drop : MethodName := ⟨RX7, "drop", "(I)I"⟩
abbrev cX7_ask : ByteArray := prog_1_method_7_code
def yX7_ask : MethodName := ⟨RX7, "ask", "()I"⟩
abbrev cX7_weight : ByteArray := prog_1_method_8_code
def yX7_weight : MethodName := ⟨RX7, "weight", "(I)I"⟩
abbrev cX7_bound : ByteArray := prog_1_method_9_code
def yX7_bound : MethodName := ⟨RX7, "bound", "(I)I"⟩
abbrev cX7_segment : ByteArray := prog_1_method_10_code
def yX7_segment : MethodName := ⟨RX7, "segment", "(II)I"⟩
abbrev cX7_sign : ByteArray := prog_1_method_11_code
def yX7_sign : MethodName := ⟨RX7, "sign", "(III)I"⟩
abbrev cX7_alike : ByteArray := prog_1_method_12_code
def yX7_alike : MethodName := ⟨RX7, "alike", "(IIII)I"⟩
abbrev cX7_two : ByteArray := prog_1_method_13_code
def yX7_two : MethodName := ⟨RX7, "two", "(III)I"⟩
abbrev cX7_gram : ByteArray := prog_1_method_14_code
def yX7_gram : MethodName := ⟨RX7, "gram", "(II)I"⟩
abbrev cX7_near : ByteArray := prog_1_method_15_code
def yX7_near : MethodName := ⟨RX7, "near", "(II)I"⟩
abbrev cX7_step : ByteArray := prog_1_method_16_code
def yX7_step : MethodName := ⟨RX7, "step", "(III)I"⟩
abbrev cX7_rank : ByteArray := prog_1_method_17_code
def yX7_rank : MethodName := ⟨RX7, "rank", "(I)I"⟩
abbrev cX7_question : ByteArray := prog_1_method_18_code
def yX7_question : MethodName := ⟨RX7, "question", "(I)I"⟩
abbrev cX7_covered : ByteArray := prog_1_method_19_code
def yX7_covered : MethodName := ⟨RX7, "covered", "(I)I"⟩
abbrev cX7_count : ByteArray := prog_1_method_20_code
def yX7_count : MethodName := ⟨RX7, "count", "(I)I"⟩
abbrev cX7_digest : ByteArray := prog_1_method_21_code
def yX7_digest : MethodName := ⟨RX7, "digest", "()J"⟩
abbrev cX7_mixSegments : ByteArray := prog_1_method_22_code
def yX7_mixSegments : MethodName := ⟨RX7, "mixSegments", "(J)J"⟩
abbrev cX7_mixPairs : ByteArray := prog_1_method_23_code
def yX7_mixPairs : MethodName := ⟨RX7, "mixPairs", "(J)J"⟩
abbrev cX7_mixFindings : ByteArray := prog_1_method_24_code
def yX7_mixFindings : MethodName := ⟨RX7, "mixFindings", "(J)J"⟩
abbrev cX7_mix : ByteArray := prog_1_method_25_code
def yX7_mix : MethodName := ⟨RX7, "mix", "(JI)J"⟩
abbrev cX7_isKept : ByteArray := prog_1_method_26_code
def yX7_isKept : MethodName := ⟨RX7, "isKept", "(I)Z"⟩
abbrev cX7_isSignOfKept : ByteArray := prog_1_method_27_code
def yX7_isSignOfKept : MethodName := ⟨RX7, "isSignOfKept", "(II)Z"⟩
abbrev cX7_hasQuestion : ByteArray := prog_1_method_28_code
def yX7_hasQuestion : MethodName := ⟨RX7, "hasQuestion", "()Z"⟩
abbrev cX7_numberOfSame : ByteArray := prog_1_method_29_code
def yX7_numberOfSame : MethodName := ⟨RX7, "numberOfSame", "(LNearPhrases$Segment;)I"⟩
abbrev cX7_tellQuestion : ByteArray := prog_1_method_30_code
def yX7_tellQuestion : MethodName := ⟨RX7, "tellQuestion", "(I)I"⟩
abbrev cX7_refreshFindings : ByteArray := prog_1_method_31_code
def yX7_refreshFindings : MethodName := ⟨RX7, "refreshFindings", "()V"⟩
abbrev cX7_isWithin : ByteArray := prog_1_method_32_code
def yX7_isWithin : MethodName := ⟨RX7, "isWithin", "(II)Z"⟩
abbrev cX7_isSmallLetter : ByteArray := prog_1_method_33_code
def yX7_isSmallLetter : MethodName := ⟨RX7, "isSmallLetter", "(I)Z"⟩
abbrev cX7_letterNumber : ByteArray := prog_1_method_34_code
def yX7_letterNumber : MethodName := ⟨RX7, "letterNumber", "(I)I"⟩
abbrev cX7_gramNumber : ByteArray := prog_1_method_35_code
def yX7_gramNumber : MethodName := ⟨RX7, "gramNumber", "(II)I"⟩
def RX8 : String := "NearPhrasesModel"
def TX8 : u_T := fun k => match k with
  | 0 => ("NearPhrasesModel", "pageLength", "I", false)
  | 1 => ("NearPhrasesModel", "page", "[I", true)
  | 2 => ("NearPhrasesModel", "kept", "I", false)
  | 3 => ("NearPhrasesModel", "isAsked", "Z", false)
  | 4 => ("NearPhrasesModel", "signs", "[I", true)
  | 5 => ("NearPhrasesModel", "times", "[I", true)
  | 6 => ("NearPhrasesModel", "sizes", "[I", true)
  | 7 => ("NearPhrasesModel", "digits", "[I", true)
  | 8 => ("NearPhrasesModel", "codes", "[I", true)
  | 9 => ("NearPhrasesModel", "weight", "I", false)
  | 10 => ("NearPhrasesModel", "bound", "I", false)
  | 11 => ("NearPhrasesModel", "toldMany", "I", false)
  | 12 => ("NearPhrasesModel", "dropped", "I", false)
  | 13 => ("NearPhrasesModel", "asked", "I", false)
  | 14 => ("NearPhrasesModel", "stage", "I", false)
  | 15 => ("NearPhrasesModel", "letterCosts", "[I", true)
  | 16 => ("NearPhrasesModel", "toPay", "[I", true)
  | 17 => ("NearPhrasesModel", "bothCosts", "[I", true)
  | 18 => ("NearPhrasesModel", "steps", "I", false)
  | 19 => ("NearPhrasesModel", "stepSort", "[I", true)
  | 20 => ("NearPhrasesModel", "stepCost", "[I", true)
  | 21 => ("NearPhrasesModel", "stepOne", "[I", true)
  | 22 => ("NearPhrasesModel", "stepOther", "[I", true)
  | 23 => ("NearPhrasesModel", "grams", "[I", true)
  | 24 => ("NearPhrasesModel", "matches", "I", false)
  | 25 => ("NearPhrasesModel", "ranked", "[I", true)
  | 26 => ("NearPhrasesModel", "scores", "[I", true)
  | 27 => ("NearPhrasesModel", "tagged", "[I", true)
  | 28 => ("NearPhrasesModel", "isCovered", "[Z", true)
  | 29 => ("NearPhrasesModel", "isThere", "[Z", true)
  | _ => ("NearPhrasesModel", "h", "J", false)
def tyX8 : Nat → FieldType := fun k => match k with
  | 0 => .int
  | 1 => .array .int
  | 2 => .int
  | 3 => .boolean
  | 4 => .array .int
  | 5 => .array .int
  | 6 => .array .int
  | 7 => .array .int
  | 8 => .array .int
  | 9 => .int
  | 10 => .int
  | 11 => .int
  | 12 => .int
  | 13 => .int
  | 14 => .int
  | 15 => .array .int
  | 16 => .array .int
  | 17 => .array .int
  | 18 => .int
  | 19 => .array .int
  | 20 => .array .int
  | 21 => .array .int
  | 22 => .array .int
  | 23 => .array .int
  | 24 => .int
  | 25 => .array .int
  | 26 => .array .int
  | 27 => .array .int
  | 28 => .array .boolean
  | 29 => .array .boolean
  | _ => .long
abbrev wsX80 : List Cond := u_ws RX8 TX8 31
theorem nmX8 : ∀ a, a < 31 → ∀ b, b < 31 → a ≠ b → (TX8 a).2.1 ≠ (TX8 b).2.1 := by decide +kernel
theorem tyX8_ok : ∀ k, k < 31 → parseFieldDescriptor (TX8 k).2.2.1 = some (tyX8 k) := by decide +kernel
abbrev cX8_init : ByteArray := prog_10_method_1_code
def yX8_init : MethodName := ⟨RX8, "<init>", "()V"⟩
abbrev cX8_within : ByteArray := prog_10_method_3_code
def yX8_within : MethodName := ⟨RX8, "within", "(III)Z"⟩
abbrev cX8_letter : ByteArray := prog_10_method_4_code
def yX8_letter : MethodName := ⟨RX8, "letter", "(I)I"⟩
abbrev cX8_blank : ByteArray := prog_10_method_5_code
def yX8_blank : MethodName := ⟨RX8, "blank", "()I"⟩
abbrev cX8_begins : ByteArray := prog_10_method_6_code
def yX8_begins : MethodName := ⟨RX8, "begins", "(I)Z"⟩
abbrev cX8_takesLetter : ByteArray := prog_10_method_7_code
def yX8_takesLetter : MethodName := ⟨RX8, "takesLetter", "(I)Z"⟩
abbrev cX8_takes : ByteArray := prog_10_method_8_code
def yX8_takes : MethodName := ⟨RX8, "takes", "(I)Z"⟩
abbrev cX8_readPage : ByteArray := prog_10_method_9_code
def yX8_readPage : MethodName := ⟨RX8, "readPage", "()I"⟩
abbrev cX8_fault : ByteArray := prog_10_method_10_code
def yX8_fault : MethodName := ⟨RX8, "fault", "()I"⟩
abbrev cX8_isSegment : ByteArray := prog_10_method_11_code
def yX8_isSegment : MethodName := ⟨RX8, "isSegment", "()Z"⟩
abbrev cX8_copy : ByteArray := prog_10_method_12_code
def yX8_copy : MethodName := ⟨RX8, "copy", "(II)V"⟩
abbrev cX8_areSame : ByteArray := prog_10_method_13_code
def yX8_areSame : MethodName := ⟨RX8, "areSame", "(II)Z"⟩
abbrev cX8_isSameSign : ByteArray := prog_10_method_14_code
def yX8_isSameSign : MethodName := ⟨RX8, "isSameSign", "(II)Z"⟩
abbrev cX8_keep : ByteArray := prog_10_method_15_code
def yX8_keep : MethodName := ⟨RX8, "keep", "()I"⟩
abbrev cX8_isKept : ByteArray := prog_10_method_16_code
def yX8_isKept : MethodName := ⟨RX8, "isKept", "(I)Z"⟩
abbrev cX8_drop : ByteArray := prog_10_method_17_code
def yX8_drop : MethodName := ⟨RX8, "drop", "(I)I"⟩
abbrev cX8_ask : ByteArray := prog_10_method_18_code
def yX8_ask : MethodName := ⟨RX8, "ask", "()I"⟩
abbrev cX8_weight : ByteArray := prog_10_method_19_code
def yX8_weight : MethodName := ⟨RX8, "weight", "(I)I"⟩
abbrev cX8_bound : ByteArray := prog_10_method_20_code
def yX8_bound : MethodName := ⟨RX8, "bound", "(I)I"⟩
abbrev cX8_least : ByteArray := prog_10_method_21_code
def yX8_least : MethodName := ⟨RX8, "least", "(II)I"⟩
abbrev cX8_changes : ByteArray := prog_10_method_22_code
def yX8_changes : MethodName := ⟨RX8, "changes", "(II)I"⟩
abbrev cX8_alikeNow : ByteArray := prog_10_method_23_code
def yX8_alikeNow : MethodName := ⟨RX8, "alikeNow", "(II)I"⟩
abbrev cX8_isWord : ByteArray := prog_10_method_24_code
def yX8_isWord : MethodName := ⟨RX8, "isWord", "(I)Z"⟩
abbrev cX8_costOf : ByteArray := prog_10_method_25_code
def yX8_costOf : MethodName := ⟨RX8, "costOf", "(I)I"⟩
abbrev cX8_bothCost : ByteArray := prog_10_method_26_code
def yX8_bothCost : MethodName := ⟨RX8, "bothCost", "(II)I"⟩
abbrev cX8_layPay : ByteArray := prog_10_method_27_code
def yX8_layPay : MethodName := ⟨RX8, "layPay", "(II)V"⟩
abbrev cX8_putStep : ByteArray := prog_10_method_28_code
def yX8_putStep : MethodName := ⟨RX8, "putStep", "(IIII)V"⟩
abbrev cX8_laySteps : ByteArray := prog_10_method_29_code
def yX8_laySteps : MethodName := ⟨RX8, "laySteps", "(II)V"⟩
abbrev cX8_farOf : ByteArray := prog_10_method_30_code
def yX8_farOf : MethodName := ⟨RX8, "farOf", "(II)I"⟩
abbrev cX8_costAll : ByteArray := prog_10_method_31_code
def yX8_costAll : MethodName := ⟨RX8, "costAll", "(I)I"⟩
abbrev cX8_allOf : ByteArray := prog_10_method_32_code
def yX8_allOf : MethodName := ⟨RX8, "allOf", "(II)I"⟩
abbrev cX8_scoreOf : ByteArray := prog_10_method_33_code
def yX8_scoreOf : MethodName := ⟨RX8, "scoreOf", "(II)I"⟩
abbrev cX8_gramSign : ByteArray := prog_10_method_34_code
def yX8_gramSign : MethodName := ⟨RX8, "gramSign", "(I)I"⟩
abbrev cX8_gramAt : ByteArray := prog_10_method_35_code
def yX8_gramAt : MethodName := ⟨RX8, "gramAt", "(II)I"⟩
abbrev cX8_layGrams : ByteArray := prog_10_method_36_code
def yX8_layGrams : MethodName := ⟨RX8, "layGrams", "(I)V"⟩
abbrev cX8_gramsOf : ByteArray := prog_10_method_37_code
def yX8_gramsOf : MethodName := ⟨RX8, "gramsOf", "(I)I"⟩
abbrev cX8_sharedOf : ByteArray := prog_10_method_38_code
def yX8_sharedOf : MethodName := ⟨RX8, "sharedOf", "(II)I"⟩
abbrev cX8_wordsOf : ByteArray := prog_10_method_39_code
def yX8_wordsOf : MethodName := ⟨RX8, "wordsOf", "(I)I"⟩
abbrev cX8_tagsOf : ByteArray := prog_10_method_40_code
def yX8_tagsOf : MethodName := ⟨RX8, "tagsOf", "(I)I"⟩
abbrev cX8_segmentNow : ByteArray := prog_10_method_41_code
def yX8_segmentNow : MethodName := ⟨RX8, "segmentNow", "(II)I"⟩
abbrev cX8_segment : ByteArray := prog_10_method_42_code
def yX8_segment : MethodName := ⟨RX8, "segment", "(II)I"⟩
abbrev cX8_isSign : ByteArray := prog_10_method_43_code
def yX8_isSign : MethodName := ⟨RX8, "isSign", "(II)Z"⟩
abbrev cX8_signNow : ByteArray := prog_10_method_44_code
def yX8_signNow : MethodName := ⟨RX8, "signNow", "(II)I"⟩
abbrev cX8_sign : ByteArray := prog_10_method_45_code
def yX8_sign : MethodName := ⟨RX8, "sign", "(III)I"⟩
abbrev cX8_alike : ByteArray := prog_10_method_46_code
def yX8_alike : MethodName := ⟨RX8, "alike", "(IIII)I"⟩
abbrev cX8_stepsOf : ByteArray := prog_10_method_47_code
def yX8_stepsOf : MethodName := ⟨RX8, "stepsOf", "(II)I"⟩
abbrev cX8_twoNow : ByteArray := prog_10_method_48_code
def yX8_twoNow : MethodName := ⟨RX8, "twoNow", "(III)I"⟩
abbrev cX8_two : ByteArray := prog_10_method_49_code
def yX8_two : MethodName := ⟨RX8, "two", "(III)I"⟩
abbrev cX8_isLetter : ByteArray := prog_10_method_50_code
def yX8_isLetter : MethodName := ⟨RX8, "isLetter", "(I)Z"⟩
abbrev cX8_gram : ByteArray := prog_10_method_51_code
def yX8_gram : MethodName := ⟨RX8, "gram", "(II)I"⟩
abbrev cX8_roomOf : ByteArray := prog_10_method_52_code
def yX8_roomOf : MethodName := ⟨RX8, "roomOf", "(I)I"⟩
abbrev cX8_size : ByteArray := prog_10_method_53_code
def yX8_size : MethodName := ⟨RX8, "size", "(I)I"⟩
abbrev cX8_canByLengths : ByteArray := prog_10_method_54_code
def yX8_canByLengths : MethodName := ⟨RX8, "canByLengths", "(I)Z"⟩
abbrev cX8_canByGrams : ByteArray := prog_10_method_55_code
def yX8_canByGrams : MethodName := ⟨RX8, "canByGrams", "(I)Z"⟩
abbrev cX8_isMatch : ByteArray := prog_10_method_56_code
def yX8_isMatch : MethodName := ⟨RX8, "isMatch", "(I)Z"⟩
abbrev cX8_tagSteps : ByteArray := prog_10_method_57_code
def yX8_tagSteps : MethodName := ⟨RX8, "tagSteps", "(I)I"⟩
abbrev cX8_bit : ByteArray := prog_10_method_58_code
def yX8_bit : MethodName := ⟨RX8, "bit", "(Z)I"⟩
abbrev cX8_nearNow : ByteArray := prog_10_method_59_code
def yX8_nearNow : MethodName := ⟨RX8, "nearNow", "(II)I"⟩
abbrev cX8_near : ByteArray := prog_10_method_60_code
def yX8_near : MethodName := ⟨RX8, "near", "(II)I"⟩
abbrev cX8_step : ByteArray := prog_10_method_61_code
def yX8_step : MethodName := ⟨RX8, "step", "(III)I"⟩
abbrev cX8_isAhead : ByteArray := prog_10_method_62_code
def yX8_isAhead : MethodName := ⟨RX8, "isAhead", "(II)Z"⟩
abbrev cX8_layRanks : ByteArray := prog_10_method_63_code
def yX8_layRanks : MethodName := ⟨RX8, "layRanks", "()V"⟩
abbrev cX8_rank : ByteArray := prog_10_method_64_code
def yX8_rank : MethodName := ⟨RX8, "rank", "(I)I"⟩
abbrev cX8_layCovered : ByteArray := prog_10_method_65_code
def yX8_layCovered : MethodName := ⟨RX8, "layCovered", "()V"⟩
abbrev cX8_canMany : ByteArray := prog_10_method_66_code
def yX8_canMany : MethodName := ⟨RX8, "canMany", "(ZZ)I"⟩
abbrev cX8_coveredMany : ByteArray := prog_10_method_67_code
def yX8_coveredMany : MethodName := ⟨RX8, "coveredMany", "()I"⟩
abbrev cX8_matchesMany : ByteArray := prog_10_method_68_code
def yX8_matchesMany : MethodName := ⟨RX8, "matchesMany", "()I"⟩
abbrev cX8_questionNow : ByteArray := prog_10_method_69_code
def yX8_questionNow : MethodName := ⟨RX8, "questionNow", "(I)I"⟩
abbrev cX8_question : ByteArray := prog_10_method_70_code
def yX8_question : MethodName := ⟨RX8, "question", "(I)I"⟩
abbrev cX8_covered : ByteArray := prog_10_method_71_code
def yX8_covered : MethodName := ⟨RX8, "covered", "(I)I"⟩
abbrev cX8_gramsAll : ByteArray := prog_10_method_72_code
def yX8_gramsAll : MethodName := ⟨RX8, "gramsAll", "()I"⟩
abbrev cX8_howMany : ByteArray := prog_10_method_73_code
def yX8_howMany : MethodName := ⟨RX8, "howMany", "(I)I"⟩
abbrev cX8_count : ByteArray := prog_10_method_74_code
def yX8_count : MethodName := ⟨RX8, "count", "(I)I"⟩
abbrev cX8_mix : ByteArray := prog_10_method_75_code
def yX8_mix : MethodName := ⟨RX8, "mix", "(J)V"⟩
abbrev cX8_mixQuestion : ByteArray := prog_10_method_76_code
def yX8_mixQuestion : MethodName := ⟨RX8, "mixQuestion", "()V"⟩
abbrev cX8_digest : ByteArray := prog_10_method_77_code
def yX8_digest : MethodName := ⟨RX8, "digest", "()J"⟩
def RJ9 : String := "java/lang/Math"
def TJ9 : u_T := fun k => match k with
  | _ => ("", "", "", false)
def tyJ9 : Nat → FieldType := fun k => match k with
  | _ => .int
theorem nmJ9 : ∀ a, a < 0 → ∀ b, b < 0 → a ≠ b → (TJ9 a).2.1 ≠ (TJ9 b).2.1 := by decide +kernel
theorem tyJ9_ok : ∀ k, k < 0 → parseFieldDescriptor (TJ9 k).2.2.1 = some (tyJ9 k) := by decide +kernel
abbrev cJ9_abs_0f7a4 : ByteArray := prog_11_method_59_code
def yJ9_abs_0f7a4 : MethodName := ⟨RJ9, "abs", "(I)I"⟩
abbrev cJ9_max_7cf53 : ByteArray := prog_11_method_65_code
def yJ9_max_7cf53 : MethodName := ⟨RJ9, "max", "(II)I"⟩
abbrev cJ9_min_7cf53 : ByteArray := prog_11_method_69_code
def yJ9_min_7cf53 : MethodName := ⟨RJ9, "min", "(II)I"⟩
def RL : String := "NearPhrasesLaw"
abbrev cL_law : ByteArray := code
def yL_law : MethodName := ⟨RL, "law", "([I)Z"⟩
abbrev vwCl : List vw_C := [(RX0, TX0, 3), (RX1, TX1, 14), (RX2, TX2, 7), (RX3, TX3, 2), (RX4, TX4, 5), (RX5, TX5, 6), (RX6, TX6, 3), (RX7, TX7, 14), (RX8, TX8, 31)]
end
section
theorem dL_law_0 : decode cL_law 0 = .ok (.new 7, 3) := by decide +kernel
theorem dL_law_3 : decode cL_law 3 = .ok (.dup, 1) := by decide +kernel
theorem dL_law_4 : decode cL_law 4 = .ok (.invokespecial 9, 3) := by decide +kernel
theorem dL_law_7 : decode cL_law 7 = .ok (.astore_n 1, 1) := by decide +kernel
theorem dL_law_8 : decode cL_law 8 = .ok (.new 10, 3) := by decide +kernel
theorem dL_law_11 : decode cL_law 11 = .ok (.dup, 1) := by decide +kernel
theorem dL_law_12 : decode cL_law 12 = .ok (.invokespecial 12, 3) := by decide +kernel
theorem dL_law_15 : decode cL_law 15 = .ok (.astore_n 2, 1) := by decide +kernel
theorem dL_law_16 : decode cL_law 16 = .ok (.iconst 0, 1) := by decide +kernel
theorem dL_law_17 : decode cL_law 17 = .ok (.istore_n 3, 1) := by decide +kernel
theorem dL_law_18 : decode cL_law 18 = .ok (.iload_n 3, 1) := by decide +kernel
theorem dL_law_19 : decode cL_law 19 = .ok (.aload_n 0, 1) := by decide +kernel
theorem dL_law_20 : decode cL_law 20 = .ok (.arraylength, 1) := by decide +kernel
theorem dL_law_21 : decode cL_law 21 = .ok (.iconst 5, 1) := by decide +kernel
theorem dL_law_22 : decode cL_law 22 = .ok (.isub, 1) := by decide +kernel
theorem dL_law_23 : decode cL_law 23 = .ok (.if_icmp .gt 642, 3) := by decide +kernel
theorem dL_law_26 : decode cL_law 26 = .ok (.aload_n 0, 1) := by decide +kernel
theorem dL_law_27 : decode cL_law 27 = .ok (.iload_n 3, 1) := by decide +kernel
theorem dL_law_28 : decode cL_law 28 = .ok (.iaload, 1) := by decide +kernel
theorem dL_law_29 : decode cL_law 29 = .ok (.bipush 31, 2) := by decide +kernel
theorem dL_law_31 : decode cL_law 31 = .ok (.iand, 1) := by decide +kernel
theorem dL_law_32 : decode cL_law 32 = .ok (.tableswitch 627 0 19 #[96, 119, 132, 145, 158, 181, 194, 217, 240, 273, 316, 369, 412, 445, 478, 521, 544, 567, 590, 613], 96) := by decide +kernel
theorem dL_law_128 : decode cL_law 128 = .ok (.aload_n 1, 1) := by decide +kernel
theorem dL_law_129 : decode cL_law 129 = .ok (.aload_n 0, 1) := by decide +kernel
theorem dL_law_130 : decode cL_law 130 = .ok (.iload_n 3, 1) := by decide +kernel
theorem dL_law_131 : decode cL_law 131 = .ok (.iconst 1, 1) := by decide +kernel
theorem dL_law_132 : decode cL_law 132 = .ok (.iadd, 1) := by decide +kernel
theorem dL_law_133 : decode cL_law 133 = .ok (.iaload, 1) := by decide +kernel
theorem dL_law_134 : decode cL_law 134 = .ok (.invokevirtual 13, 3) := by decide +kernel
theorem dL_law_137 : decode cL_law 137 = .ok (.aload_n 2, 1) := by decide +kernel
theorem dL_law_138 : decode cL_law 138 = .ok (.aload_n 0, 1) := by decide +kernel
theorem dL_law_139 : decode cL_law 139 = .ok (.iload_n 3, 1) := by decide +kernel
theorem dL_law_140 : decode cL_law 140 = .ok (.iconst 1, 1) := by decide +kernel
theorem dL_law_141 : decode cL_law 141 = .ok (.iadd, 1) := by decide +kernel
theorem dL_law_142 : decode cL_law 142 = .ok (.iaload, 1) := by decide +kernel
theorem dL_law_143 : decode cL_law 143 = .ok (.invokevirtual 17, 3) := by decide +kernel
theorem dL_law_146 : decode cL_law 146 = .ok (.if_icmp .eq 513, 3) := by decide +kernel
theorem dL_law_149 : decode cL_law 149 = .ok (.iconst 0, 1) := by decide +kernel
theorem dL_law_150 : decode cL_law 150 = .ok (.ireturn, 1) := by decide +kernel
theorem dL_law_151 : decode cL_law 151 = .ok (.aload_n 1, 1) := by decide +kernel
theorem dL_law_152 : decode cL_law 152 = .ok (.invokevirtual 18, 3) := by decide +kernel
theorem dL_law_155 : decode cL_law 155 = .ok (.aload_n 2, 1) := by decide +kernel
theorem dL_law_156 : decode cL_law 156 = .ok (.invokevirtual 22, 3) := by decide +kernel
theorem dL_law_159 : decode cL_law 159 = .ok (.if_icmp .eq 500, 3) := by decide +kernel
theorem dL_law_162 : decode cL_law 162 = .ok (.iconst 0, 1) := by decide +kernel
theorem dL_law_163 : decode cL_law 163 = .ok (.ireturn, 1) := by decide +kernel
theorem dL_law_164 : decode cL_law 164 = .ok (.aload_n 1, 1) := by decide +kernel
theorem dL_law_165 : decode cL_law 165 = .ok (.invokevirtual 23, 3) := by decide +kernel
theorem dL_law_168 : decode cL_law 168 = .ok (.aload_n 2, 1) := by decide +kernel
theorem dL_law_169 : decode cL_law 169 = .ok (.invokevirtual 26, 3) := by decide +kernel
theorem dL_law_172 : decode cL_law 172 = .ok (.if_icmp .eq 487, 3) := by decide +kernel
theorem dL_law_175 : decode cL_law 175 = .ok (.iconst 0, 1) := by decide +kernel
theorem dL_law_176 : decode cL_law 176 = .ok (.ireturn, 1) := by decide +kernel
theorem dL_law_177 : decode cL_law 177 = .ok (.aload_n 1, 1) := by decide +kernel
theorem dL_law_178 : decode cL_law 178 = .ok (.invokevirtual 27, 3) := by decide +kernel
theorem dL_law_181 : decode cL_law 181 = .ok (.aload_n 2, 1) := by decide +kernel
theorem dL_law_182 : decode cL_law 182 = .ok (.invokevirtual 30, 3) := by decide +kernel
theorem dL_law_185 : decode cL_law 185 = .ok (.if_icmp .eq 474, 3) := by decide +kernel
theorem dL_law_188 : decode cL_law 188 = .ok (.iconst 0, 1) := by decide +kernel
theorem dL_law_189 : decode cL_law 189 = .ok (.ireturn, 1) := by decide +kernel
theorem dL_law_190 : decode cL_law 190 = .ok (.aload_n 1, 1) := by decide +kernel
theorem dL_law_191 : decode cL_law 191 = .ok (.aload_n 0, 1) := by decide +kernel
theorem dL_law_192 : decode cL_law 192 = .ok (.iload_n 3, 1) := by decide +kernel
theorem dL_law_193 : decode cL_law 193 = .ok (.iconst 1, 1) := by decide +kernel
theorem dL_law_194 : decode cL_law 194 = .ok (.iadd, 1) := by decide +kernel
theorem dL_law_195 : decode cL_law 195 = .ok (.iaload, 1) := by decide +kernel
theorem dL_law_196 : decode cL_law 196 = .ok (.invokevirtual 31, 3) := by decide +kernel
theorem dL_law_199 : decode cL_law 199 = .ok (.aload_n 2, 1) := by decide +kernel
theorem dL_law_200 : decode cL_law 200 = .ok (.aload_n 0, 1) := by decide +kernel
theorem dL_law_201 : decode cL_law 201 = .ok (.iload_n 3, 1) := by decide +kernel
theorem dL_law_202 : decode cL_law 202 = .ok (.iconst 1, 1) := by decide +kernel
theorem dL_law_203 : decode cL_law 203 = .ok (.iadd, 1) := by decide +kernel
theorem dL_law_204 : decode cL_law 204 = .ok (.iaload, 1) := by decide +kernel
theorem dL_law_205 : decode cL_law 205 = .ok (.invokevirtual 34, 3) := by decide +kernel
theorem dL_law_208 : decode cL_law 208 = .ok (.if_icmp .eq 451, 3) := by decide +kernel
theorem dL_law_211 : decode cL_law 211 = .ok (.iconst 0, 1) := by decide +kernel
theorem dL_law_212 : decode cL_law 212 = .ok (.ireturn, 1) := by decide +kernel
theorem dL_law_213 : decode cL_law 213 = .ok (.aload_n 1, 1) := by decide +kernel
theorem dL_law_214 : decode cL_law 214 = .ok (.invokevirtual 35, 3) := by decide +kernel
theorem dL_law_217 : decode cL_law 217 = .ok (.aload_n 2, 1) := by decide +kernel
theorem dL_law_218 : decode cL_law 218 = .ok (.invokevirtual 38, 3) := by decide +kernel
theorem dL_law_221 : decode cL_law 221 = .ok (.if_icmp .eq 438, 3) := by decide +kernel
theorem dL_law_224 : decode cL_law 224 = .ok (.iconst 0, 1) := by decide +kernel
theorem dL_law_225 : decode cL_law 225 = .ok (.ireturn, 1) := by decide +kernel
theorem dL_law_226 : decode cL_law 226 = .ok (.aload_n 1, 1) := by decide +kernel
theorem dL_law_227 : decode cL_law 227 = .ok (.aload_n 0, 1) := by decide +kernel
theorem dL_law_228 : decode cL_law 228 = .ok (.iload_n 3, 1) := by decide +kernel
theorem dL_law_229 : decode cL_law 229 = .ok (.iconst 1, 1) := by decide +kernel
theorem dL_law_230 : decode cL_law 230 = .ok (.iadd, 1) := by decide +kernel
theorem dL_law_231 : decode cL_law 231 = .ok (.iaload, 1) := by decide +kernel
theorem dL_law_232 : decode cL_law 232 = .ok (.invokevirtual 39, 3) := by decide +kernel
theorem dL_law_235 : decode cL_law 235 = .ok (.aload_n 2, 1) := by decide +kernel
theorem dL_law_236 : decode cL_law 236 = .ok (.aload_n 0, 1) := by decide +kernel
theorem dL_law_237 : decode cL_law 237 = .ok (.iload_n 3, 1) := by decide +kernel
theorem dL_law_238 : decode cL_law 238 = .ok (.iconst 1, 1) := by decide +kernel
theorem dL_law_239 : decode cL_law 239 = .ok (.iadd, 1) := by decide +kernel
theorem dL_law_240 : decode cL_law 240 = .ok (.iaload, 1) := by decide +kernel
theorem dL_law_241 : decode cL_law 241 = .ok (.invokevirtual 42, 3) := by decide +kernel
theorem dL_law_244 : decode cL_law 244 = .ok (.if_icmp .eq 415, 3) := by decide +kernel
theorem dL_law_247 : decode cL_law 247 = .ok (.iconst 0, 1) := by decide +kernel
theorem dL_law_248 : decode cL_law 248 = .ok (.ireturn, 1) := by decide +kernel
theorem dL_law_249 : decode cL_law 249 = .ok (.aload_n 1, 1) := by decide +kernel
theorem dL_law_250 : decode cL_law 250 = .ok (.aload_n 0, 1) := by decide +kernel
theorem dL_law_251 : decode cL_law 251 = .ok (.iload_n 3, 1) := by decide +kernel
theorem dL_law_252 : decode cL_law 252 = .ok (.iconst 1, 1) := by decide +kernel
theorem dL_law_253 : decode cL_law 253 = .ok (.iadd, 1) := by decide +kernel
theorem dL_law_254 : decode cL_law 254 = .ok (.iaload, 1) := by decide +kernel
theorem dL_law_255 : decode cL_law 255 = .ok (.invokevirtual 43, 3) := by decide +kernel
theorem dL_law_258 : decode cL_law 258 = .ok (.aload_n 2, 1) := by decide +kernel
theorem dL_law_259 : decode cL_law 259 = .ok (.aload_n 0, 1) := by decide +kernel
theorem dL_law_260 : decode cL_law 260 = .ok (.iload_n 3, 1) := by decide +kernel
theorem dL_law_261 : decode cL_law 261 = .ok (.iconst 1, 1) := by decide +kernel
theorem dL_law_262 : decode cL_law 262 = .ok (.iadd, 1) := by decide +kernel
theorem dL_law_263 : decode cL_law 263 = .ok (.iaload, 1) := by decide +kernel
theorem dL_law_264 : decode cL_law 264 = .ok (.invokevirtual 46, 3) := by decide +kernel
theorem dL_law_267 : decode cL_law 267 = .ok (.if_icmp .eq 392, 3) := by decide +kernel
theorem dL_law_270 : decode cL_law 270 = .ok (.iconst 0, 1) := by decide +kernel
theorem dL_law_271 : decode cL_law 271 = .ok (.ireturn, 1) := by decide +kernel
theorem dL_law_272 : decode cL_law 272 = .ok (.aload_n 1, 1) := by decide +kernel
theorem dL_law_273 : decode cL_law 273 = .ok (.aload_n 0, 1) := by decide +kernel
theorem dL_law_274 : decode cL_law 274 = .ok (.iload_n 3, 1) := by decide +kernel
theorem dL_law_275 : decode cL_law 275 = .ok (.iconst 1, 1) := by decide +kernel
theorem dL_law_276 : decode cL_law 276 = .ok (.iadd, 1) := by decide +kernel
theorem dL_law_277 : decode cL_law 277 = .ok (.iaload, 1) := by decide +kernel
theorem dL_law_278 : decode cL_law 278 = .ok (.aload_n 0, 1) := by decide +kernel
theorem dL_law_279 : decode cL_law 279 = .ok (.iload_n 3, 1) := by decide +kernel
theorem dL_law_280 : decode cL_law 280 = .ok (.iconst 2, 1) := by decide +kernel
theorem dL_law_281 : decode cL_law 281 = .ok (.iadd, 1) := by decide +kernel
theorem dL_law_282 : decode cL_law 282 = .ok (.iaload, 1) := by decide +kernel
theorem dL_law_283 : decode cL_law 283 = .ok (.invokevirtual 47, 3) := by decide +kernel
theorem dL_law_286 : decode cL_law 286 = .ok (.aload_n 2, 1) := by decide +kernel
theorem dL_law_287 : decode cL_law 287 = .ok (.aload_n 0, 1) := by decide +kernel
theorem dL_law_288 : decode cL_law 288 = .ok (.iload_n 3, 1) := by decide +kernel
theorem dL_law_289 : decode cL_law 289 = .ok (.iconst 1, 1) := by decide +kernel
theorem dL_law_290 : decode cL_law 290 = .ok (.iadd, 1) := by decide +kernel
theorem dL_law_291 : decode cL_law 291 = .ok (.iaload, 1) := by decide +kernel
theorem dL_law_292 : decode cL_law 292 = .ok (.aload_n 0, 1) := by decide +kernel
theorem dL_law_293 : decode cL_law 293 = .ok (.iload_n 3, 1) := by decide +kernel
theorem dL_law_294 : decode cL_law 294 = .ok (.iconst 2, 1) := by decide +kernel
theorem dL_law_295 : decode cL_law 295 = .ok (.iadd, 1) := by decide +kernel
theorem dL_law_296 : decode cL_law 296 = .ok (.iaload, 1) := by decide +kernel
theorem dL_law_297 : decode cL_law 297 = .ok (.invokevirtual 51, 3) := by decide +kernel
theorem dL_law_300 : decode cL_law 300 = .ok (.if_icmp .eq 359, 3) := by decide +kernel
theorem dL_law_303 : decode cL_law 303 = .ok (.iconst 0, 1) := by decide +kernel
theorem dL_law_304 : decode cL_law 304 = .ok (.ireturn, 1) := by decide +kernel
theorem dL_law_305 : decode cL_law 305 = .ok (.aload_n 1, 1) := by decide +kernel
theorem dL_law_306 : decode cL_law 306 = .ok (.aload_n 0, 1) := by decide +kernel
theorem dL_law_307 : decode cL_law 307 = .ok (.iload_n 3, 1) := by decide +kernel
theorem dL_law_308 : decode cL_law 308 = .ok (.iconst 1, 1) := by decide +kernel
theorem dL_law_309 : decode cL_law 309 = .ok (.iadd, 1) := by decide +kernel
theorem dL_law_310 : decode cL_law 310 = .ok (.iaload, 1) := by decide +kernel
theorem dL_law_311 : decode cL_law 311 = .ok (.aload_n 0, 1) := by decide +kernel
theorem dL_law_312 : decode cL_law 312 = .ok (.iload_n 3, 1) := by decide +kernel
theorem dL_law_313 : decode cL_law 313 = .ok (.iconst 2, 1) := by decide +kernel
theorem dL_law_314 : decode cL_law 314 = .ok (.iadd, 1) := by decide +kernel
theorem dL_law_315 : decode cL_law 315 = .ok (.iaload, 1) := by decide +kernel
theorem dL_law_316 : decode cL_law 316 = .ok (.aload_n 0, 1) := by decide +kernel
theorem dL_law_317 : decode cL_law 317 = .ok (.iload_n 3, 1) := by decide +kernel
theorem dL_law_318 : decode cL_law 318 = .ok (.iconst 3, 1) := by decide +kernel
theorem dL_law_319 : decode cL_law 319 = .ok (.iadd, 1) := by decide +kernel
theorem dL_law_320 : decode cL_law 320 = .ok (.iaload, 1) := by decide +kernel
theorem dL_law_321 : decode cL_law 321 = .ok (.invokevirtual 52, 3) := by decide +kernel
theorem dL_law_324 : decode cL_law 324 = .ok (.aload_n 2, 1) := by decide +kernel
theorem dL_law_325 : decode cL_law 325 = .ok (.aload_n 0, 1) := by decide +kernel
theorem dL_law_326 : decode cL_law 326 = .ok (.iload_n 3, 1) := by decide +kernel
theorem dL_law_327 : decode cL_law 327 = .ok (.iconst 1, 1) := by decide +kernel
theorem dL_law_328 : decode cL_law 328 = .ok (.iadd, 1) := by decide +kernel
theorem dL_law_329 : decode cL_law 329 = .ok (.iaload, 1) := by decide +kernel
theorem dL_law_330 : decode cL_law 330 = .ok (.aload_n 0, 1) := by decide +kernel
theorem dL_law_331 : decode cL_law 331 = .ok (.iload_n 3, 1) := by decide +kernel
theorem dL_law_332 : decode cL_law 332 = .ok (.iconst 2, 1) := by decide +kernel
theorem dL_law_333 : decode cL_law 333 = .ok (.iadd, 1) := by decide +kernel
theorem dL_law_334 : decode cL_law 334 = .ok (.iaload, 1) := by decide +kernel
theorem dL_law_335 : decode cL_law 335 = .ok (.aload_n 0, 1) := by decide +kernel
theorem dL_law_336 : decode cL_law 336 = .ok (.iload_n 3, 1) := by decide +kernel
theorem dL_law_337 : decode cL_law 337 = .ok (.iconst 3, 1) := by decide +kernel
theorem dL_law_338 : decode cL_law 338 = .ok (.iadd, 1) := by decide +kernel
theorem dL_law_339 : decode cL_law 339 = .ok (.iaload, 1) := by decide +kernel
theorem dL_law_340 : decode cL_law 340 = .ok (.invokevirtual 56, 3) := by decide +kernel
theorem dL_law_343 : decode cL_law 343 = .ok (.if_icmp .eq 316, 3) := by decide +kernel
theorem dL_law_346 : decode cL_law 346 = .ok (.iconst 0, 1) := by decide +kernel
theorem dL_law_347 : decode cL_law 347 = .ok (.ireturn, 1) := by decide +kernel
theorem dL_law_348 : decode cL_law 348 = .ok (.aload_n 1, 1) := by decide +kernel
theorem dL_law_349 : decode cL_law 349 = .ok (.aload_n 0, 1) := by decide +kernel
theorem dL_law_350 : decode cL_law 350 = .ok (.iload_n 3, 1) := by decide +kernel
theorem dL_law_351 : decode cL_law 351 = .ok (.iconst 1, 1) := by decide +kernel
theorem dL_law_352 : decode cL_law 352 = .ok (.iadd, 1) := by decide +kernel
theorem dL_law_353 : decode cL_law 353 = .ok (.iaload, 1) := by decide +kernel
theorem dL_law_354 : decode cL_law 354 = .ok (.aload_n 0, 1) := by decide +kernel
theorem dL_law_355 : decode cL_law 355 = .ok (.iload_n 3, 1) := by decide +kernel
theorem dL_law_356 : decode cL_law 356 = .ok (.iconst 2, 1) := by decide +kernel
theorem dL_law_357 : decode cL_law 357 = .ok (.iadd, 1) := by decide +kernel
theorem dL_law_358 : decode cL_law 358 = .ok (.iaload, 1) := by decide +kernel
theorem dL_law_359 : decode cL_law 359 = .ok (.aload_n 0, 1) := by decide +kernel
theorem dL_law_360 : decode cL_law 360 = .ok (.iload_n 3, 1) := by decide +kernel
theorem dL_law_361 : decode cL_law 361 = .ok (.iconst 3, 1) := by decide +kernel
theorem dL_law_362 : decode cL_law 362 = .ok (.iadd, 1) := by decide +kernel
theorem dL_law_363 : decode cL_law 363 = .ok (.iaload, 1) := by decide +kernel
theorem dL_law_364 : decode cL_law 364 = .ok (.aload_n 0, 1) := by decide +kernel
theorem dL_law_365 : decode cL_law 365 = .ok (.iload_n 3, 1) := by decide +kernel
theorem dL_law_366 : decode cL_law 366 = .ok (.iconst 4, 1) := by decide +kernel
theorem dL_law_367 : decode cL_law 367 = .ok (.iadd, 1) := by decide +kernel
theorem dL_law_368 : decode cL_law 368 = .ok (.iaload, 1) := by decide +kernel
theorem dL_law_369 : decode cL_law 369 = .ok (.invokevirtual 57, 3) := by decide +kernel
theorem dL_law_372 : decode cL_law 372 = .ok (.aload_n 2, 1) := by decide +kernel
theorem dL_law_373 : decode cL_law 373 = .ok (.aload_n 0, 1) := by decide +kernel
theorem dL_law_374 : decode cL_law 374 = .ok (.iload_n 3, 1) := by decide +kernel
theorem dL_law_375 : decode cL_law 375 = .ok (.iconst 1, 1) := by decide +kernel
theorem dL_law_376 : decode cL_law 376 = .ok (.iadd, 1) := by decide +kernel
theorem dL_law_377 : decode cL_law 377 = .ok (.iaload, 1) := by decide +kernel
theorem dL_law_378 : decode cL_law 378 = .ok (.aload_n 0, 1) := by decide +kernel
theorem dL_law_379 : decode cL_law 379 = .ok (.iload_n 3, 1) := by decide +kernel
theorem dL_law_380 : decode cL_law 380 = .ok (.iconst 2, 1) := by decide +kernel
theorem dL_law_381 : decode cL_law 381 = .ok (.iadd, 1) := by decide +kernel
theorem dL_law_382 : decode cL_law 382 = .ok (.iaload, 1) := by decide +kernel
theorem dL_law_383 : decode cL_law 383 = .ok (.aload_n 0, 1) := by decide +kernel
theorem dL_law_384 : decode cL_law 384 = .ok (.iload_n 3, 1) := by decide +kernel
theorem dL_law_385 : decode cL_law 385 = .ok (.iconst 3, 1) := by decide +kernel
theorem dL_law_386 : decode cL_law 386 = .ok (.iadd, 1) := by decide +kernel
theorem dL_law_387 : decode cL_law 387 = .ok (.iaload, 1) := by decide +kernel
theorem dL_law_388 : decode cL_law 388 = .ok (.aload_n 0, 1) := by decide +kernel
theorem dL_law_389 : decode cL_law 389 = .ok (.iload_n 3, 1) := by decide +kernel
theorem dL_law_390 : decode cL_law 390 = .ok (.iconst 4, 1) := by decide +kernel
theorem dL_law_391 : decode cL_law 391 = .ok (.iadd, 1) := by decide +kernel
theorem dL_law_392 : decode cL_law 392 = .ok (.iaload, 1) := by decide +kernel
theorem dL_law_393 : decode cL_law 393 = .ok (.invokevirtual 61, 3) := by decide +kernel
theorem dL_law_396 : decode cL_law 396 = .ok (.if_icmp .eq 263, 3) := by decide +kernel
theorem dL_law_399 : decode cL_law 399 = .ok (.iconst 0, 1) := by decide +kernel
theorem dL_law_400 : decode cL_law 400 = .ok (.ireturn, 1) := by decide +kernel
theorem dL_law_401 : decode cL_law 401 = .ok (.aload_n 1, 1) := by decide +kernel
theorem dL_law_402 : decode cL_law 402 = .ok (.aload_n 0, 1) := by decide +kernel
theorem dL_law_403 : decode cL_law 403 = .ok (.iload_n 3, 1) := by decide +kernel
theorem dL_law_404 : decode cL_law 404 = .ok (.iconst 1, 1) := by decide +kernel
theorem dL_law_405 : decode cL_law 405 = .ok (.iadd, 1) := by decide +kernel
theorem dL_law_406 : decode cL_law 406 = .ok (.iaload, 1) := by decide +kernel
theorem dL_law_407 : decode cL_law 407 = .ok (.aload_n 0, 1) := by decide +kernel
theorem dL_law_408 : decode cL_law 408 = .ok (.iload_n 3, 1) := by decide +kernel
theorem dL_law_409 : decode cL_law 409 = .ok (.iconst 2, 1) := by decide +kernel
theorem dL_law_410 : decode cL_law 410 = .ok (.iadd, 1) := by decide +kernel
theorem dL_law_411 : decode cL_law 411 = .ok (.iaload, 1) := by decide +kernel
theorem dL_law_412 : decode cL_law 412 = .ok (.aload_n 0, 1) := by decide +kernel
theorem dL_law_413 : decode cL_law 413 = .ok (.iload_n 3, 1) := by decide +kernel
theorem dL_law_414 : decode cL_law 414 = .ok (.iconst 3, 1) := by decide +kernel
theorem dL_law_415 : decode cL_law 415 = .ok (.iadd, 1) := by decide +kernel
theorem dL_law_416 : decode cL_law 416 = .ok (.iaload, 1) := by decide +kernel
theorem dL_law_417 : decode cL_law 417 = .ok (.invokevirtual 62, 3) := by decide +kernel
theorem dL_law_420 : decode cL_law 420 = .ok (.aload_n 2, 1) := by decide +kernel
theorem dL_law_421 : decode cL_law 421 = .ok (.aload_n 0, 1) := by decide +kernel
theorem dL_law_422 : decode cL_law 422 = .ok (.iload_n 3, 1) := by decide +kernel
theorem dL_law_423 : decode cL_law 423 = .ok (.iconst 1, 1) := by decide +kernel
theorem dL_law_424 : decode cL_law 424 = .ok (.iadd, 1) := by decide +kernel
theorem dL_law_425 : decode cL_law 425 = .ok (.iaload, 1) := by decide +kernel
theorem dL_law_426 : decode cL_law 426 = .ok (.aload_n 0, 1) := by decide +kernel
theorem dL_law_427 : decode cL_law 427 = .ok (.iload_n 3, 1) := by decide +kernel
theorem dL_law_428 : decode cL_law 428 = .ok (.iconst 2, 1) := by decide +kernel
theorem dL_law_429 : decode cL_law 429 = .ok (.iadd, 1) := by decide +kernel
theorem dL_law_430 : decode cL_law 430 = .ok (.iaload, 1) := by decide +kernel
theorem dL_law_431 : decode cL_law 431 = .ok (.aload_n 0, 1) := by decide +kernel
theorem dL_law_432 : decode cL_law 432 = .ok (.iload_n 3, 1) := by decide +kernel
theorem dL_law_433 : decode cL_law 433 = .ok (.iconst 3, 1) := by decide +kernel
theorem dL_law_434 : decode cL_law 434 = .ok (.iadd, 1) := by decide +kernel
theorem dL_law_435 : decode cL_law 435 = .ok (.iaload, 1) := by decide +kernel
theorem dL_law_436 : decode cL_law 436 = .ok (.invokevirtual 65, 3) := by decide +kernel
theorem dL_law_439 : decode cL_law 439 = .ok (.if_icmp .eq 220, 3) := by decide +kernel
theorem dL_law_442 : decode cL_law 442 = .ok (.iconst 0, 1) := by decide +kernel
theorem dL_law_443 : decode cL_law 443 = .ok (.ireturn, 1) := by decide +kernel
theorem dL_law_444 : decode cL_law 444 = .ok (.aload_n 1, 1) := by decide +kernel
theorem dL_law_445 : decode cL_law 445 = .ok (.aload_n 0, 1) := by decide +kernel
theorem dL_law_446 : decode cL_law 446 = .ok (.iload_n 3, 1) := by decide +kernel
theorem dL_law_447 : decode cL_law 447 = .ok (.iconst 1, 1) := by decide +kernel
theorem dL_law_448 : decode cL_law 448 = .ok (.iadd, 1) := by decide +kernel
theorem dL_law_449 : decode cL_law 449 = .ok (.iaload, 1) := by decide +kernel
theorem dL_law_450 : decode cL_law 450 = .ok (.aload_n 0, 1) := by decide +kernel
theorem dL_law_451 : decode cL_law 451 = .ok (.iload_n 3, 1) := by decide +kernel
theorem dL_law_452 : decode cL_law 452 = .ok (.iconst 2, 1) := by decide +kernel
theorem dL_law_453 : decode cL_law 453 = .ok (.iadd, 1) := by decide +kernel
theorem dL_law_454 : decode cL_law 454 = .ok (.iaload, 1) := by decide +kernel
theorem dL_law_455 : decode cL_law 455 = .ok (.invokevirtual 66, 3) := by decide +kernel
theorem dL_law_458 : decode cL_law 458 = .ok (.aload_n 2, 1) := by decide +kernel
theorem dL_law_459 : decode cL_law 459 = .ok (.aload_n 0, 1) := by decide +kernel
theorem dL_law_460 : decode cL_law 460 = .ok (.iload_n 3, 1) := by decide +kernel
theorem dL_law_461 : decode cL_law 461 = .ok (.iconst 1, 1) := by decide +kernel
theorem dL_law_462 : decode cL_law 462 = .ok (.iadd, 1) := by decide +kernel
theorem dL_law_463 : decode cL_law 463 = .ok (.iaload, 1) := by decide +kernel
theorem dL_law_464 : decode cL_law 464 = .ok (.aload_n 0, 1) := by decide +kernel
theorem dL_law_465 : decode cL_law 465 = .ok (.iload_n 3, 1) := by decide +kernel
theorem dL_law_466 : decode cL_law 466 = .ok (.iconst 2, 1) := by decide +kernel
theorem dL_law_467 : decode cL_law 467 = .ok (.iadd, 1) := by decide +kernel
theorem dL_law_468 : decode cL_law 468 = .ok (.iaload, 1) := by decide +kernel
theorem dL_law_469 : decode cL_law 469 = .ok (.invokevirtual 69, 3) := by decide +kernel
theorem dL_law_472 : decode cL_law 472 = .ok (.if_icmp .eq 187, 3) := by decide +kernel
theorem dL_law_475 : decode cL_law 475 = .ok (.iconst 0, 1) := by decide +kernel
theorem dL_law_476 : decode cL_law 476 = .ok (.ireturn, 1) := by decide +kernel
theorem dL_law_477 : decode cL_law 477 = .ok (.aload_n 1, 1) := by decide +kernel
theorem dL_law_478 : decode cL_law 478 = .ok (.aload_n 0, 1) := by decide +kernel
theorem dL_law_479 : decode cL_law 479 = .ok (.iload_n 3, 1) := by decide +kernel
theorem dL_law_480 : decode cL_law 480 = .ok (.iconst 1, 1) := by decide +kernel
theorem dL_law_481 : decode cL_law 481 = .ok (.iadd, 1) := by decide +kernel
theorem dL_law_482 : decode cL_law 482 = .ok (.iaload, 1) := by decide +kernel
theorem dL_law_483 : decode cL_law 483 = .ok (.aload_n 0, 1) := by decide +kernel
theorem dL_law_484 : decode cL_law 484 = .ok (.iload_n 3, 1) := by decide +kernel
theorem dL_law_485 : decode cL_law 485 = .ok (.iconst 2, 1) := by decide +kernel
theorem dL_law_486 : decode cL_law 486 = .ok (.iadd, 1) := by decide +kernel
theorem dL_law_487 : decode cL_law 487 = .ok (.iaload, 1) := by decide +kernel
theorem dL_law_488 : decode cL_law 488 = .ok (.invokevirtual 70, 3) := by decide +kernel
theorem dL_law_491 : decode cL_law 491 = .ok (.aload_n 2, 1) := by decide +kernel
theorem dL_law_492 : decode cL_law 492 = .ok (.aload_n 0, 1) := by decide +kernel
theorem dL_law_493 : decode cL_law 493 = .ok (.iload_n 3, 1) := by decide +kernel
theorem dL_law_494 : decode cL_law 494 = .ok (.iconst 1, 1) := by decide +kernel
theorem dL_law_495 : decode cL_law 495 = .ok (.iadd, 1) := by decide +kernel
theorem dL_law_496 : decode cL_law 496 = .ok (.iaload, 1) := by decide +kernel
theorem dL_law_497 : decode cL_law 497 = .ok (.aload_n 0, 1) := by decide +kernel
theorem dL_law_498 : decode cL_law 498 = .ok (.iload_n 3, 1) := by decide +kernel
theorem dL_law_499 : decode cL_law 499 = .ok (.iconst 2, 1) := by decide +kernel
theorem dL_law_500 : decode cL_law 500 = .ok (.iadd, 1) := by decide +kernel
theorem dL_law_501 : decode cL_law 501 = .ok (.iaload, 1) := by decide +kernel
theorem dL_law_502 : decode cL_law 502 = .ok (.invokevirtual 73, 3) := by decide +kernel
theorem dL_law_505 : decode cL_law 505 = .ok (.if_icmp .eq 154, 3) := by decide +kernel
theorem dL_law_508 : decode cL_law 508 = .ok (.iconst 0, 1) := by decide +kernel
theorem dL_law_509 : decode cL_law 509 = .ok (.ireturn, 1) := by decide +kernel
theorem dL_law_510 : decode cL_law 510 = .ok (.aload_n 1, 1) := by decide +kernel
theorem dL_law_511 : decode cL_law 511 = .ok (.aload_n 0, 1) := by decide +kernel
theorem dL_law_512 : decode cL_law 512 = .ok (.iload_n 3, 1) := by decide +kernel
theorem dL_law_513 : decode cL_law 513 = .ok (.iconst 1, 1) := by decide +kernel
theorem dL_law_514 : decode cL_law 514 = .ok (.iadd, 1) := by decide +kernel
theorem dL_law_515 : decode cL_law 515 = .ok (.iaload, 1) := by decide +kernel
theorem dL_law_516 : decode cL_law 516 = .ok (.aload_n 0, 1) := by decide +kernel
theorem dL_law_517 : decode cL_law 517 = .ok (.iload_n 3, 1) := by decide +kernel
theorem dL_law_518 : decode cL_law 518 = .ok (.iconst 2, 1) := by decide +kernel
theorem dL_law_519 : decode cL_law 519 = .ok (.iadd, 1) := by decide +kernel
theorem dL_law_520 : decode cL_law 520 = .ok (.iaload, 1) := by decide +kernel
theorem dL_law_521 : decode cL_law 521 = .ok (.aload_n 0, 1) := by decide +kernel
theorem dL_law_522 : decode cL_law 522 = .ok (.iload_n 3, 1) := by decide +kernel
theorem dL_law_523 : decode cL_law 523 = .ok (.iconst 3, 1) := by decide +kernel
theorem dL_law_524 : decode cL_law 524 = .ok (.iadd, 1) := by decide +kernel
theorem dL_law_525 : decode cL_law 525 = .ok (.iaload, 1) := by decide +kernel
theorem dL_law_526 : decode cL_law 526 = .ok (.invokevirtual 74, 3) := by decide +kernel
theorem dL_law_529 : decode cL_law 529 = .ok (.aload_n 2, 1) := by decide +kernel
theorem dL_law_530 : decode cL_law 530 = .ok (.aload_n 0, 1) := by decide +kernel
theorem dL_law_531 : decode cL_law 531 = .ok (.iload_n 3, 1) := by decide +kernel
theorem dL_law_532 : decode cL_law 532 = .ok (.iconst 1, 1) := by decide +kernel
theorem dL_law_533 : decode cL_law 533 = .ok (.iadd, 1) := by decide +kernel
theorem dL_law_534 : decode cL_law 534 = .ok (.iaload, 1) := by decide +kernel
theorem dL_law_535 : decode cL_law 535 = .ok (.aload_n 0, 1) := by decide +kernel
theorem dL_law_536 : decode cL_law 536 = .ok (.iload_n 3, 1) := by decide +kernel
theorem dL_law_537 : decode cL_law 537 = .ok (.iconst 2, 1) := by decide +kernel
theorem dL_law_538 : decode cL_law 538 = .ok (.iadd, 1) := by decide +kernel
theorem dL_law_539 : decode cL_law 539 = .ok (.iaload, 1) := by decide +kernel
theorem dL_law_540 : decode cL_law 540 = .ok (.aload_n 0, 1) := by decide +kernel
theorem dL_law_541 : decode cL_law 541 = .ok (.iload_n 3, 1) := by decide +kernel
theorem dL_law_542 : decode cL_law 542 = .ok (.iconst 3, 1) := by decide +kernel
theorem dL_law_543 : decode cL_law 543 = .ok (.iadd, 1) := by decide +kernel
theorem dL_law_544 : decode cL_law 544 = .ok (.iaload, 1) := by decide +kernel
theorem dL_law_545 : decode cL_law 545 = .ok (.invokevirtual 77, 3) := by decide +kernel
theorem dL_law_548 : decode cL_law 548 = .ok (.if_icmp .eq 111, 3) := by decide +kernel
theorem dL_law_551 : decode cL_law 551 = .ok (.iconst 0, 1) := by decide +kernel
theorem dL_law_552 : decode cL_law 552 = .ok (.ireturn, 1) := by decide +kernel
theorem dL_law_553 : decode cL_law 553 = .ok (.aload_n 1, 1) := by decide +kernel
theorem dL_law_554 : decode cL_law 554 = .ok (.aload_n 0, 1) := by decide +kernel
theorem dL_law_555 : decode cL_law 555 = .ok (.iload_n 3, 1) := by decide +kernel
theorem dL_law_556 : decode cL_law 556 = .ok (.iconst 1, 1) := by decide +kernel
theorem dL_law_557 : decode cL_law 557 = .ok (.iadd, 1) := by decide +kernel
theorem dL_law_558 : decode cL_law 558 = .ok (.iaload, 1) := by decide +kernel
theorem dL_law_559 : decode cL_law 559 = .ok (.invokevirtual 78, 3) := by decide +kernel
theorem dL_law_562 : decode cL_law 562 = .ok (.aload_n 2, 1) := by decide +kernel
theorem dL_law_563 : decode cL_law 563 = .ok (.aload_n 0, 1) := by decide +kernel
theorem dL_law_564 : decode cL_law 564 = .ok (.iload_n 3, 1) := by decide +kernel
theorem dL_law_565 : decode cL_law 565 = .ok (.iconst 1, 1) := by decide +kernel
theorem dL_law_566 : decode cL_law 566 = .ok (.iadd, 1) := by decide +kernel
theorem dL_law_567 : decode cL_law 567 = .ok (.iaload, 1) := by decide +kernel
theorem dL_law_568 : decode cL_law 568 = .ok (.invokevirtual 81, 3) := by decide +kernel
theorem dL_law_571 : decode cL_law 571 = .ok (.if_icmp .eq 88, 3) := by decide +kernel
theorem dL_law_574 : decode cL_law 574 = .ok (.iconst 0, 1) := by decide +kernel
theorem dL_law_575 : decode cL_law 575 = .ok (.ireturn, 1) := by decide +kernel
theorem dL_law_576 : decode cL_law 576 = .ok (.aload_n 1, 1) := by decide +kernel
theorem dL_law_577 : decode cL_law 577 = .ok (.aload_n 0, 1) := by decide +kernel
theorem dL_law_578 : decode cL_law 578 = .ok (.iload_n 3, 1) := by decide +kernel
theorem dL_law_579 : decode cL_law 579 = .ok (.iconst 1, 1) := by decide +kernel
theorem dL_law_580 : decode cL_law 580 = .ok (.iadd, 1) := by decide +kernel
theorem dL_law_581 : decode cL_law 581 = .ok (.iaload, 1) := by decide +kernel
theorem dL_law_582 : decode cL_law 582 = .ok (.invokevirtual 82, 3) := by decide +kernel
theorem dL_law_585 : decode cL_law 585 = .ok (.aload_n 2, 1) := by decide +kernel
theorem dL_law_586 : decode cL_law 586 = .ok (.aload_n 0, 1) := by decide +kernel
theorem dL_law_587 : decode cL_law 587 = .ok (.iload_n 3, 1) := by decide +kernel
theorem dL_law_588 : decode cL_law 588 = .ok (.iconst 1, 1) := by decide +kernel
theorem dL_law_589 : decode cL_law 589 = .ok (.iadd, 1) := by decide +kernel
theorem dL_law_590 : decode cL_law 590 = .ok (.iaload, 1) := by decide +kernel
theorem dL_law_591 : decode cL_law 591 = .ok (.invokevirtual 85, 3) := by decide +kernel
theorem dL_law_594 : decode cL_law 594 = .ok (.if_icmp .eq 65, 3) := by decide +kernel
theorem dL_law_597 : decode cL_law 597 = .ok (.iconst 0, 1) := by decide +kernel
theorem dL_law_598 : decode cL_law 598 = .ok (.ireturn, 1) := by decide +kernel
theorem dL_law_599 : decode cL_law 599 = .ok (.aload_n 1, 1) := by decide +kernel
theorem dL_law_600 : decode cL_law 600 = .ok (.aload_n 0, 1) := by decide +kernel
theorem dL_law_601 : decode cL_law 601 = .ok (.iload_n 3, 1) := by decide +kernel
theorem dL_law_602 : decode cL_law 602 = .ok (.iconst 1, 1) := by decide +kernel
theorem dL_law_603 : decode cL_law 603 = .ok (.iadd, 1) := by decide +kernel
theorem dL_law_604 : decode cL_law 604 = .ok (.iaload, 1) := by decide +kernel
theorem dL_law_605 : decode cL_law 605 = .ok (.invokevirtual 86, 3) := by decide +kernel
theorem dL_law_608 : decode cL_law 608 = .ok (.aload_n 2, 1) := by decide +kernel
theorem dL_law_609 : decode cL_law 609 = .ok (.aload_n 0, 1) := by decide +kernel
theorem dL_law_610 : decode cL_law 610 = .ok (.iload_n 3, 1) := by decide +kernel
theorem dL_law_611 : decode cL_law 611 = .ok (.iconst 1, 1) := by decide +kernel
theorem dL_law_612 : decode cL_law 612 = .ok (.iadd, 1) := by decide +kernel
theorem dL_law_613 : decode cL_law 613 = .ok (.iaload, 1) := by decide +kernel
theorem dL_law_614 : decode cL_law 614 = .ok (.invokevirtual 89, 3) := by decide +kernel
theorem dL_law_617 : decode cL_law 617 = .ok (.if_icmp .eq 42, 3) := by decide +kernel
theorem dL_law_620 : decode cL_law 620 = .ok (.iconst 0, 1) := by decide +kernel
theorem dL_law_621 : decode cL_law 621 = .ok (.ireturn, 1) := by decide +kernel
theorem dL_law_622 : decode cL_law 622 = .ok (.aload_n 1, 1) := by decide +kernel
theorem dL_law_623 : decode cL_law 623 = .ok (.aload_n 0, 1) := by decide +kernel
theorem dL_law_624 : decode cL_law 624 = .ok (.iload_n 3, 1) := by decide +kernel
theorem dL_law_625 : decode cL_law 625 = .ok (.iconst 1, 1) := by decide +kernel
theorem dL_law_626 : decode cL_law 626 = .ok (.iadd, 1) := by decide +kernel
theorem dL_law_627 : decode cL_law 627 = .ok (.iaload, 1) := by decide +kernel
theorem dL_law_628 : decode cL_law 628 = .ok (.invokevirtual 90, 3) := by decide +kernel
theorem dL_law_631 : decode cL_law 631 = .ok (.aload_n 2, 1) := by decide +kernel
theorem dL_law_632 : decode cL_law 632 = .ok (.aload_n 0, 1) := by decide +kernel
theorem dL_law_633 : decode cL_law 633 = .ok (.iload_n 3, 1) := by decide +kernel
theorem dL_law_634 : decode cL_law 634 = .ok (.iconst 1, 1) := by decide +kernel
theorem dL_law_635 : decode cL_law 635 = .ok (.iadd, 1) := by decide +kernel
theorem dL_law_636 : decode cL_law 636 = .ok (.iaload, 1) := by decide +kernel
theorem dL_law_637 : decode cL_law 637 = .ok (.invokevirtual 93, 3) := by decide +kernel
theorem dL_law_640 : decode cL_law 640 = .ok (.if_icmp .eq 19, 3) := by decide +kernel
theorem dL_law_643 : decode cL_law 643 = .ok (.iconst 0, 1) := by decide +kernel
theorem dL_law_644 : decode cL_law 644 = .ok (.ireturn, 1) := by decide +kernel
theorem dL_law_645 : decode cL_law 645 = .ok (.aload_n 1, 1) := by decide +kernel
theorem dL_law_646 : decode cL_law 646 = .ok (.invokevirtual 94, 3) := by decide +kernel
theorem dL_law_649 : decode cL_law 649 = .ok (.aload_n 2, 1) := by decide +kernel
theorem dL_law_650 : decode cL_law 650 = .ok (.invokevirtual 98, 3) := by decide +kernel
theorem dL_law_653 : decode cL_law 653 = .ok (.lcmp, 1) := by decide +kernel
theorem dL_law_654 : decode cL_law 654 = .ok (.ifCond .eq 5, 3) := by decide +kernel
theorem dL_law_657 : decode cL_law 657 = .ok (.iconst 0, 1) := by decide +kernel
theorem dL_law_658 : decode cL_law 658 = .ok (.ireturn, 1) := by decide +kernel
theorem dL_law_659 : decode cL_law 659 = .ok (.iinc 3 5, 3) := by decide +kernel
theorem dL_law_662 : decode cL_law 662 = .ok (.goto (-644), 3) := by decide +kernel
theorem dL_law_665 : decode cL_law 665 = .ok (.iconst 1, 1) := by decide +kernel
theorem dL_law_666 : decode cL_law 666 = .ok (.ireturn, 1) := by decide +kernel
end
section
theorem dX0_init_0 : decode cX0_init 0 = .ok (.aload_n 0, 1) := by decide +kernel
theorem dX0_init_1 : decode cX0_init 1 = .ok (.invokespecial 3, 3) := by decide +kernel
theorem dX0_init_4 : decode cX0_init 4 = .ok (.aload_n 0, 1) := by decide +kernel
theorem dX0_init_5 : decode cX0_init 5 = .ok (.bipush 8, 2) := by decide +kernel
theorem dX0_init_7 : decode cX0_init 7 = .ok (.bipush 8, 2) := by decide +kernel
theorem dX0_init_9 : decode cX0_init 9 = .ok (.multianewarray 9 2, 4) := by decide +kernel
theorem dX0_init_13 : decode cX0_init 13 = .ok (.putfield 11, 3) := by decide +kernel
theorem dX0_init_16 : decode cX0_init 16 = .ok (.aload_n 0, 1) := by decide +kernel
theorem dX0_init_17 : decode cX0_init 17 = .ok (.bipush 9, 2) := by decide +kernel
theorem dX0_init_19 : decode cX0_init 19 = .ok (.bipush 9, 2) := by decide +kernel
theorem dX0_init_21 : decode cX0_init 21 = .ok (.multianewarray 9 2, 4) := by decide +kernel
theorem dX0_init_25 : decode cX0_init 25 = .ok (.putfield 16, 3) := by decide +kernel
theorem dX0_init_28 : decode cX0_init 28 = .ok (.aload_n 0, 1) := by decide +kernel
theorem dX0_init_29 : decode cX0_init 29 = .ok (.bipush 13, 2) := by decide +kernel
theorem dX0_init_31 : decode cX0_init 31 = .ok (.newarray .int, 2) := by decide +kernel
theorem dX0_init_33 : decode cX0_init 33 = .ok (.putfield 19, 3) := by decide +kernel
theorem dX0_init_36 : decode cX0_init 36 = .ok (.return_, 1) := by decide +kernel
theorem dX0_compare_0 : decode cX0_compare 0 = .ok (.aload_n 0, 1) := by decide +kernel
theorem dX0_compare_1 : decode cX0_compare 1 = .ok (.aload_n 1, 1) := by decide +kernel
theorem dX0_compare_2 : decode cX0_compare 2 = .ok (.aload_n 2, 1) := by decide +kernel
theorem dX0_compare_3 : decode cX0_compare 3 = .ok (.iload_n 3, 1) := by decide +kernel
theorem dX0_compare_4 : decode cX0_compare 4 = .ok (.invokevirtual 23, 3) := by decide +kernel
theorem dX0_compare_7 : decode cX0_compare 7 = .ok (.aload_n 0, 1) := by decide +kernel
theorem dX0_compare_8 : decode cX0_compare 8 = .ok (.aload_n 1, 1) := by decide +kernel
theorem dX0_compare_9 : decode cX0_compare 9 = .ok (.aload_n 2, 1) := by decide +kernel
theorem dX0_compare_10 : decode cX0_compare 10 = .ok (.iload_n 3, 1) := by decide +kernel
theorem dX0_compare_11 : decode cX0_compare 11 = .ok (.invokevirtual 27, 3) := by decide +kernel
theorem dX0_compare_14 : decode cX0_compare 14 = .ok (.aload 4, 2) := by decide +kernel
theorem dX0_compare_16 : decode cX0_compare 16 = .ok (.aload_n 0, 1) := by decide +kernel
theorem dX0_compare_17 : decode cX0_compare 17 = .ok (.getfield 16, 3) := by decide +kernel
theorem dX0_compare_20 : decode cX0_compare 20 = .ok (.iconst 0, 1) := by decide +kernel
theorem dX0_compare_21 : decode cX0_compare 21 = .ok (.aaload, 1) := by decide +kernel
theorem dX0_compare_22 : decode cX0_compare 22 = .ok (.iconst 0, 1) := by decide +kernel
theorem dX0_compare_23 : decode cX0_compare 23 = .ok (.iaload, 1) := by decide +kernel
theorem dX0_compare_24 : decode cX0_compare 24 = .ok (.putfield 30, 3) := by decide +kernel
theorem dX0_compare_27 : decode cX0_compare 27 = .ok (.aload 4, 2) := by decide +kernel
theorem dX0_compare_29 : decode cX0_compare 29 = .ok (.aload_n 1, 1) := by decide +kernel
theorem dX0_compare_30 : decode cX0_compare 30 = .ok (.iload_n 3, 1) := by decide +kernel
theorem dX0_compare_31 : decode cX0_compare 31 = .ok (.invokevirtual 36, 3) := by decide +kernel
theorem dX0_compare_34 : decode cX0_compare 34 = .ok (.aload_n 2, 1) := by decide +kernel
theorem dX0_compare_35 : decode cX0_compare 35 = .ok (.iload_n 3, 1) := by decide +kernel
theorem dX0_compare_36 : decode cX0_compare 36 = .ok (.invokevirtual 36, 3) := by decide +kernel
theorem dX0_compare_39 : decode cX0_compare 39 = .ok (.iadd, 1) := by decide +kernel
theorem dX0_compare_40 : decode cX0_compare 40 = .ok (.putfield 42, 3) := by decide +kernel
theorem dX0_compare_43 : decode cX0_compare 43 = .ok (.aload 4, 2) := by decide +kernel
theorem dX0_compare_45 : decode cX0_compare 45 = .ok (.aload_n 1, 1) := by decide +kernel
theorem dX0_compare_46 : decode cX0_compare 46 = .ok (.aload_n 2, 1) := by decide +kernel
theorem dX0_compare_47 : decode cX0_compare 47 = .ok (.invokevirtual 45, 3) := by decide +kernel
theorem dX0_compare_50 : decode cX0_compare 50 = .ok (.putfield 49, 3) := by decide +kernel
theorem dX0_compare_53 : decode cX0_compare 53 = .ok (.aload 4, 2) := by decide +kernel
theorem dX0_compare_55 : decode cX0_compare 55 = .ok (.invokevirtual 52, 3) := by decide +kernel
theorem dX0_compare_58 : decode cX0_compare 58 = .ok (.aload_n 0, 1) := by decide +kernel
theorem dX0_compare_59 : decode cX0_compare 59 = .ok (.aload_n 1, 1) := by decide +kernel
theorem dX0_compare_60 : decode cX0_compare 60 = .ok (.aload_n 2, 1) := by decide +kernel
theorem dX0_compare_61 : decode cX0_compare 61 = .ok (.iload_n 3, 1) := by decide +kernel
theorem dX0_compare_62 : decode cX0_compare 62 = .ok (.aload 4, 2) := by decide +kernel
theorem dX0_compare_64 : decode cX0_compare 64 = .ok (.invokevirtual 55, 3) := by decide +kernel
theorem dX0_compare_67 : decode cX0_compare 67 = .ok (.return_, 1) := by decide +kernel
theorem dX0_alikeOfWords_0 : decode cX0_alikeOfWords 0 = .ok (.aload_n 1, 1) := by decide +kernel
theorem dX0_alikeOfWords_1 : decode cX0_alikeOfWords 1 = .ok (.getfield 59, 3) := by decide +kernel
theorem dX0_alikeOfWords_4 : decode cX0_alikeOfWords 4 = .ok (.aload_n 2, 1) := by decide +kernel
theorem dX0_alikeOfWords_5 : decode cX0_alikeOfWords 5 = .ok (.getfield 59, 3) := by decide +kernel
theorem dX0_alikeOfWords_8 : decode cX0_alikeOfWords 8 = .ok (.invokestatic 64, 3) := by decide +kernel
theorem dX0_alikeOfWords_11 : decode cX0_alikeOfWords 11 = .ok (.istore_n 3, 1) := by decide +kernel
theorem dX0_alikeOfWords_12 : decode cX0_alikeOfWords 12 = .ok (.iload_n 3, 1) := by decide +kernel
theorem dX0_alikeOfWords_13 : decode cX0_alikeOfWords 13 = .ok (.iconst 1, 1) := by decide +kernel
theorem dX0_alikeOfWords_14 : decode cX0_alikeOfWords 14 = .ok (.if_icmp .ge 5, 3) := by decide +kernel
theorem dX0_alikeOfWords_17 : decode cX0_alikeOfWords 17 = .ok (.iconst 0, 1) := by decide +kernel
theorem dX0_alikeOfWords_18 : decode cX0_alikeOfWords 18 = .ok (.ireturn, 1) := by decide +kernel
theorem dX0_alikeOfWords_19 : decode cX0_alikeOfWords 19 = .ok (.bipush 10, 2) := by decide +kernel
theorem dX0_alikeOfWords_21 : decode cX0_alikeOfWords 21 = .ok (.aload_n 0, 1) := by decide +kernel
theorem dX0_alikeOfWords_22 : decode cX0_alikeOfWords 22 = .ok (.aload_n 1, 1) := by decide +kernel
theorem dX0_alikeOfWords_23 : decode cX0_alikeOfWords 23 = .ok (.aload_n 2, 1) := by decide +kernel
theorem dX0_alikeOfWords_24 : decode cX0_alikeOfWords 24 = .ok (.invokevirtual 70, 3) := by decide +kernel
theorem dX0_alikeOfWords_27 : decode cX0_alikeOfWords 27 = .ok (.imul, 1) := by decide +kernel
theorem dX0_alikeOfWords_28 : decode cX0_alikeOfWords 28 = .ok (.iload_n 3, 1) := by decide +kernel
theorem dX0_alikeOfWords_29 : decode cX0_alikeOfWords 29 = .ok (.iadd, 1) := by decide +kernel
theorem dX0_alikeOfWords_30 : decode cX0_alikeOfWords 30 = .ok (.iconst 1, 1) := by decide +kernel
theorem dX0_alikeOfWords_31 : decode cX0_alikeOfWords 31 = .ok (.isub, 1) := by decide +kernel
theorem dX0_alikeOfWords_32 : decode cX0_alikeOfWords 32 = .ok (.iload_n 3, 1) := by decide +kernel
theorem dX0_alikeOfWords_33 : decode cX0_alikeOfWords 33 = .ok (.idiv, 1) := by decide +kernel
theorem dX0_alikeOfWords_34 : decode cX0_alikeOfWords 34 = .ok (.ireturn, 1) := by decide +kernel
theorem dX0_fillBoth_0 : decode cX0_fillBoth 0 = .ok (.iconst 0, 1) := by decide +kernel
theorem dX0_fillBoth_1 : decode cX0_fillBoth 1 = .ok (.istore 4, 2) := by decide +kernel
theorem dX0_fillBoth_3 : decode cX0_fillBoth 3 = .ok (.iload 4, 2) := by decide +kernel
theorem dX0_fillBoth_5 : decode cX0_fillBoth 5 = .ok (.aload_n 1, 1) := by decide +kernel
theorem dX0_fillBoth_6 : decode cX0_fillBoth 6 = .ok (.getfield 74, 3) := by decide +kernel
theorem dX0_fillBoth_9 : decode cX0_fillBoth 9 = .ok (.if_icmp .ge 56, 3) := by decide +kernel
theorem dX0_fillBoth_12 : decode cX0_fillBoth 12 = .ok (.iconst 0, 1) := by decide +kernel
theorem dX0_fillBoth_13 : decode cX0_fillBoth 13 = .ok (.istore 5, 2) := by decide +kernel
theorem dX0_fillBoth_15 : decode cX0_fillBoth 15 = .ok (.iload 5, 2) := by decide +kernel
theorem dX0_fillBoth_17 : decode cX0_fillBoth 17 = .ok (.aload_n 2, 1) := by decide +kernel
theorem dX0_fillBoth_18 : decode cX0_fillBoth 18 = .ok (.getfield 74, 3) := by decide +kernel
theorem dX0_fillBoth_21 : decode cX0_fillBoth 21 = .ok (.if_icmp .ge 38, 3) := by decide +kernel
theorem dX0_fillBoth_24 : decode cX0_fillBoth 24 = .ok (.aload_n 0, 1) := by decide +kernel
theorem dX0_fillBoth_25 : decode cX0_fillBoth 25 = .ok (.getfield 11, 3) := by decide +kernel
theorem dX0_fillBoth_28 : decode cX0_fillBoth 28 = .ok (.iload 4, 2) := by decide +kernel
theorem dX0_fillBoth_30 : decode cX0_fillBoth 30 = .ok (.aaload, 1) := by decide +kernel
theorem dX0_fillBoth_31 : decode cX0_fillBoth 31 = .ok (.iload 5, 2) := by decide +kernel
theorem dX0_fillBoth_33 : decode cX0_fillBoth 33 = .ok (.aload_n 0, 1) := by decide +kernel
theorem dX0_fillBoth_34 : decode cX0_fillBoth 34 = .ok (.aload_n 1, 1) := by decide +kernel
theorem dX0_fillBoth_35 : decode cX0_fillBoth 35 = .ok (.getfield 77, 3) := by decide +kernel
theorem dX0_fillBoth_38 : decode cX0_fillBoth 38 = .ok (.iload 4, 2) := by decide +kernel
theorem dX0_fillBoth_40 : decode cX0_fillBoth 40 = .ok (.aaload, 1) := by decide +kernel
theorem dX0_fillBoth_41 : decode cX0_fillBoth 41 = .ok (.aload_n 2, 1) := by decide +kernel
theorem dX0_fillBoth_42 : decode cX0_fillBoth 42 = .ok (.getfield 77, 3) := by decide +kernel
theorem dX0_fillBoth_45 : decode cX0_fillBoth 45 = .ok (.iload 5, 2) := by decide +kernel
theorem dX0_fillBoth_47 : decode cX0_fillBoth 47 = .ok (.aaload, 1) := by decide +kernel
theorem dX0_fillBoth_48 : decode cX0_fillBoth 48 = .ok (.iload_n 3, 1) := by decide +kernel
theorem dX0_fillBoth_49 : decode cX0_fillBoth 49 = .ok (.invokevirtual 81, 3) := by decide +kernel
theorem dX0_fillBoth_52 : decode cX0_fillBoth 52 = .ok (.iastore, 1) := by decide +kernel
theorem dX0_fillBoth_53 : decode cX0_fillBoth 53 = .ok (.iinc 5 1, 3) := by decide +kernel
theorem dX0_fillBoth_56 : decode cX0_fillBoth 56 = .ok (.goto (-41), 3) := by decide +kernel
theorem dX0_fillBoth_59 : decode cX0_fillBoth 59 = .ok (.iinc 4 1, 3) := by decide +kernel
theorem dX0_fillBoth_62 : decode cX0_fillBoth 62 = .ok (.goto (-59), 3) := by decide +kernel
theorem dX0_fillBoth_65 : decode cX0_fillBoth 65 = .ok (.return_, 1) := by decide +kernel
theorem dX0_costOfBoth_0 : decode cX0_costOfBoth 0 = .ok (.aload_n 1, 1) := by decide +kernel
theorem dX0_costOfBoth_1 : decode cX0_costOfBoth 1 = .ok (.invokevirtual 85, 3) := by decide +kernel
theorem dX0_costOfBoth_4 : decode cX0_costOfBoth 4 = .ok (.aload_n 2, 1) := by decide +kernel
theorem dX0_costOfBoth_5 : decode cX0_costOfBoth 5 = .ok (.invokevirtual 85, 3) := by decide +kernel
theorem dX0_costOfBoth_8 : decode cX0_costOfBoth 8 = .ok (.if_icmp .eq 6, 3) := by decide +kernel
theorem dX0_costOfBoth_11 : decode cX0_costOfBoth 11 = .ok (.ldc 89, 2) := by decide +kernel
theorem dX0_costOfBoth_13 : decode cX0_costOfBoth 13 = .ok (.ireturn, 1) := by decide +kernel
theorem dX0_costOfBoth_14 : decode cX0_costOfBoth 14 = .ok (.aload_n 1, 1) := by decide +kernel
theorem dX0_costOfBoth_15 : decode cX0_costOfBoth 15 = .ok (.invokevirtual 85, 3) := by decide +kernel
theorem dX0_costOfBoth_18 : decode cX0_costOfBoth 18 = .ok (.ifCond .eq 10, 3) := by decide +kernel
theorem dX0_costOfBoth_21 : decode cX0_costOfBoth 21 = .ok (.aload_n 0, 1) := by decide +kernel
theorem dX0_costOfBoth_22 : decode cX0_costOfBoth 22 = .ok (.aload_n 1, 1) := by decide +kernel
theorem dX0_costOfBoth_23 : decode cX0_costOfBoth 23 = .ok (.aload_n 2, 1) := by decide +kernel
theorem dX0_costOfBoth_24 : decode cX0_costOfBoth 24 = .ok (.invokevirtual 90, 3) := by decide +kernel
theorem dX0_costOfBoth_27 : decode cX0_costOfBoth 27 = .ok (.ireturn, 1) := by decide +kernel
theorem dX0_costOfBoth_28 : decode cX0_costOfBoth 28 = .ok (.aload_n 1, 1) := by decide +kernel
theorem dX0_costOfBoth_29 : decode cX0_costOfBoth 29 = .ok (.getfield 93, 3) := by decide +kernel
theorem dX0_costOfBoth_32 : decode cX0_costOfBoth 32 = .ok (.aload_n 2, 1) := by decide +kernel
theorem dX0_costOfBoth_33 : decode cX0_costOfBoth 33 = .ok (.getfield 93, 3) := by decide +kernel
theorem dX0_costOfBoth_36 : decode cX0_costOfBoth 36 = .ok (.if_icmp .ne 7, 3) := by decide +kernel
theorem dX0_costOfBoth_39 : decode cX0_costOfBoth 39 = .ok (.iconst 0, 1) := by decide +kernel
theorem dX0_costOfBoth_40 : decode cX0_costOfBoth 40 = .ok (.goto 4, 3) := by decide +kernel
theorem dX0_costOfBoth_43 : decode cX0_costOfBoth 43 = .ok (.iload_n 3, 1) := by decide +kernel
theorem dX0_costOfBoth_44 : decode cX0_costOfBoth 44 = .ok (.ireturn, 1) := by decide +kernel
theorem dX0_fillRest_0 : decode cX0_fillRest 0 = .ok (.aload_n 1, 1) := by decide +kernel
theorem dX0_fillRest_1 : decode cX0_fillRest 1 = .ok (.getfield 74, 3) := by decide +kernel
theorem dX0_fillRest_4 : decode cX0_fillRest 4 = .ok (.istore 4, 2) := by decide +kernel
theorem dX0_fillRest_6 : decode cX0_fillRest 6 = .ok (.aload_n 2, 1) := by decide +kernel
theorem dX0_fillRest_7 : decode cX0_fillRest 7 = .ok (.getfield 74, 3) := by decide +kernel
theorem dX0_fillRest_10 : decode cX0_fillRest 10 = .ok (.istore 5, 2) := by decide +kernel
theorem dX0_fillRest_12 : decode cX0_fillRest 12 = .ok (.aload_n 0, 1) := by decide +kernel
theorem dX0_fillRest_13 : decode cX0_fillRest 13 = .ok (.getfield 16, 3) := by decide +kernel
theorem dX0_fillRest_16 : decode cX0_fillRest 16 = .ok (.iload 4, 2) := by decide +kernel
theorem dX0_fillRest_18 : decode cX0_fillRest 18 = .ok (.aaload, 1) := by decide +kernel
theorem dX0_fillRest_19 : decode cX0_fillRest 19 = .ok (.iload 5, 2) := by decide +kernel
theorem dX0_fillRest_21 : decode cX0_fillRest 21 = .ok (.iconst 0, 1) := by decide +kernel
theorem dX0_fillRest_22 : decode cX0_fillRest 22 = .ok (.iastore, 1) := by decide +kernel
theorem dX0_fillRest_23 : decode cX0_fillRest 23 = .ok (.iload 4, 2) := by decide +kernel
theorem dX0_fillRest_25 : decode cX0_fillRest 25 = .ok (.iconst 1, 1) := by decide +kernel
theorem dX0_fillRest_26 : decode cX0_fillRest 26 = .ok (.isub, 1) := by decide +kernel
theorem dX0_fillRest_27 : decode cX0_fillRest 27 = .ok (.istore 6, 2) := by decide +kernel
theorem dX0_fillRest_29 : decode cX0_fillRest 29 = .ok (.iload 6, 2) := by decide +kernel
theorem dX0_fillRest_31 : decode cX0_fillRest 31 = .ok (.ifCond .lt 43, 3) := by decide +kernel
theorem dX0_fillRest_34 : decode cX0_fillRest 34 = .ok (.aload_n 0, 1) := by decide +kernel
theorem dX0_fillRest_35 : decode cX0_fillRest 35 = .ok (.getfield 16, 3) := by decide +kernel
theorem dX0_fillRest_38 : decode cX0_fillRest 38 = .ok (.iload 6, 2) := by decide +kernel
theorem dX0_fillRest_40 : decode cX0_fillRest 40 = .ok (.aaload, 1) := by decide +kernel
theorem dX0_fillRest_41 : decode cX0_fillRest 41 = .ok (.iload 5, 2) := by decide +kernel
theorem dX0_fillRest_43 : decode cX0_fillRest 43 = .ok (.aload_n 0, 1) := by decide +kernel
theorem dX0_fillRest_44 : decode cX0_fillRest 44 = .ok (.getfield 16, 3) := by decide +kernel
theorem dX0_fillRest_47 : decode cX0_fillRest 47 = .ok (.iload 6, 2) := by decide +kernel
theorem dX0_fillRest_49 : decode cX0_fillRest 49 = .ok (.iconst 1, 1) := by decide +kernel
theorem dX0_fillRest_50 : decode cX0_fillRest 50 = .ok (.iadd, 1) := by decide +kernel
theorem dX0_fillRest_51 : decode cX0_fillRest 51 = .ok (.aaload, 1) := by decide +kernel
theorem dX0_fillRest_52 : decode cX0_fillRest 52 = .ok (.iload 5, 2) := by decide +kernel
theorem dX0_fillRest_54 : decode cX0_fillRest 54 = .ok (.iaload, 1) := by decide +kernel
theorem dX0_fillRest_55 : decode cX0_fillRest 55 = .ok (.aload_n 1, 1) := by decide +kernel
theorem dX0_fillRest_56 : decode cX0_fillRest 56 = .ok (.getfield 77, 3) := by decide +kernel
theorem dX0_fillRest_59 : decode cX0_fillRest 59 = .ok (.iload 6, 2) := by decide +kernel
theorem dX0_fillRest_61 : decode cX0_fillRest 61 = .ok (.aaload, 1) := by decide +kernel
theorem dX0_fillRest_62 : decode cX0_fillRest 62 = .ok (.iload_n 3, 1) := by decide +kernel
theorem dX0_fillRest_63 : decode cX0_fillRest 63 = .ok (.invokevirtual 96, 3) := by decide +kernel
theorem dX0_fillRest_66 : decode cX0_fillRest 66 = .ok (.iadd, 1) := by decide +kernel
theorem dX0_fillRest_67 : decode cX0_fillRest 67 = .ok (.iastore, 1) := by decide +kernel
theorem dX0_fillRest_68 : decode cX0_fillRest 68 = .ok (.iinc 6 (-1), 3) := by decide +kernel
theorem dX0_fillRest_71 : decode cX0_fillRest 71 = .ok (.goto (-42), 3) := by decide +kernel
theorem dX0_fillRest_74 : decode cX0_fillRest 74 = .ok (.iload 5, 2) := by decide +kernel
theorem dX0_fillRest_76 : decode cX0_fillRest 76 = .ok (.iconst 1, 1) := by decide +kernel
theorem dX0_fillRest_77 : decode cX0_fillRest 77 = .ok (.isub, 1) := by decide +kernel
theorem dX0_fillRest_78 : decode cX0_fillRest 78 = .ok (.istore 6, 2) := by decide +kernel
theorem dX0_fillRest_80 : decode cX0_fillRest 80 = .ok (.iload 6, 2) := by decide +kernel
theorem dX0_fillRest_82 : decode cX0_fillRest 82 = .ok (.ifCond .lt 43, 3) := by decide +kernel
theorem dX0_fillRest_85 : decode cX0_fillRest 85 = .ok (.aload_n 0, 1) := by decide +kernel
theorem dX0_fillRest_86 : decode cX0_fillRest 86 = .ok (.getfield 16, 3) := by decide +kernel
theorem dX0_fillRest_89 : decode cX0_fillRest 89 = .ok (.iload 4, 2) := by decide +kernel
theorem dX0_fillRest_91 : decode cX0_fillRest 91 = .ok (.aaload, 1) := by decide +kernel
theorem dX0_fillRest_92 : decode cX0_fillRest 92 = .ok (.iload 6, 2) := by decide +kernel
theorem dX0_fillRest_94 : decode cX0_fillRest 94 = .ok (.aload_n 0, 1) := by decide +kernel
theorem dX0_fillRest_95 : decode cX0_fillRest 95 = .ok (.getfield 16, 3) := by decide +kernel
theorem dX0_fillRest_98 : decode cX0_fillRest 98 = .ok (.iload 4, 2) := by decide +kernel
theorem dX0_fillRest_100 : decode cX0_fillRest 100 = .ok (.aaload, 1) := by decide +kernel
theorem dX0_fillRest_101 : decode cX0_fillRest 101 = .ok (.iload 6, 2) := by decide +kernel
theorem dX0_fillRest_103 : decode cX0_fillRest 103 = .ok (.iconst 1, 1) := by decide +kernel
theorem dX0_fillRest_104 : decode cX0_fillRest 104 = .ok (.iadd, 1) := by decide +kernel
theorem dX0_fillRest_105 : decode cX0_fillRest 105 = .ok (.iaload, 1) := by decide +kernel
theorem dX0_fillRest_106 : decode cX0_fillRest 106 = .ok (.aload_n 2, 1) := by decide +kernel
theorem dX0_fillRest_107 : decode cX0_fillRest 107 = .ok (.getfield 77, 3) := by decide +kernel
theorem dX0_fillRest_110 : decode cX0_fillRest 110 = .ok (.iload 6, 2) := by decide +kernel
theorem dX0_fillRest_112 : decode cX0_fillRest 112 = .ok (.aaload, 1) := by decide +kernel
theorem dX0_fillRest_113 : decode cX0_fillRest 113 = .ok (.iload_n 3, 1) := by decide +kernel
theorem dX0_fillRest_114 : decode cX0_fillRest 114 = .ok (.invokevirtual 96, 3) := by decide +kernel
theorem dX0_fillRest_117 : decode cX0_fillRest 117 = .ok (.iadd, 1) := by decide +kernel
theorem dX0_fillRest_118 : decode cX0_fillRest 118 = .ok (.iastore, 1) := by decide +kernel
theorem dX0_fillRest_119 : decode cX0_fillRest 119 = .ok (.iinc 6 (-1), 3) := by decide +kernel
theorem dX0_fillRest_122 : decode cX0_fillRest 122 = .ok (.goto (-42), 3) := by decide +kernel
theorem dX0_fillRest_125 : decode cX0_fillRest 125 = .ok (.iload 4, 2) := by decide +kernel
theorem dX0_fillRest_127 : decode cX0_fillRest 127 = .ok (.iconst 1, 1) := by decide +kernel
theorem dX0_fillRest_128 : decode cX0_fillRest 128 = .ok (.isub, 1) := by decide +kernel
theorem dX0_fillRest_129 : decode cX0_fillRest 129 = .ok (.istore 6, 2) := by decide +kernel
theorem dX0_fillRest_131 : decode cX0_fillRest 131 = .ok (.iload 6, 2) := by decide +kernel
theorem dX0_fillRest_133 : decode cX0_fillRest 133 = .ok (.ifCond .lt 131, 3) := by decide +kernel
theorem dX0_fillRest_136 : decode cX0_fillRest 136 = .ok (.aload_n 1, 1) := by decide +kernel
theorem dX0_fillRest_137 : decode cX0_fillRest 137 = .ok (.getfield 77, 3) := by decide +kernel
theorem dX0_fillRest_140 : decode cX0_fillRest 140 = .ok (.iload 6, 2) := by decide +kernel
theorem dX0_fillRest_142 : decode cX0_fillRest 142 = .ok (.aaload, 1) := by decide +kernel
theorem dX0_fillRest_143 : decode cX0_fillRest 143 = .ok (.iload_n 3, 1) := by decide +kernel
theorem dX0_fillRest_144 : decode cX0_fillRest 144 = .ok (.invokevirtual 96, 3) := by decide +kernel
theorem dX0_fillRest_147 : decode cX0_fillRest 147 = .ok (.istore 7, 2) := by decide +kernel
theorem dX0_fillRest_149 : decode cX0_fillRest 149 = .ok (.iload 5, 2) := by decide +kernel
theorem dX0_fillRest_151 : decode cX0_fillRest 151 = .ok (.iconst 1, 1) := by decide +kernel
theorem dX0_fillRest_152 : decode cX0_fillRest 152 = .ok (.isub, 1) := by decide +kernel
theorem dX0_fillRest_153 : decode cX0_fillRest 153 = .ok (.istore 8, 2) := by decide +kernel
theorem dX0_fillRest_155 : decode cX0_fillRest 155 = .ok (.iload 8, 2) := by decide +kernel
theorem dX0_fillRest_157 : decode cX0_fillRest 157 = .ok (.ifCond .lt 101, 3) := by decide +kernel
theorem dX0_fillRest_160 : decode cX0_fillRest 160 = .ok (.aload_n 0, 1) := by decide +kernel
theorem dX0_fillRest_161 : decode cX0_fillRest 161 = .ok (.getfield 11, 3) := by decide +kernel
theorem dX0_fillRest_164 : decode cX0_fillRest 164 = .ok (.iload 6, 2) := by decide +kernel
theorem dX0_fillRest_166 : decode cX0_fillRest 166 = .ok (.aaload, 1) := by decide +kernel
theorem dX0_fillRest_167 : decode cX0_fillRest 167 = .ok (.iload 8, 2) := by decide +kernel
theorem dX0_fillRest_169 : decode cX0_fillRest 169 = .ok (.iaload, 1) := by decide +kernel
theorem dX0_fillRest_170 : decode cX0_fillRest 170 = .ok (.aload_n 0, 1) := by decide +kernel
theorem dX0_fillRest_171 : decode cX0_fillRest 171 = .ok (.getfield 16, 3) := by decide +kernel
theorem dX0_fillRest_174 : decode cX0_fillRest 174 = .ok (.iload 6, 2) := by decide +kernel
theorem dX0_fillRest_176 : decode cX0_fillRest 176 = .ok (.iconst 1, 1) := by decide +kernel
theorem dX0_fillRest_177 : decode cX0_fillRest 177 = .ok (.iadd, 1) := by decide +kernel
theorem dX0_fillRest_178 : decode cX0_fillRest 178 = .ok (.aaload, 1) := by decide +kernel
theorem dX0_fillRest_179 : decode cX0_fillRest 179 = .ok (.iload 8, 2) := by decide +kernel
theorem dX0_fillRest_181 : decode cX0_fillRest 181 = .ok (.iconst 1, 1) := by decide +kernel
theorem dX0_fillRest_182 : decode cX0_fillRest 182 = .ok (.iadd, 1) := by decide +kernel
theorem dX0_fillRest_183 : decode cX0_fillRest 183 = .ok (.iaload, 1) := by decide +kernel
theorem dX0_fillRest_184 : decode cX0_fillRest 184 = .ok (.iadd, 1) := by decide +kernel
theorem dX0_fillRest_185 : decode cX0_fillRest 185 = .ok (.istore 9, 2) := by decide +kernel
theorem dX0_fillRest_187 : decode cX0_fillRest 187 = .ok (.iload 9, 2) := by decide +kernel
theorem dX0_fillRest_189 : decode cX0_fillRest 189 = .ok (.iload 7, 2) := by decide +kernel
theorem dX0_fillRest_191 : decode cX0_fillRest 191 = .ok (.aload_n 0, 1) := by decide +kernel
theorem dX0_fillRest_192 : decode cX0_fillRest 192 = .ok (.getfield 16, 3) := by decide +kernel
theorem dX0_fillRest_195 : decode cX0_fillRest 195 = .ok (.iload 6, 2) := by decide +kernel
theorem dX0_fillRest_197 : decode cX0_fillRest 197 = .ok (.iconst 1, 1) := by decide +kernel
theorem dX0_fillRest_198 : decode cX0_fillRest 198 = .ok (.iadd, 1) := by decide +kernel
theorem dX0_fillRest_199 : decode cX0_fillRest 199 = .ok (.aaload, 1) := by decide +kernel
theorem dX0_fillRest_200 : decode cX0_fillRest 200 = .ok (.iload 8, 2) := by decide +kernel
theorem dX0_fillRest_202 : decode cX0_fillRest 202 = .ok (.iaload, 1) := by decide +kernel
theorem dX0_fillRest_203 : decode cX0_fillRest 203 = .ok (.iadd, 1) := by decide +kernel
theorem dX0_fillRest_204 : decode cX0_fillRest 204 = .ok (.invokestatic 97, 3) := by decide +kernel
theorem dX0_fillRest_207 : decode cX0_fillRest 207 = .ok (.istore 9, 2) := by decide +kernel
theorem dX0_fillRest_209 : decode cX0_fillRest 209 = .ok (.iload 9, 2) := by decide +kernel
theorem dX0_fillRest_211 : decode cX0_fillRest 211 = .ok (.aload_n 2, 1) := by decide +kernel
theorem dX0_fillRest_212 : decode cX0_fillRest 212 = .ok (.getfield 77, 3) := by decide +kernel
theorem dX0_fillRest_215 : decode cX0_fillRest 215 = .ok (.iload 8, 2) := by decide +kernel
theorem dX0_fillRest_217 : decode cX0_fillRest 217 = .ok (.aaload, 1) := by decide +kernel
theorem dX0_fillRest_218 : decode cX0_fillRest 218 = .ok (.iload_n 3, 1) := by decide +kernel
theorem dX0_fillRest_219 : decode cX0_fillRest 219 = .ok (.invokevirtual 96, 3) := by decide +kernel
theorem dX0_fillRest_222 : decode cX0_fillRest 222 = .ok (.aload_n 0, 1) := by decide +kernel
theorem dX0_fillRest_223 : decode cX0_fillRest 223 = .ok (.getfield 16, 3) := by decide +kernel
theorem dX0_fillRest_226 : decode cX0_fillRest 226 = .ok (.iload 6, 2) := by decide +kernel
theorem dX0_fillRest_228 : decode cX0_fillRest 228 = .ok (.aaload, 1) := by decide +kernel
theorem dX0_fillRest_229 : decode cX0_fillRest 229 = .ok (.iload 8, 2) := by decide +kernel
theorem dX0_fillRest_231 : decode cX0_fillRest 231 = .ok (.iconst 1, 1) := by decide +kernel
theorem dX0_fillRest_232 : decode cX0_fillRest 232 = .ok (.iadd, 1) := by decide +kernel
theorem dX0_fillRest_233 : decode cX0_fillRest 233 = .ok (.iaload, 1) := by decide +kernel
theorem dX0_fillRest_234 : decode cX0_fillRest 234 = .ok (.iadd, 1) := by decide +kernel
theorem dX0_fillRest_235 : decode cX0_fillRest 235 = .ok (.invokestatic 97, 3) := by decide +kernel
theorem dX0_fillRest_238 : decode cX0_fillRest 238 = .ok (.istore 9, 2) := by decide +kernel
theorem dX0_fillRest_240 : decode cX0_fillRest 240 = .ok (.aload_n 0, 1) := by decide +kernel
theorem dX0_fillRest_241 : decode cX0_fillRest 241 = .ok (.getfield 16, 3) := by decide +kernel
theorem dX0_fillRest_244 : decode cX0_fillRest 244 = .ok (.iload 6, 2) := by decide +kernel
theorem dX0_fillRest_246 : decode cX0_fillRest 246 = .ok (.aaload, 1) := by decide +kernel
theorem dX0_fillRest_247 : decode cX0_fillRest 247 = .ok (.iload 8, 2) := by decide +kernel
theorem dX0_fillRest_249 : decode cX0_fillRest 249 = .ok (.iload 9, 2) := by decide +kernel
theorem dX0_fillRest_251 : decode cX0_fillRest 251 = .ok (.iastore, 1) := by decide +kernel
theorem dX0_fillRest_252 : decode cX0_fillRest 252 = .ok (.iinc 8 (-1), 3) := by decide +kernel
theorem dX0_fillRest_255 : decode cX0_fillRest 255 = .ok (.goto (-100), 3) := by decide +kernel
theorem dX0_fillRest_258 : decode cX0_fillRest 258 = .ok (.iinc 6 (-1), 3) := by decide +kernel
theorem dX0_fillRest_261 : decode cX0_fillRest 261 = .ok (.goto (-130), 3) := by decide +kernel
theorem dX0_fillRest_264 : decode cX0_fillRest 264 = .ok (.return_, 1) := by decide +kernel
theorem dX0_walkSteps_0 : decode cX0_walkSteps 0 = .ok (.aload 4, 2) := by decide +kernel
theorem dX0_walkSteps_2 : decode cX0_walkSteps 2 = .ok (.invokevirtual 100, 3) := by decide +kernel
theorem dX0_walkSteps_5 : decode cX0_walkSteps 5 = .ok (.iconst 0, 1) := by decide +kernel
theorem dX0_walkSteps_6 : decode cX0_walkSteps 6 = .ok (.istore 5, 2) := by decide +kernel
theorem dX0_walkSteps_8 : decode cX0_walkSteps 8 = .ok (.iconst 0, 1) := by decide +kernel
theorem dX0_walkSteps_9 : decode cX0_walkSteps 9 = .ok (.istore 6, 2) := by decide +kernel
theorem dX0_walkSteps_11 : decode cX0_walkSteps 11 = .ok (.iconst 0, 1) := by decide +kernel
theorem dX0_walkSteps_12 : decode cX0_walkSteps 12 = .ok (.istore 7, 2) := by decide +kernel
theorem dX0_walkSteps_14 : decode cX0_walkSteps 14 = .ok (.iload 7, 2) := by decide +kernel
theorem dX0_walkSteps_16 : decode cX0_walkSteps 16 = .ok (.bipush 16, 2) := by decide +kernel
theorem dX0_walkSteps_18 : decode cX0_walkSteps 18 = .ok (.if_icmp .ge 272, 3) := by decide +kernel
theorem dX0_walkSteps_21 : decode cX0_walkSteps 21 = .ok (.iload 5, 2) := by decide +kernel
theorem dX0_walkSteps_23 : decode cX0_walkSteps 23 = .ok (.aload_n 1, 1) := by decide +kernel
theorem dX0_walkSteps_24 : decode cX0_walkSteps 24 = .ok (.getfield 74, 3) := by decide +kernel
theorem dX0_walkSteps_27 : decode cX0_walkSteps 27 = .ok (.if_icmp .ge 7, 3) := by decide +kernel
theorem dX0_walkSteps_30 : decode cX0_walkSteps 30 = .ok (.iconst 1, 1) := by decide +kernel
theorem dX0_walkSteps_31 : decode cX0_walkSteps 31 = .ok (.goto 4, 3) := by decide +kernel
theorem dX0_walkSteps_34 : decode cX0_walkSteps 34 = .ok (.iconst 0, 1) := by decide +kernel
theorem dX0_walkSteps_35 : decode cX0_walkSteps 35 = .ok (.istore 8, 2) := by decide +kernel
theorem dX0_walkSteps_37 : decode cX0_walkSteps 37 = .ok (.iload 6, 2) := by decide +kernel
theorem dX0_walkSteps_39 : decode cX0_walkSteps 39 = .ok (.aload_n 2, 1) := by decide +kernel
theorem dX0_walkSteps_40 : decode cX0_walkSteps 40 = .ok (.getfield 74, 3) := by decide +kernel
theorem dX0_walkSteps_43 : decode cX0_walkSteps 43 = .ok (.if_icmp .ge 7, 3) := by decide +kernel
theorem dX0_walkSteps_46 : decode cX0_walkSteps 46 = .ok (.iconst 1, 1) := by decide +kernel
theorem dX0_walkSteps_47 : decode cX0_walkSteps 47 = .ok (.goto 4, 3) := by decide +kernel
theorem dX0_walkSteps_50 : decode cX0_walkSteps 50 = .ok (.iconst 0, 1) := by decide +kernel
theorem dX0_walkSteps_51 : decode cX0_walkSteps 51 = .ok (.istore 9, 2) := by decide +kernel
theorem dX0_walkSteps_53 : decode cX0_walkSteps 53 = .ok (.iload 8, 2) := by decide +kernel
theorem dX0_walkSteps_55 : decode cX0_walkSteps 55 = .ok (.ifCond .eq 93, 3) := by decide +kernel
theorem dX0_walkSteps_58 : decode cX0_walkSteps 58 = .ok (.iload 9, 2) := by decide +kernel
theorem dX0_walkSteps_60 : decode cX0_walkSteps 60 = .ok (.ifCond .eq 88, 3) := by decide +kernel
theorem dX0_walkSteps_63 : decode cX0_walkSteps 63 = .ok (.aload_n 0, 1) := by decide +kernel
theorem dX0_walkSteps_64 : decode cX0_walkSteps 64 = .ok (.getfield 16, 3) := by decide +kernel
theorem dX0_walkSteps_67 : decode cX0_walkSteps 67 = .ok (.iload 5, 2) := by decide +kernel
theorem dX0_walkSteps_69 : decode cX0_walkSteps 69 = .ok (.aaload, 1) := by decide +kernel
theorem dX0_walkSteps_70 : decode cX0_walkSteps 70 = .ok (.iload 6, 2) := by decide +kernel
theorem dX0_walkSteps_72 : decode cX0_walkSteps 72 = .ok (.iaload, 1) := by decide +kernel
theorem dX0_walkSteps_73 : decode cX0_walkSteps 73 = .ok (.aload_n 0, 1) := by decide +kernel
theorem dX0_walkSteps_74 : decode cX0_walkSteps 74 = .ok (.getfield 11, 3) := by decide +kernel
theorem dX0_walkSteps_77 : decode cX0_walkSteps 77 = .ok (.iload 5, 2) := by decide +kernel
theorem dX0_walkSteps_79 : decode cX0_walkSteps 79 = .ok (.aaload, 1) := by decide +kernel
theorem dX0_walkSteps_80 : decode cX0_walkSteps 80 = .ok (.iload 6, 2) := by decide +kernel
theorem dX0_walkSteps_82 : decode cX0_walkSteps 82 = .ok (.iaload, 1) := by decide +kernel
theorem dX0_walkSteps_83 : decode cX0_walkSteps 83 = .ok (.aload_n 0, 1) := by decide +kernel
theorem dX0_walkSteps_84 : decode cX0_walkSteps 84 = .ok (.getfield 16, 3) := by decide +kernel
theorem dX0_walkSteps_87 : decode cX0_walkSteps 87 = .ok (.iload 5, 2) := by decide +kernel
theorem dX0_walkSteps_89 : decode cX0_walkSteps 89 = .ok (.iconst 1, 1) := by decide +kernel
theorem dX0_walkSteps_90 : decode cX0_walkSteps 90 = .ok (.iadd, 1) := by decide +kernel
theorem dX0_walkSteps_91 : decode cX0_walkSteps 91 = .ok (.aaload, 1) := by decide +kernel
theorem dX0_walkSteps_92 : decode cX0_walkSteps 92 = .ok (.iload 6, 2) := by decide +kernel
theorem dX0_walkSteps_94 : decode cX0_walkSteps 94 = .ok (.iconst 1, 1) := by decide +kernel
theorem dX0_walkSteps_95 : decode cX0_walkSteps 95 = .ok (.iadd, 1) := by decide +kernel
theorem dX0_walkSteps_96 : decode cX0_walkSteps 96 = .ok (.iaload, 1) := by decide +kernel
theorem dX0_walkSteps_97 : decode cX0_walkSteps 97 = .ok (.iadd, 1) := by decide +kernel
theorem dX0_walkSteps_98 : decode cX0_walkSteps 98 = .ok (.if_icmp .ne 50, 3) := by decide +kernel
theorem dX0_walkSteps_101 : decode cX0_walkSteps 101 = .ok (.aload 4, 2) := by decide +kernel
theorem dX0_walkSteps_103 : decode cX0_walkSteps 103 = .ok (.iconst 0, 1) := by decide +kernel
theorem dX0_walkSteps_104 : decode cX0_walkSteps 104 = .ok (.aload_n 0, 1) := by decide +kernel
theorem dX0_walkSteps_105 : decode cX0_walkSteps 105 = .ok (.getfield 11, 3) := by decide +kernel
theorem dX0_walkSteps_108 : decode cX0_walkSteps 108 = .ok (.iload 5, 2) := by decide +kernel
theorem dX0_walkSteps_110 : decode cX0_walkSteps 110 = .ok (.aaload, 1) := by decide +kernel
theorem dX0_walkSteps_111 : decode cX0_walkSteps 111 = .ok (.iload 6, 2) := by decide +kernel
theorem dX0_walkSteps_113 : decode cX0_walkSteps 113 = .ok (.iaload, 1) := by decide +kernel
theorem dX0_walkSteps_114 : decode cX0_walkSteps 114 = .ok (.iload 5, 2) := by decide +kernel
theorem dX0_walkSteps_116 : decode cX0_walkSteps 116 = .ok (.iload 6, 2) := by decide +kernel
theorem dX0_walkSteps_118 : decode cX0_walkSteps 118 = .ok (.aload_n 1, 1) := by decide +kernel
theorem dX0_walkSteps_119 : decode cX0_walkSteps 119 = .ok (.getfield 77, 3) := by decide +kernel
theorem dX0_walkSteps_122 : decode cX0_walkSteps 122 = .ok (.iload 5, 2) := by decide +kernel
theorem dX0_walkSteps_124 : decode cX0_walkSteps 124 = .ok (.aaload, 1) := by decide +kernel
theorem dX0_walkSteps_125 : decode cX0_walkSteps 125 = .ok (.invokevirtual 85, 3) := by decide +kernel
theorem dX0_walkSteps_128 : decode cX0_walkSteps 128 = .ok (.ifCond .ne 7, 3) := by decide +kernel
theorem dX0_walkSteps_131 : decode cX0_walkSteps 131 = .ok (.iconst 1, 1) := by decide +kernel
theorem dX0_walkSteps_132 : decode cX0_walkSteps 132 = .ok (.goto 4, 3) := by decide +kernel
theorem dX0_walkSteps_135 : decode cX0_walkSteps 135 = .ok (.iconst 0, 1) := by decide +kernel
theorem dX0_walkSteps_136 : decode cX0_walkSteps 136 = .ok (.invokevirtual 103, 3) := by decide +kernel
theorem dX0_walkSteps_139 : decode cX0_walkSteps 139 = .ok (.iinc 5 1, 3) := by decide +kernel
theorem dX0_walkSteps_142 : decode cX0_walkSteps 142 = .ok (.iinc 6 1, 3) := by decide +kernel
theorem dX0_walkSteps_145 : decode cX0_walkSteps 145 = .ok (.goto 139, 3) := by decide +kernel
theorem dX0_walkSteps_148 : decode cX0_walkSteps 148 = .ok (.iload 8, 2) := by decide +kernel
theorem dX0_walkSteps_150 : decode cX0_walkSteps 150 = .ok (.ifCond .eq 84, 3) := by decide +kernel
theorem dX0_walkSteps_153 : decode cX0_walkSteps 153 = .ok (.aload_n 0, 1) := by decide +kernel
theorem dX0_walkSteps_154 : decode cX0_walkSteps 154 = .ok (.getfield 16, 3) := by decide +kernel
theorem dX0_walkSteps_157 : decode cX0_walkSteps 157 = .ok (.iload 5, 2) := by decide +kernel
theorem dX0_walkSteps_159 : decode cX0_walkSteps 159 = .ok (.aaload, 1) := by decide +kernel
theorem dX0_walkSteps_160 : decode cX0_walkSteps 160 = .ok (.iload 6, 2) := by decide +kernel
theorem dX0_walkSteps_162 : decode cX0_walkSteps 162 = .ok (.iaload, 1) := by decide +kernel
theorem dX0_walkSteps_163 : decode cX0_walkSteps 163 = .ok (.aload_n 1, 1) := by decide +kernel
theorem dX0_walkSteps_164 : decode cX0_walkSteps 164 = .ok (.getfield 77, 3) := by decide +kernel
theorem dX0_walkSteps_167 : decode cX0_walkSteps 167 = .ok (.iload 5, 2) := by decide +kernel
theorem dX0_walkSteps_169 : decode cX0_walkSteps 169 = .ok (.aaload, 1) := by decide +kernel
theorem dX0_walkSteps_170 : decode cX0_walkSteps 170 = .ok (.iload_n 3, 1) := by decide +kernel
theorem dX0_walkSteps_171 : decode cX0_walkSteps 171 = .ok (.invokevirtual 96, 3) := by decide +kernel
theorem dX0_walkSteps_174 : decode cX0_walkSteps 174 = .ok (.aload_n 0, 1) := by decide +kernel
theorem dX0_walkSteps_175 : decode cX0_walkSteps 175 = .ok (.getfield 16, 3) := by decide +kernel
theorem dX0_walkSteps_178 : decode cX0_walkSteps 178 = .ok (.iload 5, 2) := by decide +kernel
theorem dX0_walkSteps_180 : decode cX0_walkSteps 180 = .ok (.iconst 1, 1) := by decide +kernel
theorem dX0_walkSteps_181 : decode cX0_walkSteps 181 = .ok (.iadd, 1) := by decide +kernel
theorem dX0_walkSteps_182 : decode cX0_walkSteps 182 = .ok (.aaload, 1) := by decide +kernel
theorem dX0_walkSteps_183 : decode cX0_walkSteps 183 = .ok (.iload 6, 2) := by decide +kernel
theorem dX0_walkSteps_185 : decode cX0_walkSteps 185 = .ok (.iaload, 1) := by decide +kernel
theorem dX0_walkSteps_186 : decode cX0_walkSteps 186 = .ok (.iadd, 1) := by decide +kernel
theorem dX0_walkSteps_187 : decode cX0_walkSteps 187 = .ok (.if_icmp .ne 47, 3) := by decide +kernel
theorem dX0_walkSteps_190 : decode cX0_walkSteps 190 = .ok (.aload 4, 2) := by decide +kernel
theorem dX0_walkSteps_192 : decode cX0_walkSteps 192 = .ok (.iconst 1, 1) := by decide +kernel
theorem dX0_walkSteps_193 : decode cX0_walkSteps 193 = .ok (.aload_n 1, 1) := by decide +kernel
theorem dX0_walkSteps_194 : decode cX0_walkSteps 194 = .ok (.getfield 77, 3) := by decide +kernel
theorem dX0_walkSteps_197 : decode cX0_walkSteps 197 = .ok (.iload 5, 2) := by decide +kernel
theorem dX0_walkSteps_199 : decode cX0_walkSteps 199 = .ok (.aaload, 1) := by decide +kernel
theorem dX0_walkSteps_200 : decode cX0_walkSteps 200 = .ok (.iload_n 3, 1) := by decide +kernel
theorem dX0_walkSteps_201 : decode cX0_walkSteps 201 = .ok (.invokevirtual 96, 3) := by decide +kernel
theorem dX0_walkSteps_204 : decode cX0_walkSteps 204 = .ok (.iload 5, 2) := by decide +kernel
theorem dX0_walkSteps_206 : decode cX0_walkSteps 206 = .ok (.iconst (-1), 1) := by decide +kernel
theorem dX0_walkSteps_207 : decode cX0_walkSteps 207 = .ok (.aload_n 1, 1) := by decide +kernel
theorem dX0_walkSteps_208 : decode cX0_walkSteps 208 = .ok (.getfield 77, 3) := by decide +kernel
theorem dX0_walkSteps_211 : decode cX0_walkSteps 211 = .ok (.iload 5, 2) := by decide +kernel
theorem dX0_walkSteps_213 : decode cX0_walkSteps 213 = .ok (.aaload, 1) := by decide +kernel
theorem dX0_walkSteps_214 : decode cX0_walkSteps 214 = .ok (.invokevirtual 85, 3) := by decide +kernel
theorem dX0_walkSteps_217 : decode cX0_walkSteps 217 = .ok (.ifCond .ne 7, 3) := by decide +kernel
theorem dX0_walkSteps_220 : decode cX0_walkSteps 220 = .ok (.iconst 1, 1) := by decide +kernel
theorem dX0_walkSteps_221 : decode cX0_walkSteps 221 = .ok (.goto 4, 3) := by decide +kernel
theorem dX0_walkSteps_224 : decode cX0_walkSteps 224 = .ok (.iconst 0, 1) := by decide +kernel
theorem dX0_walkSteps_225 : decode cX0_walkSteps 225 = .ok (.invokevirtual 103, 3) := by decide +kernel
theorem dX0_walkSteps_228 : decode cX0_walkSteps 228 = .ok (.iinc 5 1, 3) := by decide +kernel
theorem dX0_walkSteps_231 : decode cX0_walkSteps 231 = .ok (.goto 53, 3) := by decide +kernel
theorem dX0_walkSteps_234 : decode cX0_walkSteps 234 = .ok (.iload 9, 2) := by decide +kernel
theorem dX0_walkSteps_236 : decode cX0_walkSteps 236 = .ok (.ifCond .eq 47, 3) := by decide +kernel
theorem dX0_walkSteps_239 : decode cX0_walkSteps 239 = .ok (.aload 4, 2) := by decide +kernel
theorem dX0_walkSteps_241 : decode cX0_walkSteps 241 = .ok (.iconst 2, 1) := by decide +kernel
theorem dX0_walkSteps_242 : decode cX0_walkSteps 242 = .ok (.aload_n 2, 1) := by decide +kernel
theorem dX0_walkSteps_243 : decode cX0_walkSteps 243 = .ok (.getfield 77, 3) := by decide +kernel
theorem dX0_walkSteps_246 : decode cX0_walkSteps 246 = .ok (.iload 6, 2) := by decide +kernel
theorem dX0_walkSteps_248 : decode cX0_walkSteps 248 = .ok (.aaload, 1) := by decide +kernel
theorem dX0_walkSteps_249 : decode cX0_walkSteps 249 = .ok (.iload_n 3, 1) := by decide +kernel
theorem dX0_walkSteps_250 : decode cX0_walkSteps 250 = .ok (.invokevirtual 96, 3) := by decide +kernel
theorem dX0_walkSteps_253 : decode cX0_walkSteps 253 = .ok (.iconst (-1), 1) := by decide +kernel
theorem dX0_walkSteps_254 : decode cX0_walkSteps 254 = .ok (.iload 6, 2) := by decide +kernel
theorem dX0_walkSteps_256 : decode cX0_walkSteps 256 = .ok (.aload_n 2, 1) := by decide +kernel
theorem dX0_walkSteps_257 : decode cX0_walkSteps 257 = .ok (.getfield 77, 3) := by decide +kernel
theorem dX0_walkSteps_260 : decode cX0_walkSteps 260 = .ok (.iload 6, 2) := by decide +kernel
theorem dX0_walkSteps_262 : decode cX0_walkSteps 262 = .ok (.aaload, 1) := by decide +kernel
theorem dX0_walkSteps_263 : decode cX0_walkSteps 263 = .ok (.invokevirtual 85, 3) := by decide +kernel
theorem dX0_walkSteps_266 : decode cX0_walkSteps 266 = .ok (.ifCond .ne 7, 3) := by decide +kernel
theorem dX0_walkSteps_269 : decode cX0_walkSteps 269 = .ok (.iconst 1, 1) := by decide +kernel
theorem dX0_walkSteps_270 : decode cX0_walkSteps 270 = .ok (.goto 4, 3) := by decide +kernel
theorem dX0_walkSteps_273 : decode cX0_walkSteps 273 = .ok (.iconst 0, 1) := by decide +kernel
theorem dX0_walkSteps_274 : decode cX0_walkSteps 274 = .ok (.invokevirtual 103, 3) := by decide +kernel
theorem dX0_walkSteps_277 : decode cX0_walkSteps 277 = .ok (.iinc 6 1, 3) := by decide +kernel
theorem dX0_walkSteps_280 : decode cX0_walkSteps 280 = .ok (.goto 4, 3) := by decide +kernel
theorem dX0_walkSteps_283 : decode cX0_walkSteps 283 = .ok (.return_, 1) := by decide +kernel
theorem dX0_walkSteps_284 : decode cX0_walkSteps 284 = .ok (.iinc 7 1, 3) := by decide +kernel
theorem dX0_walkSteps_287 : decode cX0_walkSteps 287 = .ok (.goto (-273), 3) := by decide +kernel
theorem dX0_walkSteps_290 : decode cX0_walkSteps 290 = .ok (.return_, 1) := by decide +kernel
theorem dX0_leastEdits_0 : decode cX0_leastEdits 0 = .ok (.iconst 0, 1) := by decide +kernel
theorem dX0_leastEdits_1 : decode cX0_leastEdits 1 = .ok (.istore_n 3, 1) := by decide +kernel
theorem dX0_leastEdits_2 : decode cX0_leastEdits 2 = .ok (.iload_n 3, 1) := by decide +kernel
theorem dX0_leastEdits_3 : decode cX0_leastEdits 3 = .ok (.aload_n 2, 1) := by decide +kernel
theorem dX0_leastEdits_4 : decode cX0_leastEdits 4 = .ok (.getfield 59, 3) := by decide +kernel
theorem dX0_leastEdits_7 : decode cX0_leastEdits 7 = .ok (.if_icmp .gt 16, 3) := by decide +kernel
theorem dX0_leastEdits_10 : decode cX0_leastEdits 10 = .ok (.aload_n 0, 1) := by decide +kernel
theorem dX0_leastEdits_11 : decode cX0_leastEdits 11 = .ok (.getfield 19, 3) := by decide +kernel
theorem dX0_leastEdits_14 : decode cX0_leastEdits 14 = .ok (.iload_n 3, 1) := by decide +kernel
theorem dX0_leastEdits_15 : decode cX0_leastEdits 15 = .ok (.iload_n 3, 1) := by decide +kernel
theorem dX0_leastEdits_16 : decode cX0_leastEdits 16 = .ok (.iastore, 1) := by decide +kernel
theorem dX0_leastEdits_17 : decode cX0_leastEdits 17 = .ok (.iinc 3 1, 3) := by decide +kernel
theorem dX0_leastEdits_20 : decode cX0_leastEdits 20 = .ok (.goto (-18), 3) := by decide +kernel
theorem dX0_leastEdits_23 : decode cX0_leastEdits 23 = .ok (.iconst 0, 1) := by decide +kernel
theorem dX0_leastEdits_24 : decode cX0_leastEdits 24 = .ok (.istore_n 3, 1) := by decide +kernel
theorem dX0_leastEdits_25 : decode cX0_leastEdits 25 = .ok (.iload_n 3, 1) := by decide +kernel
theorem dX0_leastEdits_26 : decode cX0_leastEdits 26 = .ok (.aload_n 1, 1) := by decide +kernel
theorem dX0_leastEdits_27 : decode cX0_leastEdits 27 = .ok (.getfield 59, 3) := by decide +kernel
theorem dX0_leastEdits_30 : decode cX0_leastEdits 30 = .ok (.if_icmp .ge 133, 3) := by decide +kernel
theorem dX0_leastEdits_33 : decode cX0_leastEdits 33 = .ok (.aload_n 0, 1) := by decide +kernel
theorem dX0_leastEdits_34 : decode cX0_leastEdits 34 = .ok (.getfield 19, 3) := by decide +kernel
theorem dX0_leastEdits_37 : decode cX0_leastEdits 37 = .ok (.iconst 0, 1) := by decide +kernel
theorem dX0_leastEdits_38 : decode cX0_leastEdits 38 = .ok (.iaload, 1) := by decide +kernel
theorem dX0_leastEdits_39 : decode cX0_leastEdits 39 = .ok (.istore 4, 2) := by decide +kernel
theorem dX0_leastEdits_41 : decode cX0_leastEdits 41 = .ok (.aload_n 0, 1) := by decide +kernel
theorem dX0_leastEdits_42 : decode cX0_leastEdits 42 = .ok (.getfield 19, 3) := by decide +kernel
theorem dX0_leastEdits_45 : decode cX0_leastEdits 45 = .ok (.iconst 0, 1) := by decide +kernel
theorem dX0_leastEdits_46 : decode cX0_leastEdits 46 = .ok (.iload_n 3, 1) := by decide +kernel
theorem dX0_leastEdits_47 : decode cX0_leastEdits 47 = .ok (.iconst 1, 1) := by decide +kernel
theorem dX0_leastEdits_48 : decode cX0_leastEdits 48 = .ok (.iadd, 1) := by decide +kernel
theorem dX0_leastEdits_49 : decode cX0_leastEdits 49 = .ok (.iastore, 1) := by decide +kernel
theorem dX0_leastEdits_50 : decode cX0_leastEdits 50 = .ok (.iconst 0, 1) := by decide +kernel
theorem dX0_leastEdits_51 : decode cX0_leastEdits 51 = .ok (.istore 5, 2) := by decide +kernel
theorem dX0_leastEdits_53 : decode cX0_leastEdits 53 = .ok (.iload 5, 2) := by decide +kernel
theorem dX0_leastEdits_55 : decode cX0_leastEdits 55 = .ok (.aload_n 2, 1) := by decide +kernel
theorem dX0_leastEdits_56 : decode cX0_leastEdits 56 = .ok (.getfield 59, 3) := by decide +kernel
theorem dX0_leastEdits_59 : decode cX0_leastEdits 59 = .ok (.if_icmp .ge 98, 3) := by decide +kernel
theorem dX0_leastEdits_62 : decode cX0_leastEdits 62 = .ok (.aload_n 0, 1) := by decide +kernel
theorem dX0_leastEdits_63 : decode cX0_leastEdits 63 = .ok (.getfield 19, 3) := by decide +kernel
theorem dX0_leastEdits_66 : decode cX0_leastEdits 66 = .ok (.iload 5, 2) := by decide +kernel
theorem dX0_leastEdits_68 : decode cX0_leastEdits 68 = .ok (.iconst 1, 1) := by decide +kernel
theorem dX0_leastEdits_69 : decode cX0_leastEdits 69 = .ok (.iadd, 1) := by decide +kernel
theorem dX0_leastEdits_70 : decode cX0_leastEdits 70 = .ok (.iaload, 1) := by decide +kernel
theorem dX0_leastEdits_71 : decode cX0_leastEdits 71 = .ok (.istore 6, 2) := by decide +kernel
theorem dX0_leastEdits_73 : decode cX0_leastEdits 73 = .ok (.aload_n 1, 1) := by decide +kernel
theorem dX0_leastEdits_74 : decode cX0_leastEdits 74 = .ok (.getfield 107, 3) := by decide +kernel
theorem dX0_leastEdits_77 : decode cX0_leastEdits 77 = .ok (.iload_n 3, 1) := by decide +kernel
theorem dX0_leastEdits_78 : decode cX0_leastEdits 78 = .ok (.iaload, 1) := by decide +kernel
theorem dX0_leastEdits_79 : decode cX0_leastEdits 79 = .ok (.aload_n 2, 1) := by decide +kernel
theorem dX0_leastEdits_80 : decode cX0_leastEdits 80 = .ok (.getfield 107, 3) := by decide +kernel
theorem dX0_leastEdits_83 : decode cX0_leastEdits 83 = .ok (.iload 5, 2) := by decide +kernel
theorem dX0_leastEdits_85 : decode cX0_leastEdits 85 = .ok (.iaload, 1) := by decide +kernel
theorem dX0_leastEdits_86 : decode cX0_leastEdits 86 = .ok (.if_icmp .ne 8, 3) := by decide +kernel
theorem dX0_leastEdits_89 : decode cX0_leastEdits 89 = .ok (.iload 4, 2) := by decide +kernel
theorem dX0_leastEdits_91 : decode cX0_leastEdits 91 = .ok (.goto 7, 3) := by decide +kernel
theorem dX0_leastEdits_94 : decode cX0_leastEdits 94 = .ok (.iload 4, 2) := by decide +kernel
theorem dX0_leastEdits_96 : decode cX0_leastEdits 96 = .ok (.iconst 1, 1) := by decide +kernel
theorem dX0_leastEdits_97 : decode cX0_leastEdits 97 = .ok (.iadd, 1) := by decide +kernel
theorem dX0_leastEdits_98 : decode cX0_leastEdits 98 = .ok (.istore 7, 2) := by decide +kernel
theorem dX0_leastEdits_100 : decode cX0_leastEdits 100 = .ok (.iload 6, 2) := by decide +kernel
theorem dX0_leastEdits_102 : decode cX0_leastEdits 102 = .ok (.iload 7, 2) := by decide +kernel
theorem dX0_leastEdits_104 : decode cX0_leastEdits 104 = .ok (.if_icmp .ge 9, 3) := by decide +kernel
theorem dX0_leastEdits_107 : decode cX0_leastEdits 107 = .ok (.iload 6, 2) := by decide +kernel
theorem dX0_leastEdits_109 : decode cX0_leastEdits 109 = .ok (.iconst 1, 1) := by decide +kernel
theorem dX0_leastEdits_110 : decode cX0_leastEdits 110 = .ok (.iadd, 1) := by decide +kernel
theorem dX0_leastEdits_111 : decode cX0_leastEdits 111 = .ok (.istore 7, 2) := by decide +kernel
theorem dX0_leastEdits_113 : decode cX0_leastEdits 113 = .ok (.aload_n 0, 1) := by decide +kernel
theorem dX0_leastEdits_114 : decode cX0_leastEdits 114 = .ok (.getfield 19, 3) := by decide +kernel
theorem dX0_leastEdits_117 : decode cX0_leastEdits 117 = .ok (.iload 5, 2) := by decide +kernel
theorem dX0_leastEdits_119 : decode cX0_leastEdits 119 = .ok (.iaload, 1) := by decide +kernel
theorem dX0_leastEdits_120 : decode cX0_leastEdits 120 = .ok (.iload 7, 2) := by decide +kernel
theorem dX0_leastEdits_122 : decode cX0_leastEdits 122 = .ok (.if_icmp .ge 14, 3) := by decide +kernel
theorem dX0_leastEdits_125 : decode cX0_leastEdits 125 = .ok (.aload_n 0, 1) := by decide +kernel
theorem dX0_leastEdits_126 : decode cX0_leastEdits 126 = .ok (.getfield 19, 3) := by decide +kernel
theorem dX0_leastEdits_129 : decode cX0_leastEdits 129 = .ok (.iload 5, 2) := by decide +kernel
theorem dX0_leastEdits_131 : decode cX0_leastEdits 131 = .ok (.iaload, 1) := by decide +kernel
theorem dX0_leastEdits_132 : decode cX0_leastEdits 132 = .ok (.iconst 1, 1) := by decide +kernel
theorem dX0_leastEdits_133 : decode cX0_leastEdits 133 = .ok (.iadd, 1) := by decide +kernel
theorem dX0_leastEdits_134 : decode cX0_leastEdits 134 = .ok (.istore 7, 2) := by decide +kernel
theorem dX0_leastEdits_136 : decode cX0_leastEdits 136 = .ok (.aload_n 0, 1) := by decide +kernel
theorem dX0_leastEdits_137 : decode cX0_leastEdits 137 = .ok (.getfield 19, 3) := by decide +kernel
theorem dX0_leastEdits_140 : decode cX0_leastEdits 140 = .ok (.iload 5, 2) := by decide +kernel
theorem dX0_leastEdits_142 : decode cX0_leastEdits 142 = .ok (.iconst 1, 1) := by decide +kernel
theorem dX0_leastEdits_143 : decode cX0_leastEdits 143 = .ok (.iadd, 1) := by decide +kernel
theorem dX0_leastEdits_144 : decode cX0_leastEdits 144 = .ok (.iload 7, 2) := by decide +kernel
theorem dX0_leastEdits_146 : decode cX0_leastEdits 146 = .ok (.iastore, 1) := by decide +kernel
theorem dX0_leastEdits_147 : decode cX0_leastEdits 147 = .ok (.iload 6, 2) := by decide +kernel
theorem dX0_leastEdits_149 : decode cX0_leastEdits 149 = .ok (.istore 4, 2) := by decide +kernel
theorem dX0_leastEdits_151 : decode cX0_leastEdits 151 = .ok (.iinc 5 1, 3) := by decide +kernel
theorem dX0_leastEdits_154 : decode cX0_leastEdits 154 = .ok (.goto (-101), 3) := by decide +kernel
theorem dX0_leastEdits_157 : decode cX0_leastEdits 157 = .ok (.iinc 3 1, 3) := by decide +kernel
theorem dX0_leastEdits_160 : decode cX0_leastEdits 160 = .ok (.goto (-135), 3) := by decide +kernel
theorem dX0_leastEdits_163 : decode cX0_leastEdits 163 = .ok (.aload_n 0, 1) := by decide +kernel
theorem dX0_leastEdits_164 : decode cX0_leastEdits 164 = .ok (.getfield 19, 3) := by decide +kernel
theorem dX0_leastEdits_167 : decode cX0_leastEdits 167 = .ok (.aload_n 2, 1) := by decide +kernel
theorem dX0_leastEdits_168 : decode cX0_leastEdits 168 = .ok (.getfield 59, 3) := by decide +kernel
theorem dX0_leastEdits_171 : decode cX0_leastEdits 171 = .ok (.iaload, 1) := by decide +kernel
theorem dX0_leastEdits_172 : decode cX0_leastEdits 172 = .ok (.ireturn, 1) := by decide +kernel
end
section
theorem dX1_init_0 : decode cX1_init 0 = .ok (.aload_n 0, 1) := by decide +kernel
theorem dX1_init_1 : decode cX1_init 1 = .ok (.invokespecial 3, 3) := by decide +kernel
theorem dX1_init_4 : decode cX1_init 4 = .ok (.aload_n 0, 1) := by decide +kernel
theorem dX1_init_5 : decode cX1_init 5 = .ok (.bipush 16, 2) := by decide +kernel
theorem dX1_init_7 : decode cX1_init 7 = .ok (.newarray .int, 2) := by decide +kernel
theorem dX1_init_9 : decode cX1_init 9 = .ok (.putfield 9, 3) := by decide +kernel
theorem dX1_init_12 : decode cX1_init 12 = .ok (.aload_n 0, 1) := by decide +kernel
theorem dX1_init_13 : decode cX1_init 13 = .ok (.bipush 16, 2) := by decide +kernel
theorem dX1_init_15 : decode cX1_init 15 = .ok (.newarray .int, 2) := by decide +kernel
theorem dX1_init_17 : decode cX1_init 17 = .ok (.putfield 15, 3) := by decide +kernel
theorem dX1_init_20 : decode cX1_init 20 = .ok (.aload_n 0, 1) := by decide +kernel
theorem dX1_init_21 : decode cX1_init 21 = .ok (.bipush 16, 2) := by decide +kernel
theorem dX1_init_23 : decode cX1_init 23 = .ok (.newarray .int, 2) := by decide +kernel
theorem dX1_init_25 : decode cX1_init 25 = .ok (.putfield 18, 3) := by decide +kernel
theorem dX1_init_28 : decode cX1_init 28 = .ok (.aload_n 0, 1) := by decide +kernel
theorem dX1_init_29 : decode cX1_init 29 = .ok (.bipush 16, 2) := by decide +kernel
theorem dX1_init_31 : decode cX1_init 31 = .ok (.newarray .int, 2) := by decide +kernel
theorem dX1_init_33 : decode cX1_init 33 = .ok (.putfield 21, 3) := by decide +kernel
theorem dX1_init_36 : decode cX1_init 36 = .ok (.return_, 1) := by decide +kernel
theorem dX1_clearSteps_0 : decode cX1_clearSteps 0 = .ok (.aload_n 0, 1) := by decide +kernel
theorem dX1_clearSteps_1 : decode cX1_clearSteps 1 = .ok (.iconst 0, 1) := by decide +kernel
theorem dX1_clearSteps_2 : decode cX1_clearSteps 2 = .ok (.putfield 24, 3) := by decide +kernel
theorem dX1_clearSteps_5 : decode cX1_clearSteps 5 = .ok (.aload_n 0, 1) := by decide +kernel
theorem dX1_clearSteps_6 : decode cX1_clearSteps 6 = .ok (.iconst 0, 1) := by decide +kernel
theorem dX1_clearSteps_7 : decode cX1_clearSteps 7 = .ok (.putfield 28, 3) := by decide +kernel
theorem dX1_clearSteps_10 : decode cX1_clearSteps 10 = .ok (.return_, 1) := by decide +kernel
theorem dX1_addStep_0 : decode cX1_addStep 0 = .ok (.aload_n 0, 1) := by decide +kernel
theorem dX1_addStep_1 : decode cX1_addStep 1 = .ok (.getfield 24, 3) := by decide +kernel
theorem dX1_addStep_4 : decode cX1_addStep 4 = .ok (.aload_n 0, 1) := by decide +kernel
theorem dX1_addStep_5 : decode cX1_addStep 5 = .ok (.getfield 9, 3) := by decide +kernel
theorem dX1_addStep_8 : decode cX1_addStep 8 = .ok (.arraylength, 1) := by decide +kernel
theorem dX1_addStep_9 : decode cX1_addStep 9 = .ok (.if_icmp .lt 4, 3) := by decide +kernel
theorem dX1_addStep_12 : decode cX1_addStep 12 = .ok (.return_, 1) := by decide +kernel
theorem dX1_addStep_13 : decode cX1_addStep 13 = .ok (.aload_n 0, 1) := by decide +kernel
theorem dX1_addStep_14 : decode cX1_addStep 14 = .ok (.getfield 9, 3) := by decide +kernel
theorem dX1_addStep_17 : decode cX1_addStep 17 = .ok (.aload_n 0, 1) := by decide +kernel
theorem dX1_addStep_18 : decode cX1_addStep 18 = .ok (.getfield 24, 3) := by decide +kernel
theorem dX1_addStep_21 : decode cX1_addStep 21 = .ok (.iload_n 1, 1) := by decide +kernel
theorem dX1_addStep_22 : decode cX1_addStep 22 = .ok (.iastore, 1) := by decide +kernel
theorem dX1_addStep_23 : decode cX1_addStep 23 = .ok (.aload_n 0, 1) := by decide +kernel
theorem dX1_addStep_24 : decode cX1_addStep 24 = .ok (.getfield 15, 3) := by decide +kernel
theorem dX1_addStep_27 : decode cX1_addStep 27 = .ok (.aload_n 0, 1) := by decide +kernel
theorem dX1_addStep_28 : decode cX1_addStep 28 = .ok (.getfield 24, 3) := by decide +kernel
theorem dX1_addStep_31 : decode cX1_addStep 31 = .ok (.iload_n 2, 1) := by decide +kernel
theorem dX1_addStep_32 : decode cX1_addStep 32 = .ok (.iastore, 1) := by decide +kernel
theorem dX1_addStep_33 : decode cX1_addStep 33 = .ok (.aload_n 0, 1) := by decide +kernel
theorem dX1_addStep_34 : decode cX1_addStep 34 = .ok (.getfield 18, 3) := by decide +kernel
theorem dX1_addStep_37 : decode cX1_addStep 37 = .ok (.aload_n 0, 1) := by decide +kernel
theorem dX1_addStep_38 : decode cX1_addStep 38 = .ok (.getfield 24, 3) := by decide +kernel
theorem dX1_addStep_41 : decode cX1_addStep 41 = .ok (.iload_n 3, 1) := by decide +kernel
theorem dX1_addStep_42 : decode cX1_addStep 42 = .ok (.iastore, 1) := by decide +kernel
theorem dX1_addStep_43 : decode cX1_addStep 43 = .ok (.aload_n 0, 1) := by decide +kernel
theorem dX1_addStep_44 : decode cX1_addStep 44 = .ok (.getfield 21, 3) := by decide +kernel
theorem dX1_addStep_47 : decode cX1_addStep 47 = .ok (.aload_n 0, 1) := by decide +kernel
theorem dX1_addStep_48 : decode cX1_addStep 48 = .ok (.getfield 24, 3) := by decide +kernel
theorem dX1_addStep_51 : decode cX1_addStep 51 = .ok (.iload 4, 2) := by decide +kernel
theorem dX1_addStep_53 : decode cX1_addStep 53 = .ok (.iastore, 1) := by decide +kernel
theorem dX1_addStep_54 : decode cX1_addStep 54 = .ok (.aload_n 0, 1) := by decide +kernel
theorem dX1_addStep_55 : decode cX1_addStep 55 = .ok (.dup, 1) := by decide +kernel
theorem dX1_addStep_56 : decode cX1_addStep 56 = .ok (.getfield 24, 3) := by decide +kernel
theorem dX1_addStep_59 : decode cX1_addStep 59 = .ok (.iconst 1, 1) := by decide +kernel
theorem dX1_addStep_60 : decode cX1_addStep 60 = .ok (.iadd, 1) := by decide +kernel
theorem dX1_addStep_61 : decode cX1_addStep 61 = .ok (.putfield 24, 3) := by decide +kernel
theorem dX1_addStep_64 : decode cX1_addStep 64 = .ok (.iload 5, 2) := by decide +kernel
theorem dX1_addStep_66 : decode cX1_addStep 66 = .ok (.ifCond .eq 17, 3) := by decide +kernel
theorem dX1_addStep_69 : decode cX1_addStep 69 = .ok (.iload_n 2, 1) := by decide +kernel
theorem dX1_addStep_70 : decode cX1_addStep 70 = .ok (.ifCond .le 13, 3) := by decide +kernel
theorem dX1_addStep_73 : decode cX1_addStep 73 = .ok (.aload_n 0, 1) := by decide +kernel
theorem dX1_addStep_74 : decode cX1_addStep 74 = .ok (.dup, 1) := by decide +kernel
theorem dX1_addStep_75 : decode cX1_addStep 75 = .ok (.getfield 28, 3) := by decide +kernel
theorem dX1_addStep_78 : decode cX1_addStep 78 = .ok (.iconst 1, 1) := by decide +kernel
theorem dX1_addStep_79 : decode cX1_addStep 79 = .ok (.iadd, 1) := by decide +kernel
theorem dX1_addStep_80 : decode cX1_addStep 80 = .ok (.putfield 28, 3) := by decide +kernel
theorem dX1_addStep_83 : decode cX1_addStep 83 = .ok (.return_, 1) := by decide +kernel
theorem dX1_setScore_0 : decode cX1_setScore 0 = .ok (.aload_n 0, 1) := by decide +kernel
theorem dX1_setScore_1 : decode cX1_setScore 1 = .ok (.aload_n 0, 1) := by decide +kernel
theorem dX1_setScore_2 : decode cX1_setScore 2 = .ok (.getfield 31, 3) := by decide +kernel
theorem dX1_setScore_5 : decode cX1_setScore 5 = .ok (.ifCond .le 30, 3) := by decide +kernel
theorem dX1_setScore_8 : decode cX1_setScore 8 = .ok (.sipush 1000, 3) := by decide +kernel
theorem dX1_setScore_11 : decode cX1_setScore 11 = .ok (.sipush 1000, 3) := by decide +kernel
theorem dX1_setScore_14 : decode cX1_setScore 14 = .ok (.aload_n 0, 1) := by decide +kernel
theorem dX1_setScore_15 : decode cX1_setScore 15 = .ok (.getfield 34, 3) := by decide +kernel
theorem dX1_setScore_18 : decode cX1_setScore 18 = .ok (.imul, 1) := by decide +kernel
theorem dX1_setScore_19 : decode cX1_setScore 19 = .ok (.aload_n 0, 1) := by decide +kernel
theorem dX1_setScore_20 : decode cX1_setScore 20 = .ok (.getfield 31, 3) := by decide +kernel
theorem dX1_setScore_23 : decode cX1_setScore 23 = .ok (.iadd, 1) := by decide +kernel
theorem dX1_setScore_24 : decode cX1_setScore 24 = .ok (.iconst 1, 1) := by decide +kernel
theorem dX1_setScore_25 : decode cX1_setScore 25 = .ok (.isub, 1) := by decide +kernel
theorem dX1_setScore_26 : decode cX1_setScore 26 = .ok (.aload_n 0, 1) := by decide +kernel
theorem dX1_setScore_27 : decode cX1_setScore 27 = .ok (.getfield 31, 3) := by decide +kernel
theorem dX1_setScore_30 : decode cX1_setScore 30 = .ok (.idiv, 1) := by decide +kernel
theorem dX1_setScore_31 : decode cX1_setScore 31 = .ok (.isub, 1) := by decide +kernel
theorem dX1_setScore_32 : decode cX1_setScore 32 = .ok (.goto 6, 3) := by decide +kernel
theorem dX1_setScore_35 : decode cX1_setScore 35 = .ok (.sipush 1000, 3) := by decide +kernel
theorem dX1_setScore_38 : decode cX1_setScore 38 = .ok (.putfield 37, 3) := by decide +kernel
theorem dX1_setScore_41 : decode cX1_setScore 41 = .ok (.return_, 1) := by decide +kernel
theorem dX1_judge_0 : decode cX1_judge 0 = .ok (.aload_n 0, 1) := by decide +kernel
theorem dX1_judge_1 : decode cX1_judge 1 = .ok (.sipush 1000, 3) := by decide +kernel
theorem dX1_judge_4 : decode cX1_judge 4 = .ok (.iload 4, 2) := by decide +kernel
theorem dX1_judge_6 : decode cX1_judge 6 = .ok (.isub, 1) := by decide +kernel
theorem dX1_judge_7 : decode cX1_judge 7 = .ok (.aload_n 0, 1) := by decide +kernel
theorem dX1_judge_8 : decode cX1_judge 8 = .ok (.getfield 31, 3) := by decide +kernel
theorem dX1_judge_11 : decode cX1_judge 11 = .ok (.imul, 1) := by decide +kernel
theorem dX1_judge_12 : decode cX1_judge 12 = .ok (.sipush 1000, 3) := by decide +kernel
theorem dX1_judge_15 : decode cX1_judge 15 = .ok (.idiv, 1) := by decide +kernel
theorem dX1_judge_16 : decode cX1_judge 16 = .ok (.putfield 40, 3) := by decide +kernel
theorem dX1_judge_19 : decode cX1_judge 19 = .ok (.aload_n 1, 1) := by decide +kernel
theorem dX1_judge_20 : decode cX1_judge 20 = .ok (.getfield 43, 3) := by decide +kernel
theorem dX1_judge_23 : decode cX1_judge 23 = .ok (.aload_n 2, 1) := by decide +kernel
theorem dX1_judge_24 : decode cX1_judge 24 = .ok (.getfield 43, 3) := by decide +kernel
theorem dX1_judge_27 : decode cX1_judge 27 = .ok (.isub, 1) := by decide +kernel
theorem dX1_judge_28 : decode cX1_judge 28 = .ok (.invokestatic 48, 3) := by decide +kernel
theorem dX1_judge_31 : decode cX1_judge 31 = .ok (.istore 5, 2) := by decide +kernel
theorem dX1_judge_33 : decode cX1_judge 33 = .ok (.aload_n 1, 1) := by decide +kernel
theorem dX1_judge_34 : decode cX1_judge 34 = .ok (.invokevirtual 54, 3) := by decide +kernel
theorem dX1_judge_37 : decode cX1_judge 37 = .ok (.aload_n 2, 1) := by decide +kernel
theorem dX1_judge_38 : decode cX1_judge 38 = .ok (.invokevirtual 54, 3) := by decide +kernel
theorem dX1_judge_41 : decode cX1_judge 41 = .ok (.isub, 1) := by decide +kernel
theorem dX1_judge_42 : decode cX1_judge 42 = .ok (.invokestatic 48, 3) := by decide +kernel
theorem dX1_judge_45 : decode cX1_judge 45 = .ok (.istore 6, 2) := by decide +kernel
theorem dX1_judge_47 : decode cX1_judge 47 = .ok (.aload_n 0, 1) := by decide +kernel
theorem dX1_judge_48 : decode cX1_judge 48 = .ok (.bipush 10, 2) := by decide +kernel
theorem dX1_judge_50 : decode cX1_judge 50 = .ok (.iload 5, 2) := by decide +kernel
theorem dX1_judge_52 : decode cX1_judge 52 = .ok (.imul, 1) := by decide +kernel
theorem dX1_judge_53 : decode cX1_judge 53 = .ok (.iload_n 3, 1) := by decide +kernel
theorem dX1_judge_54 : decode cX1_judge 54 = .ok (.iload 6, 2) := by decide +kernel
theorem dX1_judge_56 : decode cX1_judge 56 = .ok (.imul, 1) := by decide +kernel
theorem dX1_judge_57 : decode cX1_judge 57 = .ok (.iadd, 1) := by decide +kernel
theorem dX1_judge_58 : decode cX1_judge 58 = .ok (.aload_n 0, 1) := by decide +kernel
theorem dX1_judge_59 : decode cX1_judge 59 = .ok (.getfield 40, 3) := by decide +kernel
theorem dX1_judge_62 : decode cX1_judge 62 = .ok (.if_icmp .gt 7, 3) := by decide +kernel
theorem dX1_judge_65 : decode cX1_judge 65 = .ok (.iconst 1, 1) := by decide +kernel
theorem dX1_judge_66 : decode cX1_judge 66 = .ok (.goto 4, 3) := by decide +kernel
theorem dX1_judge_69 : decode cX1_judge 69 = .ok (.iconst 0, 1) := by decide +kernel
theorem dX1_judge_70 : decode cX1_judge 70 = .ok (.putfield 58, 3) := by decide +kernel
theorem dX1_judge_73 : decode cX1_judge 73 = .ok (.aload_n 1, 1) := by decide +kernel
theorem dX1_judge_74 : decode cX1_judge 74 = .ok (.getfield 62, 3) := by decide +kernel
theorem dX1_judge_77 : decode cX1_judge 77 = .ok (.aload_n 2, 1) := by decide +kernel
theorem dX1_judge_78 : decode cX1_judge 78 = .ok (.getfield 62, 3) := by decide +kernel
theorem dX1_judge_81 : decode cX1_judge 81 = .ok (.invokestatic 65, 3) := by decide +kernel
theorem dX1_judge_84 : decode cX1_judge 84 = .ok (.istore 7, 2) := by decide +kernel
theorem dX1_judge_86 : decode cX1_judge 86 = .ok (.aload_n 0, 1) := by decide +kernel
theorem dX1_judge_87 : decode cX1_judge 87 = .ok (.iconst 5, 1) := by decide +kernel
theorem dX1_judge_88 : decode cX1_judge 88 = .ok (.iload 7, 2) := by decide +kernel
theorem dX1_judge_90 : decode cX1_judge 90 = .ok (.aload_n 0, 1) := by decide +kernel
theorem dX1_judge_91 : decode cX1_judge 91 = .ok (.getfield 69, 3) := by decide +kernel
theorem dX1_judge_94 : decode cX1_judge 94 = .ok (.isub, 1) := by decide +kernel
theorem dX1_judge_95 : decode cX1_judge 95 = .ok (.imul, 1) := by decide +kernel
theorem dX1_judge_96 : decode cX1_judge 96 = .ok (.bipush 12, 2) := by decide +kernel
theorem dX1_judge_98 : decode cX1_judge 98 = .ok (.aload_n 0, 1) := by decide +kernel
theorem dX1_judge_99 : decode cX1_judge 99 = .ok (.getfield 40, 3) := by decide +kernel
theorem dX1_judge_102 : decode cX1_judge 102 = .ok (.imul, 1) := by decide +kernel
theorem dX1_judge_103 : decode cX1_judge 103 = .ok (.if_icmp .gt 7, 3) := by decide +kernel
theorem dX1_judge_106 : decode cX1_judge 106 = .ok (.iconst 1, 1) := by decide +kernel
theorem dX1_judge_107 : decode cX1_judge 107 = .ok (.goto 4, 3) := by decide +kernel
theorem dX1_judge_110 : decode cX1_judge 110 = .ok (.iconst 0, 1) := by decide +kernel
theorem dX1_judge_111 : decode cX1_judge 111 = .ok (.putfield 72, 3) := by decide +kernel
theorem dX1_judge_114 : decode cX1_judge 114 = .ok (.aload_n 0, 1) := by decide +kernel
theorem dX1_judge_115 : decode cX1_judge 115 = .ok (.aload_n 0, 1) := by decide +kernel
theorem dX1_judge_116 : decode cX1_judge 116 = .ok (.getfield 37, 3) := by decide +kernel
theorem dX1_judge_119 : decode cX1_judge 119 = .ok (.iload 4, 2) := by decide +kernel
theorem dX1_judge_121 : decode cX1_judge 121 = .ok (.if_icmp .lt 7, 3) := by decide +kernel
theorem dX1_judge_124 : decode cX1_judge 124 = .ok (.iconst 1, 1) := by decide +kernel
theorem dX1_judge_125 : decode cX1_judge 125 = .ok (.goto 4, 3) := by decide +kernel
theorem dX1_judge_128 : decode cX1_judge 128 = .ok (.iconst 0, 1) := by decide +kernel
theorem dX1_judge_129 : decode cX1_judge 129 = .ok (.putfield 75, 3) := by decide +kernel
theorem dX1_judge_132 : decode cX1_judge 132 = .ok (.return_, 1) := by decide +kernel
theorem dX1_ranksAheadOf_0 : decode cX1_ranksAheadOf 0 = .ok (.aload_n 0, 1) := by decide +kernel
theorem dX1_ranksAheadOf_1 : decode cX1_ranksAheadOf 1 = .ok (.getfield 37, 3) := by decide +kernel
theorem dX1_ranksAheadOf_4 : decode cX1_ranksAheadOf 4 = .ok (.aload_n 1, 1) := by decide +kernel
theorem dX1_ranksAheadOf_5 : decode cX1_ranksAheadOf 5 = .ok (.getfield 37, 3) := by decide +kernel
theorem dX1_ranksAheadOf_8 : decode cX1_ranksAheadOf 8 = .ok (.if_icmp .eq 20, 3) := by decide +kernel
theorem dX1_ranksAheadOf_11 : decode cX1_ranksAheadOf 11 = .ok (.aload_n 0, 1) := by decide +kernel
theorem dX1_ranksAheadOf_12 : decode cX1_ranksAheadOf 12 = .ok (.getfield 37, 3) := by decide +kernel
theorem dX1_ranksAheadOf_15 : decode cX1_ranksAheadOf 15 = .ok (.aload_n 1, 1) := by decide +kernel
theorem dX1_ranksAheadOf_16 : decode cX1_ranksAheadOf 16 = .ok (.getfield 37, 3) := by decide +kernel
theorem dX1_ranksAheadOf_19 : decode cX1_ranksAheadOf 19 = .ok (.if_icmp .le 7, 3) := by decide +kernel
theorem dX1_ranksAheadOf_22 : decode cX1_ranksAheadOf 22 = .ok (.iconst 1, 1) := by decide +kernel
theorem dX1_ranksAheadOf_23 : decode cX1_ranksAheadOf 23 = .ok (.goto 4, 3) := by decide +kernel
theorem dX1_ranksAheadOf_26 : decode cX1_ranksAheadOf 26 = .ok (.iconst 0, 1) := by decide +kernel
theorem dX1_ranksAheadOf_27 : decode cX1_ranksAheadOf 27 = .ok (.ireturn, 1) := by decide +kernel
theorem dX1_ranksAheadOf_28 : decode cX1_ranksAheadOf 28 = .ok (.aload_n 0, 1) := by decide +kernel
theorem dX1_ranksAheadOf_29 : decode cX1_ranksAheadOf 29 = .ok (.getfield 28, 3) := by decide +kernel
theorem dX1_ranksAheadOf_32 : decode cX1_ranksAheadOf 32 = .ok (.aload_n 1, 1) := by decide +kernel
theorem dX1_ranksAheadOf_33 : decode cX1_ranksAheadOf 33 = .ok (.getfield 28, 3) := by decide +kernel
theorem dX1_ranksAheadOf_36 : decode cX1_ranksAheadOf 36 = .ok (.if_icmp .ge 7, 3) := by decide +kernel
theorem dX1_ranksAheadOf_39 : decode cX1_ranksAheadOf 39 = .ok (.iconst 1, 1) := by decide +kernel
theorem dX1_ranksAheadOf_40 : decode cX1_ranksAheadOf 40 = .ok (.goto 4, 3) := by decide +kernel
theorem dX1_ranksAheadOf_43 : decode cX1_ranksAheadOf 43 = .ok (.iconst 0, 1) := by decide +kernel
theorem dX1_ranksAheadOf_44 : decode cX1_ranksAheadOf 44 = .ok (.ireturn, 1) := by decide +kernel
theorem dX1_tell_0 : decode cX1_tell 0 = .ok (.iload_n 1, 1) := by decide +kernel
theorem dX1_tell_1 : decode cX1_tell 1 = .ok (.tableswitch 129 0 9 #[55, 60, 65, 70, 75, 80, 85, 98, 111, 124], 55) := by decide +kernel
theorem dX1_tell_56 : decode cX1_tell 56 = .ok (.aload_n 0, 1) := by decide +kernel
theorem dX1_tell_57 : decode cX1_tell 57 = .ok (.getfield 34, 3) := by decide +kernel
theorem dX1_tell_60 : decode cX1_tell 60 = .ok (.ireturn, 1) := by decide +kernel
theorem dX1_tell_61 : decode cX1_tell 61 = .ok (.aload_n 0, 1) := by decide +kernel
theorem dX1_tell_62 : decode cX1_tell 62 = .ok (.getfield 31, 3) := by decide +kernel
theorem dX1_tell_65 : decode cX1_tell 65 = .ok (.ireturn, 1) := by decide +kernel
theorem dX1_tell_66 : decode cX1_tell 66 = .ok (.aload_n 0, 1) := by decide +kernel
theorem dX1_tell_67 : decode cX1_tell 67 = .ok (.getfield 37, 3) := by decide +kernel
theorem dX1_tell_70 : decode cX1_tell 70 = .ok (.ireturn, 1) := by decide +kernel
theorem dX1_tell_71 : decode cX1_tell 71 = .ok (.aload_n 0, 1) := by decide +kernel
theorem dX1_tell_72 : decode cX1_tell 72 = .ok (.getfield 69, 3) := by decide +kernel
theorem dX1_tell_75 : decode cX1_tell 75 = .ok (.ireturn, 1) := by decide +kernel
theorem dX1_tell_76 : decode cX1_tell 76 = .ok (.aload_n 0, 1) := by decide +kernel
theorem dX1_tell_77 : decode cX1_tell 77 = .ok (.getfield 24, 3) := by decide +kernel
theorem dX1_tell_80 : decode cX1_tell 80 = .ok (.ireturn, 1) := by decide +kernel
theorem dX1_tell_81 : decode cX1_tell 81 = .ok (.aload_n 0, 1) := by decide +kernel
theorem dX1_tell_82 : decode cX1_tell 82 = .ok (.getfield 40, 3) := by decide +kernel
theorem dX1_tell_85 : decode cX1_tell 85 = .ok (.ireturn, 1) := by decide +kernel
theorem dX1_tell_86 : decode cX1_tell 86 = .ok (.aload_n 0, 1) := by decide +kernel
theorem dX1_tell_87 : decode cX1_tell 87 = .ok (.getfield 58, 3) := by decide +kernel
theorem dX1_tell_90 : decode cX1_tell 90 = .ok (.ifCond .eq 7, 3) := by decide +kernel
theorem dX1_tell_93 : decode cX1_tell 93 = .ok (.iconst 1, 1) := by decide +kernel
theorem dX1_tell_94 : decode cX1_tell 94 = .ok (.goto 4, 3) := by decide +kernel
theorem dX1_tell_97 : decode cX1_tell 97 = .ok (.iconst 0, 1) := by decide +kernel
theorem dX1_tell_98 : decode cX1_tell 98 = .ok (.ireturn, 1) := by decide +kernel
theorem dX1_tell_99 : decode cX1_tell 99 = .ok (.aload_n 0, 1) := by decide +kernel
theorem dX1_tell_100 : decode cX1_tell 100 = .ok (.getfield 72, 3) := by decide +kernel
theorem dX1_tell_103 : decode cX1_tell 103 = .ok (.ifCond .eq 7, 3) := by decide +kernel
theorem dX1_tell_106 : decode cX1_tell 106 = .ok (.iconst 1, 1) := by decide +kernel
theorem dX1_tell_107 : decode cX1_tell 107 = .ok (.goto 4, 3) := by decide +kernel
theorem dX1_tell_110 : decode cX1_tell 110 = .ok (.iconst 0, 1) := by decide +kernel
theorem dX1_tell_111 : decode cX1_tell 111 = .ok (.ireturn, 1) := by decide +kernel
theorem dX1_tell_112 : decode cX1_tell 112 = .ok (.aload_n 0, 1) := by decide +kernel
theorem dX1_tell_113 : decode cX1_tell 113 = .ok (.getfield 75, 3) := by decide +kernel
theorem dX1_tell_116 : decode cX1_tell 116 = .ok (.ifCond .eq 7, 3) := by decide +kernel
theorem dX1_tell_119 : decode cX1_tell 119 = .ok (.iconst 1, 1) := by decide +kernel
theorem dX1_tell_120 : decode cX1_tell 120 = .ok (.goto 4, 3) := by decide +kernel
theorem dX1_tell_123 : decode cX1_tell 123 = .ok (.iconst 0, 1) := by decide +kernel
theorem dX1_tell_124 : decode cX1_tell 124 = .ok (.ireturn, 1) := by decide +kernel
theorem dX1_tell_125 : decode cX1_tell 125 = .ok (.aload_n 0, 1) := by decide +kernel
theorem dX1_tell_126 : decode cX1_tell 126 = .ok (.getfield 28, 3) := by decide +kernel
theorem dX1_tell_129 : decode cX1_tell 129 = .ok (.ireturn, 1) := by decide +kernel
theorem dX1_tell_130 : decode cX1_tell 130 = .ok (.sipush (-1002), 3) := by decide +kernel
theorem dX1_tell_133 : decode cX1_tell 133 = .ok (.ireturn, 1) := by decide +kernel
theorem dX1_tellStep_0 : decode cX1_tellStep 0 = .ok (.iload_n 1, 1) := by decide +kernel
theorem dX1_tellStep_1 : decode cX1_tellStep 1 = .ok (.aload_n 0, 1) := by decide +kernel
theorem dX1_tellStep_2 : decode cX1_tellStep 2 = .ok (.getfield 24, 3) := by decide +kernel
theorem dX1_tellStep_5 : decode cX1_tellStep 5 = .ok (.invokestatic 78, 3) := by decide +kernel
theorem dX1_tellStep_8 : decode cX1_tellStep 8 = .ok (.ifCond .ne 7, 3) := by decide +kernel
theorem dX1_tellStep_11 : decode cX1_tellStep 11 = .ok (.sipush (-1001), 3) := by decide +kernel
theorem dX1_tellStep_14 : decode cX1_tellStep 14 = .ok (.ireturn, 1) := by decide +kernel
theorem dX1_tellStep_15 : decode cX1_tellStep 15 = .ok (.iload_n 2, 1) := by decide +kernel
theorem dX1_tellStep_16 : decode cX1_tellStep 16 = .ok (.tableswitch 60 0 3 #[32, 39, 46, 53], 32) := by decide +kernel
theorem dX1_tellStep_48 : decode cX1_tellStep 48 = .ok (.aload_n 0, 1) := by decide +kernel
theorem dX1_tellStep_49 : decode cX1_tellStep 49 = .ok (.getfield 9, 3) := by decide +kernel
theorem dX1_tellStep_52 : decode cX1_tellStep 52 = .ok (.iload_n 1, 1) := by decide +kernel
theorem dX1_tellStep_53 : decode cX1_tellStep 53 = .ok (.iaload, 1) := by decide +kernel
theorem dX1_tellStep_54 : decode cX1_tellStep 54 = .ok (.ireturn, 1) := by decide +kernel
theorem dX1_tellStep_55 : decode cX1_tellStep 55 = .ok (.aload_n 0, 1) := by decide +kernel
theorem dX1_tellStep_56 : decode cX1_tellStep 56 = .ok (.getfield 15, 3) := by decide +kernel
theorem dX1_tellStep_59 : decode cX1_tellStep 59 = .ok (.iload_n 1, 1) := by decide +kernel
theorem dX1_tellStep_60 : decode cX1_tellStep 60 = .ok (.iaload, 1) := by decide +kernel
theorem dX1_tellStep_61 : decode cX1_tellStep 61 = .ok (.ireturn, 1) := by decide +kernel
theorem dX1_tellStep_62 : decode cX1_tellStep 62 = .ok (.aload_n 0, 1) := by decide +kernel
theorem dX1_tellStep_63 : decode cX1_tellStep 63 = .ok (.getfield 18, 3) := by decide +kernel
theorem dX1_tellStep_66 : decode cX1_tellStep 66 = .ok (.iload_n 1, 1) := by decide +kernel
theorem dX1_tellStep_67 : decode cX1_tellStep 67 = .ok (.iaload, 1) := by decide +kernel
theorem dX1_tellStep_68 : decode cX1_tellStep 68 = .ok (.ireturn, 1) := by decide +kernel
theorem dX1_tellStep_69 : decode cX1_tellStep 69 = .ok (.aload_n 0, 1) := by decide +kernel
theorem dX1_tellStep_70 : decode cX1_tellStep 70 = .ok (.getfield 21, 3) := by decide +kernel
theorem dX1_tellStep_73 : decode cX1_tellStep 73 = .ok (.iload_n 1, 1) := by decide +kernel
theorem dX1_tellStep_74 : decode cX1_tellStep 74 = .ok (.iaload, 1) := by decide +kernel
theorem dX1_tellStep_75 : decode cX1_tellStep 75 = .ok (.ireturn, 1) := by decide +kernel
theorem dX1_tellStep_76 : decode cX1_tellStep 76 = .ok (.sipush (-1002), 3) := by decide +kernel
theorem dX1_tellStep_79 : decode cX1_tellStep 79 = .ok (.ireturn, 1) := by decide +kernel
end
section
theorem dX2_init_0 : decode cX2_init 0 = .ok (.aload_n 0, 1) := by decide +kernel
theorem dX2_init_1 : decode cX2_init 1 = .ok (.invokespecial 3, 3) := by decide +kernel
theorem dX2_init_4 : decode cX2_init 4 = .ok (.aload_n 0, 1) := by decide +kernel
theorem dX2_init_5 : decode cX2_init 5 = .ok (.bipush 12, 2) := by decide +kernel
theorem dX2_init_7 : decode cX2_init 7 = .ok (.anewarray 9, 3) := by decide +kernel
theorem dX2_init_10 : decode cX2_init 10 = .ok (.putfield 11, 3) := by decide +kernel
theorem dX2_init_13 : decode cX2_init 13 = .ok (.iconst 0, 1) := by decide +kernel
theorem dX2_init_14 : decode cX2_init 14 = .ok (.istore_n 1, 1) := by decide +kernel
theorem dX2_init_15 : decode cX2_init 15 = .ok (.iload_n 1, 1) := by decide +kernel
theorem dX2_init_16 : decode cX2_init 16 = .ok (.aload_n 0, 1) := by decide +kernel
theorem dX2_init_17 : decode cX2_init 17 = .ok (.getfield 11, 3) := by decide +kernel
theorem dX2_init_20 : decode cX2_init 20 = .ok (.arraylength, 1) := by decide +kernel
theorem dX2_init_21 : decode cX2_init 21 = .ok (.if_icmp .ge 22, 3) := by decide +kernel
theorem dX2_init_24 : decode cX2_init 24 = .ok (.aload_n 0, 1) := by decide +kernel
theorem dX2_init_25 : decode cX2_init 25 = .ok (.getfield 11, 3) := by decide +kernel
theorem dX2_init_28 : decode cX2_init 28 = .ok (.iload_n 1, 1) := by decide +kernel
theorem dX2_init_29 : decode cX2_init 29 = .ok (.new 9, 3) := by decide +kernel
theorem dX2_init_32 : decode cX2_init 32 = .ok (.dup, 1) := by decide +kernel
theorem dX2_init_33 : decode cX2_init 33 = .ok (.invokespecial 17, 3) := by decide +kernel
theorem dX2_init_36 : decode cX2_init 36 = .ok (.aastore, 1) := by decide +kernel
theorem dX2_init_37 : decode cX2_init 37 = .ok (.iinc 1 1, 3) := by decide +kernel
theorem dX2_init_40 : decode cX2_init 40 = .ok (.goto (-25), 3) := by decide +kernel
theorem dX2_init_43 : decode cX2_init 43 = .ok (.aload_n 0, 1) := by decide +kernel
theorem dX2_init_44 : decode cX2_init 44 = .ok (.bipush 12, 2) := by decide +kernel
theorem dX2_init_46 : decode cX2_init 46 = .ok (.newarray .int, 2) := by decide +kernel
theorem dX2_init_48 : decode cX2_init 48 = .ok (.putfield 18, 3) := by decide +kernel
theorem dX2_init_51 : decode cX2_init 51 = .ok (.aload_n 0, 1) := by decide +kernel
theorem dX2_init_52 : decode cX2_init 52 = .ok (.bipush 8, 2) := by decide +kernel
theorem dX2_init_54 : decode cX2_init 54 = .ok (.newarray .boolean, 2) := by decide +kernel
theorem dX2_init_56 : decode cX2_init 56 = .ok (.putfield 22, 3) := by decide +kernel
theorem dX2_init_59 : decode cX2_init 59 = .ok (.return_, 1) := by decide +kernel
theorem dX2_gather_0 : decode cX2_gather 0 = .ok (.aload_n 0, 1) := by decide +kernel
theorem dX2_gather_1 : decode cX2_gather 1 = .ok (.iconst 0, 1) := by decide +kernel
theorem dX2_gather_2 : decode cX2_gather 2 = .ok (.putfield 26, 3) := by decide +kernel
theorem dX2_gather_5 : decode cX2_gather 5 = .ok (.aload_n 0, 1) := by decide +kernel
theorem dX2_gather_6 : decode cX2_gather 6 = .ok (.iconst 0, 1) := by decide +kernel
theorem dX2_gather_7 : decode cX2_gather 7 = .ok (.putfield 30, 3) := by decide +kernel
theorem dX2_gather_10 : decode cX2_gather 10 = .ok (.aload_n 0, 1) := by decide +kernel
theorem dX2_gather_11 : decode cX2_gather 11 = .ok (.iconst 0, 1) := by decide +kernel
theorem dX2_gather_12 : decode cX2_gather 12 = .ok (.putfield 33, 3) := by decide +kernel
theorem dX2_gather_15 : decode cX2_gather 15 = .ok (.aload_n 0, 1) := by decide +kernel
theorem dX2_gather_16 : decode cX2_gather 16 = .ok (.iconst 0, 1) := by decide +kernel
theorem dX2_gather_17 : decode cX2_gather 17 = .ok (.putfield 36, 3) := by decide +kernel
theorem dX2_gather_20 : decode cX2_gather 20 = .ok (.iconst 0, 1) := by decide +kernel
theorem dX2_gather_21 : decode cX2_gather 21 = .ok (.istore_n 2, 1) := by decide +kernel
theorem dX2_gather_22 : decode cX2_gather 22 = .ok (.iload_n 2, 1) := by decide +kernel
theorem dX2_gather_23 : decode cX2_gather 23 = .ok (.aload_n 0, 1) := by decide +kernel
theorem dX2_gather_24 : decode cX2_gather 24 = .ok (.getfield 22, 3) := by decide +kernel
theorem dX2_gather_27 : decode cX2_gather 27 = .ok (.arraylength, 1) := by decide +kernel
theorem dX2_gather_28 : decode cX2_gather 28 = .ok (.if_icmp .ge 16, 3) := by decide +kernel
theorem dX2_gather_31 : decode cX2_gather 31 = .ok (.aload_n 0, 1) := by decide +kernel
theorem dX2_gather_32 : decode cX2_gather 32 = .ok (.getfield 22, 3) := by decide +kernel
theorem dX2_gather_35 : decode cX2_gather 35 = .ok (.iload_n 2, 1) := by decide +kernel
theorem dX2_gather_36 : decode cX2_gather 36 = .ok (.iconst 0, 1) := by decide +kernel
theorem dX2_gather_37 : decode cX2_gather 37 = .ok (.bastore, 1) := by decide +kernel
theorem dX2_gather_38 : decode cX2_gather 38 = .ok (.iinc 2 1, 3) := by decide +kernel
theorem dX2_gather_41 : decode cX2_gather 41 = .ok (.goto (-19), 3) := by decide +kernel
theorem dX2_gather_44 : decode cX2_gather 44 = .ok (.iconst 0, 1) := by decide +kernel
theorem dX2_gather_45 : decode cX2_gather 45 = .ok (.istore_n 2, 1) := by decide +kernel
theorem dX2_gather_46 : decode cX2_gather 46 = .ok (.iload_n 2, 1) := by decide +kernel
theorem dX2_gather_47 : decode cX2_gather 47 = .ok (.iload_n 1, 1) := by decide +kernel
theorem dX2_gather_48 : decode cX2_gather 48 = .ok (.if_icmp .ge 112, 3) := by decide +kernel
theorem dX2_gather_51 : decode cX2_gather 51 = .ok (.iload_n 2, 1) := by decide +kernel
theorem dX2_gather_52 : decode cX2_gather 52 = .ok (.aload_n 0, 1) := by decide +kernel
theorem dX2_gather_53 : decode cX2_gather 53 = .ok (.getfield 11, 3) := by decide +kernel
theorem dX2_gather_56 : decode cX2_gather 56 = .ok (.arraylength, 1) := by decide +kernel
theorem dX2_gather_57 : decode cX2_gather 57 = .ok (.if_icmp .ge 103, 3) := by decide +kernel
theorem dX2_gather_60 : decode cX2_gather 60 = .ok (.aload_n 0, 1) := by decide +kernel
theorem dX2_gather_61 : decode cX2_gather 61 = .ok (.getfield 11, 3) := by decide +kernel
theorem dX2_gather_64 : decode cX2_gather 64 = .ok (.iload_n 2, 1) := by decide +kernel
theorem dX2_gather_65 : decode cX2_gather 65 = .ok (.aaload, 1) := by decide +kernel
theorem dX2_gather_66 : decode cX2_gather 66 = .ok (.astore_n 3, 1) := by decide +kernel
theorem dX2_gather_67 : decode cX2_gather 67 = .ok (.aload_n 0, 1) := by decide +kernel
theorem dX2_gather_68 : decode cX2_gather 68 = .ok (.dup, 1) := by decide +kernel
theorem dX2_gather_69 : decode cX2_gather 69 = .ok (.getfield 30, 3) := by decide +kernel
theorem dX2_gather_72 : decode cX2_gather 72 = .ok (.aload_n 3, 1) := by decide +kernel
theorem dX2_gather_73 : decode cX2_gather 73 = .ok (.getfield 39, 3) := by decide +kernel
theorem dX2_gather_76 : decode cX2_gather 76 = .ok (.ifCond .eq 7, 3) := by decide +kernel
theorem dX2_gather_79 : decode cX2_gather 79 = .ok (.iconst 1, 1) := by decide +kernel
theorem dX2_gather_80 : decode cX2_gather 80 = .ok (.goto 4, 3) := by decide +kernel
theorem dX2_gather_83 : decode cX2_gather 83 = .ok (.iconst 0, 1) := by decide +kernel
theorem dX2_gather_84 : decode cX2_gather 84 = .ok (.iadd, 1) := by decide +kernel
theorem dX2_gather_85 : decode cX2_gather 85 = .ok (.putfield 30, 3) := by decide +kernel
theorem dX2_gather_88 : decode cX2_gather 88 = .ok (.aload_n 0, 1) := by decide +kernel
theorem dX2_gather_89 : decode cX2_gather 89 = .ok (.dup, 1) := by decide +kernel
theorem dX2_gather_90 : decode cX2_gather 90 = .ok (.getfield 33, 3) := by decide +kernel
theorem dX2_gather_93 : decode cX2_gather 93 = .ok (.aload_n 3, 1) := by decide +kernel
theorem dX2_gather_94 : decode cX2_gather 94 = .ok (.getfield 43, 3) := by decide +kernel
theorem dX2_gather_97 : decode cX2_gather 97 = .ok (.ifCond .eq 7, 3) := by decide +kernel
theorem dX2_gather_100 : decode cX2_gather 100 = .ok (.iconst 1, 1) := by decide +kernel
theorem dX2_gather_101 : decode cX2_gather 101 = .ok (.goto 4, 3) := by decide +kernel
theorem dX2_gather_104 : decode cX2_gather 104 = .ok (.iconst 0, 1) := by decide +kernel
theorem dX2_gather_105 : decode cX2_gather 105 = .ok (.iadd, 1) := by decide +kernel
theorem dX2_gather_106 : decode cX2_gather 106 = .ok (.putfield 33, 3) := by decide +kernel
theorem dX2_gather_109 : decode cX2_gather 109 = .ok (.aload_n 0, 1) := by decide +kernel
theorem dX2_gather_110 : decode cX2_gather 110 = .ok (.dup, 1) := by decide +kernel
theorem dX2_gather_111 : decode cX2_gather 111 = .ok (.getfield 36, 3) := by decide +kernel
theorem dX2_gather_114 : decode cX2_gather 114 = .ok (.aload_n 3, 1) := by decide +kernel
theorem dX2_gather_115 : decode cX2_gather 115 = .ok (.getfield 39, 3) := by decide +kernel
theorem dX2_gather_118 : decode cX2_gather 118 = .ok (.ifCond .eq 14, 3) := by decide +kernel
theorem dX2_gather_121 : decode cX2_gather 121 = .ok (.aload_n 3, 1) := by decide +kernel
theorem dX2_gather_122 : decode cX2_gather 122 = .ok (.getfield 43, 3) := by decide +kernel
theorem dX2_gather_125 : decode cX2_gather 125 = .ok (.ifCond .eq 7, 3) := by decide +kernel
theorem dX2_gather_128 : decode cX2_gather 128 = .ok (.iconst 1, 1) := by decide +kernel
theorem dX2_gather_129 : decode cX2_gather 129 = .ok (.goto 4, 3) := by decide +kernel
theorem dX2_gather_132 : decode cX2_gather 132 = .ok (.iconst 0, 1) := by decide +kernel
theorem dX2_gather_133 : decode cX2_gather 133 = .ok (.iadd, 1) := by decide +kernel
theorem dX2_gather_134 : decode cX2_gather 134 = .ok (.putfield 36, 3) := by decide +kernel
theorem dX2_gather_137 : decode cX2_gather 137 = .ok (.aload_n 3, 1) := by decide +kernel
theorem dX2_gather_138 : decode cX2_gather 138 = .ok (.getfield 46, 3) := by decide +kernel
theorem dX2_gather_141 : decode cX2_gather 141 = .ok (.ifCond .eq 13, 3) := by decide +kernel
theorem dX2_gather_144 : decode cX2_gather 144 = .ok (.aload_n 0, 1) := by decide +kernel
theorem dX2_gather_145 : decode cX2_gather 145 = .ok (.iload_n 2, 1) := by decide +kernel
theorem dX2_gather_146 : decode cX2_gather 146 = .ok (.invokevirtual 49, 3) := by decide +kernel
theorem dX2_gather_149 : decode cX2_gather 149 = .ok (.aload_n 0, 1) := by decide +kernel
theorem dX2_gather_150 : decode cX2_gather 150 = .ok (.aload_n 3, 1) := by decide +kernel
theorem dX2_gather_151 : decode cX2_gather 151 = .ok (.invokevirtual 53, 3) := by decide +kernel
theorem dX2_gather_154 : decode cX2_gather 154 = .ok (.iinc 2 1, 3) := by decide +kernel
theorem dX2_gather_157 : decode cX2_gather 157 = .ok (.goto (-111), 3) := by decide +kernel
theorem dX2_gather_160 : decode cX2_gather 160 = .ok (.return_, 1) := by decide +kernel
theorem dX2_tell_0 : decode cX2_tell 0 = .ok (.iload_n 1, 1) := by decide +kernel
theorem dX2_tell_1 : decode cX2_tell 1 = .ok (.tableswitch 60 5 9 #[35, 40, 45, 50, 55], 35) := by decide +kernel
theorem dX2_tell_36 : decode cX2_tell 36 = .ok (.aload_n 0, 1) := by decide +kernel
theorem dX2_tell_37 : decode cX2_tell 37 = .ok (.getfield 26, 3) := by decide +kernel
theorem dX2_tell_40 : decode cX2_tell 40 = .ok (.ireturn, 1) := by decide +kernel
theorem dX2_tell_41 : decode cX2_tell 41 = .ok (.aload_n 0, 1) := by decide +kernel
theorem dX2_tell_42 : decode cX2_tell 42 = .ok (.getfield 30, 3) := by decide +kernel
theorem dX2_tell_45 : decode cX2_tell 45 = .ok (.ireturn, 1) := by decide +kernel
theorem dX2_tell_46 : decode cX2_tell 46 = .ok (.aload_n 0, 1) := by decide +kernel
theorem dX2_tell_47 : decode cX2_tell 47 = .ok (.getfield 33, 3) := by decide +kernel
theorem dX2_tell_50 : decode cX2_tell 50 = .ok (.ireturn, 1) := by decide +kernel
theorem dX2_tell_51 : decode cX2_tell 51 = .ok (.aload_n 0, 1) := by decide +kernel
theorem dX2_tell_52 : decode cX2_tell 52 = .ok (.getfield 36, 3) := by decide +kernel
theorem dX2_tell_55 : decode cX2_tell 55 = .ok (.ireturn, 1) := by decide +kernel
theorem dX2_tell_56 : decode cX2_tell 56 = .ok (.aload_n 0, 1) := by decide +kernel
theorem dX2_tell_57 : decode cX2_tell 57 = .ok (.invokevirtual 57, 3) := by decide +kernel
theorem dX2_tell_60 : decode cX2_tell 60 = .ok (.ireturn, 1) := by decide +kernel
theorem dX2_tell_61 : decode cX2_tell 61 = .ok (.sipush (-1002), 3) := by decide +kernel
theorem dX2_tell_64 : decode cX2_tell 64 = .ok (.ireturn, 1) := by decide +kernel
theorem dX2_insertMatch_0 : decode cX2_insertMatch 0 = .ok (.aload_n 0, 1) := by decide +kernel
theorem dX2_insertMatch_1 : decode cX2_insertMatch 1 = .ok (.getfield 26, 3) := by decide +kernel
theorem dX2_insertMatch_4 : decode cX2_insertMatch 4 = .ok (.aload_n 0, 1) := by decide +kernel
theorem dX2_insertMatch_5 : decode cX2_insertMatch 5 = .ok (.getfield 18, 3) := by decide +kernel
theorem dX2_insertMatch_8 : decode cX2_insertMatch 8 = .ok (.arraylength, 1) := by decide +kernel
theorem dX2_insertMatch_9 : decode cX2_insertMatch 9 = .ok (.if_icmp .lt 4, 3) := by decide +kernel
theorem dX2_insertMatch_12 : decode cX2_insertMatch 12 = .ok (.return_, 1) := by decide +kernel
theorem dX2_insertMatch_13 : decode cX2_insertMatch 13 = .ok (.aload_n 0, 1) := by decide +kernel
theorem dX2_insertMatch_14 : decode cX2_insertMatch 14 = .ok (.getfield 26, 3) := by decide +kernel
theorem dX2_insertMatch_17 : decode cX2_insertMatch 17 = .ok (.istore_n 2, 1) := by decide +kernel
theorem dX2_insertMatch_18 : decode cX2_insertMatch 18 = .ok (.iload_n 2, 1) := by decide +kernel
theorem dX2_insertMatch_19 : decode cX2_insertMatch 19 = .ok (.ifCond .le 48, 3) := by decide +kernel
theorem dX2_insertMatch_22 : decode cX2_insertMatch 22 = .ok (.aload_n 0, 1) := by decide +kernel
theorem dX2_insertMatch_23 : decode cX2_insertMatch 23 = .ok (.getfield 11, 3) := by decide +kernel
theorem dX2_insertMatch_26 : decode cX2_insertMatch 26 = .ok (.iload_n 1, 1) := by decide +kernel
theorem dX2_insertMatch_27 : decode cX2_insertMatch 27 = .ok (.aaload, 1) := by decide +kernel
theorem dX2_insertMatch_28 : decode cX2_insertMatch 28 = .ok (.aload_n 0, 1) := by decide +kernel
theorem dX2_insertMatch_29 : decode cX2_insertMatch 29 = .ok (.getfield 11, 3) := by decide +kernel
theorem dX2_insertMatch_32 : decode cX2_insertMatch 32 = .ok (.aload_n 0, 1) := by decide +kernel
theorem dX2_insertMatch_33 : decode cX2_insertMatch 33 = .ok (.getfield 18, 3) := by decide +kernel
theorem dX2_insertMatch_36 : decode cX2_insertMatch 36 = .ok (.iload_n 2, 1) := by decide +kernel
theorem dX2_insertMatch_37 : decode cX2_insertMatch 37 = .ok (.iconst 1, 1) := by decide +kernel
theorem dX2_insertMatch_38 : decode cX2_insertMatch 38 = .ok (.isub, 1) := by decide +kernel
theorem dX2_insertMatch_39 : decode cX2_insertMatch 39 = .ok (.iaload, 1) := by decide +kernel
theorem dX2_insertMatch_40 : decode cX2_insertMatch 40 = .ok (.aaload, 1) := by decide +kernel
theorem dX2_insertMatch_41 : decode cX2_insertMatch 41 = .ok (.invokevirtual 61, 3) := by decide +kernel
theorem dX2_insertMatch_44 : decode cX2_insertMatch 44 = .ok (.ifCond .eq 23, 3) := by decide +kernel
theorem dX2_insertMatch_47 : decode cX2_insertMatch 47 = .ok (.aload_n 0, 1) := by decide +kernel
theorem dX2_insertMatch_48 : decode cX2_insertMatch 48 = .ok (.getfield 18, 3) := by decide +kernel
theorem dX2_insertMatch_51 : decode cX2_insertMatch 51 = .ok (.iload_n 2, 1) := by decide +kernel
theorem dX2_insertMatch_52 : decode cX2_insertMatch 52 = .ok (.aload_n 0, 1) := by decide +kernel
theorem dX2_insertMatch_53 : decode cX2_insertMatch 53 = .ok (.getfield 18, 3) := by decide +kernel
theorem dX2_insertMatch_56 : decode cX2_insertMatch 56 = .ok (.iload_n 2, 1) := by decide +kernel
theorem dX2_insertMatch_57 : decode cX2_insertMatch 57 = .ok (.iconst 1, 1) := by decide +kernel
theorem dX2_insertMatch_58 : decode cX2_insertMatch 58 = .ok (.isub, 1) := by decide +kernel
theorem dX2_insertMatch_59 : decode cX2_insertMatch 59 = .ok (.iaload, 1) := by decide +kernel
theorem dX2_insertMatch_60 : decode cX2_insertMatch 60 = .ok (.iastore, 1) := by decide +kernel
theorem dX2_insertMatch_61 : decode cX2_insertMatch 61 = .ok (.iinc 2 (-1), 3) := by decide +kernel
theorem dX2_insertMatch_64 : decode cX2_insertMatch 64 = .ok (.goto (-46), 3) := by decide +kernel
theorem dX2_insertMatch_67 : decode cX2_insertMatch 67 = .ok (.aload_n 0, 1) := by decide +kernel
theorem dX2_insertMatch_68 : decode cX2_insertMatch 68 = .ok (.getfield 18, 3) := by decide +kernel
theorem dX2_insertMatch_71 : decode cX2_insertMatch 71 = .ok (.iload_n 2, 1) := by decide +kernel
theorem dX2_insertMatch_72 : decode cX2_insertMatch 72 = .ok (.iload_n 1, 1) := by decide +kernel
theorem dX2_insertMatch_73 : decode cX2_insertMatch 73 = .ok (.iastore, 1) := by decide +kernel
theorem dX2_insertMatch_74 : decode cX2_insertMatch 74 = .ok (.aload_n 0, 1) := by decide +kernel
theorem dX2_insertMatch_75 : decode cX2_insertMatch 75 = .ok (.dup, 1) := by decide +kernel
theorem dX2_insertMatch_76 : decode cX2_insertMatch 76 = .ok (.getfield 26, 3) := by decide +kernel
theorem dX2_insertMatch_79 : decode cX2_insertMatch 79 = .ok (.iconst 1, 1) := by decide +kernel
theorem dX2_insertMatch_80 : decode cX2_insertMatch 80 = .ok (.iadd, 1) := by decide +kernel
theorem dX2_insertMatch_81 : decode cX2_insertMatch 81 = .ok (.putfield 26, 3) := by decide +kernel
theorem dX2_insertMatch_84 : decode cX2_insertMatch 84 = .ok (.return_, 1) := by decide +kernel
theorem dX2_cover_0 : decode cX2_cover 0 = .ok (.iconst 0, 1) := by decide +kernel
theorem dX2_cover_1 : decode cX2_cover 1 = .ok (.istore_n 2, 1) := by decide +kernel
theorem dX2_cover_2 : decode cX2_cover 2 = .ok (.iload_n 2, 1) := by decide +kernel
theorem dX2_cover_3 : decode cX2_cover 3 = .ok (.aload_n 1, 1) := by decide +kernel
theorem dX2_cover_4 : decode cX2_cover 4 = .ok (.getfield 65, 3) := by decide +kernel
theorem dX2_cover_7 : decode cX2_cover 7 = .ok (.if_icmp .ge 53, 3) := by decide +kernel
theorem dX2_cover_10 : decode cX2_cover 10 = .ok (.aload_n 1, 1) := by decide +kernel
theorem dX2_cover_11 : decode cX2_cover 11 = .ok (.getfield 68, 3) := by decide +kernel
theorem dX2_cover_14 : decode cX2_cover 14 = .ok (.iload_n 2, 1) := by decide +kernel
theorem dX2_cover_15 : decode cX2_cover 15 = .ok (.iaload, 1) := by decide +kernel
theorem dX2_cover_16 : decode cX2_cover 16 = .ok (.istore_n 3, 1) := by decide +kernel
theorem dX2_cover_17 : decode cX2_cover 17 = .ok (.aload_n 1, 1) := by decide +kernel
theorem dX2_cover_18 : decode cX2_cover 18 = .ok (.getfield 71, 3) := by decide +kernel
theorem dX2_cover_21 : decode cX2_cover 21 = .ok (.iload_n 2, 1) := by decide +kernel
theorem dX2_cover_22 : decode cX2_cover 22 = .ok (.iaload, 1) := by decide +kernel
theorem dX2_cover_23 : decode cX2_cover 23 = .ok (.ifCond .ne 31, 3) := by decide +kernel
theorem dX2_cover_26 : decode cX2_cover 26 = .ok (.aload_n 1, 1) := by decide +kernel
theorem dX2_cover_27 : decode cX2_cover 27 = .ok (.getfield 74, 3) := by decide +kernel
theorem dX2_cover_30 : decode cX2_cover 30 = .ok (.iload_n 2, 1) := by decide +kernel
theorem dX2_cover_31 : decode cX2_cover 31 = .ok (.iaload, 1) := by decide +kernel
theorem dX2_cover_32 : decode cX2_cover 32 = .ok (.ifCond .ne 22, 3) := by decide +kernel
theorem dX2_cover_35 : decode cX2_cover 35 = .ok (.iload_n 3, 1) := by decide +kernel
theorem dX2_cover_36 : decode cX2_cover 36 = .ok (.aload_n 0, 1) := by decide +kernel
theorem dX2_cover_37 : decode cX2_cover 37 = .ok (.getfield 22, 3) := by decide +kernel
theorem dX2_cover_40 : decode cX2_cover 40 = .ok (.arraylength, 1) := by decide +kernel
theorem dX2_cover_41 : decode cX2_cover 41 = .ok (.invokestatic 77, 3) := by decide +kernel
theorem dX2_cover_44 : decode cX2_cover 44 = .ok (.ifCond .eq 10, 3) := by decide +kernel
theorem dX2_cover_47 : decode cX2_cover 47 = .ok (.aload_n 0, 1) := by decide +kernel
theorem dX2_cover_48 : decode cX2_cover 48 = .ok (.getfield 22, 3) := by decide +kernel
theorem dX2_cover_51 : decode cX2_cover 51 = .ok (.iload_n 3, 1) := by decide +kernel
theorem dX2_cover_52 : decode cX2_cover 52 = .ok (.iconst 1, 1) := by decide +kernel
theorem dX2_cover_53 : decode cX2_cover 53 = .ok (.bastore, 1) := by decide +kernel
theorem dX2_cover_54 : decode cX2_cover 54 = .ok (.iinc 2 1, 3) := by decide +kernel
theorem dX2_cover_57 : decode cX2_cover 57 = .ok (.goto (-55), 3) := by decide +kernel
theorem dX2_cover_60 : decode cX2_cover 60 = .ok (.return_, 1) := by decide +kernel
theorem dX2_countCovered_0 : decode cX2_countCovered 0 = .ok (.iconst 0, 1) := by decide +kernel
theorem dX2_countCovered_1 : decode cX2_countCovered 1 = .ok (.istore_n 1, 1) := by decide +kernel
theorem dX2_countCovered_2 : decode cX2_countCovered 2 = .ok (.iconst 0, 1) := by decide +kernel
theorem dX2_countCovered_3 : decode cX2_countCovered 3 = .ok (.istore_n 2, 1) := by decide +kernel
theorem dX2_countCovered_4 : decode cX2_countCovered 4 = .ok (.iload_n 2, 1) := by decide +kernel
theorem dX2_countCovered_5 : decode cX2_countCovered 5 = .ok (.aload_n 0, 1) := by decide +kernel
theorem dX2_countCovered_6 : decode cX2_countCovered 6 = .ok (.getfield 22, 3) := by decide +kernel
theorem dX2_countCovered_9 : decode cX2_countCovered 9 = .ok (.arraylength, 1) := by decide +kernel
theorem dX2_countCovered_10 : decode cX2_countCovered 10 = .ok (.if_icmp .ge 26, 3) := by decide +kernel
theorem dX2_countCovered_13 : decode cX2_countCovered 13 = .ok (.iload_n 1, 1) := by decide +kernel
theorem dX2_countCovered_14 : decode cX2_countCovered 14 = .ok (.aload_n 0, 1) := by decide +kernel
theorem dX2_countCovered_15 : decode cX2_countCovered 15 = .ok (.getfield 22, 3) := by decide +kernel
theorem dX2_countCovered_18 : decode cX2_countCovered 18 = .ok (.iload_n 2, 1) := by decide +kernel
theorem dX2_countCovered_19 : decode cX2_countCovered 19 = .ok (.baload, 1) := by decide +kernel
theorem dX2_countCovered_20 : decode cX2_countCovered 20 = .ok (.ifCond .eq 7, 3) := by decide +kernel
theorem dX2_countCovered_23 : decode cX2_countCovered 23 = .ok (.iconst 1, 1) := by decide +kernel
theorem dX2_countCovered_24 : decode cX2_countCovered 24 = .ok (.goto 4, 3) := by decide +kernel
theorem dX2_countCovered_27 : decode cX2_countCovered 27 = .ok (.iconst 0, 1) := by decide +kernel
theorem dX2_countCovered_28 : decode cX2_countCovered 28 = .ok (.iadd, 1) := by decide +kernel
theorem dX2_countCovered_29 : decode cX2_countCovered 29 = .ok (.istore_n 1, 1) := by decide +kernel
theorem dX2_countCovered_30 : decode cX2_countCovered 30 = .ok (.iinc 2 1, 3) := by decide +kernel
theorem dX2_countCovered_33 : decode cX2_countCovered 33 = .ok (.goto (-29), 3) := by decide +kernel
theorem dX2_countCovered_36 : decode cX2_countCovered 36 = .ok (.iload_n 1, 1) := by decide +kernel
theorem dX2_countCovered_37 : decode cX2_countCovered 37 = .ok (.ireturn, 1) := by decide +kernel
end
section
theorem dX3_init_0 : decode cX3_init 0 = .ok (.aload_n 0, 1) := by decide +kernel
theorem dX3_init_1 : decode cX3_init 1 = .ok (.invokespecial 3, 3) := by decide +kernel
theorem dX3_init_4 : decode cX3_init 4 = .ok (.aload_n 0, 1) := by decide +kernel
theorem dX3_init_5 : decode cX3_init 5 = .ok (.sipush 729, 3) := by decide +kernel
theorem dX3_init_8 : decode cX3_init 8 = .ok (.newarray .int, 2) := by decide +kernel
theorem dX3_init_10 : decode cX3_init 10 = .ok (.putfield 9, 3) := by decide +kernel
theorem dX3_init_13 : decode cX3_init 13 = .ok (.return_, 1) := by decide +kernel
theorem dX3_holdersOf_0 : decode cX3_holdersOf 0 = .ok (.iload_n 1, 1) := by decide +kernel
theorem dX3_holdersOf_1 : decode cX3_holdersOf 1 = .ok (.aload_n 0, 1) := by decide +kernel
theorem dX3_holdersOf_2 : decode cX3_holdersOf 2 = .ok (.getfield 9, 3) := by decide +kernel
theorem dX3_holdersOf_5 : decode cX3_holdersOf 5 = .ok (.arraylength, 1) := by decide +kernel
theorem dX3_holdersOf_6 : decode cX3_holdersOf 6 = .ok (.invokestatic 15, 3) := by decide +kernel
theorem dX3_holdersOf_9 : decode cX3_holdersOf 9 = .ok (.ifCond .eq 12, 3) := by decide +kernel
theorem dX3_holdersOf_12 : decode cX3_holdersOf 12 = .ok (.aload_n 0, 1) := by decide +kernel
theorem dX3_holdersOf_13 : decode cX3_holdersOf 13 = .ok (.getfield 9, 3) := by decide +kernel
theorem dX3_holdersOf_16 : decode cX3_holdersOf 16 = .ok (.iload_n 1, 1) := by decide +kernel
theorem dX3_holdersOf_17 : decode cX3_holdersOf 17 = .ok (.iaload, 1) := by decide +kernel
theorem dX3_holdersOf_18 : decode cX3_holdersOf 18 = .ok (.goto 4, 3) := by decide +kernel
theorem dX3_holdersOf_21 : decode cX3_holdersOf 21 = .ok (.iconst 0, 1) := by decide +kernel
theorem dX3_holdersOf_22 : decode cX3_holdersOf 22 = .ok (.ireturn, 1) := by decide +kernel
theorem dX3_add_0 : decode cX3_add 0 = .ok (.iconst 0, 1) := by decide +kernel
theorem dX3_add_1 : decode cX3_add 1 = .ok (.istore_n 2, 1) := by decide +kernel
theorem dX3_add_2 : decode cX3_add 2 = .ok (.iload_n 2, 1) := by decide +kernel
theorem dX3_add_3 : decode cX3_add 3 = .ok (.aload_n 1, 1) := by decide +kernel
theorem dX3_add_4 : decode cX3_add 4 = .ok (.getfield 19, 3) := by decide +kernel
theorem dX3_add_7 : decode cX3_add 7 = .ok (.if_icmp .ge 65, 3) := by decide +kernel
theorem dX3_add_10 : decode cX3_add 10 = .ok (.aload_n 1, 1) := by decide +kernel
theorem dX3_add_11 : decode cX3_add 11 = .ok (.getfield 25, 3) := by decide +kernel
theorem dX3_add_14 : decode cX3_add 14 = .ok (.iload_n 2, 1) := by decide +kernel
theorem dX3_add_15 : decode cX3_add 15 = .ok (.iaload, 1) := by decide +kernel
theorem dX3_add_16 : decode cX3_add 16 = .ok (.istore_n 3, 1) := by decide +kernel
theorem dX3_add_17 : decode cX3_add 17 = .ok (.aload_n 1, 1) := by decide +kernel
theorem dX3_add_18 : decode cX3_add 18 = .ok (.iload_n 2, 1) := by decide +kernel
theorem dX3_add_19 : decode cX3_add 19 = .ok (.invokevirtual 28, 3) := by decide +kernel
theorem dX3_add_22 : decode cX3_add 22 = .ok (.ifCond .eq 44, 3) := by decide +kernel
theorem dX3_add_25 : decode cX3_add 25 = .ok (.iload_n 3, 1) := by decide +kernel
theorem dX3_add_26 : decode cX3_add 26 = .ok (.aload_n 0, 1) := by decide +kernel
theorem dX3_add_27 : decode cX3_add 27 = .ok (.getfield 9, 3) := by decide +kernel
theorem dX3_add_30 : decode cX3_add 30 = .ok (.arraylength, 1) := by decide +kernel
theorem dX3_add_31 : decode cX3_add 31 = .ok (.invokestatic 15, 3) := by decide +kernel
theorem dX3_add_34 : decode cX3_add 34 = .ok (.ifCond .eq 32, 3) := by decide +kernel
theorem dX3_add_37 : decode cX3_add 37 = .ok (.aload_n 0, 1) := by decide +kernel
theorem dX3_add_38 : decode cX3_add 38 = .ok (.getfield 9, 3) := by decide +kernel
theorem dX3_add_41 : decode cX3_add 41 = .ok (.iload_n 3, 1) := by decide +kernel
theorem dX3_add_42 : decode cX3_add 42 = .ok (.iaload, 1) := by decide +kernel
theorem dX3_add_43 : decode cX3_add 43 = .ok (.ifCond .ne 13, 3) := by decide +kernel
theorem dX3_add_46 : decode cX3_add 46 = .ok (.aload_n 0, 1) := by decide +kernel
theorem dX3_add_47 : decode cX3_add 47 = .ok (.dup, 1) := by decide +kernel
theorem dX3_add_48 : decode cX3_add 48 = .ok (.getfield 32, 3) := by decide +kernel
theorem dX3_add_51 : decode cX3_add 51 = .ok (.iconst 1, 1) := by decide +kernel
theorem dX3_add_52 : decode cX3_add 52 = .ok (.iadd, 1) := by decide +kernel
theorem dX3_add_53 : decode cX3_add 53 = .ok (.putfield 32, 3) := by decide +kernel
theorem dX3_add_56 : decode cX3_add 56 = .ok (.aload_n 0, 1) := by decide +kernel
theorem dX3_add_57 : decode cX3_add 57 = .ok (.getfield 9, 3) := by decide +kernel
theorem dX3_add_60 : decode cX3_add 60 = .ok (.iload_n 3, 1) := by decide +kernel
theorem dX3_add_61 : decode cX3_add 61 = .ok (.dup2, 1) := by decide +kernel
theorem dX3_add_62 : decode cX3_add 62 = .ok (.iaload, 1) := by decide +kernel
theorem dX3_add_63 : decode cX3_add 63 = .ok (.iconst 1, 1) := by decide +kernel
theorem dX3_add_64 : decode cX3_add 64 = .ok (.iadd, 1) := by decide +kernel
theorem dX3_add_65 : decode cX3_add 65 = .ok (.iastore, 1) := by decide +kernel
theorem dX3_add_66 : decode cX3_add 66 = .ok (.iinc 2 1, 3) := by decide +kernel
theorem dX3_add_69 : decode cX3_add 69 = .ok (.goto (-67), 3) := by decide +kernel
theorem dX3_add_72 : decode cX3_add 72 = .ok (.return_, 1) := by decide +kernel
theorem dX3_remove_0 : decode cX3_remove 0 = .ok (.iconst 0, 1) := by decide +kernel
theorem dX3_remove_1 : decode cX3_remove 1 = .ok (.istore_n 2, 1) := by decide +kernel
theorem dX3_remove_2 : decode cX3_remove 2 = .ok (.iload_n 2, 1) := by decide +kernel
theorem dX3_remove_3 : decode cX3_remove 3 = .ok (.aload_n 1, 1) := by decide +kernel
theorem dX3_remove_4 : decode cX3_remove 4 = .ok (.getfield 19, 3) := by decide +kernel
theorem dX3_remove_7 : decode cX3_remove 7 = .ok (.if_icmp .ge 65, 3) := by decide +kernel
theorem dX3_remove_10 : decode cX3_remove 10 = .ok (.aload_n 1, 1) := by decide +kernel
theorem dX3_remove_11 : decode cX3_remove 11 = .ok (.getfield 25, 3) := by decide +kernel
theorem dX3_remove_14 : decode cX3_remove 14 = .ok (.iload_n 2, 1) := by decide +kernel
theorem dX3_remove_15 : decode cX3_remove 15 = .ok (.iaload, 1) := by decide +kernel
theorem dX3_remove_16 : decode cX3_remove 16 = .ok (.istore_n 3, 1) := by decide +kernel
theorem dX3_remove_17 : decode cX3_remove 17 = .ok (.aload_n 1, 1) := by decide +kernel
theorem dX3_remove_18 : decode cX3_remove 18 = .ok (.iload_n 2, 1) := by decide +kernel
theorem dX3_remove_19 : decode cX3_remove 19 = .ok (.invokevirtual 28, 3) := by decide +kernel
theorem dX3_remove_22 : decode cX3_remove 22 = .ok (.ifCond .eq 44, 3) := by decide +kernel
theorem dX3_remove_25 : decode cX3_remove 25 = .ok (.iload_n 3, 1) := by decide +kernel
theorem dX3_remove_26 : decode cX3_remove 26 = .ok (.aload_n 0, 1) := by decide +kernel
theorem dX3_remove_27 : decode cX3_remove 27 = .ok (.getfield 9, 3) := by decide +kernel
theorem dX3_remove_30 : decode cX3_remove 30 = .ok (.arraylength, 1) := by decide +kernel
theorem dX3_remove_31 : decode cX3_remove 31 = .ok (.invokestatic 15, 3) := by decide +kernel
theorem dX3_remove_34 : decode cX3_remove 34 = .ok (.ifCond .eq 32, 3) := by decide +kernel
theorem dX3_remove_37 : decode cX3_remove 37 = .ok (.aload_n 0, 1) := by decide +kernel
theorem dX3_remove_38 : decode cX3_remove 38 = .ok (.getfield 9, 3) := by decide +kernel
theorem dX3_remove_41 : decode cX3_remove 41 = .ok (.iload_n 3, 1) := by decide +kernel
theorem dX3_remove_42 : decode cX3_remove 42 = .ok (.dup2, 1) := by decide +kernel
theorem dX3_remove_43 : decode cX3_remove 43 = .ok (.iaload, 1) := by decide +kernel
theorem dX3_remove_44 : decode cX3_remove 44 = .ok (.iconst 1, 1) := by decide +kernel
theorem dX3_remove_45 : decode cX3_remove 45 = .ok (.isub, 1) := by decide +kernel
theorem dX3_remove_46 : decode cX3_remove 46 = .ok (.iastore, 1) := by decide +kernel
theorem dX3_remove_47 : decode cX3_remove 47 = .ok (.aload_n 0, 1) := by decide +kernel
theorem dX3_remove_48 : decode cX3_remove 48 = .ok (.getfield 9, 3) := by decide +kernel
theorem dX3_remove_51 : decode cX3_remove 51 = .ok (.iload_n 3, 1) := by decide +kernel
theorem dX3_remove_52 : decode cX3_remove 52 = .ok (.iaload, 1) := by decide +kernel
theorem dX3_remove_53 : decode cX3_remove 53 = .ok (.ifCond .ne 13, 3) := by decide +kernel
theorem dX3_remove_56 : decode cX3_remove 56 = .ok (.aload_n 0, 1) := by decide +kernel
theorem dX3_remove_57 : decode cX3_remove 57 = .ok (.dup, 1) := by decide +kernel
theorem dX3_remove_58 : decode cX3_remove 58 = .ok (.getfield 32, 3) := by decide +kernel
theorem dX3_remove_61 : decode cX3_remove 61 = .ok (.iconst 1, 1) := by decide +kernel
theorem dX3_remove_62 : decode cX3_remove 62 = .ok (.isub, 1) := by decide +kernel
theorem dX3_remove_63 : decode cX3_remove 63 = .ok (.putfield 32, 3) := by decide +kernel
theorem dX3_remove_66 : decode cX3_remove 66 = .ok (.iinc 2 1, 3) := by decide +kernel
theorem dX3_remove_69 : decode cX3_remove 69 = .ok (.goto (-67), 3) := by decide +kernel
theorem dX3_remove_72 : decode cX3_remove 72 = .ok (.return_, 1) := by decide +kernel
end
section
theorem dX4_init_0 : decode cX4_init 0 = .ok (.aload_n 0, 1) := by decide +kernel
theorem dX4_init_1 : decode cX4_init 1 = .ok (.invokespecial 3, 3) := by decide +kernel
theorem dX4_init_4 : decode cX4_init 4 = .ok (.aload_n 0, 1) := by decide +kernel
theorem dX4_init_5 : decode cX4_init 5 = .ok (.bipush 48, 2) := by decide +kernel
theorem dX4_init_7 : decode cX4_init 7 = .ok (.newarray .int, 2) := by decide +kernel
theorem dX4_init_9 : decode cX4_init 9 = .ok (.putfield 9, 3) := by decide +kernel
theorem dX4_init_12 : decode cX4_init 12 = .ok (.return_, 1) := by decide +kernel
theorem dX4_isFull_0 : decode cX4_isFull 0 = .ok (.aload_n 0, 1) := by decide +kernel
theorem dX4_isFull_1 : decode cX4_isFull 1 = .ok (.getfield 15, 3) := by decide +kernel
theorem dX4_isFull_4 : decode cX4_isFull 4 = .ok (.aload_n 0, 1) := by decide +kernel
theorem dX4_isFull_5 : decode cX4_isFull 5 = .ok (.getfield 9, 3) := by decide +kernel
theorem dX4_isFull_8 : decode cX4_isFull 8 = .ok (.arraylength, 1) := by decide +kernel
theorem dX4_isFull_9 : decode cX4_isFull 9 = .ok (.if_icmp .lt 7, 3) := by decide +kernel
theorem dX4_isFull_12 : decode cX4_isFull 12 = .ok (.iconst 1, 1) := by decide +kernel
theorem dX4_isFull_13 : decode cX4_isFull 13 = .ok (.goto 4, 3) := by decide +kernel
theorem dX4_isFull_16 : decode cX4_isFull 16 = .ok (.iconst 0, 1) := by decide +kernel
theorem dX4_isFull_17 : decode cX4_isFull 17 = .ok (.ireturn, 1) := by decide +kernel
theorem dX4_append_0 : decode cX4_append 0 = .ok (.aload_n 0, 1) := by decide +kernel
theorem dX4_append_1 : decode cX4_append 1 = .ok (.getfield 15, 3) := by decide +kernel
theorem dX4_append_4 : decode cX4_append 4 = .ok (.aload_n 0, 1) := by decide +kernel
theorem dX4_append_5 : decode cX4_append 5 = .ok (.getfield 9, 3) := by decide +kernel
theorem dX4_append_8 : decode cX4_append 8 = .ok (.arraylength, 1) := by decide +kernel
theorem dX4_append_9 : decode cX4_append 9 = .ok (.if_icmp .ge 23, 3) := by decide +kernel
theorem dX4_append_12 : decode cX4_append 12 = .ok (.aload_n 0, 1) := by decide +kernel
theorem dX4_append_13 : decode cX4_append 13 = .ok (.getfield 9, 3) := by decide +kernel
theorem dX4_append_16 : decode cX4_append 16 = .ok (.aload_n 0, 1) := by decide +kernel
theorem dX4_append_17 : decode cX4_append 17 = .ok (.getfield 15, 3) := by decide +kernel
theorem dX4_append_20 : decode cX4_append 20 = .ok (.iload_n 1, 1) := by decide +kernel
theorem dX4_append_21 : decode cX4_append 21 = .ok (.iastore, 1) := by decide +kernel
theorem dX4_append_22 : decode cX4_append 22 = .ok (.aload_n 0, 1) := by decide +kernel
theorem dX4_append_23 : decode cX4_append 23 = .ok (.dup, 1) := by decide +kernel
theorem dX4_append_24 : decode cX4_append 24 = .ok (.getfield 15, 3) := by decide +kernel
theorem dX4_append_27 : decode cX4_append 27 = .ok (.iconst 1, 1) := by decide +kernel
theorem dX4_append_28 : decode cX4_append 28 = .ok (.iadd, 1) := by decide +kernel
theorem dX4_append_29 : decode cX4_append 29 = .ok (.putfield 15, 3) := by decide +kernel
theorem dX4_append_32 : decode cX4_append 32 = .ok (.return_, 1) := by decide +kernel
theorem dX4_clear_0 : decode cX4_clear 0 = .ok (.aload_n 0, 1) := by decide +kernel
theorem dX4_clear_1 : decode cX4_clear 1 = .ok (.iconst 0, 1) := by decide +kernel
theorem dX4_clear_2 : decode cX4_clear 2 = .ok (.putfield 15, 3) := by decide +kernel
theorem dX4_clear_5 : decode cX4_clear 5 = .ok (.return_, 1) := by decide +kernel
theorem dX4_firstFault_0 : decode cX4_firstFault 0 = .ok (.aload_n 0, 1) := by decide +kernel
theorem dX4_firstFault_1 : decode cX4_firstFault 1 = .ok (.iconst 0, 1) := by decide +kernel
theorem dX4_firstFault_2 : decode cX4_firstFault 2 = .ok (.putfield 19, 3) := by decide +kernel
theorem dX4_firstFault_5 : decode cX4_firstFault 5 = .ok (.aload_n 0, 1) := by decide +kernel
theorem dX4_firstFault_6 : decode cX4_firstFault 6 = .ok (.iconst 0, 1) := by decide +kernel
theorem dX4_firstFault_7 : decode cX4_firstFault 7 = .ok (.putfield 22, 3) := by decide +kernel
theorem dX4_firstFault_10 : decode cX4_firstFault 10 = .ok (.aload_n 0, 1) := by decide +kernel
theorem dX4_firstFault_11 : decode cX4_firstFault 11 = .ok (.iconst 0, 1) := by decide +kernel
theorem dX4_firstFault_12 : decode cX4_firstFault 12 = .ok (.putfield 25, 3) := by decide +kernel
theorem dX4_firstFault_15 : decode cX4_firstFault 15 = .ok (.iconst 0, 1) := by decide +kernel
theorem dX4_firstFault_16 : decode cX4_firstFault 16 = .ok (.istore_n 1, 1) := by decide +kernel
theorem dX4_firstFault_17 : decode cX4_firstFault 17 = .ok (.iload_n 1, 1) := by decide +kernel
theorem dX4_firstFault_18 : decode cX4_firstFault 18 = .ok (.aload_n 0, 1) := by decide +kernel
theorem dX4_firstFault_19 : decode cX4_firstFault 19 = .ok (.getfield 15, 3) := by decide +kernel
theorem dX4_firstFault_22 : decode cX4_firstFault 22 = .ok (.if_icmp .ge 24, 3) := by decide +kernel
theorem dX4_firstFault_25 : decode cX4_firstFault 25 = .ok (.aload_n 0, 1) := by decide +kernel
theorem dX4_firstFault_26 : decode cX4_firstFault 26 = .ok (.aload_n 0, 1) := by decide +kernel
theorem dX4_firstFault_27 : decode cX4_firstFault 27 = .ok (.getfield 9, 3) := by decide +kernel
theorem dX4_firstFault_30 : decode cX4_firstFault 30 = .ok (.iload_n 1, 1) := by decide +kernel
theorem dX4_firstFault_31 : decode cX4_firstFault 31 = .ok (.iaload, 1) := by decide +kernel
theorem dX4_firstFault_32 : decode cX4_firstFault 32 = .ok (.invokevirtual 28, 3) := by decide +kernel
theorem dX4_firstFault_35 : decode cX4_firstFault 35 = .ok (.ifCond .ne 5, 3) := by decide +kernel
theorem dX4_firstFault_38 : decode cX4_firstFault 38 = .ok (.iload_n 1, 1) := by decide +kernel
theorem dX4_firstFault_39 : decode cX4_firstFault 39 = .ok (.ireturn, 1) := by decide +kernel
theorem dX4_firstFault_40 : decode cX4_firstFault 40 = .ok (.iinc 1 1, 3) := by decide +kernel
theorem dX4_firstFault_43 : decode cX4_firstFault 43 = .ok (.goto (-26), 3) := by decide +kernel
theorem dX4_firstFault_46 : decode cX4_firstFault 46 = .ok (.aload_n 0, 1) := by decide +kernel
theorem dX4_firstFault_47 : decode cX4_firstFault 47 = .ok (.getfield 15, 3) := by decide +kernel
theorem dX4_firstFault_50 : decode cX4_firstFault 50 = .ok (.ireturn, 1) := by decide +kernel
theorem dX4_isSegment_0 : decode cX4_isSegment 0 = .ok (.aload_n 0, 1) := by decide +kernel
theorem dX4_isSegment_1 : decode cX4_isSegment 1 = .ok (.invokevirtual 32, 3) := by decide +kernel
theorem dX4_isSegment_4 : decode cX4_isSegment 4 = .ok (.aload_n 0, 1) := by decide +kernel
theorem dX4_isSegment_5 : decode cX4_isSegment 5 = .ok (.getfield 15, 3) := by decide +kernel
theorem dX4_isSegment_8 : decode cX4_isSegment 8 = .ok (.if_icmp .ne 23, 3) := by decide +kernel
theorem dX4_isSegment_11 : decode cX4_isSegment 11 = .ok (.aload_n 0, 1) := by decide +kernel
theorem dX4_isSegment_12 : decode cX4_isSegment 12 = .ok (.getfield 19, 3) := by decide +kernel
theorem dX4_isSegment_15 : decode cX4_isSegment 15 = .ok (.iconst 1, 1) := by decide +kernel
theorem dX4_isSegment_16 : decode cX4_isSegment 16 = .ok (.if_icmp .eq 11, 3) := by decide +kernel
theorem dX4_isSegment_19 : decode cX4_isSegment 19 = .ok (.aload_n 0, 1) := by decide +kernel
theorem dX4_isSegment_20 : decode cX4_isSegment 20 = .ok (.getfield 19, 3) := by decide +kernel
theorem dX4_isSegment_23 : decode cX4_isSegment 23 = .ok (.iconst 4, 1) := by decide +kernel
theorem dX4_isSegment_24 : decode cX4_isSegment 24 = .ok (.if_icmp .ne 7, 3) := by decide +kernel
theorem dX4_isSegment_27 : decode cX4_isSegment 27 = .ok (.iconst 1, 1) := by decide +kernel
theorem dX4_isSegment_28 : decode cX4_isSegment 28 = .ok (.goto 4, 3) := by decide +kernel
theorem dX4_isSegment_31 : decode cX4_isSegment 31 = .ok (.iconst 0, 1) := by decide +kernel
theorem dX4_isSegment_32 : decode cX4_isSegment 32 = .ok (.ireturn, 1) := by decide +kernel
theorem dX4_goesOn_0 : decode cX4_goesOn 0 = .ok (.aload_n 0, 1) := by decide +kernel
theorem dX4_goesOn_1 : decode cX4_goesOn 1 = .ok (.getfield 19, 3) := by decide +kernel
theorem dX4_goesOn_4 : decode cX4_goesOn 4 = .ok (.tableswitch 98 0 3 #[32, 38, 58, 81], 32) := by decide +kernel
theorem dX4_goesOn_36 : decode cX4_goesOn 36 = .ok (.aload_n 0, 1) := by decide +kernel
theorem dX4_goesOn_37 : decode cX4_goesOn 37 = .ok (.iload_n 1, 1) := by decide +kernel
theorem dX4_goesOn_38 : decode cX4_goesOn 38 = .ok (.invokevirtual 36, 3) := by decide +kernel
theorem dX4_goesOn_41 : decode cX4_goesOn 41 = .ok (.ireturn, 1) := by decide +kernel
theorem dX4_goesOn_42 : decode cX4_goesOn 42 = .ok (.iload_n 1, 1) := by decide +kernel
theorem dX4_goesOn_43 : decode cX4_goesOn 43 = .ok (.invokestatic 39, 3) := by decide +kernel
theorem dX4_goesOn_46 : decode cX4_goesOn 46 = .ok (.ifCond .eq 10, 3) := by decide +kernel
theorem dX4_goesOn_49 : decode cX4_goesOn 49 = .ok (.aload_n 0, 1) := by decide +kernel
theorem dX4_goesOn_50 : decode cX4_goesOn 50 = .ok (.invokevirtual 42, 3) := by decide +kernel
theorem dX4_goesOn_53 : decode cX4_goesOn 53 = .ok (.goto 8, 3) := by decide +kernel
theorem dX4_goesOn_56 : decode cX4_goesOn 56 = .ok (.aload_n 0, 1) := by decide +kernel
theorem dX4_goesOn_57 : decode cX4_goesOn 57 = .ok (.iload_n 1, 1) := by decide +kernel
theorem dX4_goesOn_58 : decode cX4_goesOn 58 = .ok (.invokevirtual 46, 3) := by decide +kernel
theorem dX4_goesOn_61 : decode cX4_goesOn 61 = .ok (.ireturn, 1) := by decide +kernel
theorem dX4_goesOn_62 : decode cX4_goesOn 62 = .ok (.aload_n 0, 1) := by decide +kernel
theorem dX4_goesOn_63 : decode cX4_goesOn 63 = .ok (.iconst 3, 1) := by decide +kernel
theorem dX4_goesOn_64 : decode cX4_goesOn 64 = .ok (.putfield 19, 3) := by decide +kernel
theorem dX4_goesOn_67 : decode cX4_goesOn 67 = .ok (.iload_n 1, 1) := by decide +kernel
theorem dX4_goesOn_68 : decode cX4_goesOn 68 = .ok (.bipush 49, 2) := by decide +kernel
theorem dX4_goesOn_70 : decode cX4_goesOn 70 = .ok (.if_icmp .lt 13, 3) := by decide +kernel
theorem dX4_goesOn_73 : decode cX4_goesOn 73 = .ok (.iload_n 1, 1) := by decide +kernel
theorem dX4_goesOn_74 : decode cX4_goesOn 74 = .ok (.bipush 57, 2) := by decide +kernel
theorem dX4_goesOn_76 : decode cX4_goesOn 76 = .ok (.if_icmp .gt 7, 3) := by decide +kernel
theorem dX4_goesOn_79 : decode cX4_goesOn 79 = .ok (.iconst 1, 1) := by decide +kernel
theorem dX4_goesOn_80 : decode cX4_goesOn 80 = .ok (.goto 4, 3) := by decide +kernel
theorem dX4_goesOn_83 : decode cX4_goesOn 83 = .ok (.iconst 0, 1) := by decide +kernel
theorem dX4_goesOn_84 : decode cX4_goesOn 84 = .ok (.ireturn, 1) := by decide +kernel
theorem dX4_goesOn_85 : decode cX4_goesOn 85 = .ok (.aload_n 0, 1) := by decide +kernel
theorem dX4_goesOn_86 : decode cX4_goesOn 86 = .ok (.iconst 4, 1) := by decide +kernel
theorem dX4_goesOn_87 : decode cX4_goesOn 87 = .ok (.putfield 19, 3) := by decide +kernel
theorem dX4_goesOn_90 : decode cX4_goesOn 90 = .ok (.iload_n 1, 1) := by decide +kernel
theorem dX4_goesOn_91 : decode cX4_goesOn 91 = .ok (.bipush 93, 2) := by decide +kernel
theorem dX4_goesOn_93 : decode cX4_goesOn 93 = .ok (.if_icmp .ne 7, 3) := by decide +kernel
theorem dX4_goesOn_96 : decode cX4_goesOn 96 = .ok (.iconst 1, 1) := by decide +kernel
theorem dX4_goesOn_97 : decode cX4_goesOn 97 = .ok (.goto 4, 3) := by decide +kernel
theorem dX4_goesOn_100 : decode cX4_goesOn 100 = .ok (.iconst 0, 1) := by decide +kernel
theorem dX4_goesOn_101 : decode cX4_goesOn 101 = .ok (.ireturn, 1) := by decide +kernel
theorem dX4_goesOn_102 : decode cX4_goesOn 102 = .ok (.aload_n 0, 1) := by decide +kernel
theorem dX4_goesOn_103 : decode cX4_goesOn 103 = .ok (.iload_n 1, 1) := by decide +kernel
theorem dX4_goesOn_104 : decode cX4_goesOn 104 = .ok (.invokevirtual 46, 3) := by decide +kernel
theorem dX4_goesOn_107 : decode cX4_goesOn 107 = .ok (.ireturn, 1) := by decide +kernel
theorem dX4_beginsSign_0 : decode cX4_beginsSign 0 = .ok (.aload_n 0, 1) := by decide +kernel
theorem dX4_beginsSign_1 : decode cX4_beginsSign 1 = .ok (.dup, 1) := by decide +kernel
theorem dX4_beginsSign_2 : decode cX4_beginsSign 2 = .ok (.getfield 22, 3) := by decide +kernel
theorem dX4_beginsSign_5 : decode cX4_beginsSign 5 = .ok (.iconst 1, 1) := by decide +kernel
theorem dX4_beginsSign_6 : decode cX4_beginsSign 6 = .ok (.iadd, 1) := by decide +kernel
theorem dX4_beginsSign_7 : decode cX4_beginsSign 7 = .ok (.putfield 22, 3) := by decide +kernel
theorem dX4_beginsSign_10 : decode cX4_beginsSign 10 = .ok (.aload_n 0, 1) := by decide +kernel
theorem dX4_beginsSign_11 : decode cX4_beginsSign 11 = .ok (.iconst 1, 1) := by decide +kernel
theorem dX4_beginsSign_12 : decode cX4_beginsSign 12 = .ok (.putfield 25, 3) := by decide +kernel
theorem dX4_beginsSign_15 : decode cX4_beginsSign 15 = .ok (.aload_n 0, 1) := by decide +kernel
theorem dX4_beginsSign_16 : decode cX4_beginsSign 16 = .ok (.iload_n 1, 1) := by decide +kernel
theorem dX4_beginsSign_17 : decode cX4_beginsSign 17 = .ok (.bipush 91, 2) := by decide +kernel
theorem dX4_beginsSign_19 : decode cX4_beginsSign 19 = .ok (.if_icmp .ne 7, 3) := by decide +kernel
theorem dX4_beginsSign_22 : decode cX4_beginsSign 22 = .ok (.iconst 2, 1) := by decide +kernel
theorem dX4_beginsSign_23 : decode cX4_beginsSign 23 = .ok (.goto 4, 3) := by decide +kernel
theorem dX4_beginsSign_26 : decode cX4_beginsSign 26 = .ok (.iconst 1, 1) := by decide +kernel
theorem dX4_beginsSign_27 : decode cX4_beginsSign 27 = .ok (.putfield 19, 3) := by decide +kernel
theorem dX4_beginsSign_30 : decode cX4_beginsSign 30 = .ok (.iload_n 1, 1) := by decide +kernel
theorem dX4_beginsSign_31 : decode cX4_beginsSign 31 = .ok (.bipush 91, 2) := by decide +kernel
theorem dX4_beginsSign_33 : decode cX4_beginsSign 33 = .ok (.if_icmp .eq 10, 3) := by decide +kernel
theorem dX4_beginsSign_36 : decode cX4_beginsSign 36 = .ok (.iload_n 1, 1) := by decide +kernel
theorem dX4_beginsSign_37 : decode cX4_beginsSign 37 = .ok (.invokestatic 39, 3) := by decide +kernel
theorem dX4_beginsSign_40 : decode cX4_beginsSign 40 = .ok (.ifCond .eq 7, 3) := by decide +kernel
theorem dX4_beginsSign_43 : decode cX4_beginsSign 43 = .ok (.iconst 1, 1) := by decide +kernel
theorem dX4_beginsSign_44 : decode cX4_beginsSign 44 = .ok (.goto 4, 3) := by decide +kernel
theorem dX4_beginsSign_47 : decode cX4_beginsSign 47 = .ok (.iconst 0, 1) := by decide +kernel
theorem dX4_beginsSign_48 : decode cX4_beginsSign 48 = .ok (.ireturn, 1) := by decide +kernel
theorem dX4_lengthensWord_0 : decode cX4_lengthensWord 0 = .ok (.aload_n 0, 1) := by decide +kernel
theorem dX4_lengthensWord_1 : decode cX4_lengthensWord 1 = .ok (.dup, 1) := by decide +kernel
theorem dX4_lengthensWord_2 : decode cX4_lengthensWord 2 = .ok (.getfield 25, 3) := by decide +kernel
theorem dX4_lengthensWord_5 : decode cX4_lengthensWord 5 = .ok (.iconst 1, 1) := by decide +kernel
theorem dX4_lengthensWord_6 : decode cX4_lengthensWord 6 = .ok (.iadd, 1) := by decide +kernel
theorem dX4_lengthensWord_7 : decode cX4_lengthensWord 7 = .ok (.putfield 25, 3) := by decide +kernel
theorem dX4_lengthensWord_10 : decode cX4_lengthensWord 10 = .ok (.aload_n 0, 1) := by decide +kernel
theorem dX4_lengthensWord_11 : decode cX4_lengthensWord 11 = .ok (.getfield 25, 3) := by decide +kernel
theorem dX4_lengthensWord_14 : decode cX4_lengthensWord 14 = .ok (.bipush 12, 2) := by decide +kernel
theorem dX4_lengthensWord_16 : decode cX4_lengthensWord 16 = .ok (.if_icmp .gt 7, 3) := by decide +kernel
theorem dX4_lengthensWord_19 : decode cX4_lengthensWord 19 = .ok (.iconst 1, 1) := by decide +kernel
theorem dX4_lengthensWord_20 : decode cX4_lengthensWord 20 = .ok (.goto 4, 3) := by decide +kernel
theorem dX4_lengthensWord_23 : decode cX4_lengthensWord 23 = .ok (.iconst 0, 1) := by decide +kernel
theorem dX4_lengthensWord_24 : decode cX4_lengthensWord 24 = .ok (.ireturn, 1) := by decide +kernel
theorem dX4_endsSign_0 : decode cX4_endsSign 0 = .ok (.aload_n 0, 1) := by decide +kernel
theorem dX4_endsSign_1 : decode cX4_endsSign 1 = .ok (.iconst 0, 1) := by decide +kernel
theorem dX4_endsSign_2 : decode cX4_endsSign 2 = .ok (.putfield 19, 3) := by decide +kernel
theorem dX4_endsSign_5 : decode cX4_endsSign 5 = .ok (.iload_n 1, 1) := by decide +kernel
theorem dX4_endsSign_6 : decode cX4_endsSign 6 = .ok (.bipush 32, 2) := by decide +kernel
theorem dX4_endsSign_8 : decode cX4_endsSign 8 = .ok (.if_icmp .ne 16, 3) := by decide +kernel
theorem dX4_endsSign_11 : decode cX4_endsSign 11 = .ok (.aload_n 0, 1) := by decide +kernel
theorem dX4_endsSign_12 : decode cX4_endsSign 12 = .ok (.getfield 22, 3) := by decide +kernel
theorem dX4_endsSign_15 : decode cX4_endsSign 15 = .ok (.bipush 8, 2) := by decide +kernel
theorem dX4_endsSign_17 : decode cX4_endsSign 17 = .ok (.if_icmp .ge 7, 3) := by decide +kernel
theorem dX4_endsSign_20 : decode cX4_endsSign 20 = .ok (.iconst 1, 1) := by decide +kernel
theorem dX4_endsSign_21 : decode cX4_endsSign 21 = .ok (.goto 4, 3) := by decide +kernel
theorem dX4_endsSign_24 : decode cX4_endsSign 24 = .ok (.iconst 0, 1) := by decide +kernel
theorem dX4_endsSign_25 : decode cX4_endsSign 25 = .ok (.ireturn, 1) := by decide +kernel
end
section
theorem dX5_init_0 : decode cX5_init 0 = .ok (.aload_n 0, 1) := by decide +kernel
theorem dX5_init_1 : decode cX5_init 1 = .ok (.invokespecial 3, 3) := by decide +kernel
theorem dX5_init_4 : decode cX5_init 4 = .ok (.aload_n 0, 1) := by decide +kernel
theorem dX5_init_5 : decode cX5_init 5 = .ok (.bipush 8, 2) := by decide +kernel
theorem dX5_init_7 : decode cX5_init 7 = .ok (.anewarray 9, 3) := by decide +kernel
theorem dX5_init_10 : decode cX5_init 10 = .ok (.putfield 11, 3) := by decide +kernel
theorem dX5_init_13 : decode cX5_init 13 = .ok (.iconst 0, 1) := by decide +kernel
theorem dX5_init_14 : decode cX5_init 14 = .ok (.istore_n 1, 1) := by decide +kernel
theorem dX5_init_15 : decode cX5_init 15 = .ok (.iload_n 1, 1) := by decide +kernel
theorem dX5_init_16 : decode cX5_init 16 = .ok (.aload_n 0, 1) := by decide +kernel
theorem dX5_init_17 : decode cX5_init 17 = .ok (.getfield 11, 3) := by decide +kernel
theorem dX5_init_20 : decode cX5_init 20 = .ok (.arraylength, 1) := by decide +kernel
theorem dX5_init_21 : decode cX5_init 21 = .ok (.if_icmp .ge 22, 3) := by decide +kernel
theorem dX5_init_24 : decode cX5_init 24 = .ok (.aload_n 0, 1) := by decide +kernel
theorem dX5_init_25 : decode cX5_init 25 = .ok (.getfield 11, 3) := by decide +kernel
theorem dX5_init_28 : decode cX5_init 28 = .ok (.iload_n 1, 1) := by decide +kernel
theorem dX5_init_29 : decode cX5_init 29 = .ok (.new 9, 3) := by decide +kernel
theorem dX5_init_32 : decode cX5_init 32 = .ok (.dup, 1) := by decide +kernel
theorem dX5_init_33 : decode cX5_init 33 = .ok (.invokespecial 17, 3) := by decide +kernel
theorem dX5_init_36 : decode cX5_init 36 = .ok (.aastore, 1) := by decide +kernel
theorem dX5_init_37 : decode cX5_init 37 = .ok (.iinc 1 1, 3) := by decide +kernel
theorem dX5_init_40 : decode cX5_init 40 = .ok (.goto (-25), 3) := by decide +kernel
theorem dX5_init_43 : decode cX5_init 43 = .ok (.aload_n 0, 1) := by decide +kernel
theorem dX5_init_44 : decode cX5_init 44 = .ok (.bipush 56, 2) := by decide +kernel
theorem dX5_init_46 : decode cX5_init 46 = .ok (.newarray .int, 2) := by decide +kernel
theorem dX5_init_48 : decode cX5_init 48 = .ok (.putfield 18, 3) := by decide +kernel
theorem dX5_init_51 : decode cX5_init 51 = .ok (.return_, 1) := by decide +kernel
theorem dX5_read_0 : decode cX5_read 0 = .ok (.aload_n 0, 1) := by decide +kernel
theorem dX5_read_1 : decode cX5_read 1 = .ok (.getfield 11, 3) := by decide +kernel
theorem dX5_read_4 : decode cX5_read 4 = .ok (.iconst 0, 1) := by decide +kernel
theorem dX5_read_5 : decode cX5_read 5 = .ok (.aaload, 1) := by decide +kernel
theorem dX5_read_6 : decode cX5_read 6 = .ok (.invokevirtual 22, 3) := by decide +kernel
theorem dX5_read_9 : decode cX5_read 9 = .ok (.iconst 0, 1) := by decide +kernel
theorem dX5_read_10 : decode cX5_read 10 = .ok (.istore_n 2, 1) := by decide +kernel
theorem dX5_read_11 : decode cX5_read 11 = .ok (.iconst 0, 1) := by decide +kernel
theorem dX5_read_12 : decode cX5_read 12 = .ok (.istore_n 3, 1) := by decide +kernel
theorem dX5_read_13 : decode cX5_read 13 = .ok (.iload_n 3, 1) := by decide +kernel
theorem dX5_read_14 : decode cX5_read 14 = .ok (.aload_n 1, 1) := by decide +kernel
theorem dX5_read_15 : decode cX5_read 15 = .ok (.getfield 25, 3) := by decide +kernel
theorem dX5_read_18 : decode cX5_read 18 = .ok (.if_icmp .ge 61, 3) := by decide +kernel
theorem dX5_read_21 : decode cX5_read 21 = .ok (.aload_n 1, 1) := by decide +kernel
theorem dX5_read_22 : decode cX5_read 22 = .ok (.getfield 31, 3) := by decide +kernel
theorem dX5_read_25 : decode cX5_read 25 = .ok (.iload_n 3, 1) := by decide +kernel
theorem dX5_read_26 : decode cX5_read 26 = .ok (.iaload, 1) := by decide +kernel
theorem dX5_read_27 : decode cX5_read 27 = .ok (.istore 4, 2) := by decide +kernel
theorem dX5_read_29 : decode cX5_read 29 = .ok (.iload 4, 2) := by decide +kernel
theorem dX5_read_31 : decode cX5_read 31 = .ok (.bipush 32, 2) := by decide +kernel
theorem dX5_read_33 : decode cX5_read 33 = .ok (.if_icmp .ne 29, 3) := by decide +kernel
theorem dX5_read_36 : decode cX5_read 36 = .ok (.iload_n 2, 1) := by decide +kernel
theorem dX5_read_37 : decode cX5_read 37 = .ok (.iconst 1, 1) := by decide +kernel
theorem dX5_read_38 : decode cX5_read 38 = .ok (.iadd, 1) := by decide +kernel
theorem dX5_read_39 : decode cX5_read 39 = .ok (.aload_n 0, 1) := by decide +kernel
theorem dX5_read_40 : decode cX5_read 40 = .ok (.getfield 11, 3) := by decide +kernel
theorem dX5_read_43 : decode cX5_read 43 = .ok (.arraylength, 1) := by decide +kernel
theorem dX5_read_44 : decode cX5_read 44 = .ok (.if_icmp .ge 18, 3) := by decide +kernel
theorem dX5_read_47 : decode cX5_read 47 = .ok (.iinc 2 1, 3) := by decide +kernel
theorem dX5_read_50 : decode cX5_read 50 = .ok (.aload_n 0, 1) := by decide +kernel
theorem dX5_read_51 : decode cX5_read 51 = .ok (.getfield 11, 3) := by decide +kernel
theorem dX5_read_54 : decode cX5_read 54 = .ok (.iload_n 2, 1) := by decide +kernel
theorem dX5_read_55 : decode cX5_read 55 = .ok (.aaload, 1) := by decide +kernel
theorem dX5_read_56 : decode cX5_read 56 = .ok (.invokevirtual 22, 3) := by decide +kernel
theorem dX5_read_59 : decode cX5_read 59 = .ok (.goto 14, 3) := by decide +kernel
theorem dX5_read_62 : decode cX5_read 62 = .ok (.aload_n 0, 1) := by decide +kernel
theorem dX5_read_63 : decode cX5_read 63 = .ok (.getfield 11, 3) := by decide +kernel
theorem dX5_read_66 : decode cX5_read 66 = .ok (.iload_n 2, 1) := by decide +kernel
theorem dX5_read_67 : decode cX5_read 67 = .ok (.aaload, 1) := by decide +kernel
theorem dX5_read_68 : decode cX5_read 68 = .ok (.iload 4, 2) := by decide +kernel
theorem dX5_read_70 : decode cX5_read 70 = .ok (.invokevirtual 34, 3) := by decide +kernel
theorem dX5_read_73 : decode cX5_read 73 = .ok (.iinc 3 1, 3) := by decide +kernel
theorem dX5_read_76 : decode cX5_read 76 = .ok (.goto (-63), 3) := by decide +kernel
theorem dX5_read_79 : decode cX5_read 79 = .ok (.aload_n 0, 1) := by decide +kernel
theorem dX5_read_80 : decode cX5_read 80 = .ok (.iload_n 2, 1) := by decide +kernel
theorem dX5_read_81 : decode cX5_read 81 = .ok (.iconst 1, 1) := by decide +kernel
theorem dX5_read_82 : decode cX5_read 82 = .ok (.iadd, 1) := by decide +kernel
theorem dX5_read_83 : decode cX5_read 83 = .ok (.putfield 38, 3) := by decide +kernel
theorem dX5_read_86 : decode cX5_read 86 = .ok (.aload_n 0, 1) := by decide +kernel
theorem dX5_read_87 : decode cX5_read 87 = .ok (.iconst 0, 1) := by decide +kernel
theorem dX5_read_88 : decode cX5_read 88 = .ok (.putfield 41, 3) := by decide +kernel
theorem dX5_read_91 : decode cX5_read 91 = .ok (.aload_n 0, 1) := by decide +kernel
theorem dX5_read_92 : decode cX5_read 92 = .ok (.iconst 0, 1) := by decide +kernel
theorem dX5_read_93 : decode cX5_read 93 = .ok (.putfield 44, 3) := by decide +kernel
theorem dX5_read_96 : decode cX5_read 96 = .ok (.aload_n 0, 1) := by decide +kernel
theorem dX5_read_97 : decode cX5_read 97 = .ok (.iconst 0, 1) := by decide +kernel
theorem dX5_read_98 : decode cX5_read 98 = .ok (.putfield 47, 3) := by decide +kernel
theorem dX5_read_101 : decode cX5_read 101 = .ok (.iconst 0, 1) := by decide +kernel
theorem dX5_read_102 : decode cX5_read 102 = .ok (.istore_n 3, 1) := by decide +kernel
theorem dX5_read_103 : decode cX5_read 103 = .ok (.iload_n 3, 1) := by decide +kernel
theorem dX5_read_104 : decode cX5_read 104 = .ok (.aload_n 0, 1) := by decide +kernel
theorem dX5_read_105 : decode cX5_read 105 = .ok (.getfield 38, 3) := by decide +kernel
theorem dX5_read_108 : decode cX5_read 108 = .ok (.if_icmp .ge 41, 3) := by decide +kernel
theorem dX5_read_111 : decode cX5_read 111 = .ok (.aload_n 0, 1) := by decide +kernel
theorem dX5_read_112 : decode cX5_read 112 = .ok (.getfield 11, 3) := by decide +kernel
theorem dX5_read_115 : decode cX5_read 115 = .ok (.iload_n 3, 1) := by decide +kernel
theorem dX5_read_116 : decode cX5_read 116 = .ok (.aaload, 1) := by decide +kernel
theorem dX5_read_117 : decode cX5_read 117 = .ok (.invokevirtual 50, 3) := by decide +kernel
theorem dX5_read_120 : decode cX5_read 120 = .ok (.ifCond .eq 23, 3) := by decide +kernel
theorem dX5_read_123 : decode cX5_read 123 = .ok (.aload_n 0, 1) := by decide +kernel
theorem dX5_read_124 : decode cX5_read 124 = .ok (.dup, 1) := by decide +kernel
theorem dX5_read_125 : decode cX5_read 125 = .ok (.getfield 41, 3) := by decide +kernel
theorem dX5_read_128 : decode cX5_read 128 = .ok (.iconst 1, 1) := by decide +kernel
theorem dX5_read_129 : decode cX5_read 129 = .ok (.iadd, 1) := by decide +kernel
theorem dX5_read_130 : decode cX5_read 130 = .ok (.putfield 41, 3) := by decide +kernel
theorem dX5_read_133 : decode cX5_read 133 = .ok (.aload_n 0, 1) := by decide +kernel
theorem dX5_read_134 : decode cX5_read 134 = .ok (.aload_n 0, 1) := by decide +kernel
theorem dX5_read_135 : decode cX5_read 135 = .ok (.getfield 11, 3) := by decide +kernel
theorem dX5_read_138 : decode cX5_read 138 = .ok (.iload_n 3, 1) := by decide +kernel
theorem dX5_read_139 : decode cX5_read 139 = .ok (.aaload, 1) := by decide +kernel
theorem dX5_read_140 : decode cX5_read 140 = .ok (.invokevirtual 54, 3) := by decide +kernel
theorem dX5_read_143 : decode cX5_read 143 = .ok (.iinc 3 1, 3) := by decide +kernel
theorem dX5_read_146 : decode cX5_read 146 = .ok (.goto (-43), 3) := by decide +kernel
theorem dX5_read_149 : decode cX5_read 149 = .ok (.return_, 1) := by decide +kernel
theorem dX5_tags_0 : decode cX5_tags 0 = .ok (.aload_n 0, 1) := by decide +kernel
theorem dX5_tags_1 : decode cX5_tags 1 = .ok (.getfield 38, 3) := by decide +kernel
theorem dX5_tags_4 : decode cX5_tags 4 = .ok (.aload_n 0, 1) := by decide +kernel
theorem dX5_tags_5 : decode cX5_tags 5 = .ok (.getfield 41, 3) := by decide +kernel
theorem dX5_tags_8 : decode cX5_tags 8 = .ok (.isub, 1) := by decide +kernel
theorem dX5_tags_9 : decode cX5_tags 9 = .ok (.ireturn, 1) := by decide +kernel
theorem dX5_cost_0 : decode cX5_cost 0 = .ok (.bipush 10, 2) := by decide +kernel
theorem dX5_cost_2 : decode cX5_cost 2 = .ok (.aload_n 0, 1) := by decide +kernel
theorem dX5_cost_3 : decode cX5_cost 3 = .ok (.getfield 41, 3) := by decide +kernel
theorem dX5_cost_6 : decode cX5_cost 6 = .ok (.imul, 1) := by decide +kernel
theorem dX5_cost_7 : decode cX5_cost 7 = .ok (.iload_n 1, 1) := by decide +kernel
theorem dX5_cost_8 : decode cX5_cost 8 = .ok (.aload_n 0, 1) := by decide +kernel
theorem dX5_cost_9 : decode cX5_cost 9 = .ok (.invokevirtual 58, 3) := by decide +kernel
theorem dX5_cost_12 : decode cX5_cost 12 = .ok (.imul, 1) := by decide +kernel
theorem dX5_cost_13 : decode cX5_cost 13 = .ok (.iadd, 1) := by decide +kernel
theorem dX5_cost_14 : decode cX5_cost 14 = .ok (.ireturn, 1) := by decide +kernel
theorem dX5_isSameAs_0 : decode cX5_isSameAs 0 = .ok (.aload_n 0, 1) := by decide +kernel
theorem dX5_isSameAs_1 : decode cX5_isSameAs 1 = .ok (.getfield 38, 3) := by decide +kernel
theorem dX5_isSameAs_4 : decode cX5_isSameAs 4 = .ok (.aload_n 1, 1) := by decide +kernel
theorem dX5_isSameAs_5 : decode cX5_isSameAs 5 = .ok (.getfield 38, 3) := by decide +kernel
theorem dX5_isSameAs_8 : decode cX5_isSameAs 8 = .ok (.if_icmp .eq 5, 3) := by decide +kernel
theorem dX5_isSameAs_11 : decode cX5_isSameAs 11 = .ok (.iconst 0, 1) := by decide +kernel
theorem dX5_isSameAs_12 : decode cX5_isSameAs 12 = .ok (.ireturn, 1) := by decide +kernel
theorem dX5_isSameAs_13 : decode cX5_isSameAs 13 = .ok (.iconst 0, 1) := by decide +kernel
theorem dX5_isSameAs_14 : decode cX5_isSameAs 14 = .ok (.istore_n 2, 1) := by decide +kernel
theorem dX5_isSameAs_15 : decode cX5_isSameAs 15 = .ok (.iload_n 2, 1) := by decide +kernel
theorem dX5_isSameAs_16 : decode cX5_isSameAs 16 = .ok (.aload_n 0, 1) := by decide +kernel
theorem dX5_isSameAs_17 : decode cX5_isSameAs 17 = .ok (.getfield 38, 3) := by decide +kernel
theorem dX5_isSameAs_20 : decode cX5_isSameAs 20 = .ok (.if_icmp .ge 29, 3) := by decide +kernel
theorem dX5_isSameAs_23 : decode cX5_isSameAs 23 = .ok (.aload_n 0, 1) := by decide +kernel
theorem dX5_isSameAs_24 : decode cX5_isSameAs 24 = .ok (.getfield 11, 3) := by decide +kernel
theorem dX5_isSameAs_27 : decode cX5_isSameAs 27 = .ok (.iload_n 2, 1) := by decide +kernel
theorem dX5_isSameAs_28 : decode cX5_isSameAs 28 = .ok (.aaload, 1) := by decide +kernel
theorem dX5_isSameAs_29 : decode cX5_isSameAs 29 = .ok (.aload_n 1, 1) := by decide +kernel
theorem dX5_isSameAs_30 : decode cX5_isSameAs 30 = .ok (.getfield 11, 3) := by decide +kernel
theorem dX5_isSameAs_33 : decode cX5_isSameAs 33 = .ok (.iload_n 2, 1) := by decide +kernel
theorem dX5_isSameAs_34 : decode cX5_isSameAs 34 = .ok (.aaload, 1) := by decide +kernel
theorem dX5_isSameAs_35 : decode cX5_isSameAs 35 = .ok (.invokevirtual 62, 3) := by decide +kernel
theorem dX5_isSameAs_38 : decode cX5_isSameAs 38 = .ok (.ifCond .ne 5, 3) := by decide +kernel
theorem dX5_isSameAs_41 : decode cX5_isSameAs 41 = .ok (.iconst 0, 1) := by decide +kernel
theorem dX5_isSameAs_42 : decode cX5_isSameAs 42 = .ok (.ireturn, 1) := by decide +kernel
theorem dX5_isSameAs_43 : decode cX5_isSameAs 43 = .ok (.iinc 2 1, 3) := by decide +kernel
theorem dX5_isSameAs_46 : decode cX5_isSameAs 46 = .ok (.goto (-31), 3) := by decide +kernel
theorem dX5_isSameAs_49 : decode cX5_isSameAs 49 = .ok (.iconst 1, 1) := by decide +kernel
theorem dX5_isSameAs_50 : decode cX5_isSameAs 50 = .ok (.ireturn, 1) := by decide +kernel
theorem dX5_tell_0 : decode cX5_tell 0 = .ok (.iload_n 1, 1) := by decide +kernel
theorem dX5_tell_1 : decode cX5_tell 1 = .ok (.tableswitch 70 0 5 #[39, 44, 49, 54, 59, 65], 39) := by decide +kernel
theorem dX5_tell_40 : decode cX5_tell 40 = .ok (.aload_n 0, 1) := by decide +kernel
theorem dX5_tell_41 : decode cX5_tell 41 = .ok (.getfield 38, 3) := by decide +kernel
theorem dX5_tell_44 : decode cX5_tell 44 = .ok (.ireturn, 1) := by decide +kernel
theorem dX5_tell_45 : decode cX5_tell 45 = .ok (.aload_n 0, 1) := by decide +kernel
theorem dX5_tell_46 : decode cX5_tell 46 = .ok (.getfield 41, 3) := by decide +kernel
theorem dX5_tell_49 : decode cX5_tell 49 = .ok (.ireturn, 1) := by decide +kernel
theorem dX5_tell_50 : decode cX5_tell 50 = .ok (.aload_n 0, 1) := by decide +kernel
theorem dX5_tell_51 : decode cX5_tell 51 = .ok (.invokevirtual 58, 3) := by decide +kernel
theorem dX5_tell_54 : decode cX5_tell 54 = .ok (.ireturn, 1) := by decide +kernel
theorem dX5_tell_55 : decode cX5_tell 55 = .ok (.aload_n 0, 1) := by decide +kernel
theorem dX5_tell_56 : decode cX5_tell 56 = .ok (.getfield 44, 3) := by decide +kernel
theorem dX5_tell_59 : decode cX5_tell 59 = .ok (.ireturn, 1) := by decide +kernel
theorem dX5_tell_60 : decode cX5_tell 60 = .ok (.aload_n 0, 1) := by decide +kernel
theorem dX5_tell_61 : decode cX5_tell 61 = .ok (.iload_n 2, 1) := by decide +kernel
theorem dX5_tell_62 : decode cX5_tell 62 = .ok (.invokevirtual 66, 3) := by decide +kernel
theorem dX5_tell_65 : decode cX5_tell 65 = .ok (.ireturn, 1) := by decide +kernel
theorem dX5_tell_66 : decode cX5_tell 66 = .ok (.aload_n 0, 1) := by decide +kernel
theorem dX5_tell_67 : decode cX5_tell 67 = .ok (.getfield 47, 3) := by decide +kernel
theorem dX5_tell_70 : decode cX5_tell 70 = .ok (.ireturn, 1) := by decide +kernel
theorem dX5_tell_71 : decode cX5_tell 71 = .ok (.sipush (-1002), 3) := by decide +kernel
theorem dX5_tell_74 : decode cX5_tell 74 = .ok (.ireturn, 1) := by decide +kernel
theorem dX5_sharedWith_0 : decode cX5_sharedWith 0 = .ok (.iconst 0, 1) := by decide +kernel
theorem dX5_sharedWith_1 : decode cX5_sharedWith 1 = .ok (.istore_n 2, 1) := by decide +kernel
theorem dX5_sharedWith_2 : decode cX5_sharedWith 2 = .ok (.iconst 0, 1) := by decide +kernel
theorem dX5_sharedWith_3 : decode cX5_sharedWith 3 = .ok (.istore_n 3, 1) := by decide +kernel
theorem dX5_sharedWith_4 : decode cX5_sharedWith 4 = .ok (.iconst 0, 1) := by decide +kernel
theorem dX5_sharedWith_5 : decode cX5_sharedWith 5 = .ok (.istore 4, 2) := by decide +kernel
theorem dX5_sharedWith_7 : decode cX5_sharedWith 7 = .ok (.iload_n 3, 1) := by decide +kernel
theorem dX5_sharedWith_8 : decode cX5_sharedWith 8 = .ok (.aload_n 0, 1) := by decide +kernel
theorem dX5_sharedWith_9 : decode cX5_sharedWith 9 = .ok (.getfield 44, 3) := by decide +kernel
theorem dX5_sharedWith_12 : decode cX5_sharedWith 12 = .ok (.if_icmp .ge 62, 3) := by decide +kernel
theorem dX5_sharedWith_15 : decode cX5_sharedWith 15 = .ok (.iload 4, 2) := by decide +kernel
theorem dX5_sharedWith_17 : decode cX5_sharedWith 17 = .ok (.aload_n 1, 1) := by decide +kernel
theorem dX5_sharedWith_18 : decode cX5_sharedWith 18 = .ok (.getfield 44, 3) := by decide +kernel
theorem dX5_sharedWith_21 : decode cX5_sharedWith 21 = .ok (.if_icmp .ge 53, 3) := by decide +kernel
theorem dX5_sharedWith_24 : decode cX5_sharedWith 24 = .ok (.aload_n 0, 1) := by decide +kernel
theorem dX5_sharedWith_25 : decode cX5_sharedWith 25 = .ok (.getfield 18, 3) := by decide +kernel
theorem dX5_sharedWith_28 : decode cX5_sharedWith 28 = .ok (.iload_n 3, 1) := by decide +kernel
theorem dX5_sharedWith_29 : decode cX5_sharedWith 29 = .ok (.iaload, 1) := by decide +kernel
theorem dX5_sharedWith_30 : decode cX5_sharedWith 30 = .ok (.istore 5, 2) := by decide +kernel
theorem dX5_sharedWith_32 : decode cX5_sharedWith 32 = .ok (.aload_n 1, 1) := by decide +kernel
theorem dX5_sharedWith_33 : decode cX5_sharedWith 33 = .ok (.getfield 18, 3) := by decide +kernel
theorem dX5_sharedWith_36 : decode cX5_sharedWith 36 = .ok (.iload 4, 2) := by decide +kernel
theorem dX5_sharedWith_38 : decode cX5_sharedWith 38 = .ok (.iaload, 1) := by decide +kernel
theorem dX5_sharedWith_39 : decode cX5_sharedWith 39 = .ok (.istore 6, 2) := by decide +kernel
theorem dX5_sharedWith_41 : decode cX5_sharedWith 41 = .ok (.iload 5, 2) := by decide +kernel
theorem dX5_sharedWith_43 : decode cX5_sharedWith 43 = .ok (.iload 6, 2) := by decide +kernel
theorem dX5_sharedWith_45 : decode cX5_sharedWith 45 = .ok (.if_icmp .ne 6, 3) := by decide +kernel
theorem dX5_sharedWith_48 : decode cX5_sharedWith 48 = .ok (.iinc 2 1, 3) := by decide +kernel
theorem dX5_sharedWith_51 : decode cX5_sharedWith 51 = .ok (.iload 5, 2) := by decide +kernel
theorem dX5_sharedWith_53 : decode cX5_sharedWith 53 = .ok (.iload 6, 2) := by decide +kernel
theorem dX5_sharedWith_55 : decode cX5_sharedWith 55 = .ok (.if_icmp .gt 6, 3) := by decide +kernel
theorem dX5_sharedWith_58 : decode cX5_sharedWith 58 = .ok (.iinc 3 1, 3) := by decide +kernel
theorem dX5_sharedWith_61 : decode cX5_sharedWith 61 = .ok (.iload 6, 2) := by decide +kernel
theorem dX5_sharedWith_63 : decode cX5_sharedWith 63 = .ok (.iload 5, 2) := by decide +kernel
theorem dX5_sharedWith_65 : decode cX5_sharedWith 65 = .ok (.if_icmp .gt 6, 3) := by decide +kernel
theorem dX5_sharedWith_68 : decode cX5_sharedWith 68 = .ok (.iinc 4 1, 3) := by decide +kernel
theorem dX5_sharedWith_71 : decode cX5_sharedWith 71 = .ok (.goto (-64), 3) := by decide +kernel
theorem dX5_sharedWith_74 : decode cX5_sharedWith 74 = .ok (.iload_n 2, 1) := by decide +kernel
theorem dX5_sharedWith_75 : decode cX5_sharedWith 75 = .ok (.ireturn, 1) := by decide +kernel
theorem dX5_isFirstOfItsKind_0 : decode cX5_isFirstOfItsKind 0 = .ok (.iload_n 1, 1) := by decide +kernel
theorem dX5_isFirstOfItsKind_1 : decode cX5_isFirstOfItsKind 1 = .ok (.ifCond .eq 20, 3) := by decide +kernel
theorem dX5_isFirstOfItsKind_4 : decode cX5_isFirstOfItsKind 4 = .ok (.aload_n 0, 1) := by decide +kernel
theorem dX5_isFirstOfItsKind_5 : decode cX5_isFirstOfItsKind 5 = .ok (.getfield 18, 3) := by decide +kernel
theorem dX5_isFirstOfItsKind_8 : decode cX5_isFirstOfItsKind 8 = .ok (.iload_n 1, 1) := by decide +kernel
theorem dX5_isFirstOfItsKind_9 : decode cX5_isFirstOfItsKind 9 = .ok (.iaload, 1) := by decide +kernel
theorem dX5_isFirstOfItsKind_10 : decode cX5_isFirstOfItsKind 10 = .ok (.aload_n 0, 1) := by decide +kernel
theorem dX5_isFirstOfItsKind_11 : decode cX5_isFirstOfItsKind 11 = .ok (.getfield 18, 3) := by decide +kernel
theorem dX5_isFirstOfItsKind_14 : decode cX5_isFirstOfItsKind 14 = .ok (.iload_n 1, 1) := by decide +kernel
theorem dX5_isFirstOfItsKind_15 : decode cX5_isFirstOfItsKind 15 = .ok (.iconst 1, 1) := by decide +kernel
theorem dX5_isFirstOfItsKind_16 : decode cX5_isFirstOfItsKind 16 = .ok (.isub, 1) := by decide +kernel
theorem dX5_isFirstOfItsKind_17 : decode cX5_isFirstOfItsKind 17 = .ok (.iaload, 1) := by decide +kernel
theorem dX5_isFirstOfItsKind_18 : decode cX5_isFirstOfItsKind 18 = .ok (.if_icmp .eq 7, 3) := by decide +kernel
theorem dX5_isFirstOfItsKind_21 : decode cX5_isFirstOfItsKind 21 = .ok (.iconst 1, 1) := by decide +kernel
theorem dX5_isFirstOfItsKind_22 : decode cX5_isFirstOfItsKind 22 = .ok (.goto 4, 3) := by decide +kernel
theorem dX5_isFirstOfItsKind_25 : decode cX5_isFirstOfItsKind 25 = .ok (.iconst 0, 1) := by decide +kernel
theorem dX5_isFirstOfItsKind_26 : decode cX5_isFirstOfItsKind 26 = .ok (.ireturn, 1) := by decide +kernel
theorem dX5_addGramsOf_0 : decode cX5_addGramsOf 0 = .ok (.iconst 0, 1) := by decide +kernel
theorem dX5_addGramsOf_1 : decode cX5_addGramsOf 1 = .ok (.istore_n 2, 1) := by decide +kernel
theorem dX5_addGramsOf_2 : decode cX5_addGramsOf 2 = .ok (.iconst 0, 1) := by decide +kernel
theorem dX5_addGramsOf_3 : decode cX5_addGramsOf 3 = .ok (.istore_n 3, 1) := by decide +kernel
theorem dX5_addGramsOf_4 : decode cX5_addGramsOf 4 = .ok (.iload_n 3, 1) := by decide +kernel
theorem dX5_addGramsOf_5 : decode cX5_addGramsOf 5 = .ok (.aload_n 1, 1) := by decide +kernel
theorem dX5_addGramsOf_6 : decode cX5_addGramsOf 6 = .ok (.getfield 70, 3) := by decide +kernel
theorem dX5_addGramsOf_9 : decode cX5_addGramsOf 9 = .ok (.if_icmp .ge 33, 3) := by decide +kernel
theorem dX5_addGramsOf_12 : decode cX5_addGramsOf 12 = .ok (.aload_n 1, 1) := by decide +kernel
theorem dX5_addGramsOf_13 : decode cX5_addGramsOf 13 = .ok (.getfield 73, 3) := by decide +kernel
theorem dX5_addGramsOf_16 : decode cX5_addGramsOf 16 = .ok (.iload_n 3, 1) := by decide +kernel
theorem dX5_addGramsOf_17 : decode cX5_addGramsOf 17 = .ok (.iaload, 1) := by decide +kernel
theorem dX5_addGramsOf_18 : decode cX5_addGramsOf 18 = .ok (.invokestatic 76, 3) := by decide +kernel
theorem dX5_addGramsOf_21 : decode cX5_addGramsOf 21 = .ok (.istore 4, 2) := by decide +kernel
theorem dX5_addGramsOf_23 : decode cX5_addGramsOf 23 = .ok (.aload_n 0, 1) := by decide +kernel
theorem dX5_addGramsOf_24 : decode cX5_addGramsOf 24 = .ok (.iload_n 2, 1) := by decide +kernel
theorem dX5_addGramsOf_25 : decode cX5_addGramsOf 25 = .ok (.iload 4, 2) := by decide +kernel
theorem dX5_addGramsOf_27 : decode cX5_addGramsOf 27 = .ok (.invokestatic 79, 3) := by decide +kernel
theorem dX5_addGramsOf_30 : decode cX5_addGramsOf 30 = .ok (.invokevirtual 83, 3) := by decide +kernel
theorem dX5_addGramsOf_33 : decode cX5_addGramsOf 33 = .ok (.iload 4, 2) := by decide +kernel
theorem dX5_addGramsOf_35 : decode cX5_addGramsOf 35 = .ok (.istore_n 2, 1) := by decide +kernel
theorem dX5_addGramsOf_36 : decode cX5_addGramsOf 36 = .ok (.iinc 3 1, 3) := by decide +kernel
theorem dX5_addGramsOf_39 : decode cX5_addGramsOf 39 = .ok (.goto (-35), 3) := by decide +kernel
theorem dX5_addGramsOf_42 : decode cX5_addGramsOf 42 = .ok (.aload_n 0, 1) := by decide +kernel
theorem dX5_addGramsOf_43 : decode cX5_addGramsOf 43 = .ok (.iload_n 2, 1) := by decide +kernel
theorem dX5_addGramsOf_44 : decode cX5_addGramsOf 44 = .ok (.iconst 0, 1) := by decide +kernel
theorem dX5_addGramsOf_45 : decode cX5_addGramsOf 45 = .ok (.invokestatic 79, 3) := by decide +kernel
theorem dX5_addGramsOf_48 : decode cX5_addGramsOf 48 = .ok (.invokevirtual 83, 3) := by decide +kernel
theorem dX5_addGramsOf_51 : decode cX5_addGramsOf 51 = .ok (.return_, 1) := by decide +kernel
theorem dX5_insertGram_0 : decode cX5_insertGram 0 = .ok (.aload_n 0, 1) := by decide +kernel
theorem dX5_insertGram_1 : decode cX5_insertGram 1 = .ok (.getfield 44, 3) := by decide +kernel
theorem dX5_insertGram_4 : decode cX5_insertGram 4 = .ok (.aload_n 0, 1) := by decide +kernel
theorem dX5_insertGram_5 : decode cX5_insertGram 5 = .ok (.getfield 18, 3) := by decide +kernel
theorem dX5_insertGram_8 : decode cX5_insertGram 8 = .ok (.arraylength, 1) := by decide +kernel
theorem dX5_insertGram_9 : decode cX5_insertGram 9 = .ok (.if_icmp .lt 4, 3) := by decide +kernel
theorem dX5_insertGram_12 : decode cX5_insertGram 12 = .ok (.return_, 1) := by decide +kernel
theorem dX5_insertGram_13 : decode cX5_insertGram 13 = .ok (.aload_n 0, 1) := by decide +kernel
theorem dX5_insertGram_14 : decode cX5_insertGram 14 = .ok (.getfield 44, 3) := by decide +kernel
theorem dX5_insertGram_17 : decode cX5_insertGram 17 = .ok (.istore_n 2, 1) := by decide +kernel
theorem dX5_insertGram_18 : decode cX5_insertGram 18 = .ok (.iload_n 2, 1) := by decide +kernel
theorem dX5_insertGram_19 : decode cX5_insertGram 19 = .ok (.ifCond .le 35, 3) := by decide +kernel
theorem dX5_insertGram_22 : decode cX5_insertGram 22 = .ok (.aload_n 0, 1) := by decide +kernel
theorem dX5_insertGram_23 : decode cX5_insertGram 23 = .ok (.getfield 18, 3) := by decide +kernel
theorem dX5_insertGram_26 : decode cX5_insertGram 26 = .ok (.iload_n 2, 1) := by decide +kernel
theorem dX5_insertGram_27 : decode cX5_insertGram 27 = .ok (.iconst 1, 1) := by decide +kernel
theorem dX5_insertGram_28 : decode cX5_insertGram 28 = .ok (.isub, 1) := by decide +kernel
theorem dX5_insertGram_29 : decode cX5_insertGram 29 = .ok (.iaload, 1) := by decide +kernel
theorem dX5_insertGram_30 : decode cX5_insertGram 30 = .ok (.iload_n 1, 1) := by decide +kernel
theorem dX5_insertGram_31 : decode cX5_insertGram 31 = .ok (.if_icmp .le 23, 3) := by decide +kernel
theorem dX5_insertGram_34 : decode cX5_insertGram 34 = .ok (.aload_n 0, 1) := by decide +kernel
theorem dX5_insertGram_35 : decode cX5_insertGram 35 = .ok (.getfield 18, 3) := by decide +kernel
theorem dX5_insertGram_38 : decode cX5_insertGram 38 = .ok (.iload_n 2, 1) := by decide +kernel
theorem dX5_insertGram_39 : decode cX5_insertGram 39 = .ok (.aload_n 0, 1) := by decide +kernel
theorem dX5_insertGram_40 : decode cX5_insertGram 40 = .ok (.getfield 18, 3) := by decide +kernel
theorem dX5_insertGram_43 : decode cX5_insertGram 43 = .ok (.iload_n 2, 1) := by decide +kernel
theorem dX5_insertGram_44 : decode cX5_insertGram 44 = .ok (.iconst 1, 1) := by decide +kernel
theorem dX5_insertGram_45 : decode cX5_insertGram 45 = .ok (.isub, 1) := by decide +kernel
theorem dX5_insertGram_46 : decode cX5_insertGram 46 = .ok (.iaload, 1) := by decide +kernel
theorem dX5_insertGram_47 : decode cX5_insertGram 47 = .ok (.iastore, 1) := by decide +kernel
theorem dX5_insertGram_48 : decode cX5_insertGram 48 = .ok (.iinc 2 (-1), 3) := by decide +kernel
theorem dX5_insertGram_51 : decode cX5_insertGram 51 = .ok (.goto (-33), 3) := by decide +kernel
theorem dX5_insertGram_54 : decode cX5_insertGram 54 = .ok (.aload_n 0, 1) := by decide +kernel
theorem dX5_insertGram_55 : decode cX5_insertGram 55 = .ok (.getfield 18, 3) := by decide +kernel
theorem dX5_insertGram_58 : decode cX5_insertGram 58 = .ok (.iload_n 2, 1) := by decide +kernel
theorem dX5_insertGram_59 : decode cX5_insertGram 59 = .ok (.iload_n 1, 1) := by decide +kernel
theorem dX5_insertGram_60 : decode cX5_insertGram 60 = .ok (.iastore, 1) := by decide +kernel
theorem dX5_insertGram_61 : decode cX5_insertGram 61 = .ok (.aload_n 0, 1) := by decide +kernel
theorem dX5_insertGram_62 : decode cX5_insertGram 62 = .ok (.dup, 1) := by decide +kernel
theorem dX5_insertGram_63 : decode cX5_insertGram 63 = .ok (.getfield 44, 3) := by decide +kernel
theorem dX5_insertGram_66 : decode cX5_insertGram 66 = .ok (.iconst 1, 1) := by decide +kernel
theorem dX5_insertGram_67 : decode cX5_insertGram 67 = .ok (.iadd, 1) := by decide +kernel
theorem dX5_insertGram_68 : decode cX5_insertGram 68 = .ok (.putfield 44, 3) := by decide +kernel
theorem dX5_insertGram_71 : decode cX5_insertGram 71 = .ok (.return_, 1) := by decide +kernel
end
section
theorem dX6_init_0 : decode cX6_init 0 = .ok (.aload_n 0, 1) := by decide +kernel
theorem dX6_init_1 : decode cX6_init 1 = .ok (.invokespecial 3, 3) := by decide +kernel
theorem dX6_init_4 : decode cX6_init 4 = .ok (.aload_n 0, 1) := by decide +kernel
theorem dX6_init_5 : decode cX6_init 5 = .ok (.bipush 12, 2) := by decide +kernel
theorem dX6_init_7 : decode cX6_init 7 = .ok (.newarray .int, 2) := by decide +kernel
theorem dX6_init_9 : decode cX6_init 9 = .ok (.putfield 9, 3) := by decide +kernel
theorem dX6_init_12 : decode cX6_init 12 = .ok (.return_, 1) := by decide +kernel
theorem dX6_clear_0 : decode cX6_clear 0 = .ok (.aload_n 0, 1) := by decide +kernel
theorem dX6_clear_1 : decode cX6_clear 1 = .ok (.iconst 0, 1) := by decide +kernel
theorem dX6_clear_2 : decode cX6_clear 2 = .ok (.putfield 15, 3) := by decide +kernel
theorem dX6_clear_5 : decode cX6_clear 5 = .ok (.aload_n 0, 1) := by decide +kernel
theorem dX6_clear_6 : decode cX6_clear 6 = .ok (.iconst 0, 1) := by decide +kernel
theorem dX6_clear_7 : decode cX6_clear 7 = .ok (.putfield 19, 3) := by decide +kernel
theorem dX6_clear_10 : decode cX6_clear 10 = .ok (.return_, 1) := by decide +kernel
theorem dX6_take_0 : decode cX6_take 0 = .ok (.iload_n 1, 1) := by decide +kernel
theorem dX6_take_1 : decode cX6_take 1 = .ok (.bipush 49, 2) := by decide +kernel
theorem dX6_take_3 : decode cX6_take 3 = .ok (.if_icmp .lt 20, 3) := by decide +kernel
theorem dX6_take_6 : decode cX6_take 6 = .ok (.iload_n 1, 1) := by decide +kernel
theorem dX6_take_7 : decode cX6_take 7 = .ok (.bipush 57, 2) := by decide +kernel
theorem dX6_take_9 : decode cX6_take 9 = .ok (.if_icmp .gt 14, 3) := by decide +kernel
theorem dX6_take_12 : decode cX6_take 12 = .ok (.aload_n 0, 1) := by decide +kernel
theorem dX6_take_13 : decode cX6_take 13 = .ok (.iload_n 1, 1) := by decide +kernel
theorem dX6_take_14 : decode cX6_take 14 = .ok (.bipush 48, 2) := by decide +kernel
theorem dX6_take_16 : decode cX6_take 16 = .ok (.isub, 1) := by decide +kernel
theorem dX6_take_17 : decode cX6_take 17 = .ok (.putfield 19, 3) := by decide +kernel
theorem dX6_take_20 : decode cX6_take 20 = .ok (.goto 42, 3) := by decide +kernel
theorem dX6_take_23 : decode cX6_take 23 = .ok (.iload_n 1, 1) := by decide +kernel
theorem dX6_take_24 : decode cX6_take 24 = .ok (.invokestatic 22, 3) := by decide +kernel
theorem dX6_take_27 : decode cX6_take 27 = .ok (.ifCond .eq 35, 3) := by decide +kernel
theorem dX6_take_30 : decode cX6_take 30 = .ok (.aload_n 0, 1) := by decide +kernel
theorem dX6_take_31 : decode cX6_take 31 = .ok (.getfield 15, 3) := by decide +kernel
theorem dX6_take_34 : decode cX6_take 34 = .ok (.aload_n 0, 1) := by decide +kernel
theorem dX6_take_35 : decode cX6_take 35 = .ok (.getfield 9, 3) := by decide +kernel
theorem dX6_take_38 : decode cX6_take 38 = .ok (.arraylength, 1) := by decide +kernel
theorem dX6_take_39 : decode cX6_take 39 = .ok (.if_icmp .ge 23, 3) := by decide +kernel
theorem dX6_take_42 : decode cX6_take 42 = .ok (.aload_n 0, 1) := by decide +kernel
theorem dX6_take_43 : decode cX6_take 43 = .ok (.getfield 9, 3) := by decide +kernel
theorem dX6_take_46 : decode cX6_take 46 = .ok (.aload_n 0, 1) := by decide +kernel
theorem dX6_take_47 : decode cX6_take 47 = .ok (.getfield 15, 3) := by decide +kernel
theorem dX6_take_50 : decode cX6_take 50 = .ok (.iload_n 1, 1) := by decide +kernel
theorem dX6_take_51 : decode cX6_take 51 = .ok (.iastore, 1) := by decide +kernel
theorem dX6_take_52 : decode cX6_take 52 = .ok (.aload_n 0, 1) := by decide +kernel
theorem dX6_take_53 : decode cX6_take 53 = .ok (.dup, 1) := by decide +kernel
theorem dX6_take_54 : decode cX6_take 54 = .ok (.getfield 15, 3) := by decide +kernel
theorem dX6_take_57 : decode cX6_take 57 = .ok (.iconst 1, 1) := by decide +kernel
theorem dX6_take_58 : decode cX6_take 58 = .ok (.iadd, 1) := by decide +kernel
theorem dX6_take_59 : decode cX6_take 59 = .ok (.putfield 15, 3) := by decide +kernel
theorem dX6_take_62 : decode cX6_take 62 = .ok (.return_, 1) := by decide +kernel
theorem dX6_isWord_0 : decode cX6_isWord 0 = .ok (.aload_n 0, 1) := by decide +kernel
theorem dX6_isWord_1 : decode cX6_isWord 1 = .ok (.getfield 15, 3) := by decide +kernel
theorem dX6_isWord_4 : decode cX6_isWord 4 = .ok (.ifCond .le 7, 3) := by decide +kernel
theorem dX6_isWord_7 : decode cX6_isWord 7 = .ok (.iconst 1, 1) := by decide +kernel
theorem dX6_isWord_8 : decode cX6_isWord 8 = .ok (.goto 4, 3) := by decide +kernel
theorem dX6_isWord_11 : decode cX6_isWord 11 = .ok (.iconst 0, 1) := by decide +kernel
theorem dX6_isWord_12 : decode cX6_isWord 12 = .ok (.ireturn, 1) := by decide +kernel
theorem dX6_cost_0 : decode cX6_cost 0 = .ok (.aload_n 0, 1) := by decide +kernel
theorem dX6_cost_1 : decode cX6_cost 1 = .ok (.invokevirtual 26, 3) := by decide +kernel
theorem dX6_cost_4 : decode cX6_cost 4 = .ok (.ifCond .eq 8, 3) := by decide +kernel
theorem dX6_cost_7 : decode cX6_cost 7 = .ok (.bipush 10, 2) := by decide +kernel
theorem dX6_cost_9 : decode cX6_cost 9 = .ok (.goto 4, 3) := by decide +kernel
theorem dX6_cost_12 : decode cX6_cost 12 = .ok (.iload_n 1, 1) := by decide +kernel
theorem dX6_cost_13 : decode cX6_cost 13 = .ok (.ireturn, 1) := by decide +kernel
theorem dX6_isSameAs_0 : decode cX6_isSameAs 0 = .ok (.aload_n 0, 1) := by decide +kernel
theorem dX6_isSameAs_1 : decode cX6_isSameAs 1 = .ok (.getfield 15, 3) := by decide +kernel
theorem dX6_isSameAs_4 : decode cX6_isSameAs 4 = .ok (.aload_n 1, 1) := by decide +kernel
theorem dX6_isSameAs_5 : decode cX6_isSameAs 5 = .ok (.getfield 15, 3) := by decide +kernel
theorem dX6_isSameAs_8 : decode cX6_isSameAs 8 = .ok (.if_icmp .ne 14, 3) := by decide +kernel
theorem dX6_isSameAs_11 : decode cX6_isSameAs 11 = .ok (.aload_n 0, 1) := by decide +kernel
theorem dX6_isSameAs_12 : decode cX6_isSameAs 12 = .ok (.getfield 19, 3) := by decide +kernel
theorem dX6_isSameAs_15 : decode cX6_isSameAs 15 = .ok (.aload_n 1, 1) := by decide +kernel
theorem dX6_isSameAs_16 : decode cX6_isSameAs 16 = .ok (.getfield 19, 3) := by decide +kernel
theorem dX6_isSameAs_19 : decode cX6_isSameAs 19 = .ok (.if_icmp .eq 5, 3) := by decide +kernel
theorem dX6_isSameAs_22 : decode cX6_isSameAs 22 = .ok (.iconst 0, 1) := by decide +kernel
theorem dX6_isSameAs_23 : decode cX6_isSameAs 23 = .ok (.ireturn, 1) := by decide +kernel
theorem dX6_isSameAs_24 : decode cX6_isSameAs 24 = .ok (.iconst 0, 1) := by decide +kernel
theorem dX6_isSameAs_25 : decode cX6_isSameAs 25 = .ok (.istore_n 2, 1) := by decide +kernel
theorem dX6_isSameAs_26 : decode cX6_isSameAs 26 = .ok (.iload_n 2, 1) := by decide +kernel
theorem dX6_isSameAs_27 : decode cX6_isSameAs 27 = .ok (.aload_n 0, 1) := by decide +kernel
theorem dX6_isSameAs_28 : decode cX6_isSameAs 28 = .ok (.getfield 15, 3) := by decide +kernel
theorem dX6_isSameAs_31 : decode cX6_isSameAs 31 = .ok (.if_icmp .ge 26, 3) := by decide +kernel
theorem dX6_isSameAs_34 : decode cX6_isSameAs 34 = .ok (.aload_n 0, 1) := by decide +kernel
theorem dX6_isSameAs_35 : decode cX6_isSameAs 35 = .ok (.getfield 9, 3) := by decide +kernel
theorem dX6_isSameAs_38 : decode cX6_isSameAs 38 = .ok (.iload_n 2, 1) := by decide +kernel
theorem dX6_isSameAs_39 : decode cX6_isSameAs 39 = .ok (.iaload, 1) := by decide +kernel
theorem dX6_isSameAs_40 : decode cX6_isSameAs 40 = .ok (.aload_n 1, 1) := by decide +kernel
theorem dX6_isSameAs_41 : decode cX6_isSameAs 41 = .ok (.getfield 9, 3) := by decide +kernel
theorem dX6_isSameAs_44 : decode cX6_isSameAs 44 = .ok (.iload_n 2, 1) := by decide +kernel
theorem dX6_isSameAs_45 : decode cX6_isSameAs 45 = .ok (.iaload, 1) := by decide +kernel
theorem dX6_isSameAs_46 : decode cX6_isSameAs 46 = .ok (.if_icmp .eq 5, 3) := by decide +kernel
theorem dX6_isSameAs_49 : decode cX6_isSameAs 49 = .ok (.iconst 0, 1) := by decide +kernel
theorem dX6_isSameAs_50 : decode cX6_isSameAs 50 = .ok (.ireturn, 1) := by decide +kernel
theorem dX6_isSameAs_51 : decode cX6_isSameAs 51 = .ok (.iinc 2 1, 3) := by decide +kernel
theorem dX6_isSameAs_54 : decode cX6_isSameAs 54 = .ok (.goto (-28), 3) := by decide +kernel
theorem dX6_isSameAs_57 : decode cX6_isSameAs 57 = .ok (.iconst 1, 1) := by decide +kernel
theorem dX6_isSameAs_58 : decode cX6_isSameAs 58 = .ok (.ireturn, 1) := by decide +kernel
theorem dX6_tell_0 : decode cX6_tell 0 = .ok (.iload_n 1, 1) := by decide +kernel
theorem dX6_tell_1 : decode cX6_tell 1 = .ok (.ifCond .ne 8, 3) := by decide +kernel
theorem dX6_tell_4 : decode cX6_tell 4 = .ok (.aload_n 0, 1) := by decide +kernel
theorem dX6_tell_5 : decode cX6_tell 5 = .ok (.getfield 15, 3) := by decide +kernel
theorem dX6_tell_8 : decode cX6_tell 8 = .ok (.ireturn, 1) := by decide +kernel
theorem dX6_tell_9 : decode cX6_tell 9 = .ok (.iload_n 1, 1) := by decide +kernel
theorem dX6_tell_10 : decode cX6_tell 10 = .ok (.iconst 1, 1) := by decide +kernel
theorem dX6_tell_11 : decode cX6_tell 11 = .ok (.if_icmp .ne 8, 3) := by decide +kernel
theorem dX6_tell_14 : decode cX6_tell 14 = .ok (.aload_n 0, 1) := by decide +kernel
theorem dX6_tell_15 : decode cX6_tell 15 = .ok (.getfield 19, 3) := by decide +kernel
theorem dX6_tell_18 : decode cX6_tell 18 = .ok (.ireturn, 1) := by decide +kernel
theorem dX6_tell_19 : decode cX6_tell 19 = .ok (.iload_n 1, 1) := by decide +kernel
theorem dX6_tell_20 : decode cX6_tell 20 = .ok (.iconst 2, 1) := by decide +kernel
theorem dX6_tell_21 : decode cX6_tell 21 = .ok (.isub, 1) := by decide +kernel
theorem dX6_tell_22 : decode cX6_tell 22 = .ok (.aload_n 0, 1) := by decide +kernel
theorem dX6_tell_23 : decode cX6_tell 23 = .ok (.getfield 15, 3) := by decide +kernel
theorem dX6_tell_26 : decode cX6_tell 26 = .ok (.invokestatic 30, 3) := by decide +kernel
theorem dX6_tell_29 : decode cX6_tell 29 = .ok (.ifCond .eq 14, 3) := by decide +kernel
theorem dX6_tell_32 : decode cX6_tell 32 = .ok (.aload_n 0, 1) := by decide +kernel
theorem dX6_tell_33 : decode cX6_tell 33 = .ok (.getfield 9, 3) := by decide +kernel
theorem dX6_tell_36 : decode cX6_tell 36 = .ok (.iload_n 1, 1) := by decide +kernel
theorem dX6_tell_37 : decode cX6_tell 37 = .ok (.iconst 2, 1) := by decide +kernel
theorem dX6_tell_38 : decode cX6_tell 38 = .ok (.isub, 1) := by decide +kernel
theorem dX6_tell_39 : decode cX6_tell 39 = .ok (.iaload, 1) := by decide +kernel
theorem dX6_tell_40 : decode cX6_tell 40 = .ok (.goto 4, 3) := by decide +kernel
theorem dX6_tell_43 : decode cX6_tell 43 = .ok (.iconst (-1), 1) := by decide +kernel
theorem dX6_tell_44 : decode cX6_tell 44 = .ok (.ireturn, 1) := by decide +kernel
end
section
theorem dX7_init_0 : decode cX7_init 0 = .ok (.aload_n 0, 1) := by decide +kernel
theorem dX7_init_1 : decode cX7_init 1 = .ok (.invokespecial 3, 3) := by decide +kernel
theorem dX7_init_4 : decode cX7_init 4 = .ok (.aload_n 0, 1) := by decide +kernel
theorem dX7_init_5 : decode cX7_init 5 = .ok (.new 9, 3) := by decide +kernel
theorem dX7_init_8 : decode cX7_init 8 = .ok (.dup, 1) := by decide +kernel
theorem dX7_init_9 : decode cX7_init 9 = .ok (.invokespecial 11, 3) := by decide +kernel
theorem dX7_init_12 : decode cX7_init 12 = .ok (.putfield 12, 3) := by decide +kernel
theorem dX7_init_15 : decode cX7_init 15 = .ok (.aload_n 0, 1) := by decide +kernel
theorem dX7_init_16 : decode cX7_init 16 = .ok (.bipush 13, 2) := by decide +kernel
theorem dX7_init_18 : decode cX7_init 18 = .ok (.anewarray 16, 3) := by decide +kernel
theorem dX7_init_21 : decode cX7_init 21 = .ok (.putfield 18, 3) := by decide +kernel
theorem dX7_init_24 : decode cX7_init 24 = .ok (.iconst 0, 1) := by decide +kernel
theorem dX7_init_25 : decode cX7_init 25 = .ok (.istore_n 1, 1) := by decide +kernel
theorem dX7_init_26 : decode cX7_init 26 = .ok (.iload_n 1, 1) := by decide +kernel
theorem dX7_init_27 : decode cX7_init 27 = .ok (.aload_n 0, 1) := by decide +kernel
theorem dX7_init_28 : decode cX7_init 28 = .ok (.getfield 18, 3) := by decide +kernel
theorem dX7_init_31 : decode cX7_init 31 = .ok (.arraylength, 1) := by decide +kernel
theorem dX7_init_32 : decode cX7_init 32 = .ok (.if_icmp .ge 22, 3) := by decide +kernel
theorem dX7_init_35 : decode cX7_init 35 = .ok (.aload_n 0, 1) := by decide +kernel
theorem dX7_init_36 : decode cX7_init 36 = .ok (.getfield 18, 3) := by decide +kernel
theorem dX7_init_39 : decode cX7_init 39 = .ok (.iload_n 1, 1) := by decide +kernel
theorem dX7_init_40 : decode cX7_init 40 = .ok (.new 16, 3) := by decide +kernel
theorem dX7_init_43 : decode cX7_init 43 = .ok (.dup, 1) := by decide +kernel
theorem dX7_init_44 : decode cX7_init 44 = .ok (.invokespecial 22, 3) := by decide +kernel
theorem dX7_init_47 : decode cX7_init 47 = .ok (.aastore, 1) := by decide +kernel
theorem dX7_init_48 : decode cX7_init 48 = .ok (.iinc 1 1, 3) := by decide +kernel
theorem dX7_init_51 : decode cX7_init 51 = .ok (.goto (-25), 3) := by decide +kernel
theorem dX7_init_54 : decode cX7_init 54 = .ok (.aload_n 0, 1) := by decide +kernel
theorem dX7_init_55 : decode cX7_init 55 = .ok (.new 16, 3) := by decide +kernel
theorem dX7_init_58 : decode cX7_init 58 = .ok (.dup, 1) := by decide +kernel
theorem dX7_init_59 : decode cX7_init 59 = .ok (.invokespecial 22, 3) := by decide +kernel
theorem dX7_init_62 : decode cX7_init 62 = .ok (.putfield 23, 3) := by decide +kernel
theorem dX7_init_65 : decode cX7_init 65 = .ok (.aload_n 0, 1) := by decide +kernel
theorem dX7_init_66 : decode cX7_init 66 = .ok (.new 27, 3) := by decide +kernel
theorem dX7_init_69 : decode cX7_init 69 = .ok (.dup, 1) := by decide +kernel
theorem dX7_init_70 : decode cX7_init 70 = .ok (.invokespecial 29, 3) := by decide +kernel
theorem dX7_init_73 : decode cX7_init 73 = .ok (.putfield 30, 3) := by decide +kernel
theorem dX7_init_76 : decode cX7_init 76 = .ok (.aload_n 0, 1) := by decide +kernel
theorem dX7_init_77 : decode cX7_init 77 = .ok (.new 34, 3) := by decide +kernel
theorem dX7_init_80 : decode cX7_init 80 = .ok (.dup, 1) := by decide +kernel
theorem dX7_init_81 : decode cX7_init 81 = .ok (.invokespecial 36, 3) := by decide +kernel
theorem dX7_init_84 : decode cX7_init 84 = .ok (.putfield 37, 3) := by decide +kernel
theorem dX7_init_87 : decode cX7_init 87 = .ok (.aload_n 0, 1) := by decide +kernel
theorem dX7_init_88 : decode cX7_init 88 = .ok (.new 41, 3) := by decide +kernel
theorem dX7_init_91 : decode cX7_init 91 = .ok (.dup, 1) := by decide +kernel
theorem dX7_init_92 : decode cX7_init 92 = .ok (.invokespecial 43, 3) := by decide +kernel
theorem dX7_init_95 : decode cX7_init 95 = .ok (.putfield 44, 3) := by decide +kernel
theorem dX7_init_98 : decode cX7_init 98 = .ok (.aload_n 0, 1) := by decide +kernel
theorem dX7_init_99 : decode cX7_init 99 = .ok (.new 48, 3) := by decide +kernel
theorem dX7_init_102 : decode cX7_init 102 = .ok (.dup, 1) := by decide +kernel
theorem dX7_init_103 : decode cX7_init 103 = .ok (.invokespecial 50, 3) := by decide +kernel
theorem dX7_init_106 : decode cX7_init 106 = .ok (.putfield 51, 3) := by decide +kernel
theorem dX7_init_109 : decode cX7_init 109 = .ok (.aload_n 0, 1) := by decide +kernel
theorem dX7_init_110 : decode cX7_init 110 = .ok (.iconst 5, 1) := by decide +kernel
theorem dX7_init_111 : decode cX7_init 111 = .ok (.putfield 55, 3) := by decide +kernel
theorem dX7_init_114 : decode cX7_init 114 = .ok (.aload_n 0, 1) := by decide +kernel
theorem dX7_init_115 : decode cX7_init 115 = .ok (.sipush 700, 3) := by decide +kernel
theorem dX7_init_118 : decode cX7_init 118 = .ok (.putfield 59, 3) := by decide +kernel
theorem dX7_init_121 : decode cX7_init 121 = .ok (.aload_n 0, 1) := by decide +kernel
theorem dX7_init_122 : decode cX7_init 122 = .ok (.iconst 1, 1) := by decide +kernel
theorem dX7_init_123 : decode cX7_init 123 = .ok (.putfield 62, 3) := by decide +kernel
theorem dX7_init_126 : decode cX7_init 126 = .ok (.return_, 1) := by decide +kernel
theorem dX7_letter_0 : decode cX7_letter 0 = .ok (.iload_n 1, 1) := by decide +kernel
theorem dX7_letter_1 : decode cX7_letter 1 = .ok (.bipush 32, 2) := by decide +kernel
theorem dX7_letter_3 : decode cX7_letter 3 = .ok (.if_icmp .lt 9, 3) := by decide +kernel
theorem dX7_letter_6 : decode cX7_letter 6 = .ok (.iload_n 1, 1) := by decide +kernel
theorem dX7_letter_7 : decode cX7_letter 7 = .ok (.bipush 126, 2) := by decide +kernel
theorem dX7_letter_9 : decode cX7_letter 9 = .ok (.if_icmp .le 7, 3) := by decide +kernel
theorem dX7_letter_12 : decode cX7_letter 12 = .ok (.sipush (-1002), 3) := by decide +kernel
theorem dX7_letter_15 : decode cX7_letter 15 = .ok (.ireturn, 1) := by decide +kernel
theorem dX7_letter_16 : decode cX7_letter 16 = .ok (.aload_n 0, 1) := by decide +kernel
theorem dX7_letter_17 : decode cX7_letter 17 = .ok (.getfield 12, 3) := by decide +kernel
theorem dX7_letter_20 : decode cX7_letter 20 = .ok (.invokevirtual 66, 3) := by decide +kernel
theorem dX7_letter_23 : decode cX7_letter 23 = .ok (.ifCond .eq 7, 3) := by decide +kernel
theorem dX7_letter_26 : decode cX7_letter 26 = .ok (.sipush (-1004), 3) := by decide +kernel
theorem dX7_letter_29 : decode cX7_letter 29 = .ok (.ireturn, 1) := by decide +kernel
theorem dX7_letter_30 : decode cX7_letter 30 = .ok (.aload_n 0, 1) := by decide +kernel
theorem dX7_letter_31 : decode cX7_letter 31 = .ok (.getfield 12, 3) := by decide +kernel
theorem dX7_letter_34 : decode cX7_letter 34 = .ok (.iload_n 1, 1) := by decide +kernel
theorem dX7_letter_35 : decode cX7_letter 35 = .ok (.invokevirtual 70, 3) := by decide +kernel
theorem dX7_letter_38 : decode cX7_letter 38 = .ok (.aload_n 0, 1) := by decide +kernel
theorem dX7_letter_39 : decode cX7_letter 39 = .ok (.getfield 12, 3) := by decide +kernel
theorem dX7_letter_42 : decode cX7_letter 42 = .ok (.getfield 74, 3) := by decide +kernel
theorem dX7_letter_45 : decode cX7_letter 45 = .ok (.ireturn, 1) := by decide +kernel
theorem dX7_blank_0 : decode cX7_blank 0 = .ok (.aload_n 0, 1) := by decide +kernel
theorem dX7_blank_1 : decode cX7_blank 1 = .ok (.getfield 12, 3) := by decide +kernel
theorem dX7_blank_4 : decode cX7_blank 4 = .ok (.getfield 74, 3) := by decide +kernel
theorem dX7_blank_7 : decode cX7_blank 7 = .ok (.istore_n 1, 1) := by decide +kernel
theorem dX7_blank_8 : decode cX7_blank 8 = .ok (.aload_n 0, 1) := by decide +kernel
theorem dX7_blank_9 : decode cX7_blank 9 = .ok (.getfield 12, 3) := by decide +kernel
theorem dX7_blank_12 : decode cX7_blank 12 = .ok (.invokevirtual 77, 3) := by decide +kernel
theorem dX7_blank_15 : decode cX7_blank 15 = .ok (.iload_n 1, 1) := by decide +kernel
theorem dX7_blank_16 : decode cX7_blank 16 = .ok (.ireturn, 1) := by decide +kernel
theorem dX7_fault_0 : decode cX7_fault 0 = .ok (.aload_n 0, 1) := by decide +kernel
theorem dX7_fault_1 : decode cX7_fault 1 = .ok (.getfield 12, 3) := by decide +kernel
theorem dX7_fault_4 : decode cX7_fault 4 = .ok (.invokevirtual 80, 3) := by decide +kernel
theorem dX7_fault_7 : decode cX7_fault 7 = .ok (.ireturn, 1) := by decide +kernel
theorem dX7_keep_0 : decode cX7_keep 0 = .ok (.aload_n 0, 1) := by decide +kernel
theorem dX7_keep_1 : decode cX7_keep 1 = .ok (.getfield 12, 3) := by decide +kernel
theorem dX7_keep_4 : decode cX7_keep 4 = .ok (.invokevirtual 84, 3) := by decide +kernel
theorem dX7_keep_7 : decode cX7_keep 7 = .ok (.ifCond .ne 7, 3) := by decide +kernel
theorem dX7_keep_10 : decode cX7_keep 10 = .ok (.sipush (-1003), 3) := by decide +kernel
theorem dX7_keep_13 : decode cX7_keep 13 = .ok (.ireturn, 1) := by decide +kernel
theorem dX7_keep_14 : decode cX7_keep 14 = .ok (.aload_n 0, 1) := by decide +kernel
theorem dX7_keep_15 : decode cX7_keep 15 = .ok (.getfield 18, 3) := by decide +kernel
theorem dX7_keep_18 : decode cX7_keep 18 = .ok (.aload_n 0, 1) := by decide +kernel
theorem dX7_keep_19 : decode cX7_keep 19 = .ok (.getfield 87, 3) := by decide +kernel
theorem dX7_keep_22 : decode cX7_keep 22 = .ok (.aaload, 1) := by decide +kernel
theorem dX7_keep_23 : decode cX7_keep 23 = .ok (.astore_n 1, 1) := by decide +kernel
theorem dX7_keep_24 : decode cX7_keep 24 = .ok (.aload_n 1, 1) := by decide +kernel
theorem dX7_keep_25 : decode cX7_keep 25 = .ok (.aload_n 0, 1) := by decide +kernel
theorem dX7_keep_26 : decode cX7_keep 26 = .ok (.getfield 12, 3) := by decide +kernel
theorem dX7_keep_29 : decode cX7_keep 29 = .ok (.invokevirtual 90, 3) := by decide +kernel
theorem dX7_keep_32 : decode cX7_keep 32 = .ok (.aload_n 0, 1) := by decide +kernel
theorem dX7_keep_33 : decode cX7_keep 33 = .ok (.aload_n 1, 1) := by decide +kernel
theorem dX7_keep_34 : decode cX7_keep 34 = .ok (.invokevirtual 94, 3) := by decide +kernel
theorem dX7_keep_37 : decode cX7_keep 37 = .ok (.istore_n 2, 1) := by decide +kernel
theorem dX7_keep_38 : decode cX7_keep 38 = .ok (.iload_n 2, 1) := by decide +kernel
theorem dX7_keep_39 : decode cX7_keep 39 = .ok (.aload_n 0, 1) := by decide +kernel
theorem dX7_keep_40 : decode cX7_keep 40 = .ok (.getfield 87, 3) := by decide +kernel
theorem dX7_keep_43 : decode cX7_keep 43 = .ok (.if_icmp .ne 39, 3) := by decide +kernel
theorem dX7_keep_46 : decode cX7_keep 46 = .ok (.aload_n 0, 1) := by decide +kernel
theorem dX7_keep_47 : decode cX7_keep 47 = .ok (.getfield 87, 3) := by decide +kernel
theorem dX7_keep_50 : decode cX7_keep 50 = .ok (.bipush 12, 2) := by decide +kernel
theorem dX7_keep_52 : decode cX7_keep 52 = .ok (.if_icmp .lt 7, 3) := by decide +kernel
theorem dX7_keep_55 : decode cX7_keep 55 = .ok (.sipush (-1004), 3) := by decide +kernel
theorem dX7_keep_58 : decode cX7_keep 58 = .ok (.ireturn, 1) := by decide +kernel
theorem dX7_keep_59 : decode cX7_keep 59 = .ok (.aload_n 0, 1) := by decide +kernel
theorem dX7_keep_60 : decode cX7_keep 60 = .ok (.getfield 30, 3) := by decide +kernel
theorem dX7_keep_63 : decode cX7_keep 63 = .ok (.aload_n 1, 1) := by decide +kernel
theorem dX7_keep_64 : decode cX7_keep 64 = .ok (.invokevirtual 98, 3) := by decide +kernel
theorem dX7_keep_67 : decode cX7_keep 67 = .ok (.aload_n 0, 1) := by decide +kernel
theorem dX7_keep_68 : decode cX7_keep 68 = .ok (.dup, 1) := by decide +kernel
theorem dX7_keep_69 : decode cX7_keep 69 = .ok (.getfield 87, 3) := by decide +kernel
theorem dX7_keep_72 : decode cX7_keep 72 = .ok (.iconst 1, 1) := by decide +kernel
theorem dX7_keep_73 : decode cX7_keep 73 = .ok (.iadd, 1) := by decide +kernel
theorem dX7_keep_74 : decode cX7_keep 74 = .ok (.putfield 87, 3) := by decide +kernel
theorem dX7_keep_77 : decode cX7_keep 77 = .ok (.aload_n 0, 1) := by decide +kernel
theorem dX7_keep_78 : decode cX7_keep 78 = .ok (.iconst 1, 1) := by decide +kernel
theorem dX7_keep_79 : decode cX7_keep 79 = .ok (.putfield 62, 3) := by decide +kernel
theorem dX7_keep_82 : decode cX7_keep 82 = .ok (.aload_n 0, 1) := by decide +kernel
theorem dX7_keep_83 : decode cX7_keep 83 = .ok (.getfield 18, 3) := by decide +kernel
theorem dX7_keep_86 : decode cX7_keep 86 = .ok (.iload_n 2, 1) := by decide +kernel
theorem dX7_keep_87 : decode cX7_keep 87 = .ok (.aaload, 1) := by decide +kernel
theorem dX7_keep_88 : decode cX7_keep 88 = .ok (.dup, 1) := by decide +kernel
theorem dX7_keep_89 : decode cX7_keep 89 = .ok (.getfield 102, 3) := by decide +kernel
theorem dX7_keep_92 : decode cX7_keep 92 = .ok (.iconst 1, 1) := by decide +kernel
theorem dX7_keep_93 : decode cX7_keep 93 = .ok (.iadd, 1) := by decide +kernel
theorem dX7_keep_94 : decode cX7_keep 94 = .ok (.putfield 102, 3) := by decide +kernel
theorem dX7_keep_97 : decode cX7_keep 97 = .ok (.aload_n 0, 1) := by decide +kernel
theorem dX7_keep_98 : decode cX7_keep 98 = .ok (.dup, 1) := by decide +kernel
theorem dX7_keep_99 : decode cX7_keep 99 = .ok (.getfield 105, 3) := by decide +kernel
theorem dX7_keep_102 : decode cX7_keep 102 = .ok (.iconst 1, 1) := by decide +kernel
theorem dX7_keep_103 : decode cX7_keep 103 = .ok (.iadd, 1) := by decide +kernel
theorem dX7_keep_104 : decode cX7_keep 104 = .ok (.putfield 105, 3) := by decide +kernel
theorem dX7_keep_107 : decode cX7_keep 107 = .ok (.aload_n 0, 1) := by decide +kernel
theorem dX7_keep_108 : decode cX7_keep 108 = .ok (.getfield 12, 3) := by decide +kernel
theorem dX7_keep_111 : decode cX7_keep 111 = .ok (.invokevirtual 77, 3) := by decide +kernel
theorem dX7_keep_114 : decode cX7_keep 114 = .ok (.iload_n 2, 1) := by decide +kernel
theorem dX7_keep_115 : decode cX7_keep 115 = .ok (.ireturn, 1) := by decide +kernel
theorem dX7_drop_0 : decode cX7_drop 0 = .ok (.aload_n 0, 1) := by decide +kernel
theorem dX7_drop_1 : decode cX7_drop 1 = .ok (.iload_n 1, 1) := by decide +kernel
theorem dX7_drop_2 : decode cX7_drop 2 = .ok (.invokevirtual 108, 3) := by decide +kernel
theorem dX7_drop_5 : decode cX7_drop 5 = .ok (.ifCond .ne 7, 3) := by decide +kernel
theorem dX7_drop_8 : decode cX7_drop 8 = .ok (.sipush (-1001), 3) := by decide +kernel
theorem dX7_drop_11 : decode cX7_drop 11 = .ok (.ireturn, 1) := by decide +kernel
theorem dX7_drop_12 : decode cX7_drop 12 = .ok (.aload_n 0, 1) := by decide +kernel
theorem dX7_drop_13 : decode cX7_drop 13 = .ok (.getfield 18, 3) := by decide +kernel
theorem dX7_drop_16 : decode cX7_drop 16 = .ok (.iload_n 1, 1) := by decide +kernel
theorem dX7_drop_17 : decode cX7_drop 17 = .ok (.aaload, 1) := by decide +kernel
theorem dX7_drop_18 : decode cX7_drop 18 = .ok (.astore_n 2, 1) := by decide +kernel
theorem dX7_drop_19 : decode cX7_drop 19 = .ok (.aload_n 0, 1) := by decide +kernel
theorem dX7_drop_20 : decode cX7_drop 20 = .ok (.getfield 30, 3) := by decide +kernel
theorem dX7_drop_23 : decode cX7_drop 23 = .ok (.aload_n 2, 1) := by decide +kernel
theorem dX7_drop_24 : decode cX7_drop 24 = .ok (.invokevirtual 112, 3) := by decide +kernel
theorem dX7_drop_27 : decode cX7_drop 27 = .ok (.aload_n 0, 1) := by decide +kernel
theorem dX7_drop_28 : decode cX7_drop 28 = .ok (.dup, 1) := by decide +kernel
theorem dX7_drop_29 : decode cX7_drop 29 = .ok (.getfield 87, 3) := by decide +kernel
theorem dX7_drop_32 : decode cX7_drop 32 = .ok (.iconst 1, 1) := by decide +kernel
theorem dX7_drop_33 : decode cX7_drop 33 = .ok (.isub, 1) := by decide +kernel
theorem dX7_drop_34 : decode cX7_drop 34 = .ok (.putfield 87, 3) := by decide +kernel
theorem dX7_drop_37 : decode cX7_drop 37 = .ok (.iload_n 1, 1) := by decide +kernel
theorem dX7_drop_38 : decode cX7_drop 38 = .ok (.istore_n 3, 1) := by decide +kernel
theorem dX7_drop_39 : decode cX7_drop 39 = .ok (.iload_n 3, 1) := by decide +kernel
theorem dX7_drop_40 : decode cX7_drop 40 = .ok (.aload_n 0, 1) := by decide +kernel
theorem dX7_drop_41 : decode cX7_drop 41 = .ok (.getfield 87, 3) := by decide +kernel
theorem dX7_drop_44 : decode cX7_drop 44 = .ok (.if_icmp .ge 23, 3) := by decide +kernel
theorem dX7_drop_47 : decode cX7_drop 47 = .ok (.aload_n 0, 1) := by decide +kernel
theorem dX7_drop_48 : decode cX7_drop 48 = .ok (.getfield 18, 3) := by decide +kernel
theorem dX7_drop_51 : decode cX7_drop 51 = .ok (.iload_n 3, 1) := by decide +kernel
theorem dX7_drop_52 : decode cX7_drop 52 = .ok (.aload_n 0, 1) := by decide +kernel
theorem dX7_drop_53 : decode cX7_drop 53 = .ok (.getfield 18, 3) := by decide +kernel
theorem dX7_drop_56 : decode cX7_drop 56 = .ok (.iload_n 3, 1) := by decide +kernel
theorem dX7_drop_57 : decode cX7_drop 57 = .ok (.iconst 1, 1) := by decide +kernel
theorem dX7_drop_58 : decode cX7_drop 58 = .ok (.iadd, 1) := by decide +kernel
theorem dX7_drop_59 : decode cX7_drop 59 = .ok (.aaload, 1) := by decide +kernel
theorem dX7_drop_60 : decode cX7_drop 60 = .ok (.aastore, 1) := by decide +kernel
theorem dX7_drop_61 : decode cX7_drop 61 = .ok (.iinc 3 1, 3) := by decide +kernel
theorem dX7_drop_64 : decode cX7_drop 64 = .ok (.goto (-25), 3) := by decide +kernel
theorem dX7_drop_67 : decode cX7_drop 67 = .ok (.aload_n 0, 1) := by decide +kernel
theorem dX7_drop_68 : decode cX7_drop 68 = .ok (.getfield 18, 3) := by decide +kernel
theorem dX7_drop_71 : decode cX7_drop 71 = .ok (.aload_n 0, 1) := by decide +kernel
theorem dX7_drop_72 : decode cX7_drop 72 = .ok (.getfield 87, 3) := by decide +kernel
theorem dX7_drop_75 : decode cX7_drop 75 = .ok (.aload_n 2, 1) := by decide +kernel
theorem dX7_drop_76 : decode cX7_drop 76 = .ok (.aastore, 1) := by decide +kernel
theorem dX7_drop_77 : decode cX7_drop 77 = .ok (.aload_n 0, 1) := by decide +kernel
theorem dX7_drop_78 : decode cX7_drop 78 = .ok (.dup, 1) := by decide +kernel
theorem dX7_drop_79 : decode cX7_drop 79 = .ok (.getfield 115, 3) := by decide +kernel
theorem dX7_drop_82 : decode cX7_drop 82 = .ok (.iconst 1, 1) := by decide +kernel
theorem dX7_drop_83 : decode cX7_drop 83 = .ok (.iadd, 1) := by decide +kernel
theorem dX7_drop_84 : decode cX7_drop 84 = .ok (.putfield 115, 3) := by decide +kernel
theorem dX7_drop_87 : decode cX7_drop 87 = .ok (.aload_n 0, 1) := by decide +kernel
theorem dX7_drop_88 : decode cX7_drop 88 = .ok (.iconst 1, 1) := by decide +kernel
theorem dX7_drop_89 : decode cX7_drop 89 = .ok (.putfield 62, 3) := by decide +kernel
theorem dX7_drop_92 : decode cX7_drop 92 = .ok (.aload_n 0, 1) := by decide +kernel
theorem dX7_drop_93 : decode cX7_drop 93 = .ok (.getfield 87, 3) := by decide +kernel
theorem dX7_drop_96 : decode cX7_drop 96 = .ok (.ireturn, 1) := by decide +kernel
theorem dX7_ask_0 : decode cX7_ask 0 = .ok (.aload_n 0, 1) := by decide +kernel
theorem dX7_ask_1 : decode cX7_ask 1 = .ok (.getfield 12, 3) := by decide +kernel
theorem dX7_ask_4 : decode cX7_ask 4 = .ok (.invokevirtual 84, 3) := by decide +kernel
theorem dX7_ask_7 : decode cX7_ask 7 = .ok (.ifCond .ne 7, 3) := by decide +kernel
theorem dX7_ask_10 : decode cX7_ask 10 = .ok (.sipush (-1003), 3) := by decide +kernel
theorem dX7_ask_13 : decode cX7_ask 13 = .ok (.ireturn, 1) := by decide +kernel
theorem dX7_ask_14 : decode cX7_ask 14 = .ok (.aload_n 0, 1) := by decide +kernel
theorem dX7_ask_15 : decode cX7_ask 15 = .ok (.getfield 23, 3) := by decide +kernel
theorem dX7_ask_18 : decode cX7_ask 18 = .ok (.aload_n 0, 1) := by decide +kernel
theorem dX7_ask_19 : decode cX7_ask 19 = .ok (.getfield 12, 3) := by decide +kernel
theorem dX7_ask_22 : decode cX7_ask 22 = .ok (.invokevirtual 90, 3) := by decide +kernel
theorem dX7_ask_25 : decode cX7_ask 25 = .ok (.aload_n 0, 1) := by decide +kernel
theorem dX7_ask_26 : decode cX7_ask 26 = .ok (.getfield 12, 3) := by decide +kernel
theorem dX7_ask_29 : decode cX7_ask 29 = .ok (.invokevirtual 77, 3) := by decide +kernel
theorem dX7_ask_32 : decode cX7_ask 32 = .ok (.aload_n 0, 1) := by decide +kernel
theorem dX7_ask_33 : decode cX7_ask 33 = .ok (.dup, 1) := by decide +kernel
theorem dX7_ask_34 : decode cX7_ask 34 = .ok (.getfield 118, 3) := by decide +kernel
theorem dX7_ask_37 : decode cX7_ask 37 = .ok (.iconst 1, 1) := by decide +kernel
theorem dX7_ask_38 : decode cX7_ask 38 = .ok (.iadd, 1) := by decide +kernel
theorem dX7_ask_39 : decode cX7_ask 39 = .ok (.putfield 118, 3) := by decide +kernel
theorem dX7_ask_42 : decode cX7_ask 42 = .ok (.aload_n 0, 1) := by decide +kernel
theorem dX7_ask_43 : decode cX7_ask 43 = .ok (.iconst 1, 1) := by decide +kernel
theorem dX7_ask_44 : decode cX7_ask 44 = .ok (.putfield 62, 3) := by decide +kernel
theorem dX7_ask_47 : decode cX7_ask 47 = .ok (.aload_n 0, 1) := by decide +kernel
theorem dX7_ask_48 : decode cX7_ask 48 = .ok (.getfield 23, 3) := by decide +kernel
theorem dX7_ask_51 : decode cX7_ask 51 = .ok (.getfield 121, 3) := by decide +kernel
theorem dX7_ask_54 : decode cX7_ask 54 = .ok (.ireturn, 1) := by decide +kernel
theorem dX7_weight_0 : decode cX7_weight 0 = .ok (.iload_n 1, 1) := by decide +kernel
theorem dX7_weight_1 : decode cX7_weight 1 = .ok (.iconst 1, 1) := by decide +kernel
theorem dX7_weight_2 : decode cX7_weight 2 = .ok (.if_icmp .lt 9, 3) := by decide +kernel
theorem dX7_weight_5 : decode cX7_weight 5 = .ok (.iload_n 1, 1) := by decide +kernel
theorem dX7_weight_6 : decode cX7_weight 6 = .ok (.bipush 20, 2) := by decide +kernel
theorem dX7_weight_8 : decode cX7_weight 8 = .ok (.if_icmp .le 7, 3) := by decide +kernel
theorem dX7_weight_11 : decode cX7_weight 11 = .ok (.sipush (-1002), 3) := by decide +kernel
theorem dX7_weight_14 : decode cX7_weight 14 = .ok (.ireturn, 1) := by decide +kernel
theorem dX7_weight_15 : decode cX7_weight 15 = .ok (.aload_n 0, 1) := by decide +kernel
theorem dX7_weight_16 : decode cX7_weight 16 = .ok (.getfield 55, 3) := by decide +kernel
theorem dX7_weight_19 : decode cX7_weight 19 = .ok (.istore_n 2, 1) := by decide +kernel
theorem dX7_weight_20 : decode cX7_weight 20 = .ok (.aload_n 0, 1) := by decide +kernel
theorem dX7_weight_21 : decode cX7_weight 21 = .ok (.iload_n 1, 1) := by decide +kernel
theorem dX7_weight_22 : decode cX7_weight 22 = .ok (.putfield 55, 3) := by decide +kernel
theorem dX7_weight_25 : decode cX7_weight 25 = .ok (.aload_n 0, 1) := by decide +kernel
theorem dX7_weight_26 : decode cX7_weight 26 = .ok (.iconst 1, 1) := by decide +kernel
theorem dX7_weight_27 : decode cX7_weight 27 = .ok (.putfield 62, 3) := by decide +kernel
theorem dX7_weight_30 : decode cX7_weight 30 = .ok (.iload_n 2, 1) := by decide +kernel
theorem dX7_weight_31 : decode cX7_weight 31 = .ok (.ireturn, 1) := by decide +kernel
theorem dX7_bound_0 : decode cX7_bound 0 = .ok (.iload_n 1, 1) := by decide +kernel
theorem dX7_bound_1 : decode cX7_bound 1 = .ok (.ifCond .lt 10, 3) := by decide +kernel
theorem dX7_bound_4 : decode cX7_bound 4 = .ok (.iload_n 1, 1) := by decide +kernel
theorem dX7_bound_5 : decode cX7_bound 5 = .ok (.sipush 1000, 3) := by decide +kernel
theorem dX7_bound_8 : decode cX7_bound 8 = .ok (.if_icmp .le 7, 3) := by decide +kernel
theorem dX7_bound_11 : decode cX7_bound 11 = .ok (.sipush (-1002), 3) := by decide +kernel
theorem dX7_bound_14 : decode cX7_bound 14 = .ok (.ireturn, 1) := by decide +kernel
theorem dX7_bound_15 : decode cX7_bound 15 = .ok (.aload_n 0, 1) := by decide +kernel
theorem dX7_bound_16 : decode cX7_bound 16 = .ok (.getfield 59, 3) := by decide +kernel
theorem dX7_bound_19 : decode cX7_bound 19 = .ok (.istore_n 2, 1) := by decide +kernel
theorem dX7_bound_20 : decode cX7_bound 20 = .ok (.aload_n 0, 1) := by decide +kernel
theorem dX7_bound_21 : decode cX7_bound 21 = .ok (.iload_n 1, 1) := by decide +kernel
theorem dX7_bound_22 : decode cX7_bound 22 = .ok (.putfield 59, 3) := by decide +kernel
theorem dX7_bound_25 : decode cX7_bound 25 = .ok (.aload_n 0, 1) := by decide +kernel
theorem dX7_bound_26 : decode cX7_bound 26 = .ok (.iconst 1, 1) := by decide +kernel
theorem dX7_bound_27 : decode cX7_bound 27 = .ok (.putfield 62, 3) := by decide +kernel
theorem dX7_bound_30 : decode cX7_bound 30 = .ok (.iload_n 2, 1) := by decide +kernel
theorem dX7_bound_31 : decode cX7_bound 31 = .ok (.ireturn, 1) := by decide +kernel
theorem dX7_segment_0 : decode cX7_segment 0 = .ok (.aload_n 0, 1) := by decide +kernel
theorem dX7_segment_1 : decode cX7_segment 1 = .ok (.iload_n 1, 1) := by decide +kernel
theorem dX7_segment_2 : decode cX7_segment 2 = .ok (.invokevirtual 108, 3) := by decide +kernel
theorem dX7_segment_5 : decode cX7_segment 5 = .ok (.ifCond .ne 7, 3) := by decide +kernel
theorem dX7_segment_8 : decode cX7_segment 8 = .ok (.sipush (-1001), 3) := by decide +kernel
theorem dX7_segment_11 : decode cX7_segment 11 = .ok (.ireturn, 1) := by decide +kernel
theorem dX7_segment_12 : decode cX7_segment 12 = .ok (.iload_n 2, 1) := by decide +kernel
theorem dX7_segment_13 : decode cX7_segment 13 = .ok (.bipush 6, 2) := by decide +kernel
theorem dX7_segment_15 : decode cX7_segment 15 = .ok (.invokestatic 124, 3) := by decide +kernel
theorem dX7_segment_18 : decode cX7_segment 18 = .ok (.ifCond .ne 7, 3) := by decide +kernel
theorem dX7_segment_21 : decode cX7_segment 21 = .ok (.sipush (-1002), 3) := by decide +kernel
theorem dX7_segment_24 : decode cX7_segment 24 = .ok (.ireturn, 1) := by decide +kernel
theorem dX7_segment_25 : decode cX7_segment 25 = .ok (.aload_n 0, 1) := by decide +kernel
theorem dX7_segment_26 : decode cX7_segment 26 = .ok (.getfield 18, 3) := by decide +kernel
theorem dX7_segment_29 : decode cX7_segment 29 = .ok (.iload_n 1, 1) := by decide +kernel
theorem dX7_segment_30 : decode cX7_segment 30 = .ok (.aaload, 1) := by decide +kernel
theorem dX7_segment_31 : decode cX7_segment 31 = .ok (.iload_n 2, 1) := by decide +kernel
theorem dX7_segment_32 : decode cX7_segment 32 = .ok (.aload_n 0, 1) := by decide +kernel
theorem dX7_segment_33 : decode cX7_segment 33 = .ok (.getfield 55, 3) := by decide +kernel
theorem dX7_segment_36 : decode cX7_segment 36 = .ok (.invokevirtual 128, 3) := by decide +kernel
theorem dX7_segment_39 : decode cX7_segment 39 = .ok (.ireturn, 1) := by decide +kernel
theorem dX7_sign_0 : decode cX7_sign 0 = .ok (.aload_n 0, 1) := by decide +kernel
theorem dX7_sign_1 : decode cX7_sign 1 = .ok (.iload_n 1, 1) := by decide +kernel
theorem dX7_sign_2 : decode cX7_sign 2 = .ok (.iload_n 2, 1) := by decide +kernel
theorem dX7_sign_3 : decode cX7_sign 3 = .ok (.invokevirtual 132, 3) := by decide +kernel
theorem dX7_sign_6 : decode cX7_sign 6 = .ok (.ifCond .ne 7, 3) := by decide +kernel
theorem dX7_sign_9 : decode cX7_sign 9 = .ok (.sipush (-1001), 3) := by decide +kernel
theorem dX7_sign_12 : decode cX7_sign 12 = .ok (.ireturn, 1) := by decide +kernel
theorem dX7_sign_13 : decode cX7_sign 13 = .ok (.iload_n 3, 1) := by decide +kernel
theorem dX7_sign_14 : decode cX7_sign 14 = .ok (.bipush 14, 2) := by decide +kernel
theorem dX7_sign_16 : decode cX7_sign 16 = .ok (.invokestatic 124, 3) := by decide +kernel
theorem dX7_sign_19 : decode cX7_sign 19 = .ok (.ifCond .ne 7, 3) := by decide +kernel
theorem dX7_sign_22 : decode cX7_sign 22 = .ok (.sipush (-1002), 3) := by decide +kernel
theorem dX7_sign_25 : decode cX7_sign 25 = .ok (.ireturn, 1) := by decide +kernel
theorem dX7_sign_26 : decode cX7_sign 26 = .ok (.aload_n 0, 1) := by decide +kernel
theorem dX7_sign_27 : decode cX7_sign 27 = .ok (.getfield 18, 3) := by decide +kernel
theorem dX7_sign_30 : decode cX7_sign 30 = .ok (.iload_n 1, 1) := by decide +kernel
theorem dX7_sign_31 : decode cX7_sign 31 = .ok (.aaload, 1) := by decide +kernel
theorem dX7_sign_32 : decode cX7_sign 32 = .ok (.getfield 135, 3) := by decide +kernel
theorem dX7_sign_35 : decode cX7_sign 35 = .ok (.iload_n 2, 1) := by decide +kernel
theorem dX7_sign_36 : decode cX7_sign 36 = .ok (.aaload, 1) := by decide +kernel
theorem dX7_sign_37 : decode cX7_sign 37 = .ok (.iload_n 3, 1) := by decide +kernel
theorem dX7_sign_38 : decode cX7_sign 38 = .ok (.invokevirtual 139, 3) := by decide +kernel
theorem dX7_sign_41 : decode cX7_sign 41 = .ok (.ireturn, 1) := by decide +kernel
theorem dX7_alike_0 : decode cX7_alike 0 = .ok (.aload_n 0, 1) := by decide +kernel
theorem dX7_alike_1 : decode cX7_alike 1 = .ok (.iload_n 1, 1) := by decide +kernel
theorem dX7_alike_2 : decode cX7_alike 2 = .ok (.iload_n 2, 1) := by decide +kernel
theorem dX7_alike_3 : decode cX7_alike 3 = .ok (.invokevirtual 132, 3) := by decide +kernel
theorem dX7_alike_6 : decode cX7_alike 6 = .ok (.ifCond .eq 13, 3) := by decide +kernel
theorem dX7_alike_9 : decode cX7_alike 9 = .ok (.aload_n 0, 1) := by decide +kernel
theorem dX7_alike_10 : decode cX7_alike 10 = .ok (.iload_n 3, 1) := by decide +kernel
theorem dX7_alike_11 : decode cX7_alike 11 = .ok (.iload 4, 2) := by decide +kernel
theorem dX7_alike_13 : decode cX7_alike 13 = .ok (.invokevirtual 132, 3) := by decide +kernel
theorem dX7_alike_16 : decode cX7_alike 16 = .ok (.ifCond .ne 7, 3) := by decide +kernel
theorem dX7_alike_19 : decode cX7_alike 19 = .ok (.sipush (-1001), 3) := by decide +kernel
theorem dX7_alike_22 : decode cX7_alike 22 = .ok (.ireturn, 1) := by decide +kernel
theorem dX7_alike_23 : decode cX7_alike 23 = .ok (.aload_n 0, 1) := by decide +kernel
theorem dX7_alike_24 : decode cX7_alike 24 = .ok (.getfield 18, 3) := by decide +kernel
theorem dX7_alike_27 : decode cX7_alike 27 = .ok (.iload_n 1, 1) := by decide +kernel
theorem dX7_alike_28 : decode cX7_alike 28 = .ok (.aaload, 1) := by decide +kernel
theorem dX7_alike_29 : decode cX7_alike 29 = .ok (.getfield 135, 3) := by decide +kernel
theorem dX7_alike_32 : decode cX7_alike 32 = .ok (.iload_n 2, 1) := by decide +kernel
theorem dX7_alike_33 : decode cX7_alike 33 = .ok (.aaload, 1) := by decide +kernel
theorem dX7_alike_34 : decode cX7_alike 34 = .ok (.astore 5, 2) := by decide +kernel
theorem dX7_alike_36 : decode cX7_alike 36 = .ok (.aload_n 0, 1) := by decide +kernel
theorem dX7_alike_37 : decode cX7_alike 37 = .ok (.getfield 18, 3) := by decide +kernel
theorem dX7_alike_40 : decode cX7_alike 40 = .ok (.iload_n 3, 1) := by decide +kernel
theorem dX7_alike_41 : decode cX7_alike 41 = .ok (.aaload, 1) := by decide +kernel
theorem dX7_alike_42 : decode cX7_alike 42 = .ok (.getfield 135, 3) := by decide +kernel
theorem dX7_alike_45 : decode cX7_alike 45 = .ok (.iload 4, 2) := by decide +kernel
theorem dX7_alike_47 : decode cX7_alike 47 = .ok (.aaload, 1) := by decide +kernel
theorem dX7_alike_48 : decode cX7_alike 48 = .ok (.astore 6, 2) := by decide +kernel
theorem dX7_alike_50 : decode cX7_alike 50 = .ok (.aload 5, 2) := by decide +kernel
theorem dX7_alike_52 : decode cX7_alike 52 = .ok (.invokevirtual 144, 3) := by decide +kernel
theorem dX7_alike_55 : decode cX7_alike 55 = .ok (.ifCond .eq 11, 3) := by decide +kernel
theorem dX7_alike_58 : decode cX7_alike 58 = .ok (.aload 6, 2) := by decide +kernel
theorem dX7_alike_60 : decode cX7_alike 60 = .ok (.invokevirtual 144, 3) := by decide +kernel
theorem dX7_alike_63 : decode cX7_alike 63 = .ok (.ifCond .ne 5, 3) := by decide +kernel
theorem dX7_alike_66 : decode cX7_alike 66 = .ok (.iconst (-1), 1) := by decide +kernel
theorem dX7_alike_67 : decode cX7_alike 67 = .ok (.ireturn, 1) := by decide +kernel
theorem dX7_alike_68 : decode cX7_alike 68 = .ok (.aload_n 0, 1) := by decide +kernel
theorem dX7_alike_69 : decode cX7_alike 69 = .ok (.getfield 37, 3) := by decide +kernel
theorem dX7_alike_72 : decode cX7_alike 72 = .ok (.aload 5, 2) := by decide +kernel
theorem dX7_alike_74 : decode cX7_alike 74 = .ok (.aload 6, 2) := by decide +kernel
theorem dX7_alike_76 : decode cX7_alike 76 = .ok (.invokevirtual 147, 3) := by decide +kernel
theorem dX7_alike_79 : decode cX7_alike 79 = .ok (.ireturn, 1) := by decide +kernel
theorem dX7_two_0 : decode cX7_two 0 = .ok (.aload_n 0, 1) := by decide +kernel
theorem dX7_two_1 : decode cX7_two 1 = .ok (.iload_n 1, 1) := by decide +kernel
theorem dX7_two_2 : decode cX7_two 2 = .ok (.invokevirtual 108, 3) := by decide +kernel
theorem dX7_two_5 : decode cX7_two 5 = .ok (.ifCond .eq 11, 3) := by decide +kernel
theorem dX7_two_8 : decode cX7_two 8 = .ok (.aload_n 0, 1) := by decide +kernel
theorem dX7_two_9 : decode cX7_two 9 = .ok (.iload_n 2, 1) := by decide +kernel
theorem dX7_two_10 : decode cX7_two 10 = .ok (.invokevirtual 108, 3) := by decide +kernel
theorem dX7_two_13 : decode cX7_two 13 = .ok (.ifCond .ne 7, 3) := by decide +kernel
theorem dX7_two_16 : decode cX7_two 16 = .ok (.sipush (-1001), 3) := by decide +kernel
theorem dX7_two_19 : decode cX7_two 19 = .ok (.ireturn, 1) := by decide +kernel
theorem dX7_two_20 : decode cX7_two 20 = .ok (.iload_n 3, 1) := by decide +kernel
theorem dX7_two_21 : decode cX7_two 21 = .ok (.iconst 5, 1) := by decide +kernel
theorem dX7_two_22 : decode cX7_two 22 = .ok (.invokestatic 124, 3) := by decide +kernel
theorem dX7_two_25 : decode cX7_two 25 = .ok (.ifCond .ne 7, 3) := by decide +kernel
theorem dX7_two_28 : decode cX7_two 28 = .ok (.sipush (-1002), 3) := by decide +kernel
theorem dX7_two_31 : decode cX7_two 31 = .ok (.ireturn, 1) := by decide +kernel
theorem dX7_two_32 : decode cX7_two 32 = .ok (.aload_n 0, 1) := by decide +kernel
theorem dX7_two_33 : decode cX7_two 33 = .ok (.getfield 37, 3) := by decide +kernel
theorem dX7_two_36 : decode cX7_two 36 = .ok (.aload_n 0, 1) := by decide +kernel
theorem dX7_two_37 : decode cX7_two 37 = .ok (.getfield 18, 3) := by decide +kernel
theorem dX7_two_40 : decode cX7_two 40 = .ok (.iload_n 1, 1) := by decide +kernel
theorem dX7_two_41 : decode cX7_two 41 = .ok (.aaload, 1) := by decide +kernel
theorem dX7_two_42 : decode cX7_two 42 = .ok (.aload_n 0, 1) := by decide +kernel
theorem dX7_two_43 : decode cX7_two 43 = .ok (.getfield 18, 3) := by decide +kernel
theorem dX7_two_46 : decode cX7_two 46 = .ok (.iload_n 2, 1) := by decide +kernel
theorem dX7_two_47 : decode cX7_two 47 = .ok (.aaload, 1) := by decide +kernel
theorem dX7_two_48 : decode cX7_two 48 = .ok (.aload_n 0, 1) := by decide +kernel
theorem dX7_two_49 : decode cX7_two 49 = .ok (.getfield 55, 3) := by decide +kernel
theorem dX7_two_52 : decode cX7_two 52 = .ok (.aload_n 0, 1) := by decide +kernel
theorem dX7_two_53 : decode cX7_two 53 = .ok (.getfield 44, 3) := by decide +kernel
theorem dX7_two_56 : decode cX7_two 56 = .ok (.invokevirtual 151, 3) := by decide +kernel
theorem dX7_two_59 : decode cX7_two 59 = .ok (.aload_n 0, 1) := by decide +kernel
theorem dX7_two_60 : decode cX7_two 60 = .ok (.getfield 44, 3) := by decide +kernel
theorem dX7_two_63 : decode cX7_two 63 = .ok (.iload_n 3, 1) := by decide +kernel
theorem dX7_two_64 : decode cX7_two 64 = .ok (.invokevirtual 155, 3) := by decide +kernel
theorem dX7_two_67 : decode cX7_two 67 = .ok (.ireturn, 1) := by decide +kernel
theorem dX7_gram_0 : decode cX7_gram 0 = .ok (.iload_n 1, 1) := by decide +kernel
theorem dX7_gram_1 : decode cX7_gram 1 = .ok (.bipush 94, 2) := by decide +kernel
theorem dX7_gram_3 : decode cX7_gram 3 = .ok (.if_icmp .eq 14, 3) := by decide +kernel
theorem dX7_gram_6 : decode cX7_gram 6 = .ok (.iload_n 1, 1) := by decide +kernel
theorem dX7_gram_7 : decode cX7_gram 7 = .ok (.invokestatic 156, 3) := by decide +kernel
theorem dX7_gram_10 : decode cX7_gram 10 = .ok (.ifCond .ne 7, 3) := by decide +kernel
theorem dX7_gram_13 : decode cX7_gram 13 = .ok (.sipush (-1002), 3) := by decide +kernel
theorem dX7_gram_16 : decode cX7_gram 16 = .ok (.ireturn, 1) := by decide +kernel
theorem dX7_gram_17 : decode cX7_gram 17 = .ok (.iload_n 2, 1) := by decide +kernel
theorem dX7_gram_18 : decode cX7_gram 18 = .ok (.bipush 36, 2) := by decide +kernel
theorem dX7_gram_20 : decode cX7_gram 20 = .ok (.if_icmp .eq 14, 3) := by decide +kernel
theorem dX7_gram_23 : decode cX7_gram 23 = .ok (.iload_n 2, 1) := by decide +kernel
theorem dX7_gram_24 : decode cX7_gram 24 = .ok (.invokestatic 156, 3) := by decide +kernel
theorem dX7_gram_27 : decode cX7_gram 27 = .ok (.ifCond .ne 7, 3) := by decide +kernel
theorem dX7_gram_30 : decode cX7_gram 30 = .ok (.sipush (-1002), 3) := by decide +kernel
theorem dX7_gram_33 : decode cX7_gram 33 = .ok (.ireturn, 1) := by decide +kernel
theorem dX7_gram_34 : decode cX7_gram 34 = .ok (.iload_n 1, 1) := by decide +kernel
theorem dX7_gram_35 : decode cX7_gram 35 = .ok (.bipush 94, 2) := by decide +kernel
theorem dX7_gram_37 : decode cX7_gram 37 = .ok (.if_icmp .ne 13, 3) := by decide +kernel
theorem dX7_gram_40 : decode cX7_gram 40 = .ok (.iload_n 2, 1) := by decide +kernel
theorem dX7_gram_41 : decode cX7_gram 41 = .ok (.bipush 36, 2) := by decide +kernel
theorem dX7_gram_43 : decode cX7_gram 43 = .ok (.if_icmp .ne 7, 3) := by decide +kernel
theorem dX7_gram_46 : decode cX7_gram 46 = .ok (.sipush (-1002), 3) := by decide +kernel
theorem dX7_gram_49 : decode cX7_gram 49 = .ok (.ireturn, 1) := by decide +kernel
theorem dX7_gram_50 : decode cX7_gram 50 = .ok (.iload_n 1, 1) := by decide +kernel
theorem dX7_gram_51 : decode cX7_gram 51 = .ok (.bipush 94, 2) := by decide +kernel
theorem dX7_gram_53 : decode cX7_gram 53 = .ok (.if_icmp .ne 7, 3) := by decide +kernel
theorem dX7_gram_56 : decode cX7_gram 56 = .ok (.iconst 0, 1) := by decide +kernel
theorem dX7_gram_57 : decode cX7_gram 57 = .ok (.goto 7, 3) := by decide +kernel
theorem dX7_gram_60 : decode cX7_gram 60 = .ok (.iload_n 1, 1) := by decide +kernel
theorem dX7_gram_61 : decode cX7_gram 61 = .ok (.invokestatic 159, 3) := by decide +kernel
theorem dX7_gram_64 : decode cX7_gram 64 = .ok (.istore_n 3, 1) := by decide +kernel
theorem dX7_gram_65 : decode cX7_gram 65 = .ok (.iload_n 2, 1) := by decide +kernel
theorem dX7_gram_66 : decode cX7_gram 66 = .ok (.bipush 36, 2) := by decide +kernel
theorem dX7_gram_68 : decode cX7_gram 68 = .ok (.if_icmp .ne 7, 3) := by decide +kernel
theorem dX7_gram_71 : decode cX7_gram 71 = .ok (.iconst 0, 1) := by decide +kernel
theorem dX7_gram_72 : decode cX7_gram 72 = .ok (.goto 7, 3) := by decide +kernel
theorem dX7_gram_75 : decode cX7_gram 75 = .ok (.iload_n 2, 1) := by decide +kernel
theorem dX7_gram_76 : decode cX7_gram 76 = .ok (.invokestatic 159, 3) := by decide +kernel
theorem dX7_gram_79 : decode cX7_gram 79 = .ok (.istore 4, 2) := by decide +kernel
theorem dX7_gram_81 : decode cX7_gram 81 = .ok (.aload_n 0, 1) := by decide +kernel
theorem dX7_gram_82 : decode cX7_gram 82 = .ok (.getfield 30, 3) := by decide +kernel
theorem dX7_gram_85 : decode cX7_gram 85 = .ok (.iload_n 3, 1) := by decide +kernel
theorem dX7_gram_86 : decode cX7_gram 86 = .ok (.iload 4, 2) := by decide +kernel
theorem dX7_gram_88 : decode cX7_gram 88 = .ok (.invokestatic 162, 3) := by decide +kernel
theorem dX7_gram_91 : decode cX7_gram 91 = .ok (.invokevirtual 165, 3) := by decide +kernel
theorem dX7_gram_94 : decode cX7_gram 94 = .ok (.ireturn, 1) := by decide +kernel
theorem dX7_near_0 : decode cX7_near 0 = .ok (.aload_n 0, 1) := by decide +kernel
theorem dX7_near_1 : decode cX7_near 1 = .ok (.iload_n 1, 1) := by decide +kernel
theorem dX7_near_2 : decode cX7_near 2 = .ok (.invokevirtual 108, 3) := by decide +kernel
theorem dX7_near_5 : decode cX7_near 5 = .ok (.ifCond .ne 7, 3) := by decide +kernel
theorem dX7_near_8 : decode cX7_near 8 = .ok (.sipush (-1001), 3) := by decide +kernel
theorem dX7_near_11 : decode cX7_near 11 = .ok (.ireturn, 1) := by decide +kernel
theorem dX7_near_12 : decode cX7_near 12 = .ok (.iload_n 2, 1) := by decide +kernel
theorem dX7_near_13 : decode cX7_near 13 = .ok (.bipush 10, 2) := by decide +kernel
theorem dX7_near_15 : decode cX7_near 15 = .ok (.invokestatic 124, 3) := by decide +kernel
theorem dX7_near_18 : decode cX7_near 18 = .ok (.ifCond .ne 7, 3) := by decide +kernel
theorem dX7_near_21 : decode cX7_near 21 = .ok (.sipush (-1002), 3) := by decide +kernel
theorem dX7_near_24 : decode cX7_near 24 = .ok (.ireturn, 1) := by decide +kernel
theorem dX7_near_25 : decode cX7_near 25 = .ok (.aload_n 0, 1) := by decide +kernel
theorem dX7_near_26 : decode cX7_near 26 = .ok (.invokevirtual 168, 3) := by decide +kernel
theorem dX7_near_29 : decode cX7_near 29 = .ok (.ifCond .ne 7, 3) := by decide +kernel
theorem dX7_near_32 : decode cX7_near 32 = .ok (.sipush (-1003), 3) := by decide +kernel
theorem dX7_near_35 : decode cX7_near 35 = .ok (.ireturn, 1) := by decide +kernel
theorem dX7_near_36 : decode cX7_near 36 = .ok (.aload_n 0, 1) := by decide +kernel
theorem dX7_near_37 : decode cX7_near 37 = .ok (.invokevirtual 171, 3) := by decide +kernel
theorem dX7_near_40 : decode cX7_near 40 = .ok (.aload_n 0, 1) := by decide +kernel
theorem dX7_near_41 : decode cX7_near 41 = .ok (.getfield 51, 3) := by decide +kernel
theorem dX7_near_44 : decode cX7_near 44 = .ok (.getfield 174, 3) := by decide +kernel
theorem dX7_near_47 : decode cX7_near 47 = .ok (.iload_n 1, 1) := by decide +kernel
theorem dX7_near_48 : decode cX7_near 48 = .ok (.aaload, 1) := by decide +kernel
theorem dX7_near_49 : decode cX7_near 49 = .ok (.iload_n 2, 1) := by decide +kernel
theorem dX7_near_50 : decode cX7_near 50 = .ok (.invokevirtual 155, 3) := by decide +kernel
theorem dX7_near_53 : decode cX7_near 53 = .ok (.ireturn, 1) := by decide +kernel
theorem dX7_step_0 : decode cX7_step 0 = .ok (.aload_n 0, 1) := by decide +kernel
theorem dX7_step_1 : decode cX7_step 1 = .ok (.iload_n 1, 1) := by decide +kernel
theorem dX7_step_2 : decode cX7_step 2 = .ok (.invokevirtual 108, 3) := by decide +kernel
theorem dX7_step_5 : decode cX7_step 5 = .ok (.ifCond .ne 7, 3) := by decide +kernel
theorem dX7_step_8 : decode cX7_step 8 = .ok (.sipush (-1001), 3) := by decide +kernel
theorem dX7_step_11 : decode cX7_step 11 = .ok (.ireturn, 1) := by decide +kernel
theorem dX7_step_12 : decode cX7_step 12 = .ok (.iload_n 3, 1) := by decide +kernel
theorem dX7_step_13 : decode cX7_step 13 = .ok (.iconst 4, 1) := by decide +kernel
theorem dX7_step_14 : decode cX7_step 14 = .ok (.invokestatic 124, 3) := by decide +kernel
theorem dX7_step_17 : decode cX7_step 17 = .ok (.ifCond .ne 7, 3) := by decide +kernel
theorem dX7_step_20 : decode cX7_step 20 = .ok (.sipush (-1002), 3) := by decide +kernel
theorem dX7_step_23 : decode cX7_step 23 = .ok (.ireturn, 1) := by decide +kernel
theorem dX7_step_24 : decode cX7_step 24 = .ok (.aload_n 0, 1) := by decide +kernel
theorem dX7_step_25 : decode cX7_step 25 = .ok (.invokevirtual 168, 3) := by decide +kernel
theorem dX7_step_28 : decode cX7_step 28 = .ok (.ifCond .ne 7, 3) := by decide +kernel
theorem dX7_step_31 : decode cX7_step 31 = .ok (.sipush (-1003), 3) := by decide +kernel
theorem dX7_step_34 : decode cX7_step 34 = .ok (.ireturn, 1) := by decide +kernel
theorem dX7_step_35 : decode cX7_step 35 = .ok (.aload_n 0, 1) := by decide +kernel
theorem dX7_step_36 : decode cX7_step 36 = .ok (.invokevirtual 171, 3) := by decide +kernel
theorem dX7_step_39 : decode cX7_step 39 = .ok (.aload_n 0, 1) := by decide +kernel
theorem dX7_step_40 : decode cX7_step 40 = .ok (.getfield 51, 3) := by decide +kernel
theorem dX7_step_43 : decode cX7_step 43 = .ok (.getfield 174, 3) := by decide +kernel
theorem dX7_step_46 : decode cX7_step 46 = .ok (.iload_n 1, 1) := by decide +kernel
theorem dX7_step_47 : decode cX7_step 47 = .ok (.aaload, 1) := by decide +kernel
theorem dX7_step_48 : decode cX7_step 48 = .ok (.astore 4, 2) := by decide +kernel
theorem dX7_step_50 : decode cX7_step 50 = .ok (.iload_n 2, 1) := by decide +kernel
theorem dX7_step_51 : decode cX7_step 51 = .ok (.aload 4, 2) := by decide +kernel
theorem dX7_step_53 : decode cX7_step 53 = .ok (.getfield 178, 3) := by decide +kernel
theorem dX7_step_56 : decode cX7_step 56 = .ok (.invokestatic 124, 3) := by decide +kernel
theorem dX7_step_59 : decode cX7_step 59 = .ok (.ifCond .ne 7, 3) := by decide +kernel
theorem dX7_step_62 : decode cX7_step 62 = .ok (.sipush (-1001), 3) := by decide +kernel
theorem dX7_step_65 : decode cX7_step 65 = .ok (.ireturn, 1) := by decide +kernel
theorem dX7_step_66 : decode cX7_step 66 = .ok (.aload 4, 2) := by decide +kernel
theorem dX7_step_68 : decode cX7_step 68 = .ok (.iload_n 2, 1) := by decide +kernel
theorem dX7_step_69 : decode cX7_step 69 = .ok (.iload_n 3, 1) := by decide +kernel
theorem dX7_step_70 : decode cX7_step 70 = .ok (.invokevirtual 181, 3) := by decide +kernel
theorem dX7_step_73 : decode cX7_step 73 = .ok (.ireturn, 1) := by decide +kernel
theorem dX7_rank_0 : decode cX7_rank 0 = .ok (.aload_n 0, 1) := by decide +kernel
theorem dX7_rank_1 : decode cX7_rank 1 = .ok (.invokevirtual 168, 3) := by decide +kernel
theorem dX7_rank_4 : decode cX7_rank 4 = .ok (.ifCond .ne 7, 3) := by decide +kernel
theorem dX7_rank_7 : decode cX7_rank 7 = .ok (.sipush (-1003), 3) := by decide +kernel
theorem dX7_rank_10 : decode cX7_rank 10 = .ok (.ireturn, 1) := by decide +kernel
theorem dX7_rank_11 : decode cX7_rank 11 = .ok (.aload_n 0, 1) := by decide +kernel
theorem dX7_rank_12 : decode cX7_rank 12 = .ok (.invokevirtual 171, 3) := by decide +kernel
theorem dX7_rank_15 : decode cX7_rank 15 = .ok (.iload_n 1, 1) := by decide +kernel
theorem dX7_rank_16 : decode cX7_rank 16 = .ok (.aload_n 0, 1) := by decide +kernel
theorem dX7_rank_17 : decode cX7_rank 17 = .ok (.getfield 51, 3) := by decide +kernel
theorem dX7_rank_20 : decode cX7_rank 20 = .ok (.getfield 184, 3) := by decide +kernel
theorem dX7_rank_23 : decode cX7_rank 23 = .ok (.invokestatic 124, 3) := by decide +kernel
theorem dX7_rank_26 : decode cX7_rank 26 = .ok (.ifCond .ne 7, 3) := by decide +kernel
theorem dX7_rank_29 : decode cX7_rank 29 = .ok (.sipush (-1001), 3) := by decide +kernel
theorem dX7_rank_32 : decode cX7_rank 32 = .ok (.ireturn, 1) := by decide +kernel
theorem dX7_rank_33 : decode cX7_rank 33 = .ok (.aload_n 0, 1) := by decide +kernel
theorem dX7_rank_34 : decode cX7_rank 34 = .ok (.getfield 51, 3) := by decide +kernel
theorem dX7_rank_37 : decode cX7_rank 37 = .ok (.getfield 187, 3) := by decide +kernel
theorem dX7_rank_40 : decode cX7_rank 40 = .ok (.iload_n 1, 1) := by decide +kernel
theorem dX7_rank_41 : decode cX7_rank 41 = .ok (.iaload, 1) := by decide +kernel
theorem dX7_rank_42 : decode cX7_rank 42 = .ok (.ireturn, 1) := by decide +kernel
theorem dX7_question_0 : decode cX7_question 0 = .ok (.iload_n 1, 1) := by decide +kernel
theorem dX7_question_1 : decode cX7_question 1 = .ok (.bipush 10, 2) := by decide +kernel
theorem dX7_question_3 : decode cX7_question 3 = .ok (.invokestatic 124, 3) := by decide +kernel
theorem dX7_question_6 : decode cX7_question 6 = .ok (.ifCond .ne 7, 3) := by decide +kernel
theorem dX7_question_9 : decode cX7_question 9 = .ok (.sipush (-1002), 3) := by decide +kernel
theorem dX7_question_12 : decode cX7_question 12 = .ok (.ireturn, 1) := by decide +kernel
theorem dX7_question_13 : decode cX7_question 13 = .ok (.aload_n 0, 1) := by decide +kernel
theorem dX7_question_14 : decode cX7_question 14 = .ok (.invokevirtual 168, 3) := by decide +kernel
theorem dX7_question_17 : decode cX7_question 17 = .ok (.ifCond .ne 7, 3) := by decide +kernel
theorem dX7_question_20 : decode cX7_question 20 = .ok (.sipush (-1003), 3) := by decide +kernel
theorem dX7_question_23 : decode cX7_question 23 = .ok (.ireturn, 1) := by decide +kernel
theorem dX7_question_24 : decode cX7_question 24 = .ok (.aload_n 0, 1) := by decide +kernel
theorem dX7_question_25 : decode cX7_question 25 = .ok (.invokevirtual 171, 3) := by decide +kernel
theorem dX7_question_28 : decode cX7_question 28 = .ok (.aload_n 0, 1) := by decide +kernel
theorem dX7_question_29 : decode cX7_question 29 = .ok (.iload_n 1, 1) := by decide +kernel
theorem dX7_question_30 : decode cX7_question 30 = .ok (.invokevirtual 191, 3) := by decide +kernel
theorem dX7_question_33 : decode cX7_question 33 = .ok (.ireturn, 1) := by decide +kernel
theorem dX7_covered_0 : decode cX7_covered 0 = .ok (.aload_n 0, 1) := by decide +kernel
theorem dX7_covered_1 : decode cX7_covered 1 = .ok (.invokevirtual 168, 3) := by decide +kernel
theorem dX7_covered_4 : decode cX7_covered 4 = .ok (.ifCond .ne 7, 3) := by decide +kernel
theorem dX7_covered_7 : decode cX7_covered 7 = .ok (.sipush (-1003), 3) := by decide +kernel
theorem dX7_covered_10 : decode cX7_covered 10 = .ok (.ireturn, 1) := by decide +kernel
theorem dX7_covered_11 : decode cX7_covered 11 = .ok (.iload_n 1, 1) := by decide +kernel
theorem dX7_covered_12 : decode cX7_covered 12 = .ok (.aload_n 0, 1) := by decide +kernel
theorem dX7_covered_13 : decode cX7_covered 13 = .ok (.getfield 23, 3) := by decide +kernel
theorem dX7_covered_16 : decode cX7_covered 16 = .ok (.getfield 121, 3) := by decide +kernel
theorem dX7_covered_19 : decode cX7_covered 19 = .ok (.invokestatic 124, 3) := by decide +kernel
theorem dX7_covered_22 : decode cX7_covered 22 = .ok (.ifCond .ne 7, 3) := by decide +kernel
theorem dX7_covered_25 : decode cX7_covered 25 = .ok (.sipush (-1001), 3) := by decide +kernel
theorem dX7_covered_28 : decode cX7_covered 28 = .ok (.ireturn, 1) := by decide +kernel
theorem dX7_covered_29 : decode cX7_covered 29 = .ok (.aload_n 0, 1) := by decide +kernel
theorem dX7_covered_30 : decode cX7_covered 30 = .ok (.invokevirtual 171, 3) := by decide +kernel
theorem dX7_covered_33 : decode cX7_covered 33 = .ok (.aload_n 0, 1) := by decide +kernel
theorem dX7_covered_34 : decode cX7_covered 34 = .ok (.getfield 51, 3) := by decide +kernel
theorem dX7_covered_37 : decode cX7_covered 37 = .ok (.getfield 194, 3) := by decide +kernel
theorem dX7_covered_40 : decode cX7_covered 40 = .ok (.iload_n 1, 1) := by decide +kernel
theorem dX7_covered_41 : decode cX7_covered 41 = .ok (.baload, 1) := by decide +kernel
theorem dX7_covered_42 : decode cX7_covered 42 = .ok (.ifCond .eq 7, 3) := by decide +kernel
theorem dX7_covered_45 : decode cX7_covered 45 = .ok (.iconst 1, 1) := by decide +kernel
theorem dX7_covered_46 : decode cX7_covered 46 = .ok (.goto 4, 3) := by decide +kernel
theorem dX7_covered_49 : decode cX7_covered 49 = .ok (.iconst 0, 1) := by decide +kernel
theorem dX7_covered_50 : decode cX7_covered 50 = .ok (.ireturn, 1) := by decide +kernel
theorem dX7_count_0 : decode cX7_count 0 = .ok (.iload_n 1, 1) := by decide +kernel
theorem dX7_count_1 : decode cX7_count 1 = .ok (.tableswitch 93 0 7 #[47, 55, 60, 65, 70, 75, 80, 85], 47) := by decide +kernel
theorem dX7_count_48 : decode cX7_count 48 = .ok (.aload_n 0, 1) := by decide +kernel
theorem dX7_count_49 : decode cX7_count 49 = .ok (.getfield 12, 3) := by decide +kernel
theorem dX7_count_52 : decode cX7_count 52 = .ok (.getfield 74, 3) := by decide +kernel
theorem dX7_count_55 : decode cX7_count 55 = .ok (.ireturn, 1) := by decide +kernel
theorem dX7_count_56 : decode cX7_count 56 = .ok (.aload_n 0, 1) := by decide +kernel
theorem dX7_count_57 : decode cX7_count 57 = .ok (.getfield 87, 3) := by decide +kernel
theorem dX7_count_60 : decode cX7_count 60 = .ok (.ireturn, 1) := by decide +kernel
theorem dX7_count_61 : decode cX7_count 61 = .ok (.aload_n 0, 1) := by decide +kernel
theorem dX7_count_62 : decode cX7_count 62 = .ok (.getfield 105, 3) := by decide +kernel
theorem dX7_count_65 : decode cX7_count 65 = .ok (.ireturn, 1) := by decide +kernel
theorem dX7_count_66 : decode cX7_count 66 = .ok (.aload_n 0, 1) := by decide +kernel
theorem dX7_count_67 : decode cX7_count 67 = .ok (.getfield 115, 3) := by decide +kernel
theorem dX7_count_70 : decode cX7_count 70 = .ok (.ireturn, 1) := by decide +kernel
theorem dX7_count_71 : decode cX7_count 71 = .ok (.aload_n 0, 1) := by decide +kernel
theorem dX7_count_72 : decode cX7_count 72 = .ok (.getfield 118, 3) := by decide +kernel
theorem dX7_count_75 : decode cX7_count 75 = .ok (.ireturn, 1) := by decide +kernel
theorem dX7_count_76 : decode cX7_count 76 = .ok (.aload_n 0, 1) := by decide +kernel
theorem dX7_count_77 : decode cX7_count 77 = .ok (.getfield 55, 3) := by decide +kernel
theorem dX7_count_80 : decode cX7_count 80 = .ok (.ireturn, 1) := by decide +kernel
theorem dX7_count_81 : decode cX7_count 81 = .ok (.aload_n 0, 1) := by decide +kernel
theorem dX7_count_82 : decode cX7_count 82 = .ok (.getfield 59, 3) := by decide +kernel
theorem dX7_count_85 : decode cX7_count 85 = .ok (.ireturn, 1) := by decide +kernel
theorem dX7_count_86 : decode cX7_count 86 = .ok (.aload_n 0, 1) := by decide +kernel
theorem dX7_count_87 : decode cX7_count 87 = .ok (.getfield 30, 3) := by decide +kernel
theorem dX7_count_90 : decode cX7_count 90 = .ok (.getfield 198, 3) := by decide +kernel
theorem dX7_count_93 : decode cX7_count 93 = .ok (.ireturn, 1) := by decide +kernel
theorem dX7_count_94 : decode cX7_count 94 = .ok (.sipush (-1002), 3) := by decide +kernel
theorem dX7_count_97 : decode cX7_count 97 = .ok (.ireturn, 1) := by decide +kernel
theorem dX7_digest_0 : decode cX7_digest 0 = .ok (.ldc2_w 201, 3) := by decide +kernel
theorem dX7_digest_3 : decode cX7_digest 3 = .ok (.lstore_n 1, 1) := by decide +kernel
theorem dX7_digest_4 : decode cX7_digest 4 = .ok (.aload_n 0, 1) := by decide +kernel
theorem dX7_digest_5 : decode cX7_digest 5 = .ok (.lload_n 1, 1) := by decide +kernel
theorem dX7_digest_6 : decode cX7_digest 6 = .ok (.invokevirtual 203, 3) := by decide +kernel
theorem dX7_digest_9 : decode cX7_digest 9 = .ok (.lstore_n 1, 1) := by decide +kernel
theorem dX7_digest_10 : decode cX7_digest 10 = .ok (.aload_n 0, 1) := by decide +kernel
theorem dX7_digest_11 : decode cX7_digest 11 = .ok (.lload_n 1, 1) := by decide +kernel
theorem dX7_digest_12 : decode cX7_digest 12 = .ok (.invokevirtual 207, 3) := by decide +kernel
theorem dX7_digest_15 : decode cX7_digest 15 = .ok (.lstore_n 1, 1) := by decide +kernel
theorem dX7_digest_16 : decode cX7_digest 16 = .ok (.aload_n 0, 1) := by decide +kernel
theorem dX7_digest_17 : decode cX7_digest 17 = .ok (.invokevirtual 168, 3) := by decide +kernel
theorem dX7_digest_20 : decode cX7_digest 20 = .ok (.ifCond .eq 13, 3) := by decide +kernel
theorem dX7_digest_23 : decode cX7_digest 23 = .ok (.aload_n 0, 1) := by decide +kernel
theorem dX7_digest_24 : decode cX7_digest 24 = .ok (.invokevirtual 171, 3) := by decide +kernel
theorem dX7_digest_27 : decode cX7_digest 27 = .ok (.aload_n 0, 1) := by decide +kernel
theorem dX7_digest_28 : decode cX7_digest 28 = .ok (.lload_n 1, 1) := by decide +kernel
theorem dX7_digest_29 : decode cX7_digest 29 = .ok (.invokevirtual 210, 3) := by decide +kernel
theorem dX7_digest_32 : decode cX7_digest 32 = .ok (.lstore_n 1, 1) := by decide +kernel
theorem dX7_digest_33 : decode cX7_digest 33 = .ok (.iconst 0, 1) := by decide +kernel
theorem dX7_digest_34 : decode cX7_digest 34 = .ok (.istore_n 3, 1) := by decide +kernel
theorem dX7_digest_35 : decode cX7_digest 35 = .ok (.iload_n 3, 1) := by decide +kernel
theorem dX7_digest_36 : decode cX7_digest 36 = .ok (.aload_n 0, 1) := by decide +kernel
theorem dX7_digest_37 : decode cX7_digest 37 = .ok (.getfield 12, 3) := by decide +kernel
theorem dX7_digest_40 : decode cX7_digest 40 = .ok (.getfield 74, 3) := by decide +kernel
theorem dX7_digest_43 : decode cX7_digest 43 = .ok (.if_icmp .ge 23, 3) := by decide +kernel
theorem dX7_digest_46 : decode cX7_digest 46 = .ok (.lload_n 1, 1) := by decide +kernel
theorem dX7_digest_47 : decode cX7_digest 47 = .ok (.aload_n 0, 1) := by decide +kernel
theorem dX7_digest_48 : decode cX7_digest 48 = .ok (.getfield 12, 3) := by decide +kernel
theorem dX7_digest_51 : decode cX7_digest 51 = .ok (.getfield 213, 3) := by decide +kernel
theorem dX7_digest_54 : decode cX7_digest 54 = .ok (.iload_n 3, 1) := by decide +kernel
theorem dX7_digest_55 : decode cX7_digest 55 = .ok (.iaload, 1) := by decide +kernel
theorem dX7_digest_56 : decode cX7_digest 56 = .ok (.invokestatic 216, 3) := by decide +kernel
theorem dX7_digest_59 : decode cX7_digest 59 = .ok (.lstore_n 1, 1) := by decide +kernel
theorem dX7_digest_60 : decode cX7_digest 60 = .ok (.iinc 3 1, 3) := by decide +kernel
theorem dX7_digest_63 : decode cX7_digest 63 = .ok (.goto (-28), 3) := by decide +kernel
theorem dX7_digest_66 : decode cX7_digest 66 = .ok (.iconst 0, 1) := by decide +kernel
theorem dX7_digest_67 : decode cX7_digest 67 = .ok (.istore_n 3, 1) := by decide +kernel
theorem dX7_digest_68 : decode cX7_digest 68 = .ok (.iload_n 3, 1) := by decide +kernel
theorem dX7_digest_69 : decode cX7_digest 69 = .ok (.bipush 8, 2) := by decide +kernel
theorem dX7_digest_71 : decode cX7_digest 71 = .ok (.if_icmp .ge 19, 3) := by decide +kernel
theorem dX7_digest_74 : decode cX7_digest 74 = .ok (.lload_n 1, 1) := by decide +kernel
theorem dX7_digest_75 : decode cX7_digest 75 = .ok (.aload_n 0, 1) := by decide +kernel
theorem dX7_digest_76 : decode cX7_digest 76 = .ok (.iload_n 3, 1) := by decide +kernel
theorem dX7_digest_77 : decode cX7_digest 77 = .ok (.invokevirtual 220, 3) := by decide +kernel
theorem dX7_digest_80 : decode cX7_digest 80 = .ok (.invokestatic 216, 3) := by decide +kernel
theorem dX7_digest_83 : decode cX7_digest 83 = .ok (.lstore_n 1, 1) := by decide +kernel
theorem dX7_digest_84 : decode cX7_digest 84 = .ok (.iinc 3 1, 3) := by decide +kernel
theorem dX7_digest_87 : decode cX7_digest 87 = .ok (.goto (-19), 3) := by decide +kernel
theorem dX7_digest_90 : decode cX7_digest 90 = .ok (.lload_n 1, 1) := by decide +kernel
theorem dX7_digest_91 : decode cX7_digest 91 = .ok (.lreturn, 1) := by decide +kernel
theorem dX7_mixSegments_0 : decode cX7_mixSegments 0 = .ok (.lload_n 1, 1) := by decide +kernel
theorem dX7_mixSegments_1 : decode cX7_mixSegments 1 = .ok (.lstore_n 3, 1) := by decide +kernel
theorem dX7_mixSegments_2 : decode cX7_mixSegments 2 = .ok (.iconst 0, 1) := by decide +kernel
theorem dX7_mixSegments_3 : decode cX7_mixSegments 3 = .ok (.istore 5, 2) := by decide +kernel
theorem dX7_mixSegments_5 : decode cX7_mixSegments 5 = .ok (.iload 5, 2) := by decide +kernel
theorem dX7_mixSegments_7 : decode cX7_mixSegments 7 = .ok (.aload_n 0, 1) := by decide +kernel
theorem dX7_mixSegments_8 : decode cX7_mixSegments 8 = .ok (.getfield 87, 3) := by decide +kernel
theorem dX7_mixSegments_11 : decode cX7_mixSegments 11 = .ok (.if_icmp .ge 46, 3) := by decide +kernel
theorem dX7_mixSegments_14 : decode cX7_mixSegments 14 = .ok (.iconst 0, 1) := by decide +kernel
theorem dX7_mixSegments_15 : decode cX7_mixSegments 15 = .ok (.istore 6, 2) := by decide +kernel
theorem dX7_mixSegments_17 : decode cX7_mixSegments 17 = .ok (.iload 6, 2) := by decide +kernel
theorem dX7_mixSegments_19 : decode cX7_mixSegments 19 = .ok (.bipush 6, 2) := by decide +kernel
theorem dX7_mixSegments_21 : decode cX7_mixSegments 21 = .ok (.if_icmp .ge 30, 3) := by decide +kernel
theorem dX7_mixSegments_24 : decode cX7_mixSegments 24 = .ok (.lload_n 3, 1) := by decide +kernel
theorem dX7_mixSegments_25 : decode cX7_mixSegments 25 = .ok (.aload_n 0, 1) := by decide +kernel
theorem dX7_mixSegments_26 : decode cX7_mixSegments 26 = .ok (.getfield 18, 3) := by decide +kernel
theorem dX7_mixSegments_29 : decode cX7_mixSegments 29 = .ok (.iload 5, 2) := by decide +kernel
theorem dX7_mixSegments_31 : decode cX7_mixSegments 31 = .ok (.aaload, 1) := by decide +kernel
theorem dX7_mixSegments_32 : decode cX7_mixSegments 32 = .ok (.iload 6, 2) := by decide +kernel
theorem dX7_mixSegments_34 : decode cX7_mixSegments 34 = .ok (.aload_n 0, 1) := by decide +kernel
theorem dX7_mixSegments_35 : decode cX7_mixSegments 35 = .ok (.getfield 55, 3) := by decide +kernel
theorem dX7_mixSegments_38 : decode cX7_mixSegments 38 = .ok (.invokevirtual 128, 3) := by decide +kernel
theorem dX7_mixSegments_41 : decode cX7_mixSegments 41 = .ok (.invokestatic 216, 3) := by decide +kernel
theorem dX7_mixSegments_44 : decode cX7_mixSegments 44 = .ok (.lstore_n 3, 1) := by decide +kernel
theorem dX7_mixSegments_45 : decode cX7_mixSegments 45 = .ok (.iinc 6 1, 3) := by decide +kernel
theorem dX7_mixSegments_48 : decode cX7_mixSegments 48 = .ok (.goto (-31), 3) := by decide +kernel
theorem dX7_mixSegments_51 : decode cX7_mixSegments 51 = .ok (.iinc 5 1, 3) := by decide +kernel
theorem dX7_mixSegments_54 : decode cX7_mixSegments 54 = .ok (.goto (-49), 3) := by decide +kernel
theorem dX7_mixSegments_57 : decode cX7_mixSegments 57 = .ok (.lload_n 3, 1) := by decide +kernel
theorem dX7_mixSegments_58 : decode cX7_mixSegments 58 = .ok (.lreturn, 1) := by decide +kernel
theorem dX7_mixPairs_0 : decode cX7_mixPairs 0 = .ok (.lload_n 1, 1) := by decide +kernel
theorem dX7_mixPairs_1 : decode cX7_mixPairs 1 = .ok (.lstore_n 3, 1) := by decide +kernel
theorem dX7_mixPairs_2 : decode cX7_mixPairs 2 = .ok (.iconst 0, 1) := by decide +kernel
theorem dX7_mixPairs_3 : decode cX7_mixPairs 3 = .ok (.istore 5, 2) := by decide +kernel
theorem dX7_mixPairs_5 : decode cX7_mixPairs 5 = .ok (.iload 5, 2) := by decide +kernel
theorem dX7_mixPairs_7 : decode cX7_mixPairs 7 = .ok (.aload_n 0, 1) := by decide +kernel
theorem dX7_mixPairs_8 : decode cX7_mixPairs 8 = .ok (.getfield 87, 3) := by decide +kernel
theorem dX7_mixPairs_11 : decode cX7_mixPairs 11 = .ok (.if_icmp .ge 88, 3) := by decide +kernel
theorem dX7_mixPairs_14 : decode cX7_mixPairs 14 = .ok (.iload 5, 2) := by decide +kernel
theorem dX7_mixPairs_16 : decode cX7_mixPairs 16 = .ok (.iconst 1, 1) := by decide +kernel
theorem dX7_mixPairs_17 : decode cX7_mixPairs 17 = .ok (.iadd, 1) := by decide +kernel
theorem dX7_mixPairs_18 : decode cX7_mixPairs 18 = .ok (.istore 6, 2) := by decide +kernel
theorem dX7_mixPairs_20 : decode cX7_mixPairs 20 = .ok (.iload 6, 2) := by decide +kernel
theorem dX7_mixPairs_22 : decode cX7_mixPairs 22 = .ok (.aload_n 0, 1) := by decide +kernel
theorem dX7_mixPairs_23 : decode cX7_mixPairs 23 = .ok (.getfield 87, 3) := by decide +kernel
theorem dX7_mixPairs_26 : decode cX7_mixPairs 26 = .ok (.if_icmp .ge 67, 3) := by decide +kernel
theorem dX7_mixPairs_29 : decode cX7_mixPairs 29 = .ok (.aload_n 0, 1) := by decide +kernel
theorem dX7_mixPairs_30 : decode cX7_mixPairs 30 = .ok (.getfield 37, 3) := by decide +kernel
theorem dX7_mixPairs_33 : decode cX7_mixPairs 33 = .ok (.aload_n 0, 1) := by decide +kernel
theorem dX7_mixPairs_34 : decode cX7_mixPairs 34 = .ok (.getfield 18, 3) := by decide +kernel
theorem dX7_mixPairs_37 : decode cX7_mixPairs 37 = .ok (.iload 5, 2) := by decide +kernel
theorem dX7_mixPairs_39 : decode cX7_mixPairs 39 = .ok (.aaload, 1) := by decide +kernel
theorem dX7_mixPairs_40 : decode cX7_mixPairs 40 = .ok (.aload_n 0, 1) := by decide +kernel
theorem dX7_mixPairs_41 : decode cX7_mixPairs 41 = .ok (.getfield 18, 3) := by decide +kernel
theorem dX7_mixPairs_44 : decode cX7_mixPairs 44 = .ok (.iload 6, 2) := by decide +kernel
theorem dX7_mixPairs_46 : decode cX7_mixPairs 46 = .ok (.aaload, 1) := by decide +kernel
theorem dX7_mixPairs_47 : decode cX7_mixPairs 47 = .ok (.aload_n 0, 1) := by decide +kernel
theorem dX7_mixPairs_48 : decode cX7_mixPairs 48 = .ok (.getfield 55, 3) := by decide +kernel
theorem dX7_mixPairs_51 : decode cX7_mixPairs 51 = .ok (.aload_n 0, 1) := by decide +kernel
theorem dX7_mixPairs_52 : decode cX7_mixPairs 52 = .ok (.getfield 44, 3) := by decide +kernel
theorem dX7_mixPairs_55 : decode cX7_mixPairs 55 = .ok (.invokevirtual 151, 3) := by decide +kernel
theorem dX7_mixPairs_58 : decode cX7_mixPairs 58 = .ok (.iconst 0, 1) := by decide +kernel
theorem dX7_mixPairs_59 : decode cX7_mixPairs 59 = .ok (.istore 7, 2) := by decide +kernel
theorem dX7_mixPairs_61 : decode cX7_mixPairs 61 = .ok (.iload 7, 2) := by decide +kernel
theorem dX7_mixPairs_63 : decode cX7_mixPairs 63 = .ok (.iconst 5, 1) := by decide +kernel
theorem dX7_mixPairs_64 : decode cX7_mixPairs 64 = .ok (.if_icmp .ge 23, 3) := by decide +kernel
theorem dX7_mixPairs_67 : decode cX7_mixPairs 67 = .ok (.lload_n 3, 1) := by decide +kernel
theorem dX7_mixPairs_68 : decode cX7_mixPairs 68 = .ok (.aload_n 0, 1) := by decide +kernel
theorem dX7_mixPairs_69 : decode cX7_mixPairs 69 = .ok (.getfield 44, 3) := by decide +kernel
theorem dX7_mixPairs_72 : decode cX7_mixPairs 72 = .ok (.iload 7, 2) := by decide +kernel
theorem dX7_mixPairs_74 : decode cX7_mixPairs 74 = .ok (.invokevirtual 155, 3) := by decide +kernel
theorem dX7_mixPairs_77 : decode cX7_mixPairs 77 = .ok (.invokestatic 216, 3) := by decide +kernel
theorem dX7_mixPairs_80 : decode cX7_mixPairs 80 = .ok (.lstore_n 3, 1) := by decide +kernel
theorem dX7_mixPairs_81 : decode cX7_mixPairs 81 = .ok (.iinc 7 1, 3) := by decide +kernel
theorem dX7_mixPairs_84 : decode cX7_mixPairs 84 = .ok (.goto (-23), 3) := by decide +kernel
theorem dX7_mixPairs_87 : decode cX7_mixPairs 87 = .ok (.iinc 6 1, 3) := by decide +kernel
theorem dX7_mixPairs_90 : decode cX7_mixPairs 90 = .ok (.goto (-70), 3) := by decide +kernel
theorem dX7_mixPairs_93 : decode cX7_mixPairs 93 = .ok (.iinc 5 1, 3) := by decide +kernel
theorem dX7_mixPairs_96 : decode cX7_mixPairs 96 = .ok (.goto (-91), 3) := by decide +kernel
theorem dX7_mixPairs_99 : decode cX7_mixPairs 99 = .ok (.lload_n 3, 1) := by decide +kernel
theorem dX7_mixPairs_100 : decode cX7_mixPairs 100 = .ok (.lreturn, 1) := by decide +kernel
theorem dX7_mixFindings_0 : decode cX7_mixFindings 0 = .ok (.lload_n 1, 1) := by decide +kernel
theorem dX7_mixFindings_1 : decode cX7_mixFindings 1 = .ok (.lstore_n 3, 1) := by decide +kernel
theorem dX7_mixFindings_2 : decode cX7_mixFindings 2 = .ok (.iconst 0, 1) := by decide +kernel
theorem dX7_mixFindings_3 : decode cX7_mixFindings 3 = .ok (.istore 5, 2) := by decide +kernel
theorem dX7_mixFindings_5 : decode cX7_mixFindings 5 = .ok (.iload 5, 2) := by decide +kernel
theorem dX7_mixFindings_7 : decode cX7_mixFindings 7 = .ok (.bipush 10, 2) := by decide +kernel
theorem dX7_mixFindings_9 : decode cX7_mixFindings 9 = .ok (.if_icmp .ge 20, 3) := by decide +kernel
theorem dX7_mixFindings_12 : decode cX7_mixFindings 12 = .ok (.lload_n 3, 1) := by decide +kernel
theorem dX7_mixFindings_13 : decode cX7_mixFindings 13 = .ok (.aload_n 0, 1) := by decide +kernel
theorem dX7_mixFindings_14 : decode cX7_mixFindings 14 = .ok (.iload 5, 2) := by decide +kernel
theorem dX7_mixFindings_16 : decode cX7_mixFindings 16 = .ok (.invokevirtual 191, 3) := by decide +kernel
theorem dX7_mixFindings_19 : decode cX7_mixFindings 19 = .ok (.invokestatic 216, 3) := by decide +kernel
theorem dX7_mixFindings_22 : decode cX7_mixFindings 22 = .ok (.lstore_n 3, 1) := by decide +kernel
theorem dX7_mixFindings_23 : decode cX7_mixFindings 23 = .ok (.iinc 5 1, 3) := by decide +kernel
theorem dX7_mixFindings_26 : decode cX7_mixFindings 26 = .ok (.goto (-21), 3) := by decide +kernel
theorem dX7_mixFindings_29 : decode cX7_mixFindings 29 = .ok (.iconst 0, 1) := by decide +kernel
theorem dX7_mixFindings_30 : decode cX7_mixFindings 30 = .ok (.istore 5, 2) := by decide +kernel
theorem dX7_mixFindings_32 : decode cX7_mixFindings 32 = .ok (.iload 5, 2) := by decide +kernel
theorem dX7_mixFindings_34 : decode cX7_mixFindings 34 = .ok (.aload_n 0, 1) := by decide +kernel
theorem dX7_mixFindings_35 : decode cX7_mixFindings 35 = .ok (.getfield 87, 3) := by decide +kernel
theorem dX7_mixFindings_38 : decode cX7_mixFindings 38 = .ok (.if_icmp .ge 45, 3) := by decide +kernel
theorem dX7_mixFindings_41 : decode cX7_mixFindings 41 = .ok (.iconst 0, 1) := by decide +kernel
theorem dX7_mixFindings_42 : decode cX7_mixFindings 42 = .ok (.istore 6, 2) := by decide +kernel
theorem dX7_mixFindings_44 : decode cX7_mixFindings 44 = .ok (.iload 6, 2) := by decide +kernel
theorem dX7_mixFindings_46 : decode cX7_mixFindings 46 = .ok (.bipush 10, 2) := by decide +kernel
theorem dX7_mixFindings_48 : decode cX7_mixFindings 48 = .ok (.if_icmp .ge 29, 3) := by decide +kernel
theorem dX7_mixFindings_51 : decode cX7_mixFindings 51 = .ok (.lload_n 3, 1) := by decide +kernel
theorem dX7_mixFindings_52 : decode cX7_mixFindings 52 = .ok (.aload_n 0, 1) := by decide +kernel
theorem dX7_mixFindings_53 : decode cX7_mixFindings 53 = .ok (.getfield 51, 3) := by decide +kernel
theorem dX7_mixFindings_56 : decode cX7_mixFindings 56 = .ok (.getfield 174, 3) := by decide +kernel
theorem dX7_mixFindings_59 : decode cX7_mixFindings 59 = .ok (.iload 5, 2) := by decide +kernel
theorem dX7_mixFindings_61 : decode cX7_mixFindings 61 = .ok (.aaload, 1) := by decide +kernel
theorem dX7_mixFindings_62 : decode cX7_mixFindings 62 = .ok (.iload 6, 2) := by decide +kernel
theorem dX7_mixFindings_64 : decode cX7_mixFindings 64 = .ok (.invokevirtual 155, 3) := by decide +kernel
theorem dX7_mixFindings_67 : decode cX7_mixFindings 67 = .ok (.invokestatic 216, 3) := by decide +kernel
theorem dX7_mixFindings_70 : decode cX7_mixFindings 70 = .ok (.lstore_n 3, 1) := by decide +kernel
theorem dX7_mixFindings_71 : decode cX7_mixFindings 71 = .ok (.iinc 6 1, 3) := by decide +kernel
theorem dX7_mixFindings_74 : decode cX7_mixFindings 74 = .ok (.goto (-30), 3) := by decide +kernel
theorem dX7_mixFindings_77 : decode cX7_mixFindings 77 = .ok (.iinc 5 1, 3) := by decide +kernel
theorem dX7_mixFindings_80 : decode cX7_mixFindings 80 = .ok (.goto (-48), 3) := by decide +kernel
theorem dX7_mixFindings_83 : decode cX7_mixFindings 83 = .ok (.iconst 0, 1) := by decide +kernel
theorem dX7_mixFindings_84 : decode cX7_mixFindings 84 = .ok (.istore 5, 2) := by decide +kernel
theorem dX7_mixFindings_86 : decode cX7_mixFindings 86 = .ok (.iload 5, 2) := by decide +kernel
theorem dX7_mixFindings_88 : decode cX7_mixFindings 88 = .ok (.aload_n 0, 1) := by decide +kernel
theorem dX7_mixFindings_89 : decode cX7_mixFindings 89 = .ok (.getfield 51, 3) := by decide +kernel
theorem dX7_mixFindings_92 : decode cX7_mixFindings 92 = .ok (.getfield 184, 3) := by decide +kernel
theorem dX7_mixFindings_95 : decode cX7_mixFindings 95 = .ok (.if_icmp .ge 24, 3) := by decide +kernel
theorem dX7_mixFindings_98 : decode cX7_mixFindings 98 = .ok (.lload_n 3, 1) := by decide +kernel
theorem dX7_mixFindings_99 : decode cX7_mixFindings 99 = .ok (.aload_n 0, 1) := by decide +kernel
theorem dX7_mixFindings_100 : decode cX7_mixFindings 100 = .ok (.getfield 51, 3) := by decide +kernel
theorem dX7_mixFindings_103 : decode cX7_mixFindings 103 = .ok (.getfield 187, 3) := by decide +kernel
theorem dX7_mixFindings_106 : decode cX7_mixFindings 106 = .ok (.iload 5, 2) := by decide +kernel
theorem dX7_mixFindings_108 : decode cX7_mixFindings 108 = .ok (.iaload, 1) := by decide +kernel
theorem dX7_mixFindings_109 : decode cX7_mixFindings 109 = .ok (.invokestatic 216, 3) := by decide +kernel
theorem dX7_mixFindings_112 : decode cX7_mixFindings 112 = .ok (.lstore_n 3, 1) := by decide +kernel
theorem dX7_mixFindings_113 : decode cX7_mixFindings 113 = .ok (.iinc 5 1, 3) := by decide +kernel
theorem dX7_mixFindings_116 : decode cX7_mixFindings 116 = .ok (.goto (-30), 3) := by decide +kernel
theorem dX7_mixFindings_119 : decode cX7_mixFindings 119 = .ok (.lload_n 3, 1) := by decide +kernel
theorem dX7_mixFindings_120 : decode cX7_mixFindings 120 = .ok (.lreturn, 1) := by decide +kernel
theorem dX7_mix_0 : decode cX7_mix 0 = .ok (.ldc2_w 223, 3) := by decide +kernel
theorem dX7_mix_3 : decode cX7_mix 3 = .ok (.lload_n 0, 1) := by decide +kernel
theorem dX7_mix_4 : decode cX7_mix 4 = .ok (.lmul, 1) := by decide +kernel
theorem dX7_mix_5 : decode cX7_mix 5 = .ok (.iload_n 2, 1) := by decide +kernel
theorem dX7_mix_6 : decode cX7_mix 6 = .ok (.i2l, 1) := by decide +kernel
theorem dX7_mix_7 : decode cX7_mix 7 = .ok (.ladd, 1) := by decide +kernel
theorem dX7_mix_8 : decode cX7_mix 8 = .ok (.lreturn, 1) := by decide +kernel
theorem dX7_isKept_0 : decode cX7_isKept 0 = .ok (.iload_n 1, 1) := by decide +kernel
theorem dX7_isKept_1 : decode cX7_isKept 1 = .ok (.aload_n 0, 1) := by decide +kernel
theorem dX7_isKept_2 : decode cX7_isKept 2 = .ok (.getfield 87, 3) := by decide +kernel
theorem dX7_isKept_5 : decode cX7_isKept 5 = .ok (.invokestatic 124, 3) := by decide +kernel
theorem dX7_isKept_8 : decode cX7_isKept 8 = .ok (.ireturn, 1) := by decide +kernel
theorem dX7_isSignOfKept_0 : decode cX7_isSignOfKept 0 = .ok (.aload_n 0, 1) := by decide +kernel
theorem dX7_isSignOfKept_1 : decode cX7_isSignOfKept 1 = .ok (.iload_n 1, 1) := by decide +kernel
theorem dX7_isSignOfKept_2 : decode cX7_isSignOfKept 2 = .ok (.invokevirtual 108, 3) := by decide +kernel
theorem dX7_isSignOfKept_5 : decode cX7_isSignOfKept 5 = .ok (.ifCond .eq 23, 3) := by decide +kernel
theorem dX7_isSignOfKept_8 : decode cX7_isSignOfKept 8 = .ok (.iload_n 2, 1) := by decide +kernel
theorem dX7_isSignOfKept_9 : decode cX7_isSignOfKept 9 = .ok (.aload_n 0, 1) := by decide +kernel
theorem dX7_isSignOfKept_10 : decode cX7_isSignOfKept 10 = .ok (.getfield 18, 3) := by decide +kernel
theorem dX7_isSignOfKept_13 : decode cX7_isSignOfKept 13 = .ok (.iload_n 1, 1) := by decide +kernel
theorem dX7_isSignOfKept_14 : decode cX7_isSignOfKept 14 = .ok (.aaload, 1) := by decide +kernel
theorem dX7_isSignOfKept_15 : decode cX7_isSignOfKept 15 = .ok (.getfield 121, 3) := by decide +kernel
theorem dX7_isSignOfKept_18 : decode cX7_isSignOfKept 18 = .ok (.invokestatic 124, 3) := by decide +kernel
theorem dX7_isSignOfKept_21 : decode cX7_isSignOfKept 21 = .ok (.ifCond .eq 7, 3) := by decide +kernel
theorem dX7_isSignOfKept_24 : decode cX7_isSignOfKept 24 = .ok (.iconst 1, 1) := by decide +kernel
theorem dX7_isSignOfKept_25 : decode cX7_isSignOfKept 25 = .ok (.goto 4, 3) := by decide +kernel
theorem dX7_isSignOfKept_28 : decode cX7_isSignOfKept 28 = .ok (.iconst 0, 1) := by decide +kernel
theorem dX7_isSignOfKept_29 : decode cX7_isSignOfKept 29 = .ok (.ireturn, 1) := by decide +kernel
theorem dX7_hasQuestion_0 : decode cX7_hasQuestion 0 = .ok (.aload_n 0, 1) := by decide +kernel
theorem dX7_hasQuestion_1 : decode cX7_hasQuestion 1 = .ok (.getfield 118, 3) := by decide +kernel
theorem dX7_hasQuestion_4 : decode cX7_hasQuestion 4 = .ok (.ifCond .le 7, 3) := by decide +kernel
theorem dX7_hasQuestion_7 : decode cX7_hasQuestion 7 = .ok (.iconst 1, 1) := by decide +kernel
theorem dX7_hasQuestion_8 : decode cX7_hasQuestion 8 = .ok (.goto 4, 3) := by decide +kernel
theorem dX7_hasQuestion_11 : decode cX7_hasQuestion 11 = .ok (.iconst 0, 1) := by decide +kernel
theorem dX7_hasQuestion_12 : decode cX7_hasQuestion 12 = .ok (.ireturn, 1) := by decide +kernel
theorem dX7_numberOfSame_0 : decode cX7_numberOfSame 0 = .ok (.iconst 0, 1) := by decide +kernel
theorem dX7_numberOfSame_1 : decode cX7_numberOfSame 1 = .ok (.istore_n 2, 1) := by decide +kernel
theorem dX7_numberOfSame_2 : decode cX7_numberOfSame 2 = .ok (.iload_n 2, 1) := by decide +kernel
theorem dX7_numberOfSame_3 : decode cX7_numberOfSame 3 = .ok (.aload_n 0, 1) := by decide +kernel
theorem dX7_numberOfSame_4 : decode cX7_numberOfSame 4 = .ok (.getfield 87, 3) := by decide +kernel
theorem dX7_numberOfSame_7 : decode cX7_numberOfSame 7 = .ok (.if_icmp .ge 24, 3) := by decide +kernel
theorem dX7_numberOfSame_10 : decode cX7_numberOfSame 10 = .ok (.aload_n 0, 1) := by decide +kernel
theorem dX7_numberOfSame_11 : decode cX7_numberOfSame 11 = .ok (.getfield 18, 3) := by decide +kernel
theorem dX7_numberOfSame_14 : decode cX7_numberOfSame 14 = .ok (.iload_n 2, 1) := by decide +kernel
theorem dX7_numberOfSame_15 : decode cX7_numberOfSame 15 = .ok (.aaload, 1) := by decide +kernel
theorem dX7_numberOfSame_16 : decode cX7_numberOfSame 16 = .ok (.aload_n 1, 1) := by decide +kernel
theorem dX7_numberOfSame_17 : decode cX7_numberOfSame 17 = .ok (.invokevirtual 225, 3) := by decide +kernel
theorem dX7_numberOfSame_20 : decode cX7_numberOfSame 20 = .ok (.ifCond .eq 5, 3) := by decide +kernel
theorem dX7_numberOfSame_23 : decode cX7_numberOfSame 23 = .ok (.iload_n 2, 1) := by decide +kernel
theorem dX7_numberOfSame_24 : decode cX7_numberOfSame 24 = .ok (.ireturn, 1) := by decide +kernel
theorem dX7_numberOfSame_25 : decode cX7_numberOfSame 25 = .ok (.iinc 2 1, 3) := by decide +kernel
theorem dX7_numberOfSame_28 : decode cX7_numberOfSame 28 = .ok (.goto (-26), 3) := by decide +kernel
theorem dX7_numberOfSame_31 : decode cX7_numberOfSame 31 = .ok (.aload_n 0, 1) := by decide +kernel
theorem dX7_numberOfSame_32 : decode cX7_numberOfSame 32 = .ok (.getfield 87, 3) := by decide +kernel
theorem dX7_numberOfSame_35 : decode cX7_numberOfSame 35 = .ok (.ireturn, 1) := by decide +kernel
theorem dX7_tellQuestion_0 : decode cX7_tellQuestion 0 = .ok (.iload_n 1, 1) := by decide +kernel
theorem dX7_tellQuestion_1 : decode cX7_tellQuestion 1 = .ok (.iconst 5, 1) := by decide +kernel
theorem dX7_tellQuestion_2 : decode cX7_tellQuestion 2 = .ok (.if_icmp .ge 18, 3) := by decide +kernel
theorem dX7_tellQuestion_5 : decode cX7_tellQuestion 5 = .ok (.aload_n 0, 1) := by decide +kernel
theorem dX7_tellQuestion_6 : decode cX7_tellQuestion 6 = .ok (.getfield 23, 3) := by decide +kernel
theorem dX7_tellQuestion_9 : decode cX7_tellQuestion 9 = .ok (.iload_n 1, 1) := by decide +kernel
theorem dX7_tellQuestion_10 : decode cX7_tellQuestion 10 = .ok (.aload_n 0, 1) := by decide +kernel
theorem dX7_tellQuestion_11 : decode cX7_tellQuestion 11 = .ok (.getfield 55, 3) := by decide +kernel
theorem dX7_tellQuestion_14 : decode cX7_tellQuestion 14 = .ok (.invokevirtual 128, 3) := by decide +kernel
theorem dX7_tellQuestion_17 : decode cX7_tellQuestion 17 = .ok (.goto 11, 3) := by decide +kernel
theorem dX7_tellQuestion_20 : decode cX7_tellQuestion 20 = .ok (.aload_n 0, 1) := by decide +kernel
theorem dX7_tellQuestion_21 : decode cX7_tellQuestion 21 = .ok (.getfield 51, 3) := by decide +kernel
theorem dX7_tellQuestion_24 : decode cX7_tellQuestion 24 = .ok (.iload_n 1, 1) := by decide +kernel
theorem dX7_tellQuestion_25 : decode cX7_tellQuestion 25 = .ok (.invokevirtual 229, 3) := by decide +kernel
theorem dX7_tellQuestion_28 : decode cX7_tellQuestion 28 = .ok (.ireturn, 1) := by decide +kernel
theorem dX7_refreshFindings_0 : decode cX7_refreshFindings 0 = .ok (.aload_n 0, 1) := by decide +kernel
theorem dX7_refreshFindings_1 : decode cX7_refreshFindings 1 = .ok (.getfield 62, 3) := by decide +kernel
theorem dX7_refreshFindings_4 : decode cX7_refreshFindings 4 = .ok (.ifCond .ne 4, 3) := by decide +kernel
theorem dX7_refreshFindings_7 : decode cX7_refreshFindings 7 = .ok (.return_, 1) := by decide +kernel
theorem dX7_refreshFindings_8 : decode cX7_refreshFindings 8 = .ok (.iconst 0, 1) := by decide +kernel
theorem dX7_refreshFindings_9 : decode cX7_refreshFindings 9 = .ok (.istore_n 1, 1) := by decide +kernel
theorem dX7_refreshFindings_10 : decode cX7_refreshFindings 10 = .ok (.iload_n 1, 1) := by decide +kernel
theorem dX7_refreshFindings_11 : decode cX7_refreshFindings 11 = .ok (.aload_n 0, 1) := by decide +kernel
theorem dX7_refreshFindings_12 : decode cX7_refreshFindings 12 = .ok (.getfield 87, 3) := by decide +kernel
theorem dX7_refreshFindings_15 : decode cX7_refreshFindings 15 = .ok (.if_icmp .ge 63, 3) := by decide +kernel
theorem dX7_refreshFindings_18 : decode cX7_refreshFindings 18 = .ok (.aload_n 0, 1) := by decide +kernel
theorem dX7_refreshFindings_19 : decode cX7_refreshFindings 19 = .ok (.getfield 51, 3) := by decide +kernel
theorem dX7_refreshFindings_22 : decode cX7_refreshFindings 22 = .ok (.getfield 174, 3) := by decide +kernel
theorem dX7_refreshFindings_25 : decode cX7_refreshFindings 25 = .ok (.iload_n 1, 1) := by decide +kernel
theorem dX7_refreshFindings_26 : decode cX7_refreshFindings 26 = .ok (.aaload, 1) := by decide +kernel
theorem dX7_refreshFindings_27 : decode cX7_refreshFindings 27 = .ok (.astore_n 2, 1) := by decide +kernel
theorem dX7_refreshFindings_28 : decode cX7_refreshFindings 28 = .ok (.aload_n 0, 1) := by decide +kernel
theorem dX7_refreshFindings_29 : decode cX7_refreshFindings 29 = .ok (.getfield 37, 3) := by decide +kernel
theorem dX7_refreshFindings_32 : decode cX7_refreshFindings 32 = .ok (.aload_n 0, 1) := by decide +kernel
theorem dX7_refreshFindings_33 : decode cX7_refreshFindings 33 = .ok (.getfield 18, 3) := by decide +kernel
theorem dX7_refreshFindings_36 : decode cX7_refreshFindings 36 = .ok (.iload_n 1, 1) := by decide +kernel
theorem dX7_refreshFindings_37 : decode cX7_refreshFindings 37 = .ok (.aaload, 1) := by decide +kernel
theorem dX7_refreshFindings_38 : decode cX7_refreshFindings 38 = .ok (.aload_n 0, 1) := by decide +kernel
theorem dX7_refreshFindings_39 : decode cX7_refreshFindings 39 = .ok (.getfield 23, 3) := by decide +kernel
theorem dX7_refreshFindings_42 : decode cX7_refreshFindings 42 = .ok (.aload_n 0, 1) := by decide +kernel
theorem dX7_refreshFindings_43 : decode cX7_refreshFindings 43 = .ok (.getfield 55, 3) := by decide +kernel
theorem dX7_refreshFindings_46 : decode cX7_refreshFindings 46 = .ok (.aload_n 2, 1) := by decide +kernel
theorem dX7_refreshFindings_47 : decode cX7_refreshFindings 47 = .ok (.invokevirtual 151, 3) := by decide +kernel
theorem dX7_refreshFindings_50 : decode cX7_refreshFindings 50 = .ok (.aload_n 2, 1) := by decide +kernel
theorem dX7_refreshFindings_51 : decode cX7_refreshFindings 51 = .ok (.aload_n 0, 1) := by decide +kernel
theorem dX7_refreshFindings_52 : decode cX7_refreshFindings 52 = .ok (.getfield 18, 3) := by decide +kernel
theorem dX7_refreshFindings_55 : decode cX7_refreshFindings 55 = .ok (.iload_n 1, 1) := by decide +kernel
end
section
theorem dX7_refreshFindings_56 : decode cX7_refreshFindings 56 = .ok (.aaload, 1) := by decide +kernel
theorem dX7_refreshFindings_57 : decode cX7_refreshFindings 57 = .ok (.aload_n 0, 1) := by decide +kernel
theorem dX7_refreshFindings_58 : decode cX7_refreshFindings 58 = .ok (.getfield 23, 3) := by decide +kernel
theorem dX7_refreshFindings_61 : decode cX7_refreshFindings 61 = .ok (.aload_n 0, 1) := by decide +kernel
theorem dX7_refreshFindings_62 : decode cX7_refreshFindings 62 = .ok (.getfield 55, 3) := by decide +kernel
theorem dX7_refreshFindings_65 : decode cX7_refreshFindings 65 = .ok (.aload_n 0, 1) := by decide +kernel
theorem dX7_refreshFindings_66 : decode cX7_refreshFindings 66 = .ok (.getfield 59, 3) := by decide +kernel
theorem dX7_refreshFindings_69 : decode cX7_refreshFindings 69 = .ok (.invokevirtual 230, 3) := by decide +kernel
theorem dX7_refreshFindings_72 : decode cX7_refreshFindings 72 = .ok (.iinc 1 1, 3) := by decide +kernel
theorem dX7_refreshFindings_75 : decode cX7_refreshFindings 75 = .ok (.goto (-65), 3) := by decide +kernel
theorem dX7_refreshFindings_78 : decode cX7_refreshFindings 78 = .ok (.aload_n 0, 1) := by decide +kernel
theorem dX7_refreshFindings_79 : decode cX7_refreshFindings 79 = .ok (.getfield 51, 3) := by decide +kernel
theorem dX7_refreshFindings_82 : decode cX7_refreshFindings 82 = .ok (.aload_n 0, 1) := by decide +kernel
theorem dX7_refreshFindings_83 : decode cX7_refreshFindings 83 = .ok (.getfield 87, 3) := by decide +kernel
theorem dX7_refreshFindings_86 : decode cX7_refreshFindings 86 = .ok (.invokevirtual 234, 3) := by decide +kernel
theorem dX7_refreshFindings_89 : decode cX7_refreshFindings 89 = .ok (.aload_n 0, 1) := by decide +kernel
theorem dX7_refreshFindings_90 : decode cX7_refreshFindings 90 = .ok (.iconst 0, 1) := by decide +kernel
theorem dX7_refreshFindings_91 : decode cX7_refreshFindings 91 = .ok (.putfield 62, 3) := by decide +kernel
theorem dX7_refreshFindings_94 : decode cX7_refreshFindings 94 = .ok (.return_, 1) := by decide +kernel
theorem dX7_isWithin_0 : decode cX7_isWithin 0 = .ok (.iload_n 0, 1) := by decide +kernel
theorem dX7_isWithin_1 : decode cX7_isWithin 1 = .ok (.ifCond .lt 12, 3) := by decide +kernel
theorem dX7_isWithin_4 : decode cX7_isWithin 4 = .ok (.iload_n 0, 1) := by decide +kernel
theorem dX7_isWithin_5 : decode cX7_isWithin 5 = .ok (.iload_n 1, 1) := by decide +kernel
theorem dX7_isWithin_6 : decode cX7_isWithin 6 = .ok (.if_icmp .ge 7, 3) := by decide +kernel
theorem dX7_isWithin_9 : decode cX7_isWithin 9 = .ok (.iconst 1, 1) := by decide +kernel
theorem dX7_isWithin_10 : decode cX7_isWithin 10 = .ok (.goto 4, 3) := by decide +kernel
theorem dX7_isWithin_13 : decode cX7_isWithin 13 = .ok (.iconst 0, 1) := by decide +kernel
theorem dX7_isWithin_14 : decode cX7_isWithin 14 = .ok (.ireturn, 1) := by decide +kernel
theorem dX7_isSmallLetter_0 : decode cX7_isSmallLetter 0 = .ok (.iload_n 0, 1) := by decide +kernel
theorem dX7_isSmallLetter_1 : decode cX7_isSmallLetter 1 = .ok (.bipush 97, 2) := by decide +kernel
theorem dX7_isSmallLetter_3 : decode cX7_isSmallLetter 3 = .ok (.if_icmp .lt 13, 3) := by decide +kernel
theorem dX7_isSmallLetter_6 : decode cX7_isSmallLetter 6 = .ok (.iload_n 0, 1) := by decide +kernel
theorem dX7_isSmallLetter_7 : decode cX7_isSmallLetter 7 = .ok (.bipush 122, 2) := by decide +kernel
theorem dX7_isSmallLetter_9 : decode cX7_isSmallLetter 9 = .ok (.if_icmp .gt 7, 3) := by decide +kernel
theorem dX7_isSmallLetter_12 : decode cX7_isSmallLetter 12 = .ok (.iconst 1, 1) := by decide +kernel
theorem dX7_isSmallLetter_13 : decode cX7_isSmallLetter 13 = .ok (.goto 4, 3) := by decide +kernel
theorem dX7_isSmallLetter_16 : decode cX7_isSmallLetter 16 = .ok (.iconst 0, 1) := by decide +kernel
theorem dX7_isSmallLetter_17 : decode cX7_isSmallLetter 17 = .ok (.ireturn, 1) := by decide +kernel
theorem dX7_letterNumber_0 : decode cX7_letterNumber 0 = .ok (.iload_n 0, 1) := by decide +kernel
theorem dX7_letterNumber_1 : decode cX7_letterNumber 1 = .ok (.bipush 97, 2) := by decide +kernel
theorem dX7_letterNumber_3 : decode cX7_letterNumber 3 = .ok (.isub, 1) := by decide +kernel
theorem dX7_letterNumber_4 : decode cX7_letterNumber 4 = .ok (.iconst 1, 1) := by decide +kernel
theorem dX7_letterNumber_5 : decode cX7_letterNumber 5 = .ok (.iadd, 1) := by decide +kernel
theorem dX7_letterNumber_6 : decode cX7_letterNumber 6 = .ok (.ireturn, 1) := by decide +kernel
theorem dX7_gramNumber_0 : decode cX7_gramNumber 0 = .ok (.iload_n 0, 1) := by decide +kernel
theorem dX7_gramNumber_1 : decode cX7_gramNumber 1 = .ok (.bipush 27, 2) := by decide +kernel
theorem dX7_gramNumber_3 : decode cX7_gramNumber 3 = .ok (.imul, 1) := by decide +kernel
theorem dX7_gramNumber_4 : decode cX7_gramNumber 4 = .ok (.iload_n 1, 1) := by decide +kernel
theorem dX7_gramNumber_5 : decode cX7_gramNumber 5 = .ok (.iadd, 1) := by decide +kernel
theorem dX7_gramNumber_6 : decode cX7_gramNumber 6 = .ok (.ireturn, 1) := by decide +kernel
end
section
theorem dX8_init_0 : decode cX8_init 0 = .ok (.aload_n 0, 1) := by decide +kernel
theorem dX8_init_1 : decode cX8_init 1 = .ok (.invokespecial 1, 3) := by decide +kernel
theorem dX8_init_4 : decode cX8_init 4 = .ok (.aload_n 0, 1) := by decide +kernel
theorem dX8_init_5 : decode cX8_init 5 = .ok (.bipush 48, 2) := by decide +kernel
theorem dX8_init_7 : decode cX8_init 7 = .ok (.newarray .int, 2) := by decide +kernel
theorem dX8_init_9 : decode cX8_init 9 = .ok (.putfield 7, 3) := by decide +kernel
theorem dX8_init_12 : decode cX8_init 12 = .ok (.aload_n 0, 1) := by decide +kernel
theorem dX8_init_13 : decode cX8_init 13 = .ok (.bipush 14, 2) := by decide +kernel
theorem dX8_init_15 : decode cX8_init 15 = .ok (.newarray .int, 2) := by decide +kernel
theorem dX8_init_17 : decode cX8_init 17 = .ok (.putfield 13, 3) := by decide +kernel
theorem dX8_init_20 : decode cX8_init 20 = .ok (.aload_n 0, 1) := by decide +kernel
theorem dX8_init_21 : decode cX8_init 21 = .ok (.bipush 14, 2) := by decide +kernel
theorem dX8_init_23 : decode cX8_init 23 = .ok (.newarray .int, 2) := by decide +kernel
theorem dX8_init_25 : decode cX8_init 25 = .ok (.putfield 16, 3) := by decide +kernel
theorem dX8_init_28 : decode cX8_init 28 = .ok (.aload_n 0, 1) := by decide +kernel
theorem dX8_init_29 : decode cX8_init 29 = .ok (.bipush 112, 2) := by decide +kernel
theorem dX8_init_31 : decode cX8_init 31 = .ok (.newarray .int, 2) := by decide +kernel
theorem dX8_init_33 : decode cX8_init 33 = .ok (.putfield 19, 3) := by decide +kernel
theorem dX8_init_36 : decode cX8_init 36 = .ok (.aload_n 0, 1) := by decide +kernel
theorem dX8_init_37 : decode cX8_init 37 = .ok (.bipush 112, 2) := by decide +kernel
theorem dX8_init_39 : decode cX8_init 39 = .ok (.newarray .int, 2) := by decide +kernel
theorem dX8_init_41 : decode cX8_init 41 = .ok (.putfield 22, 3) := by decide +kernel
theorem dX8_init_44 : decode cX8_init 44 = .ok (.aload_n 0, 1) := by decide +kernel
theorem dX8_init_45 : decode cX8_init 45 = .ok (.sipush 1344, 3) := by decide +kernel
theorem dX8_init_48 : decode cX8_init 48 = .ok (.newarray .int, 2) := by decide +kernel
theorem dX8_init_50 : decode cX8_init 50 = .ok (.putfield 25, 3) := by decide +kernel
theorem dX8_init_53 : decode cX8_init 53 = .ok (.aload_n 0, 1) := by decide +kernel
theorem dX8_init_54 : decode cX8_init 54 = .ok (.iconst 5, 1) := by decide +kernel
theorem dX8_init_55 : decode cX8_init 55 = .ok (.putfield 28, 3) := by decide +kernel
theorem dX8_init_58 : decode cX8_init 58 = .ok (.aload_n 0, 1) := by decide +kernel
theorem dX8_init_59 : decode cX8_init 59 = .ok (.sipush 700, 3) := by decide +kernel
theorem dX8_init_62 : decode cX8_init 62 = .ok (.putfield 32, 3) := by decide +kernel
theorem dX8_init_65 : decode cX8_init 65 = .ok (.aload_n 0, 1) := by decide +kernel
theorem dX8_init_66 : decode cX8_init 66 = .ok (.sipush 169, 3) := by decide +kernel
theorem dX8_init_69 : decode cX8_init 69 = .ok (.newarray .int, 2) := by decide +kernel
theorem dX8_init_71 : decode cX8_init 71 = .ok (.putfield 35, 3) := by decide +kernel
theorem dX8_init_74 : decode cX8_init 74 = .ok (.aload_n 0, 1) := by decide +kernel
theorem dX8_init_75 : decode cX8_init 75 = .ok (.bipush 81, 2) := by decide +kernel
theorem dX8_init_77 : decode cX8_init 77 = .ok (.newarray .int, 2) := by decide +kernel
theorem dX8_init_79 : decode cX8_init 79 = .ok (.putfield 38, 3) := by decide +kernel
theorem dX8_init_82 : decode cX8_init 82 = .ok (.aload_n 0, 1) := by decide +kernel
theorem dX8_init_83 : decode cX8_init 83 = .ok (.bipush 64, 2) := by decide +kernel
theorem dX8_init_85 : decode cX8_init 85 = .ok (.newarray .int, 2) := by decide +kernel
theorem dX8_init_87 : decode cX8_init 87 = .ok (.putfield 41, 3) := by decide +kernel
theorem dX8_init_90 : decode cX8_init 90 = .ok (.aload_n 0, 1) := by decide +kernel
theorem dX8_init_91 : decode cX8_init 91 = .ok (.bipush 16, 2) := by decide +kernel
theorem dX8_init_93 : decode cX8_init 93 = .ok (.newarray .int, 2) := by decide +kernel
theorem dX8_init_95 : decode cX8_init 95 = .ok (.putfield 44, 3) := by decide +kernel
theorem dX8_init_98 : decode cX8_init 98 = .ok (.aload_n 0, 1) := by decide +kernel
theorem dX8_init_99 : decode cX8_init 99 = .ok (.bipush 16, 2) := by decide +kernel
theorem dX8_init_101 : decode cX8_init 101 = .ok (.newarray .int, 2) := by decide +kernel
theorem dX8_init_103 : decode cX8_init 103 = .ok (.putfield 47, 3) := by decide +kernel
theorem dX8_init_106 : decode cX8_init 106 = .ok (.aload_n 0, 1) := by decide +kernel
theorem dX8_init_107 : decode cX8_init 107 = .ok (.bipush 16, 2) := by decide +kernel
theorem dX8_init_109 : decode cX8_init 109 = .ok (.newarray .int, 2) := by decide +kernel
theorem dX8_init_111 : decode cX8_init 111 = .ok (.putfield 50, 3) := by decide +kernel
theorem dX8_init_114 : decode cX8_init 114 = .ok (.aload_n 0, 1) := by decide +kernel
theorem dX8_init_115 : decode cX8_init 115 = .ok (.bipush 16, 2) := by decide +kernel
theorem dX8_init_117 : decode cX8_init 117 = .ok (.newarray .int, 2) := by decide +kernel
theorem dX8_init_119 : decode cX8_init 119 = .ok (.putfield 53, 3) := by decide +kernel
theorem dX8_init_122 : decode cX8_init 122 = .ok (.aload_n 0, 1) := by decide +kernel
theorem dX8_init_123 : decode cX8_init 123 = .ok (.sipush 784, 3) := by decide +kernel
theorem dX8_init_126 : decode cX8_init 126 = .ok (.newarray .int, 2) := by decide +kernel
theorem dX8_init_128 : decode cX8_init 128 = .ok (.putfield 56, 3) := by decide +kernel
theorem dX8_init_131 : decode cX8_init 131 = .ok (.aload_n 0, 1) := by decide +kernel
theorem dX8_init_132 : decode cX8_init 132 = .ok (.bipush 12, 2) := by decide +kernel
theorem dX8_init_134 : decode cX8_init 134 = .ok (.newarray .int, 2) := by decide +kernel
theorem dX8_init_136 : decode cX8_init 136 = .ok (.putfield 59, 3) := by decide +kernel
theorem dX8_init_139 : decode cX8_init 139 = .ok (.aload_n 0, 1) := by decide +kernel
theorem dX8_init_140 : decode cX8_init 140 = .ok (.bipush 12, 2) := by decide +kernel
theorem dX8_init_142 : decode cX8_init 142 = .ok (.newarray .int, 2) := by decide +kernel
theorem dX8_init_144 : decode cX8_init 144 = .ok (.putfield 62, 3) := by decide +kernel
theorem dX8_init_147 : decode cX8_init 147 = .ok (.aload_n 0, 1) := by decide +kernel
theorem dX8_init_148 : decode cX8_init 148 = .ok (.bipush 12, 2) := by decide +kernel
theorem dX8_init_150 : decode cX8_init 150 = .ok (.newarray .int, 2) := by decide +kernel
theorem dX8_init_152 : decode cX8_init 152 = .ok (.putfield 65, 3) := by decide +kernel
theorem dX8_init_155 : decode cX8_init 155 = .ok (.aload_n 0, 1) := by decide +kernel
theorem dX8_init_156 : decode cX8_init 156 = .ok (.bipush 8, 2) := by decide +kernel
theorem dX8_init_158 : decode cX8_init 158 = .ok (.newarray .boolean, 2) := by decide +kernel
theorem dX8_init_160 : decode cX8_init 160 = .ok (.putfield 68, 3) := by decide +kernel
theorem dX8_init_163 : decode cX8_init 163 = .ok (.aload_n 0, 1) := by decide +kernel
theorem dX8_init_164 : decode cX8_init 164 = .ok (.sipush 784, 3) := by decide +kernel
theorem dX8_init_167 : decode cX8_init 167 = .ok (.newarray .boolean, 2) := by decide +kernel
theorem dX8_init_169 : decode cX8_init 169 = .ok (.putfield 72, 3) := by decide +kernel
theorem dX8_init_172 : decode cX8_init 172 = .ok (.return_, 1) := by decide +kernel
theorem dX8_within_0 : decode cX8_within 0 = .ok (.iload_n 0, 1) := by decide +kernel
theorem dX8_within_1 : decode cX8_within 1 = .ok (.iload_n 1, 1) := by decide +kernel
theorem dX8_within_2 : decode cX8_within 2 = .ok (.if_icmp .lt 12, 3) := by decide +kernel
theorem dX8_within_5 : decode cX8_within 5 = .ok (.iload_n 0, 1) := by decide +kernel
theorem dX8_within_6 : decode cX8_within 6 = .ok (.iload_n 2, 1) := by decide +kernel
theorem dX8_within_7 : decode cX8_within 7 = .ok (.if_icmp .gt 7, 3) := by decide +kernel
theorem dX8_within_10 : decode cX8_within 10 = .ok (.iconst 1, 1) := by decide +kernel
theorem dX8_within_11 : decode cX8_within 11 = .ok (.goto 4, 3) := by decide +kernel
theorem dX8_within_14 : decode cX8_within 14 = .ok (.iconst 0, 1) := by decide +kernel
theorem dX8_within_15 : decode cX8_within 15 = .ok (.ireturn, 1) := by decide +kernel
theorem dX8_letter_0 : decode cX8_letter 0 = .ok (.iload_n 1, 1) := by decide +kernel
theorem dX8_letter_1 : decode cX8_letter 1 = .ok (.bipush 32, 2) := by decide +kernel
theorem dX8_letter_3 : decode cX8_letter 3 = .ok (.bipush 126, 2) := by decide +kernel
theorem dX8_letter_5 : decode cX8_letter 5 = .ok (.invokestatic 75, 3) := by decide +kernel
theorem dX8_letter_8 : decode cX8_letter 8 = .ok (.ifCond .ne 7, 3) := by decide +kernel
theorem dX8_letter_11 : decode cX8_letter 11 = .ok (.sipush (-1002), 3) := by decide +kernel
theorem dX8_letter_14 : decode cX8_letter 14 = .ok (.ireturn, 1) := by decide +kernel
theorem dX8_letter_15 : decode cX8_letter 15 = .ok (.aload_n 0, 1) := by decide +kernel
theorem dX8_letter_16 : decode cX8_letter 16 = .ok (.getfield 79, 3) := by decide +kernel
theorem dX8_letter_19 : decode cX8_letter 19 = .ok (.bipush 48, 2) := by decide +kernel
theorem dX8_letter_21 : decode cX8_letter 21 = .ok (.if_icmp .ne 7, 3) := by decide +kernel
theorem dX8_letter_24 : decode cX8_letter 24 = .ok (.sipush (-1004), 3) := by decide +kernel
theorem dX8_letter_27 : decode cX8_letter 27 = .ok (.ireturn, 1) := by decide +kernel
theorem dX8_letter_28 : decode cX8_letter 28 = .ok (.aload_n 0, 1) := by decide +kernel
theorem dX8_letter_29 : decode cX8_letter 29 = .ok (.getfield 7, 3) := by decide +kernel
theorem dX8_letter_32 : decode cX8_letter 32 = .ok (.aload_n 0, 1) := by decide +kernel
theorem dX8_letter_33 : decode cX8_letter 33 = .ok (.getfield 79, 3) := by decide +kernel
theorem dX8_letter_36 : decode cX8_letter 36 = .ok (.iload_n 1, 1) := by decide +kernel
theorem dX8_letter_37 : decode cX8_letter 37 = .ok (.iastore, 1) := by decide +kernel
theorem dX8_letter_38 : decode cX8_letter 38 = .ok (.aload_n 0, 1) := by decide +kernel
theorem dX8_letter_39 : decode cX8_letter 39 = .ok (.dup, 1) := by decide +kernel
theorem dX8_letter_40 : decode cX8_letter 40 = .ok (.getfield 79, 3) := by decide +kernel
theorem dX8_letter_43 : decode cX8_letter 43 = .ok (.iconst 1, 1) := by decide +kernel
theorem dX8_letter_44 : decode cX8_letter 44 = .ok (.iadd, 1) := by decide +kernel
theorem dX8_letter_45 : decode cX8_letter 45 = .ok (.putfield 79, 3) := by decide +kernel
theorem dX8_letter_48 : decode cX8_letter 48 = .ok (.aload_n 0, 1) := by decide +kernel
theorem dX8_letter_49 : decode cX8_letter 49 = .ok (.getfield 79, 3) := by decide +kernel
theorem dX8_letter_52 : decode cX8_letter 52 = .ok (.ireturn, 1) := by decide +kernel
theorem dX8_blank_0 : decode cX8_blank 0 = .ok (.aload_n 0, 1) := by decide +kernel
theorem dX8_blank_1 : decode cX8_blank 1 = .ok (.getfield 79, 3) := by decide +kernel
theorem dX8_blank_4 : decode cX8_blank 4 = .ok (.istore_n 1, 1) := by decide +kernel
theorem dX8_blank_5 : decode cX8_blank 5 = .ok (.aload_n 0, 1) := by decide +kernel
theorem dX8_blank_6 : decode cX8_blank 6 = .ok (.iconst 0, 1) := by decide +kernel
theorem dX8_blank_7 : decode cX8_blank 7 = .ok (.putfield 79, 3) := by decide +kernel
theorem dX8_blank_10 : decode cX8_blank 10 = .ok (.iload_n 1, 1) := by decide +kernel
theorem dX8_blank_11 : decode cX8_blank 11 = .ok (.ireturn, 1) := by decide +kernel
theorem dX8_begins_0 : decode cX8_begins 0 = .ok (.bipush 104, 2) := by decide +kernel
theorem dX8_begins_2 : decode cX8_begins 2 = .ok (.aload_n 0, 1) := by decide +kernel
theorem dX8_begins_3 : decode cX8_begins 3 = .ok (.getfield 13, 3) := by decide +kernel
theorem dX8_begins_6 : decode cX8_begins 6 = .ok (.bipush 13, 2) := by decide +kernel
theorem dX8_begins_8 : decode cX8_begins 8 = .ok (.iaload, 1) := by decide +kernel
theorem dX8_begins_9 : decode cX8_begins 9 = .ok (.iadd, 1) := by decide +kernel
theorem dX8_begins_10 : decode cX8_begins 10 = .ok (.istore_n 2, 1) := by decide +kernel
theorem dX8_begins_11 : decode cX8_begins 11 = .ok (.aload_n 0, 1) := by decide +kernel
theorem dX8_begins_12 : decode cX8_begins 12 = .ok (.getfield 19, 3) := by decide +kernel
theorem dX8_begins_15 : decode cX8_begins 15 = .ok (.iload_n 2, 1) := by decide +kernel
theorem dX8_begins_16 : decode cX8_begins 16 = .ok (.iconst 0, 1) := by decide +kernel
theorem dX8_begins_17 : decode cX8_begins 17 = .ok (.iastore, 1) := by decide +kernel
theorem dX8_begins_18 : decode cX8_begins 18 = .ok (.aload_n 0, 1) := by decide +kernel
theorem dX8_begins_19 : decode cX8_begins 19 = .ok (.getfield 22, 3) := by decide +kernel
theorem dX8_begins_22 : decode cX8_begins 22 = .ok (.iload_n 2, 1) := by decide +kernel
theorem dX8_begins_23 : decode cX8_begins 23 = .ok (.iconst 0, 1) := by decide +kernel
theorem dX8_begins_24 : decode cX8_begins 24 = .ok (.iastore, 1) := by decide +kernel
theorem dX8_begins_25 : decode cX8_begins 25 = .ok (.iload_n 1, 1) := by decide +kernel
theorem dX8_begins_26 : decode cX8_begins 26 = .ok (.bipush 91, 2) := by decide +kernel
theorem dX8_begins_28 : decode cX8_begins 28 = .ok (.if_icmp .ne 10, 3) := by decide +kernel
theorem dX8_begins_31 : decode cX8_begins 31 = .ok (.aload_n 0, 1) := by decide +kernel
theorem dX8_begins_32 : decode cX8_begins 32 = .ok (.iconst 2, 1) := by decide +kernel
theorem dX8_begins_33 : decode cX8_begins 33 = .ok (.putfield 82, 3) := by decide +kernel
theorem dX8_begins_36 : decode cX8_begins 36 = .ok (.iconst 1, 1) := by decide +kernel
theorem dX8_begins_37 : decode cX8_begins 37 = .ok (.ireturn, 1) := by decide +kernel
theorem dX8_begins_38 : decode cX8_begins 38 = .ok (.aload_n 0, 1) := by decide +kernel
theorem dX8_begins_39 : decode cX8_begins 39 = .ok (.iload_n 1, 1) := by decide +kernel
theorem dX8_begins_40 : decode cX8_begins 40 = .ok (.invokevirtual 85, 3) := by decide +kernel
theorem dX8_begins_43 : decode cX8_begins 43 = .ok (.ireturn, 1) := by decide +kernel
theorem dX8_takesLetter_0 : decode cX8_takesLetter 0 = .ok (.bipush 104, 2) := by decide +kernel
theorem dX8_takesLetter_2 : decode cX8_takesLetter 2 = .ok (.aload_n 0, 1) := by decide +kernel
theorem dX8_takesLetter_3 : decode cX8_takesLetter 3 = .ok (.getfield 13, 3) := by decide +kernel
theorem dX8_takesLetter_6 : decode cX8_takesLetter 6 = .ok (.bipush 13, 2) := by decide +kernel
theorem dX8_takesLetter_8 : decode cX8_takesLetter 8 = .ok (.iaload, 1) := by decide +kernel
theorem dX8_takesLetter_9 : decode cX8_takesLetter 9 = .ok (.iadd, 1) := by decide +kernel
theorem dX8_takesLetter_10 : decode cX8_takesLetter 10 = .ok (.istore_n 2, 1) := by decide +kernel
theorem dX8_takesLetter_11 : decode cX8_takesLetter 11 = .ok (.iload_n 1, 1) := by decide +kernel
theorem dX8_takesLetter_12 : decode cX8_takesLetter 12 = .ok (.bipush 97, 2) := by decide +kernel
theorem dX8_takesLetter_14 : decode cX8_takesLetter 14 = .ok (.bipush 122, 2) := by decide +kernel
theorem dX8_takesLetter_16 : decode cX8_takesLetter 16 = .ok (.invokestatic 75, 3) := by decide +kernel
theorem dX8_takesLetter_19 : decode cX8_takesLetter 19 = .ok (.ifCond .eq 14, 3) := by decide +kernel
theorem dX8_takesLetter_22 : decode cX8_takesLetter 22 = .ok (.aload_n 0, 1) := by decide +kernel
theorem dX8_takesLetter_23 : decode cX8_takesLetter 23 = .ok (.getfield 19, 3) := by decide +kernel
theorem dX8_takesLetter_26 : decode cX8_takesLetter 26 = .ok (.iload_n 2, 1) := by decide +kernel
theorem dX8_takesLetter_27 : decode cX8_takesLetter 27 = .ok (.iaload, 1) := by decide +kernel
theorem dX8_takesLetter_28 : decode cX8_takesLetter 28 = .ok (.bipush 12, 2) := by decide +kernel
theorem dX8_takesLetter_30 : decode cX8_takesLetter 30 = .ok (.if_icmp .ne 5, 3) := by decide +kernel
theorem dX8_takesLetter_33 : decode cX8_takesLetter 33 = .ok (.iconst 0, 1) := by decide +kernel
theorem dX8_takesLetter_34 : decode cX8_takesLetter 34 = .ok (.ireturn, 1) := by decide +kernel
theorem dX8_takesLetter_35 : decode cX8_takesLetter 35 = .ok (.aload_n 0, 1) := by decide +kernel
theorem dX8_takesLetter_36 : decode cX8_takesLetter 36 = .ok (.getfield 25, 3) := by decide +kernel
theorem dX8_takesLetter_39 : decode cX8_takesLetter 39 = .ok (.bipush 12, 2) := by decide +kernel
theorem dX8_takesLetter_41 : decode cX8_takesLetter 41 = .ok (.iload_n 2, 1) := by decide +kernel
theorem dX8_takesLetter_42 : decode cX8_takesLetter 42 = .ok (.imul, 1) := by decide +kernel
theorem dX8_takesLetter_43 : decode cX8_takesLetter 43 = .ok (.aload_n 0, 1) := by decide +kernel
theorem dX8_takesLetter_44 : decode cX8_takesLetter 44 = .ok (.getfield 19, 3) := by decide +kernel
theorem dX8_takesLetter_47 : decode cX8_takesLetter 47 = .ok (.iload_n 2, 1) := by decide +kernel
theorem dX8_takesLetter_48 : decode cX8_takesLetter 48 = .ok (.iaload, 1) := by decide +kernel
theorem dX8_takesLetter_49 : decode cX8_takesLetter 49 = .ok (.iadd, 1) := by decide +kernel
theorem dX8_takesLetter_50 : decode cX8_takesLetter 50 = .ok (.iload_n 1, 1) := by decide +kernel
theorem dX8_takesLetter_51 : decode cX8_takesLetter 51 = .ok (.iastore, 1) := by decide +kernel
theorem dX8_takesLetter_52 : decode cX8_takesLetter 52 = .ok (.aload_n 0, 1) := by decide +kernel
theorem dX8_takesLetter_53 : decode cX8_takesLetter 53 = .ok (.getfield 19, 3) := by decide +kernel
theorem dX8_takesLetter_56 : decode cX8_takesLetter 56 = .ok (.iload_n 2, 1) := by decide +kernel
theorem dX8_takesLetter_57 : decode cX8_takesLetter 57 = .ok (.dup2, 1) := by decide +kernel
theorem dX8_takesLetter_58 : decode cX8_takesLetter 58 = .ok (.iaload, 1) := by decide +kernel
theorem dX8_takesLetter_59 : decode cX8_takesLetter 59 = .ok (.iconst 1, 1) := by decide +kernel
theorem dX8_takesLetter_60 : decode cX8_takesLetter 60 = .ok (.iadd, 1) := by decide +kernel
theorem dX8_takesLetter_61 : decode cX8_takesLetter 61 = .ok (.iastore, 1) := by decide +kernel
theorem dX8_takesLetter_62 : decode cX8_takesLetter 62 = .ok (.aload_n 0, 1) := by decide +kernel
theorem dX8_takesLetter_63 : decode cX8_takesLetter 63 = .ok (.iconst 1, 1) := by decide +kernel
theorem dX8_takesLetter_64 : decode cX8_takesLetter 64 = .ok (.putfield 82, 3) := by decide +kernel
theorem dX8_takesLetter_67 : decode cX8_takesLetter 67 = .ok (.iconst 1, 1) := by decide +kernel
theorem dX8_takesLetter_68 : decode cX8_takesLetter 68 = .ok (.ireturn, 1) := by decide +kernel
theorem dX8_takes_0 : decode cX8_takes 0 = .ok (.aload_n 0, 1) := by decide +kernel
theorem dX8_takes_1 : decode cX8_takes 1 = .ok (.getfield 82, 3) := by decide +kernel
theorem dX8_takes_4 : decode cX8_takes 4 = .ok (.tableswitch 88 0 3 #[32, 88, 38, 71], 32) := by decide +kernel
theorem dX8_takes_36 : decode cX8_takes 36 = .ok (.aload_n 0, 1) := by decide +kernel
theorem dX8_takes_37 : decode cX8_takes 37 = .ok (.iload_n 1, 1) := by decide +kernel
theorem dX8_takes_38 : decode cX8_takes 38 = .ok (.invokevirtual 89, 3) := by decide +kernel
theorem dX8_takes_41 : decode cX8_takes 41 = .ok (.ireturn, 1) := by decide +kernel
theorem dX8_takes_42 : decode cX8_takes 42 = .ok (.aload_n 0, 1) := by decide +kernel
theorem dX8_takes_43 : decode cX8_takes 43 = .ok (.getfield 22, 3) := by decide +kernel
theorem dX8_takes_46 : decode cX8_takes 46 = .ok (.bipush 104, 2) := by decide +kernel
theorem dX8_takes_48 : decode cX8_takes 48 = .ok (.aload_n 0, 1) := by decide +kernel
theorem dX8_takes_49 : decode cX8_takes 49 = .ok (.getfield 13, 3) := by decide +kernel
theorem dX8_takes_52 : decode cX8_takes 52 = .ok (.bipush 13, 2) := by decide +kernel
theorem dX8_takes_54 : decode cX8_takes 54 = .ok (.iaload, 1) := by decide +kernel
theorem dX8_takes_55 : decode cX8_takes 55 = .ok (.iadd, 1) := by decide +kernel
theorem dX8_takes_56 : decode cX8_takes 56 = .ok (.iload_n 1, 1) := by decide +kernel
theorem dX8_takes_57 : decode cX8_takes 57 = .ok (.bipush 48, 2) := by decide +kernel
theorem dX8_takes_59 : decode cX8_takes 59 = .ok (.isub, 1) := by decide +kernel
theorem dX8_takes_60 : decode cX8_takes 60 = .ok (.iastore, 1) := by decide +kernel
theorem dX8_takes_61 : decode cX8_takes 61 = .ok (.aload_n 0, 1) := by decide +kernel
theorem dX8_takes_62 : decode cX8_takes 62 = .ok (.iconst 3, 1) := by decide +kernel
theorem dX8_takes_63 : decode cX8_takes 63 = .ok (.putfield 82, 3) := by decide +kernel
theorem dX8_takes_66 : decode cX8_takes 66 = .ok (.iload_n 1, 1) := by decide +kernel
theorem dX8_takes_67 : decode cX8_takes 67 = .ok (.bipush 49, 2) := by decide +kernel
theorem dX8_takes_69 : decode cX8_takes 69 = .ok (.bipush 57, 2) := by decide +kernel
theorem dX8_takes_71 : decode cX8_takes 71 = .ok (.invokestatic 75, 3) := by decide +kernel
theorem dX8_takes_74 : decode cX8_takes 74 = .ok (.ireturn, 1) := by decide +kernel
theorem dX8_takes_75 : decode cX8_takes 75 = .ok (.aload_n 0, 1) := by decide +kernel
theorem dX8_takes_76 : decode cX8_takes 76 = .ok (.iconst 4, 1) := by decide +kernel
theorem dX8_takes_77 : decode cX8_takes 77 = .ok (.putfield 82, 3) := by decide +kernel
theorem dX8_takes_80 : decode cX8_takes 80 = .ok (.iload_n 1, 1) := by decide +kernel
theorem dX8_takes_81 : decode cX8_takes 81 = .ok (.bipush 93, 2) := by decide +kernel
theorem dX8_takes_83 : decode cX8_takes 83 = .ok (.if_icmp .ne 7, 3) := by decide +kernel
theorem dX8_takes_86 : decode cX8_takes 86 = .ok (.iconst 1, 1) := by decide +kernel
theorem dX8_takes_87 : decode cX8_takes 87 = .ok (.goto 4, 3) := by decide +kernel
theorem dX8_takes_90 : decode cX8_takes 90 = .ok (.iconst 0, 1) := by decide +kernel
theorem dX8_takes_91 : decode cX8_takes 91 = .ok (.ireturn, 1) := by decide +kernel
theorem dX8_takes_92 : decode cX8_takes 92 = .ok (.iload_n 1, 1) := by decide +kernel
theorem dX8_takes_93 : decode cX8_takes 93 = .ok (.bipush 32, 2) := by decide +kernel
theorem dX8_takes_95 : decode cX8_takes 95 = .ok (.if_icmp .ne 33, 3) := by decide +kernel
theorem dX8_takes_98 : decode cX8_takes 98 = .ok (.aload_n 0, 1) := by decide +kernel
theorem dX8_takes_99 : decode cX8_takes 99 = .ok (.getfield 13, 3) := by decide +kernel
theorem dX8_takes_102 : decode cX8_takes 102 = .ok (.bipush 13, 2) := by decide +kernel
theorem dX8_takes_104 : decode cX8_takes 104 = .ok (.iaload, 1) := by decide +kernel
theorem dX8_takes_105 : decode cX8_takes 105 = .ok (.bipush 7, 2) := by decide +kernel
theorem dX8_takes_107 : decode cX8_takes 107 = .ok (.if_icmp .ge 21, 3) := by decide +kernel
theorem dX8_takes_110 : decode cX8_takes 110 = .ok (.aload_n 0, 1) := by decide +kernel
theorem dX8_takes_111 : decode cX8_takes 111 = .ok (.getfield 13, 3) := by decide +kernel
theorem dX8_takes_114 : decode cX8_takes 114 = .ok (.bipush 13, 2) := by decide +kernel
theorem dX8_takes_116 : decode cX8_takes 116 = .ok (.dup2, 1) := by decide +kernel
theorem dX8_takes_117 : decode cX8_takes 117 = .ok (.iaload, 1) := by decide +kernel
theorem dX8_takes_118 : decode cX8_takes 118 = .ok (.iconst 1, 1) := by decide +kernel
theorem dX8_takes_119 : decode cX8_takes 119 = .ok (.iadd, 1) := by decide +kernel
theorem dX8_takes_120 : decode cX8_takes 120 = .ok (.iastore, 1) := by decide +kernel
theorem dX8_takes_121 : decode cX8_takes 121 = .ok (.aload_n 0, 1) := by decide +kernel
theorem dX8_takes_122 : decode cX8_takes 122 = .ok (.iconst 0, 1) := by decide +kernel
theorem dX8_takes_123 : decode cX8_takes 123 = .ok (.putfield 82, 3) := by decide +kernel
theorem dX8_takes_126 : decode cX8_takes 126 = .ok (.iconst 1, 1) := by decide +kernel
theorem dX8_takes_127 : decode cX8_takes 127 = .ok (.ireturn, 1) := by decide +kernel
theorem dX8_takes_128 : decode cX8_takes 128 = .ok (.aload_n 0, 1) := by decide +kernel
theorem dX8_takes_129 : decode cX8_takes 129 = .ok (.getfield 82, 3) := by decide +kernel
theorem dX8_takes_132 : decode cX8_takes 132 = .ok (.iconst 1, 1) := by decide +kernel
theorem dX8_takes_133 : decode cX8_takes 133 = .ok (.if_icmp .ne 15, 3) := by decide +kernel
theorem dX8_takes_136 : decode cX8_takes 136 = .ok (.aload_n 0, 1) := by decide +kernel
theorem dX8_takes_137 : decode cX8_takes 137 = .ok (.iload_n 1, 1) := by decide +kernel
theorem dX8_takes_138 : decode cX8_takes 138 = .ok (.invokevirtual 85, 3) := by decide +kernel
theorem dX8_takes_141 : decode cX8_takes 141 = .ok (.ifCond .eq 7, 3) := by decide +kernel
theorem dX8_takes_144 : decode cX8_takes 144 = .ok (.iconst 1, 1) := by decide +kernel
theorem dX8_takes_145 : decode cX8_takes 145 = .ok (.goto 4, 3) := by decide +kernel
theorem dX8_takes_148 : decode cX8_takes 148 = .ok (.iconst 0, 1) := by decide +kernel
theorem dX8_takes_149 : decode cX8_takes 149 = .ok (.ireturn, 1) := by decide +kernel
theorem dX8_readPage_0 : decode cX8_readPage 0 = .ok (.aload_n 0, 1) := by decide +kernel
theorem dX8_readPage_1 : decode cX8_readPage 1 = .ok (.getfield 13, 3) := by decide +kernel
theorem dX8_readPage_4 : decode cX8_readPage 4 = .ok (.bipush 13, 2) := by decide +kernel
theorem dX8_readPage_6 : decode cX8_readPage 6 = .ok (.iconst 0, 1) := by decide +kernel
theorem dX8_readPage_7 : decode cX8_readPage 7 = .ok (.iastore, 1) := by decide +kernel
theorem dX8_readPage_8 : decode cX8_readPage 8 = .ok (.aload_n 0, 1) := by decide +kernel
theorem dX8_readPage_9 : decode cX8_readPage 9 = .ok (.iconst 0, 1) := by decide +kernel
theorem dX8_readPage_10 : decode cX8_readPage 10 = .ok (.putfield 82, 3) := by decide +kernel
theorem dX8_readPage_13 : decode cX8_readPage 13 = .ok (.iconst 0, 1) := by decide +kernel
theorem dX8_readPage_14 : decode cX8_readPage 14 = .ok (.istore_n 1, 1) := by decide +kernel
theorem dX8_readPage_15 : decode cX8_readPage 15 = .ok (.iload_n 1, 1) := by decide +kernel
theorem dX8_readPage_16 : decode cX8_readPage 16 = .ok (.aload_n 0, 1) := by decide +kernel
theorem dX8_readPage_17 : decode cX8_readPage 17 = .ok (.getfield 79, 3) := by decide +kernel
theorem dX8_readPage_20 : decode cX8_readPage 20 = .ok (.if_icmp .ge 22, 3) := by decide +kernel
theorem dX8_readPage_23 : decode cX8_readPage 23 = .ok (.aload_n 0, 1) := by decide +kernel
theorem dX8_readPage_24 : decode cX8_readPage 24 = .ok (.aload_n 0, 1) := by decide +kernel
theorem dX8_readPage_25 : decode cX8_readPage 25 = .ok (.getfield 7, 3) := by decide +kernel
theorem dX8_readPage_28 : decode cX8_readPage 28 = .ok (.iload_n 1, 1) := by decide +kernel
theorem dX8_readPage_29 : decode cX8_readPage 29 = .ok (.iaload, 1) := by decide +kernel
theorem dX8_readPage_30 : decode cX8_readPage 30 = .ok (.invokevirtual 92, 3) := by decide +kernel
theorem dX8_readPage_33 : decode cX8_readPage 33 = .ok (.ifCond .eq 9, 3) := by decide +kernel
theorem dX8_readPage_36 : decode cX8_readPage 36 = .ok (.iinc 1 1, 3) := by decide +kernel
theorem dX8_readPage_39 : decode cX8_readPage 39 = .ok (.goto (-24), 3) := by decide +kernel
theorem dX8_readPage_42 : decode cX8_readPage 42 = .ok (.iload_n 1, 1) := by decide +kernel
theorem dX8_readPage_43 : decode cX8_readPage 43 = .ok (.ireturn, 1) := by decide +kernel
theorem dX8_fault_0 : decode cX8_fault 0 = .ok (.aload_n 0, 1) := by decide +kernel
theorem dX8_fault_1 : decode cX8_fault 1 = .ok (.invokevirtual 95, 3) := by decide +kernel
theorem dX8_fault_4 : decode cX8_fault 4 = .ok (.ireturn, 1) := by decide +kernel
theorem dX8_isSegment_0 : decode cX8_isSegment 0 = .ok (.aload_n 0, 1) := by decide +kernel
theorem dX8_isSegment_1 : decode cX8_isSegment 1 = .ok (.invokevirtual 95, 3) := by decide +kernel
theorem dX8_isSegment_4 : decode cX8_isSegment 4 = .ok (.aload_n 0, 1) := by decide +kernel
theorem dX8_isSegment_5 : decode cX8_isSegment 5 = .ok (.getfield 79, 3) := by decide +kernel
theorem dX8_isSegment_8 : decode cX8_isSegment 8 = .ok (.if_icmp .ne 23, 3) := by decide +kernel
theorem dX8_isSegment_11 : decode cX8_isSegment 11 = .ok (.aload_n 0, 1) := by decide +kernel
theorem dX8_isSegment_12 : decode cX8_isSegment 12 = .ok (.getfield 82, 3) := by decide +kernel
theorem dX8_isSegment_15 : decode cX8_isSegment 15 = .ok (.iconst 1, 1) := by decide +kernel
theorem dX8_isSegment_16 : decode cX8_isSegment 16 = .ok (.if_icmp .eq 11, 3) := by decide +kernel
theorem dX8_isSegment_19 : decode cX8_isSegment 19 = .ok (.aload_n 0, 1) := by decide +kernel
theorem dX8_isSegment_20 : decode cX8_isSegment 20 = .ok (.getfield 82, 3) := by decide +kernel
theorem dX8_isSegment_23 : decode cX8_isSegment 23 = .ok (.iconst 4, 1) := by decide +kernel
theorem dX8_isSegment_24 : decode cX8_isSegment 24 = .ok (.if_icmp .ne 7, 3) := by decide +kernel
theorem dX8_isSegment_27 : decode cX8_isSegment 27 = .ok (.iconst 1, 1) := by decide +kernel
theorem dX8_isSegment_28 : decode cX8_isSegment 28 = .ok (.goto 4, 3) := by decide +kernel
theorem dX8_isSegment_31 : decode cX8_isSegment 31 = .ok (.iconst 0, 1) := by decide +kernel
theorem dX8_isSegment_32 : decode cX8_isSegment 32 = .ok (.istore_n 1, 1) := by decide +kernel
theorem dX8_isSegment_33 : decode cX8_isSegment 33 = .ok (.aload_n 0, 1) := by decide +kernel
theorem dX8_isSegment_34 : decode cX8_isSegment 34 = .ok (.getfield 13, 3) := by decide +kernel
theorem dX8_isSegment_37 : decode cX8_isSegment 37 = .ok (.bipush 13, 2) := by decide +kernel
theorem dX8_isSegment_39 : decode cX8_isSegment 39 = .ok (.dup2, 1) := by decide +kernel
theorem dX8_isSegment_40 : decode cX8_isSegment 40 = .ok (.iaload, 1) := by decide +kernel
theorem dX8_isSegment_41 : decode cX8_isSegment 41 = .ok (.iload_n 1, 1) := by decide +kernel
theorem dX8_isSegment_42 : decode cX8_isSegment 42 = .ok (.ifCond .eq 7, 3) := by decide +kernel
theorem dX8_isSegment_45 : decode cX8_isSegment 45 = .ok (.iconst 1, 1) := by decide +kernel
theorem dX8_isSegment_46 : decode cX8_isSegment 46 = .ok (.goto 4, 3) := by decide +kernel
theorem dX8_isSegment_49 : decode cX8_isSegment 49 = .ok (.iconst 0, 1) := by decide +kernel
theorem dX8_isSegment_50 : decode cX8_isSegment 50 = .ok (.iadd, 1) := by decide +kernel
theorem dX8_isSegment_51 : decode cX8_isSegment 51 = .ok (.iastore, 1) := by decide +kernel
theorem dX8_isSegment_52 : decode cX8_isSegment 52 = .ok (.iload_n 1, 1) := by decide +kernel
theorem dX8_isSegment_53 : decode cX8_isSegment 53 = .ok (.ireturn, 1) := by decide +kernel
theorem dX8_copy_0 : decode cX8_copy 0 = .ok (.aload_n 0, 1) := by decide +kernel
theorem dX8_copy_1 : decode cX8_copy 1 = .ok (.getfield 13, 3) := by decide +kernel
theorem dX8_copy_4 : decode cX8_copy 4 = .ok (.iload_n 2, 1) := by decide +kernel
theorem dX8_copy_5 : decode cX8_copy 5 = .ok (.aload_n 0, 1) := by decide +kernel
theorem dX8_copy_6 : decode cX8_copy 6 = .ok (.getfield 13, 3) := by decide +kernel
theorem dX8_copy_9 : decode cX8_copy 9 = .ok (.iload_n 1, 1) := by decide +kernel
theorem dX8_copy_10 : decode cX8_copy 10 = .ok (.iaload, 1) := by decide +kernel
theorem dX8_copy_11 : decode cX8_copy 11 = .ok (.iastore, 1) := by decide +kernel
theorem dX8_copy_12 : decode cX8_copy 12 = .ok (.aload_n 0, 1) := by decide +kernel
theorem dX8_copy_13 : decode cX8_copy 13 = .ok (.getfield 16, 3) := by decide +kernel
theorem dX8_copy_16 : decode cX8_copy 16 = .ok (.iload_n 2, 1) := by decide +kernel
theorem dX8_copy_17 : decode cX8_copy 17 = .ok (.aload_n 0, 1) := by decide +kernel
theorem dX8_copy_18 : decode cX8_copy 18 = .ok (.getfield 16, 3) := by decide +kernel
theorem dX8_copy_21 : decode cX8_copy 21 = .ok (.iload_n 1, 1) := by decide +kernel
theorem dX8_copy_22 : decode cX8_copy 22 = .ok (.iaload, 1) := by decide +kernel
theorem dX8_copy_23 : decode cX8_copy 23 = .ok (.iastore, 1) := by decide +kernel
theorem dX8_copy_24 : decode cX8_copy 24 = .ok (.iconst 0, 1) := by decide +kernel
theorem dX8_copy_25 : decode cX8_copy 25 = .ok (.istore_n 3, 1) := by decide +kernel
theorem dX8_copy_26 : decode cX8_copy 26 = .ok (.iload_n 3, 1) := by decide +kernel
theorem dX8_copy_27 : decode cX8_copy 27 = .ok (.bipush 8, 2) := by decide +kernel
theorem dX8_copy_29 : decode cX8_copy 29 = .ok (.if_icmp .ge 53, 3) := by decide +kernel
theorem dX8_copy_32 : decode cX8_copy 32 = .ok (.aload_n 0, 1) := by decide +kernel
theorem dX8_copy_33 : decode cX8_copy 33 = .ok (.getfield 19, 3) := by decide +kernel
theorem dX8_copy_36 : decode cX8_copy 36 = .ok (.bipush 8, 2) := by decide +kernel
theorem dX8_copy_38 : decode cX8_copy 38 = .ok (.iload_n 2, 1) := by decide +kernel
theorem dX8_copy_39 : decode cX8_copy 39 = .ok (.imul, 1) := by decide +kernel
theorem dX8_copy_40 : decode cX8_copy 40 = .ok (.iload_n 3, 1) := by decide +kernel
theorem dX8_copy_41 : decode cX8_copy 41 = .ok (.iadd, 1) := by decide +kernel
theorem dX8_copy_42 : decode cX8_copy 42 = .ok (.aload_n 0, 1) := by decide +kernel
theorem dX8_copy_43 : decode cX8_copy 43 = .ok (.getfield 19, 3) := by decide +kernel
theorem dX8_copy_46 : decode cX8_copy 46 = .ok (.bipush 8, 2) := by decide +kernel
theorem dX8_copy_48 : decode cX8_copy 48 = .ok (.iload_n 1, 1) := by decide +kernel
theorem dX8_copy_49 : decode cX8_copy 49 = .ok (.imul, 1) := by decide +kernel
theorem dX8_copy_50 : decode cX8_copy 50 = .ok (.iload_n 3, 1) := by decide +kernel
theorem dX8_copy_51 : decode cX8_copy 51 = .ok (.iadd, 1) := by decide +kernel
theorem dX8_copy_52 : decode cX8_copy 52 = .ok (.iaload, 1) := by decide +kernel
theorem dX8_copy_53 : decode cX8_copy 53 = .ok (.iastore, 1) := by decide +kernel
theorem dX8_copy_54 : decode cX8_copy 54 = .ok (.aload_n 0, 1) := by decide +kernel
theorem dX8_copy_55 : decode cX8_copy 55 = .ok (.getfield 22, 3) := by decide +kernel
theorem dX8_copy_58 : decode cX8_copy 58 = .ok (.bipush 8, 2) := by decide +kernel
theorem dX8_copy_60 : decode cX8_copy 60 = .ok (.iload_n 2, 1) := by decide +kernel
theorem dX8_copy_61 : decode cX8_copy 61 = .ok (.imul, 1) := by decide +kernel
theorem dX8_copy_62 : decode cX8_copy 62 = .ok (.iload_n 3, 1) := by decide +kernel
theorem dX8_copy_63 : decode cX8_copy 63 = .ok (.iadd, 1) := by decide +kernel
theorem dX8_copy_64 : decode cX8_copy 64 = .ok (.aload_n 0, 1) := by decide +kernel
theorem dX8_copy_65 : decode cX8_copy 65 = .ok (.getfield 22, 3) := by decide +kernel
theorem dX8_copy_68 : decode cX8_copy 68 = .ok (.bipush 8, 2) := by decide +kernel
theorem dX8_copy_70 : decode cX8_copy 70 = .ok (.iload_n 1, 1) := by decide +kernel
theorem dX8_copy_71 : decode cX8_copy 71 = .ok (.imul, 1) := by decide +kernel
theorem dX8_copy_72 : decode cX8_copy 72 = .ok (.iload_n 3, 1) := by decide +kernel
theorem dX8_copy_73 : decode cX8_copy 73 = .ok (.iadd, 1) := by decide +kernel
theorem dX8_copy_74 : decode cX8_copy 74 = .ok (.iaload, 1) := by decide +kernel
theorem dX8_copy_75 : decode cX8_copy 75 = .ok (.iastore, 1) := by decide +kernel
theorem dX8_copy_76 : decode cX8_copy 76 = .ok (.iinc 3 1, 3) := by decide +kernel
theorem dX8_copy_79 : decode cX8_copy 79 = .ok (.goto (-53), 3) := by decide +kernel
theorem dX8_copy_82 : decode cX8_copy 82 = .ok (.iconst 0, 1) := by decide +kernel
theorem dX8_copy_83 : decode cX8_copy 83 = .ok (.istore_n 3, 1) := by decide +kernel
theorem dX8_copy_84 : decode cX8_copy 84 = .ok (.iload_n 3, 1) := by decide +kernel
theorem dX8_copy_85 : decode cX8_copy 85 = .ok (.bipush 96, 2) := by decide +kernel
theorem dX8_copy_87 : decode cX8_copy 87 = .ok (.if_icmp .ge 31, 3) := by decide +kernel
theorem dX8_copy_90 : decode cX8_copy 90 = .ok (.aload_n 0, 1) := by decide +kernel
theorem dX8_copy_91 : decode cX8_copy 91 = .ok (.getfield 25, 3) := by decide +kernel
theorem dX8_copy_94 : decode cX8_copy 94 = .ok (.bipush 96, 2) := by decide +kernel
theorem dX8_copy_96 : decode cX8_copy 96 = .ok (.iload_n 2, 1) := by decide +kernel
theorem dX8_copy_97 : decode cX8_copy 97 = .ok (.imul, 1) := by decide +kernel
theorem dX8_copy_98 : decode cX8_copy 98 = .ok (.iload_n 3, 1) := by decide +kernel
theorem dX8_copy_99 : decode cX8_copy 99 = .ok (.iadd, 1) := by decide +kernel
theorem dX8_copy_100 : decode cX8_copy 100 = .ok (.aload_n 0, 1) := by decide +kernel
theorem dX8_copy_101 : decode cX8_copy 101 = .ok (.getfield 25, 3) := by decide +kernel
theorem dX8_copy_104 : decode cX8_copy 104 = .ok (.bipush 96, 2) := by decide +kernel
theorem dX8_copy_106 : decode cX8_copy 106 = .ok (.iload_n 1, 1) := by decide +kernel
theorem dX8_copy_107 : decode cX8_copy 107 = .ok (.imul, 1) := by decide +kernel
theorem dX8_copy_108 : decode cX8_copy 108 = .ok (.iload_n 3, 1) := by decide +kernel
theorem dX8_copy_109 : decode cX8_copy 109 = .ok (.iadd, 1) := by decide +kernel
theorem dX8_copy_110 : decode cX8_copy 110 = .ok (.iaload, 1) := by decide +kernel
theorem dX8_copy_111 : decode cX8_copy 111 = .ok (.iastore, 1) := by decide +kernel
theorem dX8_copy_112 : decode cX8_copy 112 = .ok (.iinc 3 1, 3) := by decide +kernel
theorem dX8_copy_115 : decode cX8_copy 115 = .ok (.goto (-31), 3) := by decide +kernel
theorem dX8_copy_118 : decode cX8_copy 118 = .ok (.return_, 1) := by decide +kernel
theorem dX8_areSame_0 : decode cX8_areSame 0 = .ok (.aload_n 0, 1) := by decide +kernel
theorem dX8_areSame_1 : decode cX8_areSame 1 = .ok (.getfield 13, 3) := by decide +kernel
theorem dX8_areSame_4 : decode cX8_areSame 4 = .ok (.iload_n 1, 1) := by decide +kernel
theorem dX8_areSame_5 : decode cX8_areSame 5 = .ok (.iaload, 1) := by decide +kernel
theorem dX8_areSame_6 : decode cX8_areSame 6 = .ok (.aload_n 0, 1) := by decide +kernel
theorem dX8_areSame_7 : decode cX8_areSame 7 = .ok (.getfield 13, 3) := by decide +kernel
theorem dX8_areSame_10 : decode cX8_areSame 10 = .ok (.iload_n 2, 1) := by decide +kernel
theorem dX8_areSame_11 : decode cX8_areSame 11 = .ok (.iaload, 1) := by decide +kernel
theorem dX8_areSame_12 : decode cX8_areSame 12 = .ok (.if_icmp .ne 7, 3) := by decide +kernel
theorem dX8_areSame_15 : decode cX8_areSame 15 = .ok (.iconst 1, 1) := by decide +kernel
theorem dX8_areSame_16 : decode cX8_areSame 16 = .ok (.goto 4, 3) := by decide +kernel
theorem dX8_areSame_19 : decode cX8_areSame 19 = .ok (.iconst 0, 1) := by decide +kernel
theorem dX8_areSame_20 : decode cX8_areSame 20 = .ok (.istore_n 3, 1) := by decide +kernel
theorem dX8_areSame_21 : decode cX8_areSame 21 = .ok (.iconst 0, 1) := by decide +kernel
theorem dX8_areSame_22 : decode cX8_areSame 22 = .ok (.istore 4, 2) := by decide +kernel
theorem dX8_areSame_24 : decode cX8_areSame 24 = .ok (.iload 4, 2) := by decide +kernel
theorem dX8_areSame_26 : decode cX8_areSame 26 = .ok (.aload_n 0, 1) := by decide +kernel
theorem dX8_areSame_27 : decode cX8_areSame 27 = .ok (.getfield 13, 3) := by decide +kernel
theorem dX8_areSame_30 : decode cX8_areSame 30 = .ok (.iload_n 1, 1) := by decide +kernel
theorem dX8_areSame_31 : decode cX8_areSame 31 = .ok (.iaload, 1) := by decide +kernel
theorem dX8_areSame_32 : decode cX8_areSame 32 = .ok (.if_icmp .ge 32, 3) := by decide +kernel
theorem dX8_areSame_35 : decode cX8_areSame 35 = .ok (.iload_n 3, 1) := by decide +kernel
theorem dX8_areSame_36 : decode cX8_areSame 36 = .ok (.ifCond .eq 28, 3) := by decide +kernel
theorem dX8_areSame_39 : decode cX8_areSame 39 = .ok (.aload_n 0, 1) := by decide +kernel
theorem dX8_areSame_40 : decode cX8_areSame 40 = .ok (.bipush 8, 2) := by decide +kernel
theorem dX8_areSame_42 : decode cX8_areSame 42 = .ok (.iload_n 1, 1) := by decide +kernel
theorem dX8_areSame_43 : decode cX8_areSame 43 = .ok (.imul, 1) := by decide +kernel
theorem dX8_areSame_44 : decode cX8_areSame 44 = .ok (.iload 4, 2) := by decide +kernel
theorem dX8_areSame_46 : decode cX8_areSame 46 = .ok (.iadd, 1) := by decide +kernel
theorem dX8_areSame_47 : decode cX8_areSame 47 = .ok (.bipush 8, 2) := by decide +kernel
theorem dX8_areSame_49 : decode cX8_areSame 49 = .ok (.iload_n 2, 1) := by decide +kernel
theorem dX8_areSame_50 : decode cX8_areSame 50 = .ok (.imul, 1) := by decide +kernel
theorem dX8_areSame_51 : decode cX8_areSame 51 = .ok (.iload 4, 2) := by decide +kernel
theorem dX8_areSame_53 : decode cX8_areSame 53 = .ok (.iadd, 1) := by decide +kernel
theorem dX8_areSame_54 : decode cX8_areSame 54 = .ok (.invokevirtual 99, 3) := by decide +kernel
theorem dX8_areSame_57 : decode cX8_areSame 57 = .ok (.istore_n 3, 1) := by decide +kernel
theorem dX8_areSame_58 : decode cX8_areSame 58 = .ok (.iinc 4 1, 3) := by decide +kernel
theorem dX8_areSame_61 : decode cX8_areSame 61 = .ok (.goto (-37), 3) := by decide +kernel
theorem dX8_areSame_64 : decode cX8_areSame 64 = .ok (.iload_n 3, 1) := by decide +kernel
theorem dX8_areSame_65 : decode cX8_areSame 65 = .ok (.ireturn, 1) := by decide +kernel
theorem dX8_isSameSign_0 : decode cX8_isSameSign 0 = .ok (.aload_n 0, 1) := by decide +kernel
theorem dX8_isSameSign_1 : decode cX8_isSameSign 1 = .ok (.getfield 19, 3) := by decide +kernel
theorem dX8_isSameSign_4 : decode cX8_isSameSign 4 = .ok (.iload_n 1, 1) := by decide +kernel
theorem dX8_isSameSign_5 : decode cX8_isSameSign 5 = .ok (.iaload, 1) := by decide +kernel
theorem dX8_isSameSign_6 : decode cX8_isSameSign 6 = .ok (.aload_n 0, 1) := by decide +kernel
theorem dX8_isSameSign_7 : decode cX8_isSameSign 7 = .ok (.getfield 19, 3) := by decide +kernel
theorem dX8_isSameSign_10 : decode cX8_isSameSign 10 = .ok (.iload_n 2, 1) := by decide +kernel
theorem dX8_isSameSign_11 : decode cX8_isSameSign 11 = .ok (.iaload, 1) := by decide +kernel
theorem dX8_isSameSign_12 : decode cX8_isSameSign 12 = .ok (.if_icmp .ne 31, 3) := by decide +kernel
theorem dX8_isSameSign_15 : decode cX8_isSameSign 15 = .ok (.aload_n 0, 1) := by decide +kernel
theorem dX8_isSameSign_16 : decode cX8_isSameSign 16 = .ok (.getfield 19, 3) := by decide +kernel
theorem dX8_isSameSign_19 : decode cX8_isSameSign 19 = .ok (.iload_n 1, 1) := by decide +kernel
theorem dX8_isSameSign_20 : decode cX8_isSameSign 20 = .ok (.iaload, 1) := by decide +kernel
theorem dX8_isSameSign_21 : decode cX8_isSameSign 21 = .ok (.ifCond .gt 18, 3) := by decide +kernel
theorem dX8_isSameSign_24 : decode cX8_isSameSign 24 = .ok (.aload_n 0, 1) := by decide +kernel
theorem dX8_isSameSign_25 : decode cX8_isSameSign 25 = .ok (.getfield 22, 3) := by decide +kernel
theorem dX8_isSameSign_28 : decode cX8_isSameSign 28 = .ok (.iload_n 1, 1) := by decide +kernel
theorem dX8_isSameSign_29 : decode cX8_isSameSign 29 = .ok (.iaload, 1) := by decide +kernel
theorem dX8_isSameSign_30 : decode cX8_isSameSign 30 = .ok (.aload_n 0, 1) := by decide +kernel
theorem dX8_isSameSign_31 : decode cX8_isSameSign 31 = .ok (.getfield 22, 3) := by decide +kernel
theorem dX8_isSameSign_34 : decode cX8_isSameSign 34 = .ok (.iload_n 2, 1) := by decide +kernel
theorem dX8_isSameSign_35 : decode cX8_isSameSign 35 = .ok (.iaload, 1) := by decide +kernel
theorem dX8_isSameSign_36 : decode cX8_isSameSign 36 = .ok (.if_icmp .ne 7, 3) := by decide +kernel
theorem dX8_isSameSign_39 : decode cX8_isSameSign 39 = .ok (.iconst 1, 1) := by decide +kernel
theorem dX8_isSameSign_40 : decode cX8_isSameSign 40 = .ok (.goto 4, 3) := by decide +kernel
theorem dX8_isSameSign_43 : decode cX8_isSameSign 43 = .ok (.iconst 0, 1) := by decide +kernel
theorem dX8_isSameSign_44 : decode cX8_isSameSign 44 = .ok (.istore_n 3, 1) := by decide +kernel
theorem dX8_isSameSign_45 : decode cX8_isSameSign 45 = .ok (.iconst 0, 1) := by decide +kernel
theorem dX8_isSameSign_46 : decode cX8_isSameSign 46 = .ok (.istore 4, 2) := by decide +kernel
theorem dX8_isSameSign_48 : decode cX8_isSameSign 48 = .ok (.iload 4, 2) := by decide +kernel
theorem dX8_isSameSign_50 : decode cX8_isSameSign 50 = .ok (.aload_n 0, 1) := by decide +kernel
theorem dX8_isSameSign_51 : decode cX8_isSameSign 51 = .ok (.getfield 19, 3) := by decide +kernel
theorem dX8_isSameSign_54 : decode cX8_isSameSign 54 = .ok (.iload_n 1, 1) := by decide +kernel
theorem dX8_isSameSign_55 : decode cX8_isSameSign 55 = .ok (.iaload, 1) := by decide +kernel
theorem dX8_isSameSign_56 : decode cX8_isSameSign 56 = .ok (.if_icmp .ge 46, 3) := by decide +kernel
theorem dX8_isSameSign_59 : decode cX8_isSameSign 59 = .ok (.iload_n 3, 1) := by decide +kernel
theorem dX8_isSameSign_60 : decode cX8_isSameSign 60 = .ok (.ifCond .eq 42, 3) := by decide +kernel
theorem dX8_isSameSign_63 : decode cX8_isSameSign 63 = .ok (.aload_n 0, 1) := by decide +kernel
theorem dX8_isSameSign_64 : decode cX8_isSameSign 64 = .ok (.getfield 25, 3) := by decide +kernel
theorem dX8_isSameSign_67 : decode cX8_isSameSign 67 = .ok (.bipush 12, 2) := by decide +kernel
theorem dX8_isSameSign_69 : decode cX8_isSameSign 69 = .ok (.iload_n 1, 1) := by decide +kernel
theorem dX8_isSameSign_70 : decode cX8_isSameSign 70 = .ok (.imul, 1) := by decide +kernel
theorem dX8_isSameSign_71 : decode cX8_isSameSign 71 = .ok (.iload 4, 2) := by decide +kernel
theorem dX8_isSameSign_73 : decode cX8_isSameSign 73 = .ok (.iadd, 1) := by decide +kernel
theorem dX8_isSameSign_74 : decode cX8_isSameSign 74 = .ok (.iaload, 1) := by decide +kernel
theorem dX8_isSameSign_75 : decode cX8_isSameSign 75 = .ok (.aload_n 0, 1) := by decide +kernel
theorem dX8_isSameSign_76 : decode cX8_isSameSign 76 = .ok (.getfield 25, 3) := by decide +kernel
theorem dX8_isSameSign_79 : decode cX8_isSameSign 79 = .ok (.bipush 12, 2) := by decide +kernel
theorem dX8_isSameSign_81 : decode cX8_isSameSign 81 = .ok (.iload_n 2, 1) := by decide +kernel
theorem dX8_isSameSign_82 : decode cX8_isSameSign 82 = .ok (.imul, 1) := by decide +kernel
theorem dX8_isSameSign_83 : decode cX8_isSameSign 83 = .ok (.iload 4, 2) := by decide +kernel
theorem dX8_isSameSign_85 : decode cX8_isSameSign 85 = .ok (.iadd, 1) := by decide +kernel
theorem dX8_isSameSign_86 : decode cX8_isSameSign 86 = .ok (.iaload, 1) := by decide +kernel
theorem dX8_isSameSign_87 : decode cX8_isSameSign 87 = .ok (.if_icmp .ne 7, 3) := by decide +kernel
theorem dX8_isSameSign_90 : decode cX8_isSameSign 90 = .ok (.iconst 1, 1) := by decide +kernel
theorem dX8_isSameSign_91 : decode cX8_isSameSign 91 = .ok (.goto 4, 3) := by decide +kernel
theorem dX8_isSameSign_94 : decode cX8_isSameSign 94 = .ok (.iconst 0, 1) := by decide +kernel
theorem dX8_isSameSign_95 : decode cX8_isSameSign 95 = .ok (.istore_n 3, 1) := by decide +kernel
theorem dX8_isSameSign_96 : decode cX8_isSameSign 96 = .ok (.iinc 4 1, 3) := by decide +kernel
theorem dX8_isSameSign_99 : decode cX8_isSameSign 99 = .ok (.goto (-51), 3) := by decide +kernel
theorem dX8_isSameSign_102 : decode cX8_isSameSign 102 = .ok (.iload_n 3, 1) := by decide +kernel
theorem dX8_isSameSign_103 : decode cX8_isSameSign 103 = .ok (.ireturn, 1) := by decide +kernel
theorem dX8_keep_0 : decode cX8_keep 0 = .ok (.aload_n 0, 1) := by decide +kernel
theorem dX8_keep_1 : decode cX8_keep 1 = .ok (.invokevirtual 103, 3) := by decide +kernel
theorem dX8_keep_4 : decode cX8_keep 4 = .ok (.ifCond .ne 7, 3) := by decide +kernel
theorem dX8_keep_7 : decode cX8_keep 7 = .ok (.sipush (-1003), 3) := by decide +kernel
theorem dX8_keep_10 : decode cX8_keep 10 = .ok (.ireturn, 1) := by decide +kernel
theorem dX8_keep_11 : decode cX8_keep 11 = .ok (.iconst 0, 1) := by decide +kernel
theorem dX8_keep_12 : decode cX8_keep 12 = .ok (.istore_n 1, 1) := by decide +kernel
theorem dX8_keep_13 : decode cX8_keep 13 = .ok (.iload_n 1, 1) := by decide +kernel
theorem dX8_keep_14 : decode cX8_keep 14 = .ok (.aload_n 0, 1) := by decide +kernel
theorem dX8_keep_15 : decode cX8_keep 15 = .ok (.getfield 107, 3) := by decide +kernel
theorem dX8_keep_18 : decode cX8_keep 18 = .ok (.if_icmp .ge 19, 3) := by decide +kernel
theorem dX8_keep_21 : decode cX8_keep 21 = .ok (.aload_n 0, 1) := by decide +kernel
theorem dX8_keep_22 : decode cX8_keep 22 = .ok (.iload_n 1, 1) := by decide +kernel
theorem dX8_keep_23 : decode cX8_keep 23 = .ok (.bipush 13, 2) := by decide +kernel
theorem dX8_keep_25 : decode cX8_keep 25 = .ok (.invokevirtual 110, 3) := by decide +kernel
theorem dX8_keep_28 : decode cX8_keep 28 = .ok (.ifCond .ne 9, 3) := by decide +kernel
theorem dX8_keep_31 : decode cX8_keep 31 = .ok (.iinc 1 1, 3) := by decide +kernel
theorem dX8_keep_34 : decode cX8_keep 34 = .ok (.goto (-21), 3) := by decide +kernel
theorem dX8_keep_37 : decode cX8_keep 37 = .ok (.iload_n 1, 1) := by decide +kernel
theorem dX8_keep_38 : decode cX8_keep 38 = .ok (.bipush 12, 2) := by decide +kernel
theorem dX8_keep_40 : decode cX8_keep 40 = .ok (.if_icmp .ne 7, 3) := by decide +kernel
theorem dX8_keep_43 : decode cX8_keep 43 = .ok (.sipush (-1004), 3) := by decide +kernel
theorem dX8_keep_46 : decode cX8_keep 46 = .ok (.ireturn, 1) := by decide +kernel
theorem dX8_keep_47 : decode cX8_keep 47 = .ok (.iload_n 1, 1) := by decide +kernel
theorem dX8_keep_48 : decode cX8_keep 48 = .ok (.aload_n 0, 1) := by decide +kernel
theorem dX8_keep_49 : decode cX8_keep 49 = .ok (.getfield 107, 3) := by decide +kernel
theorem dX8_keep_52 : decode cX8_keep 52 = .ok (.if_icmp .ne 33, 3) := by decide +kernel
theorem dX8_keep_55 : decode cX8_keep 55 = .ok (.aload_n 0, 1) := by decide +kernel
theorem dX8_keep_56 : decode cX8_keep 56 = .ok (.bipush 13, 2) := by decide +kernel
theorem dX8_keep_58 : decode cX8_keep 58 = .ok (.aload_n 0, 1) := by decide +kernel
theorem dX8_keep_59 : decode cX8_keep 59 = .ok (.getfield 107, 3) := by decide +kernel
theorem dX8_keep_62 : decode cX8_keep 62 = .ok (.invokevirtual 113, 3) := by decide +kernel
theorem dX8_keep_65 : decode cX8_keep 65 = .ok (.aload_n 0, 1) := by decide +kernel
theorem dX8_keep_66 : decode cX8_keep 66 = .ok (.getfield 16, 3) := by decide +kernel
theorem dX8_keep_69 : decode cX8_keep 69 = .ok (.aload_n 0, 1) := by decide +kernel
theorem dX8_keep_70 : decode cX8_keep 70 = .ok (.getfield 107, 3) := by decide +kernel
theorem dX8_keep_73 : decode cX8_keep 73 = .ok (.iconst 0, 1) := by decide +kernel
theorem dX8_keep_74 : decode cX8_keep 74 = .ok (.iastore, 1) := by decide +kernel
theorem dX8_keep_75 : decode cX8_keep 75 = .ok (.aload_n 0, 1) := by decide +kernel
theorem dX8_keep_76 : decode cX8_keep 76 = .ok (.dup, 1) := by decide +kernel
theorem dX8_keep_77 : decode cX8_keep 77 = .ok (.getfield 107, 3) := by decide +kernel
theorem dX8_keep_80 : decode cX8_keep 80 = .ok (.iconst 1, 1) := by decide +kernel
theorem dX8_keep_81 : decode cX8_keep 81 = .ok (.iadd, 1) := by decide +kernel
theorem dX8_keep_82 : decode cX8_keep 82 = .ok (.putfield 107, 3) := by decide +kernel
theorem dX8_keep_85 : decode cX8_keep 85 = .ok (.aload_n 0, 1) := by decide +kernel
theorem dX8_keep_86 : decode cX8_keep 86 = .ok (.getfield 16, 3) := by decide +kernel
theorem dX8_keep_89 : decode cX8_keep 89 = .ok (.iload_n 1, 1) := by decide +kernel
theorem dX8_keep_90 : decode cX8_keep 90 = .ok (.dup2, 1) := by decide +kernel
theorem dX8_keep_91 : decode cX8_keep 91 = .ok (.iaload, 1) := by decide +kernel
theorem dX8_keep_92 : decode cX8_keep 92 = .ok (.iconst 1, 1) := by decide +kernel
theorem dX8_keep_93 : decode cX8_keep 93 = .ok (.iadd, 1) := by decide +kernel
theorem dX8_keep_94 : decode cX8_keep 94 = .ok (.iastore, 1) := by decide +kernel
theorem dX8_keep_95 : decode cX8_keep 95 = .ok (.aload_n 0, 1) := by decide +kernel
theorem dX8_keep_96 : decode cX8_keep 96 = .ok (.dup, 1) := by decide +kernel
theorem dX8_keep_97 : decode cX8_keep 97 = .ok (.getfield 117, 3) := by decide +kernel
theorem dX8_keep_100 : decode cX8_keep 100 = .ok (.iconst 1, 1) := by decide +kernel
theorem dX8_keep_101 : decode cX8_keep 101 = .ok (.iadd, 1) := by decide +kernel
theorem dX8_keep_102 : decode cX8_keep 102 = .ok (.putfield 117, 3) := by decide +kernel
theorem dX8_keep_105 : decode cX8_keep 105 = .ok (.aload_n 0, 1) := by decide +kernel
theorem dX8_keep_106 : decode cX8_keep 106 = .ok (.iconst 0, 1) := by decide +kernel
theorem dX8_keep_107 : decode cX8_keep 107 = .ok (.putfield 79, 3) := by decide +kernel
theorem dX8_keep_110 : decode cX8_keep 110 = .ok (.iload_n 1, 1) := by decide +kernel
theorem dX8_keep_111 : decode cX8_keep 111 = .ok (.ireturn, 1) := by decide +kernel
theorem dX8_isKept_0 : decode cX8_isKept 0 = .ok (.iload_n 1, 1) := by decide +kernel
theorem dX8_isKept_1 : decode cX8_isKept 1 = .ok (.iconst 0, 1) := by decide +kernel
theorem dX8_isKept_2 : decode cX8_isKept 2 = .ok (.aload_n 0, 1) := by decide +kernel
theorem dX8_isKept_3 : decode cX8_isKept 3 = .ok (.getfield 107, 3) := by decide +kernel
theorem dX8_isKept_6 : decode cX8_isKept 6 = .ok (.iconst 1, 1) := by decide +kernel
theorem dX8_isKept_7 : decode cX8_isKept 7 = .ok (.isub, 1) := by decide +kernel
theorem dX8_isKept_8 : decode cX8_isKept 8 = .ok (.invokestatic 75, 3) := by decide +kernel
theorem dX8_isKept_11 : decode cX8_isKept 11 = .ok (.ireturn, 1) := by decide +kernel
theorem dX8_drop_0 : decode cX8_drop 0 = .ok (.aload_n 0, 1) := by decide +kernel
theorem dX8_drop_1 : decode cX8_drop 1 = .ok (.iload_n 1, 1) := by decide +kernel
theorem dX8_drop_2 : decode cX8_drop 2 = .ok (.invokevirtual 120, 3) := by decide +kernel
theorem dX8_drop_5 : decode cX8_drop 5 = .ok (.ifCond .ne 7, 3) := by decide +kernel
theorem dX8_drop_8 : decode cX8_drop 8 = .ok (.sipush (-1001), 3) := by decide +kernel
theorem dX8_drop_11 : decode cX8_drop 11 = .ok (.ireturn, 1) := by decide +kernel
theorem dX8_drop_12 : decode cX8_drop 12 = .ok (.aload_n 0, 1) := by decide +kernel
theorem dX8_drop_13 : decode cX8_drop 13 = .ok (.dup, 1) := by decide +kernel
theorem dX8_drop_14 : decode cX8_drop 14 = .ok (.getfield 107, 3) := by decide +kernel
theorem dX8_drop_17 : decode cX8_drop 17 = .ok (.iconst 1, 1) := by decide +kernel
theorem dX8_drop_18 : decode cX8_drop 18 = .ok (.isub, 1) := by decide +kernel
theorem dX8_drop_19 : decode cX8_drop 19 = .ok (.putfield 107, 3) := by decide +kernel
theorem dX8_drop_22 : decode cX8_drop 22 = .ok (.iload_n 1, 1) := by decide +kernel
theorem dX8_drop_23 : decode cX8_drop 23 = .ok (.istore_n 2, 1) := by decide +kernel
theorem dX8_drop_24 : decode cX8_drop 24 = .ok (.iload_n 2, 1) := by decide +kernel
theorem dX8_drop_25 : decode cX8_drop 25 = .ok (.aload_n 0, 1) := by decide +kernel
theorem dX8_drop_26 : decode cX8_drop 26 = .ok (.getfield 107, 3) := by decide +kernel
theorem dX8_drop_29 : decode cX8_drop 29 = .ok (.if_icmp .ge 17, 3) := by decide +kernel
theorem dX8_drop_32 : decode cX8_drop 32 = .ok (.aload_n 0, 1) := by decide +kernel
theorem dX8_drop_33 : decode cX8_drop 33 = .ok (.iload_n 2, 1) := by decide +kernel
theorem dX8_drop_34 : decode cX8_drop 34 = .ok (.iconst 1, 1) := by decide +kernel
theorem dX8_drop_35 : decode cX8_drop 35 = .ok (.iadd, 1) := by decide +kernel
theorem dX8_drop_36 : decode cX8_drop 36 = .ok (.iload_n 2, 1) := by decide +kernel
theorem dX8_drop_37 : decode cX8_drop 37 = .ok (.invokevirtual 113, 3) := by decide +kernel
theorem dX8_drop_40 : decode cX8_drop 40 = .ok (.iinc 2 1, 3) := by decide +kernel
theorem dX8_drop_43 : decode cX8_drop 43 = .ok (.goto (-19), 3) := by decide +kernel
theorem dX8_drop_46 : decode cX8_drop 46 = .ok (.aload_n 0, 1) := by decide +kernel
theorem dX8_drop_47 : decode cX8_drop 47 = .ok (.dup, 1) := by decide +kernel
theorem dX8_drop_48 : decode cX8_drop 48 = .ok (.getfield 123, 3) := by decide +kernel
theorem dX8_drop_51 : decode cX8_drop 51 = .ok (.iconst 1, 1) := by decide +kernel
theorem dX8_drop_52 : decode cX8_drop 52 = .ok (.iadd, 1) := by decide +kernel
theorem dX8_drop_53 : decode cX8_drop 53 = .ok (.putfield 123, 3) := by decide +kernel
theorem dX8_drop_56 : decode cX8_drop 56 = .ok (.aload_n 0, 1) := by decide +kernel
theorem dX8_drop_57 : decode cX8_drop 57 = .ok (.getfield 107, 3) := by decide +kernel
theorem dX8_drop_60 : decode cX8_drop 60 = .ok (.ireturn, 1) := by decide +kernel
theorem dX8_ask_0 : decode cX8_ask 0 = .ok (.aload_n 0, 1) := by decide +kernel
theorem dX8_ask_1 : decode cX8_ask 1 = .ok (.invokevirtual 103, 3) := by decide +kernel
theorem dX8_ask_4 : decode cX8_ask 4 = .ok (.ifCond .ne 7, 3) := by decide +kernel
theorem dX8_ask_7 : decode cX8_ask 7 = .ok (.sipush (-1003), 3) := by decide +kernel
theorem dX8_ask_10 : decode cX8_ask 10 = .ok (.ireturn, 1) := by decide +kernel
theorem dX8_ask_11 : decode cX8_ask 11 = .ok (.aload_n 0, 1) := by decide +kernel
theorem dX8_ask_12 : decode cX8_ask 12 = .ok (.bipush 13, 2) := by decide +kernel
theorem dX8_ask_14 : decode cX8_ask 14 = .ok (.bipush 12, 2) := by decide +kernel
theorem dX8_ask_16 : decode cX8_ask 16 = .ok (.invokevirtual 113, 3) := by decide +kernel
theorem dX8_ask_19 : decode cX8_ask 19 = .ok (.aload_n 0, 1) := by decide +kernel
theorem dX8_ask_20 : decode cX8_ask 20 = .ok (.iconst 1, 1) := by decide +kernel
theorem dX8_ask_21 : decode cX8_ask 21 = .ok (.putfield 126, 3) := by decide +kernel
theorem dX8_ask_24 : decode cX8_ask 24 = .ok (.aload_n 0, 1) := by decide +kernel
theorem dX8_ask_25 : decode cX8_ask 25 = .ok (.dup, 1) := by decide +kernel
theorem dX8_ask_26 : decode cX8_ask 26 = .ok (.getfield 130, 3) := by decide +kernel
theorem dX8_ask_29 : decode cX8_ask 29 = .ok (.iconst 1, 1) := by decide +kernel
theorem dX8_ask_30 : decode cX8_ask 30 = .ok (.iadd, 1) := by decide +kernel
theorem dX8_ask_31 : decode cX8_ask 31 = .ok (.putfield 130, 3) := by decide +kernel
theorem dX8_ask_34 : decode cX8_ask 34 = .ok (.aload_n 0, 1) := by decide +kernel
theorem dX8_ask_35 : decode cX8_ask 35 = .ok (.iconst 0, 1) := by decide +kernel
theorem dX8_ask_36 : decode cX8_ask 36 = .ok (.putfield 79, 3) := by decide +kernel
theorem dX8_ask_39 : decode cX8_ask 39 = .ok (.aload_n 0, 1) := by decide +kernel
theorem dX8_ask_40 : decode cX8_ask 40 = .ok (.getfield 13, 3) := by decide +kernel
theorem dX8_ask_43 : decode cX8_ask 43 = .ok (.bipush 12, 2) := by decide +kernel
theorem dX8_ask_45 : decode cX8_ask 45 = .ok (.iaload, 1) := by decide +kernel
theorem dX8_ask_46 : decode cX8_ask 46 = .ok (.ireturn, 1) := by decide +kernel
theorem dX8_weight_0 : decode cX8_weight 0 = .ok (.iload_n 1, 1) := by decide +kernel
theorem dX8_weight_1 : decode cX8_weight 1 = .ok (.iconst 1, 1) := by decide +kernel
theorem dX8_weight_2 : decode cX8_weight 2 = .ok (.bipush 20, 2) := by decide +kernel
theorem dX8_weight_4 : decode cX8_weight 4 = .ok (.invokestatic 75, 3) := by decide +kernel
theorem dX8_weight_7 : decode cX8_weight 7 = .ok (.ifCond .ne 7, 3) := by decide +kernel
theorem dX8_weight_10 : decode cX8_weight 10 = .ok (.sipush (-1002), 3) := by decide +kernel
theorem dX8_weight_13 : decode cX8_weight 13 = .ok (.ireturn, 1) := by decide +kernel
theorem dX8_weight_14 : decode cX8_weight 14 = .ok (.aload_n 0, 1) := by decide +kernel
theorem dX8_weight_15 : decode cX8_weight 15 = .ok (.getfield 28, 3) := by decide +kernel
theorem dX8_weight_18 : decode cX8_weight 18 = .ok (.istore_n 2, 1) := by decide +kernel
theorem dX8_weight_19 : decode cX8_weight 19 = .ok (.aload_n 0, 1) := by decide +kernel
theorem dX8_weight_20 : decode cX8_weight 20 = .ok (.iload_n 1, 1) := by decide +kernel
theorem dX8_weight_21 : decode cX8_weight 21 = .ok (.putfield 28, 3) := by decide +kernel
theorem dX8_weight_24 : decode cX8_weight 24 = .ok (.iload_n 2, 1) := by decide +kernel
theorem dX8_weight_25 : decode cX8_weight 25 = .ok (.ireturn, 1) := by decide +kernel
theorem dX8_bound_0 : decode cX8_bound 0 = .ok (.iload_n 1, 1) := by decide +kernel
theorem dX8_bound_1 : decode cX8_bound 1 = .ok (.iconst 0, 1) := by decide +kernel
theorem dX8_bound_2 : decode cX8_bound 2 = .ok (.sipush 1000, 3) := by decide +kernel
theorem dX8_bound_5 : decode cX8_bound 5 = .ok (.invokestatic 75, 3) := by decide +kernel
theorem dX8_bound_8 : decode cX8_bound 8 = .ok (.ifCond .ne 7, 3) := by decide +kernel
theorem dX8_bound_11 : decode cX8_bound 11 = .ok (.sipush (-1002), 3) := by decide +kernel
theorem dX8_bound_14 : decode cX8_bound 14 = .ok (.ireturn, 1) := by decide +kernel
theorem dX8_bound_15 : decode cX8_bound 15 = .ok (.aload_n 0, 1) := by decide +kernel
theorem dX8_bound_16 : decode cX8_bound 16 = .ok (.getfield 32, 3) := by decide +kernel
theorem dX8_bound_19 : decode cX8_bound 19 = .ok (.istore_n 2, 1) := by decide +kernel
theorem dX8_bound_20 : decode cX8_bound 20 = .ok (.aload_n 0, 1) := by decide +kernel
theorem dX8_bound_21 : decode cX8_bound 21 = .ok (.iload_n 1, 1) := by decide +kernel
theorem dX8_bound_22 : decode cX8_bound 22 = .ok (.putfield 32, 3) := by decide +kernel
theorem dX8_bound_25 : decode cX8_bound 25 = .ok (.iload_n 2, 1) := by decide +kernel
theorem dX8_bound_26 : decode cX8_bound 26 = .ok (.ireturn, 1) := by decide +kernel
theorem dX8_least_0 : decode cX8_least 0 = .ok (.iload_n 0, 1) := by decide +kernel
theorem dX8_least_1 : decode cX8_least 1 = .ok (.iload_n 1, 1) := by decide +kernel
theorem dX8_least_2 : decode cX8_least 2 = .ok (.if_icmp .ge 7, 3) := by decide +kernel
theorem dX8_least_5 : decode cX8_least 5 = .ok (.iload_n 0, 1) := by decide +kernel
theorem dX8_least_6 : decode cX8_least 6 = .ok (.goto 4, 3) := by decide +kernel
theorem dX8_least_9 : decode cX8_least 9 = .ok (.iload_n 1, 1) := by decide +kernel
theorem dX8_least_10 : decode cX8_least 10 = .ok (.ireturn, 1) := by decide +kernel
theorem dX8_changes_0 : decode cX8_changes 0 = .ok (.aload_n 0, 1) := by decide +kernel
theorem dX8_changes_1 : decode cX8_changes 1 = .ok (.getfield 19, 3) := by decide +kernel
theorem dX8_changes_4 : decode cX8_changes 4 = .ok (.iload_n 1, 1) := by decide +kernel
theorem dX8_changes_5 : decode cX8_changes 5 = .ok (.iaload, 1) := by decide +kernel
theorem dX8_changes_6 : decode cX8_changes 6 = .ok (.istore_n 3, 1) := by decide +kernel
theorem dX8_changes_7 : decode cX8_changes 7 = .ok (.aload_n 0, 1) := by decide +kernel
theorem dX8_changes_8 : decode cX8_changes 8 = .ok (.getfield 19, 3) := by decide +kernel
theorem dX8_changes_11 : decode cX8_changes 11 = .ok (.iload_n 2, 1) := by decide +kernel
theorem dX8_changes_12 : decode cX8_changes 12 = .ok (.iaload, 1) := by decide +kernel
theorem dX8_changes_13 : decode cX8_changes 13 = .ok (.istore 4, 2) := by decide +kernel
theorem dX8_changes_15 : decode cX8_changes 15 = .ok (.iconst 0, 1) := by decide +kernel
theorem dX8_changes_16 : decode cX8_changes 16 = .ok (.istore 5, 2) := by decide +kernel
theorem dX8_changes_18 : decode cX8_changes 18 = .ok (.iload 5, 2) := by decide +kernel
theorem dX8_changes_20 : decode cX8_changes 20 = .ok (.iload_n 3, 1) := by decide +kernel
theorem dX8_changes_21 : decode cX8_changes 21 = .ok (.if_icmp .gt 172, 3) := by decide +kernel
theorem dX8_changes_24 : decode cX8_changes 24 = .ok (.iconst 0, 1) := by decide +kernel
theorem dX8_changes_25 : decode cX8_changes 25 = .ok (.istore 6, 2) := by decide +kernel
theorem dX8_changes_27 : decode cX8_changes 27 = .ok (.iload 6, 2) := by decide +kernel
theorem dX8_changes_29 : decode cX8_changes 29 = .ok (.iload 4, 2) := by decide +kernel
theorem dX8_changes_31 : decode cX8_changes 31 = .ok (.if_icmp .gt 156, 3) := by decide +kernel
theorem dX8_changes_34 : decode cX8_changes 34 = .ok (.iload 5, 2) := by decide +kernel
theorem dX8_changes_36 : decode cX8_changes 36 = .ok (.ifCond .ne 8, 3) := by decide +kernel
theorem dX8_changes_39 : decode cX8_changes 39 = .ok (.iload 6, 2) := by decide +kernel
theorem dX8_changes_41 : decode cX8_changes 41 = .ok (.goto 30, 3) := by decide +kernel
theorem dX8_changes_44 : decode cX8_changes 44 = .ok (.iload 6, 2) := by decide +kernel
theorem dX8_changes_46 : decode cX8_changes 46 = .ok (.ifCond .ne 8, 3) := by decide +kernel
theorem dX8_changes_49 : decode cX8_changes 49 = .ok (.iload 5, 2) := by decide +kernel
theorem dX8_changes_51 : decode cX8_changes 51 = .ok (.goto 20, 3) := by decide +kernel
theorem dX8_changes_54 : decode cX8_changes 54 = .ok (.aload_n 0, 1) := by decide +kernel
theorem dX8_changes_55 : decode cX8_changes 55 = .ok (.getfield 35, 3) := by decide +kernel
theorem dX8_changes_58 : decode cX8_changes 58 = .ok (.bipush 13, 2) := by decide +kernel
theorem dX8_changes_60 : decode cX8_changes 60 = .ok (.iload 5, 2) := by decide +kernel
theorem dX8_changes_62 : decode cX8_changes 62 = .ok (.iconst 1, 1) := by decide +kernel
theorem dX8_changes_63 : decode cX8_changes 63 = .ok (.isub, 1) := by decide +kernel
theorem dX8_changes_64 : decode cX8_changes 64 = .ok (.imul, 1) := by decide +kernel
theorem dX8_changes_65 : decode cX8_changes 65 = .ok (.iload 6, 2) := by decide +kernel
theorem dX8_changes_67 : decode cX8_changes 67 = .ok (.iadd, 1) := by decide +kernel
theorem dX8_changes_68 : decode cX8_changes 68 = .ok (.iconst 1, 1) := by decide +kernel
theorem dX8_changes_69 : decode cX8_changes 69 = .ok (.isub, 1) := by decide +kernel
theorem dX8_changes_70 : decode cX8_changes 70 = .ok (.iaload, 1) := by decide +kernel
theorem dX8_changes_71 : decode cX8_changes 71 = .ok (.istore 7, 2) := by decide +kernel
theorem dX8_changes_73 : decode cX8_changes 73 = .ok (.iload 5, 2) := by decide +kernel
theorem dX8_changes_75 : decode cX8_changes 75 = .ok (.ifCond .le 91, 3) := by decide +kernel
theorem dX8_changes_78 : decode cX8_changes 78 = .ok (.iload 6, 2) := by decide +kernel
theorem dX8_changes_80 : decode cX8_changes 80 = .ok (.ifCond .le 86, 3) := by decide +kernel
theorem dX8_changes_83 : decode cX8_changes 83 = .ok (.iload 7, 2) := by decide +kernel
theorem dX8_changes_85 : decode cX8_changes 85 = .ok (.aload_n 0, 1) := by decide +kernel
theorem dX8_changes_86 : decode cX8_changes 86 = .ok (.getfield 25, 3) := by decide +kernel
theorem dX8_changes_89 : decode cX8_changes 89 = .ok (.bipush 12, 2) := by decide +kernel
theorem dX8_changes_91 : decode cX8_changes 91 = .ok (.iload_n 1, 1) := by decide +kernel
theorem dX8_changes_92 : decode cX8_changes 92 = .ok (.imul, 1) := by decide +kernel
theorem dX8_changes_93 : decode cX8_changes 93 = .ok (.iload 5, 2) := by decide +kernel
theorem dX8_changes_95 : decode cX8_changes 95 = .ok (.iadd, 1) := by decide +kernel
theorem dX8_changes_96 : decode cX8_changes 96 = .ok (.iconst 1, 1) := by decide +kernel
theorem dX8_changes_97 : decode cX8_changes 97 = .ok (.isub, 1) := by decide +kernel
theorem dX8_changes_98 : decode cX8_changes 98 = .ok (.iaload, 1) := by decide +kernel
theorem dX8_changes_99 : decode cX8_changes 99 = .ok (.aload_n 0, 1) := by decide +kernel
theorem dX8_changes_100 : decode cX8_changes 100 = .ok (.getfield 25, 3) := by decide +kernel
theorem dX8_changes_103 : decode cX8_changes 103 = .ok (.bipush 12, 2) := by decide +kernel
theorem dX8_changes_105 : decode cX8_changes 105 = .ok (.iload_n 2, 1) := by decide +kernel
theorem dX8_changes_106 : decode cX8_changes 106 = .ok (.imul, 1) := by decide +kernel
theorem dX8_changes_107 : decode cX8_changes 107 = .ok (.iload 6, 2) := by decide +kernel
theorem dX8_changes_109 : decode cX8_changes 109 = .ok (.iadd, 1) := by decide +kernel
theorem dX8_changes_110 : decode cX8_changes 110 = .ok (.iconst 1, 1) := by decide +kernel
theorem dX8_changes_111 : decode cX8_changes 111 = .ok (.isub, 1) := by decide +kernel
theorem dX8_changes_112 : decode cX8_changes 112 = .ok (.iaload, 1) := by decide +kernel
theorem dX8_changes_113 : decode cX8_changes 113 = .ok (.if_icmp .ne 7, 3) := by decide +kernel
theorem dX8_changes_116 : decode cX8_changes 116 = .ok (.iconst 0, 1) := by decide +kernel
theorem dX8_changes_117 : decode cX8_changes 117 = .ok (.goto 4, 3) := by decide +kernel
theorem dX8_changes_120 : decode cX8_changes 120 = .ok (.iconst 1, 1) := by decide +kernel
theorem dX8_changes_121 : decode cX8_changes 121 = .ok (.iadd, 1) := by decide +kernel
theorem dX8_changes_122 : decode cX8_changes 122 = .ok (.istore 7, 2) := by decide +kernel
theorem dX8_changes_124 : decode cX8_changes 124 = .ok (.iload 7, 2) := by decide +kernel
theorem dX8_changes_126 : decode cX8_changes 126 = .ok (.iconst 1, 1) := by decide +kernel
theorem dX8_changes_127 : decode cX8_changes 127 = .ok (.aload_n 0, 1) := by decide +kernel
theorem dX8_changes_128 : decode cX8_changes 128 = .ok (.getfield 35, 3) := by decide +kernel
theorem dX8_changes_131 : decode cX8_changes 131 = .ok (.bipush 13, 2) := by decide +kernel
theorem dX8_changes_133 : decode cX8_changes 133 = .ok (.iload 5, 2) := by decide +kernel
theorem dX8_changes_135 : decode cX8_changes 135 = .ok (.iconst 1, 1) := by decide +kernel
theorem dX8_changes_136 : decode cX8_changes 136 = .ok (.isub, 1) := by decide +kernel
theorem dX8_changes_137 : decode cX8_changes 137 = .ok (.imul, 1) := by decide +kernel
theorem dX8_changes_138 : decode cX8_changes 138 = .ok (.iload 6, 2) := by decide +kernel
theorem dX8_changes_140 : decode cX8_changes 140 = .ok (.iadd, 1) := by decide +kernel
theorem dX8_changes_141 : decode cX8_changes 141 = .ok (.iaload, 1) := by decide +kernel
theorem dX8_changes_142 : decode cX8_changes 142 = .ok (.aload_n 0, 1) := by decide +kernel
theorem dX8_changes_143 : decode cX8_changes 143 = .ok (.getfield 35, 3) := by decide +kernel
theorem dX8_changes_146 : decode cX8_changes 146 = .ok (.bipush 13, 2) := by decide +kernel
theorem dX8_changes_148 : decode cX8_changes 148 = .ok (.iload 5, 2) := by decide +kernel
theorem dX8_changes_150 : decode cX8_changes 150 = .ok (.imul, 1) := by decide +kernel
theorem dX8_changes_151 : decode cX8_changes 151 = .ok (.iload 6, 2) := by decide +kernel
theorem dX8_changes_153 : decode cX8_changes 153 = .ok (.iadd, 1) := by decide +kernel
theorem dX8_changes_154 : decode cX8_changes 154 = .ok (.iconst 1, 1) := by decide +kernel
theorem dX8_changes_155 : decode cX8_changes 155 = .ok (.isub, 1) := by decide +kernel
theorem dX8_changes_156 : decode cX8_changes 156 = .ok (.iaload, 1) := by decide +kernel
theorem dX8_changes_157 : decode cX8_changes 157 = .ok (.invokestatic 133, 3) := by decide +kernel
theorem dX8_changes_160 : decode cX8_changes 160 = .ok (.iadd, 1) := by decide +kernel
theorem dX8_changes_161 : decode cX8_changes 161 = .ok (.invokestatic 133, 3) := by decide +kernel
theorem dX8_changes_164 : decode cX8_changes 164 = .ok (.istore 7, 2) := by decide +kernel
theorem dX8_changes_166 : decode cX8_changes 166 = .ok (.aload_n 0, 1) := by decide +kernel
theorem dX8_changes_167 : decode cX8_changes 167 = .ok (.getfield 35, 3) := by decide +kernel
theorem dX8_changes_170 : decode cX8_changes 170 = .ok (.bipush 13, 2) := by decide +kernel
theorem dX8_changes_172 : decode cX8_changes 172 = .ok (.iload 5, 2) := by decide +kernel
theorem dX8_changes_174 : decode cX8_changes 174 = .ok (.imul, 1) := by decide +kernel
theorem dX8_changes_175 : decode cX8_changes 175 = .ok (.iload 6, 2) := by decide +kernel
theorem dX8_changes_177 : decode cX8_changes 177 = .ok (.iadd, 1) := by decide +kernel
theorem dX8_changes_178 : decode cX8_changes 178 = .ok (.iload 7, 2) := by decide +kernel
theorem dX8_changes_180 : decode cX8_changes 180 = .ok (.iastore, 1) := by decide +kernel
theorem dX8_changes_181 : decode cX8_changes 181 = .ok (.iinc 6 1, 3) := by decide +kernel
theorem dX8_changes_184 : decode cX8_changes 184 = .ok (.goto (-157), 3) := by decide +kernel
theorem dX8_changes_187 : decode cX8_changes 187 = .ok (.iinc 5 1, 3) := by decide +kernel
theorem dX8_changes_190 : decode cX8_changes 190 = .ok (.goto (-172), 3) := by decide +kernel
theorem dX8_changes_193 : decode cX8_changes 193 = .ok (.aload_n 0, 1) := by decide +kernel
theorem dX8_changes_194 : decode cX8_changes 194 = .ok (.getfield 35, 3) := by decide +kernel
theorem dX8_changes_197 : decode cX8_changes 197 = .ok (.bipush 13, 2) := by decide +kernel
theorem dX8_changes_199 : decode cX8_changes 199 = .ok (.iload_n 3, 1) := by decide +kernel
theorem dX8_changes_200 : decode cX8_changes 200 = .ok (.imul, 1) := by decide +kernel
theorem dX8_changes_201 : decode cX8_changes 201 = .ok (.iload 4, 2) := by decide +kernel
theorem dX8_changes_203 : decode cX8_changes 203 = .ok (.iadd, 1) := by decide +kernel
theorem dX8_changes_204 : decode cX8_changes 204 = .ok (.iaload, 1) := by decide +kernel
theorem dX8_changes_205 : decode cX8_changes 205 = .ok (.ireturn, 1) := by decide +kernel
theorem dX8_alikeNow_0 : decode cX8_alikeNow 0 = .ok (.aload_n 0, 1) := by decide +kernel
theorem dX8_alikeNow_1 : decode cX8_alikeNow 1 = .ok (.getfield 19, 3) := by decide +kernel
theorem dX8_alikeNow_4 : decode cX8_alikeNow 4 = .ok (.iload_n 1, 1) := by decide +kernel
theorem dX8_alikeNow_5 : decode cX8_alikeNow 5 = .ok (.iaload, 1) := by decide +kernel
theorem dX8_alikeNow_6 : decode cX8_alikeNow 6 = .ok (.aload_n 0, 1) := by decide +kernel
theorem dX8_alikeNow_7 : decode cX8_alikeNow 7 = .ok (.getfield 19, 3) := by decide +kernel
theorem dX8_alikeNow_10 : decode cX8_alikeNow 10 = .ok (.iload_n 2, 1) := by decide +kernel
theorem dX8_alikeNow_11 : decode cX8_alikeNow 11 = .ok (.iaload, 1) := by decide +kernel
theorem dX8_alikeNow_12 : decode cX8_alikeNow 12 = .ok (.if_icmp .le 12, 3) := by decide +kernel
theorem dX8_alikeNow_15 : decode cX8_alikeNow 15 = .ok (.aload_n 0, 1) := by decide +kernel
theorem dX8_alikeNow_16 : decode cX8_alikeNow 16 = .ok (.getfield 19, 3) := by decide +kernel
theorem dX8_alikeNow_19 : decode cX8_alikeNow 19 = .ok (.iload_n 1, 1) := by decide +kernel
theorem dX8_alikeNow_20 : decode cX8_alikeNow 20 = .ok (.iaload, 1) := by decide +kernel
theorem dX8_alikeNow_21 : decode cX8_alikeNow 21 = .ok (.goto 9, 3) := by decide +kernel
theorem dX8_alikeNow_24 : decode cX8_alikeNow 24 = .ok (.aload_n 0, 1) := by decide +kernel
theorem dX8_alikeNow_25 : decode cX8_alikeNow 25 = .ok (.getfield 19, 3) := by decide +kernel
theorem dX8_alikeNow_28 : decode cX8_alikeNow 28 = .ok (.iload_n 2, 1) := by decide +kernel
theorem dX8_alikeNow_29 : decode cX8_alikeNow 29 = .ok (.iaload, 1) := by decide +kernel
theorem dX8_alikeNow_30 : decode cX8_alikeNow 30 = .ok (.istore_n 3, 1) := by decide +kernel
theorem dX8_alikeNow_31 : decode cX8_alikeNow 31 = .ok (.bipush 10, 2) := by decide +kernel
theorem dX8_alikeNow_33 : decode cX8_alikeNow 33 = .ok (.aload_n 0, 1) := by decide +kernel
theorem dX8_alikeNow_34 : decode cX8_alikeNow 34 = .ok (.iload_n 1, 1) := by decide +kernel
theorem dX8_alikeNow_35 : decode cX8_alikeNow 35 = .ok (.iload_n 2, 1) := by decide +kernel
theorem dX8_alikeNow_36 : decode cX8_alikeNow 36 = .ok (.invokevirtual 137, 3) := by decide +kernel
theorem dX8_alikeNow_39 : decode cX8_alikeNow 39 = .ok (.imul, 1) := by decide +kernel
theorem dX8_alikeNow_40 : decode cX8_alikeNow 40 = .ok (.iload_n 3, 1) := by decide +kernel
theorem dX8_alikeNow_41 : decode cX8_alikeNow 41 = .ok (.iadd, 1) := by decide +kernel
theorem dX8_alikeNow_42 : decode cX8_alikeNow 42 = .ok (.iconst 1, 1) := by decide +kernel
theorem dX8_alikeNow_43 : decode cX8_alikeNow 43 = .ok (.isub, 1) := by decide +kernel
theorem dX8_alikeNow_44 : decode cX8_alikeNow 44 = .ok (.iload_n 3, 1) := by decide +kernel
theorem dX8_alikeNow_45 : decode cX8_alikeNow 45 = .ok (.idiv, 1) := by decide +kernel
theorem dX8_alikeNow_46 : decode cX8_alikeNow 46 = .ok (.ireturn, 1) := by decide +kernel
theorem dX8_isWord_0 : decode cX8_isWord 0 = .ok (.aload_n 0, 1) := by decide +kernel
theorem dX8_isWord_1 : decode cX8_isWord 1 = .ok (.getfield 19, 3) := by decide +kernel
theorem dX8_isWord_4 : decode cX8_isWord 4 = .ok (.iload_n 1, 1) := by decide +kernel
theorem dX8_isWord_5 : decode cX8_isWord 5 = .ok (.iaload, 1) := by decide +kernel
theorem dX8_isWord_6 : decode cX8_isWord 6 = .ok (.ifCond .le 7, 3) := by decide +kernel
theorem dX8_isWord_9 : decode cX8_isWord 9 = .ok (.iconst 1, 1) := by decide +kernel
theorem dX8_isWord_10 : decode cX8_isWord 10 = .ok (.goto 4, 3) := by decide +kernel
theorem dX8_isWord_13 : decode cX8_isWord 13 = .ok (.iconst 0, 1) := by decide +kernel
theorem dX8_isWord_14 : decode cX8_isWord 14 = .ok (.ireturn, 1) := by decide +kernel
theorem dX8_costOf_0 : decode cX8_costOf 0 = .ok (.aload_n 0, 1) := by decide +kernel
theorem dX8_costOf_1 : decode cX8_costOf 1 = .ok (.iload_n 1, 1) := by decide +kernel
theorem dX8_costOf_2 : decode cX8_costOf 2 = .ok (.invokevirtual 140, 3) := by decide +kernel
theorem dX8_costOf_5 : decode cX8_costOf 5 = .ok (.ifCond .eq 8, 3) := by decide +kernel
theorem dX8_costOf_8 : decode cX8_costOf 8 = .ok (.bipush 10, 2) := by decide +kernel
theorem dX8_costOf_10 : decode cX8_costOf 10 = .ok (.goto 7, 3) := by decide +kernel
theorem dX8_costOf_13 : decode cX8_costOf 13 = .ok (.aload_n 0, 1) := by decide +kernel
theorem dX8_costOf_14 : decode cX8_costOf 14 = .ok (.getfield 28, 3) := by decide +kernel
theorem dX8_costOf_17 : decode cX8_costOf 17 = .ok (.ireturn, 1) := by decide +kernel
theorem dX8_bothCost_0 : decode cX8_bothCost 0 = .ok (.aload_n 0, 1) := by decide +kernel
theorem dX8_bothCost_1 : decode cX8_bothCost 1 = .ok (.iload_n 1, 1) := by decide +kernel
theorem dX8_bothCost_2 : decode cX8_bothCost 2 = .ok (.invokevirtual 140, 3) := by decide +kernel
theorem dX8_bothCost_5 : decode cX8_bothCost 5 = .ok (.aload_n 0, 1) := by decide +kernel
theorem dX8_bothCost_6 : decode cX8_bothCost 6 = .ok (.iload_n 2, 1) := by decide +kernel
theorem dX8_bothCost_7 : decode cX8_bothCost 7 = .ok (.invokevirtual 140, 3) := by decide +kernel
theorem dX8_bothCost_10 : decode cX8_bothCost 10 = .ok (.if_icmp .eq 6, 3) := by decide +kernel
theorem dX8_bothCost_13 : decode cX8_bothCost 13 = .ok (.ldc 143, 2) := by decide +kernel
theorem dX8_bothCost_15 : decode cX8_bothCost 15 = .ok (.ireturn, 1) := by decide +kernel
theorem dX8_bothCost_16 : decode cX8_bothCost 16 = .ok (.aload_n 0, 1) := by decide +kernel
theorem dX8_bothCost_17 : decode cX8_bothCost 17 = .ok (.iload_n 1, 1) := by decide +kernel
theorem dX8_bothCost_18 : decode cX8_bothCost 18 = .ok (.invokevirtual 140, 3) := by decide +kernel
theorem dX8_bothCost_21 : decode cX8_bothCost 21 = .ok (.ifCond .eq 12, 3) := by decide +kernel
theorem dX8_bothCost_24 : decode cX8_bothCost 24 = .ok (.aload_n 0, 1) := by decide +kernel
theorem dX8_bothCost_25 : decode cX8_bothCost 25 = .ok (.iload_n 1, 1) := by decide +kernel
theorem dX8_bothCost_26 : decode cX8_bothCost 26 = .ok (.iload_n 2, 1) := by decide +kernel
theorem dX8_bothCost_27 : decode cX8_bothCost 27 = .ok (.invokevirtual 144, 3) := by decide +kernel
theorem dX8_bothCost_30 : decode cX8_bothCost 30 = .ok (.goto 26, 3) := by decide +kernel
theorem dX8_bothCost_33 : decode cX8_bothCost 33 = .ok (.aload_n 0, 1) := by decide +kernel
theorem dX8_bothCost_34 : decode cX8_bothCost 34 = .ok (.getfield 22, 3) := by decide +kernel
theorem dX8_bothCost_37 : decode cX8_bothCost 37 = .ok (.iload_n 1, 1) := by decide +kernel
theorem dX8_bothCost_38 : decode cX8_bothCost 38 = .ok (.iaload, 1) := by decide +kernel
theorem dX8_bothCost_39 : decode cX8_bothCost 39 = .ok (.aload_n 0, 1) := by decide +kernel
theorem dX8_bothCost_40 : decode cX8_bothCost 40 = .ok (.getfield 22, 3) := by decide +kernel
theorem dX8_bothCost_43 : decode cX8_bothCost 43 = .ok (.iload_n 2, 1) := by decide +kernel
theorem dX8_bothCost_44 : decode cX8_bothCost 44 = .ok (.iaload, 1) := by decide +kernel
theorem dX8_bothCost_45 : decode cX8_bothCost 45 = .ok (.if_icmp .ne 7, 3) := by decide +kernel
theorem dX8_bothCost_48 : decode cX8_bothCost 48 = .ok (.iconst 0, 1) := by decide +kernel
theorem dX8_bothCost_49 : decode cX8_bothCost 49 = .ok (.goto 7, 3) := by decide +kernel
theorem dX8_bothCost_52 : decode cX8_bothCost 52 = .ok (.aload_n 0, 1) := by decide +kernel
theorem dX8_bothCost_53 : decode cX8_bothCost 53 = .ok (.getfield 28, 3) := by decide +kernel
theorem dX8_bothCost_56 : decode cX8_bothCost 56 = .ok (.ireturn, 1) := by decide +kernel
theorem dX8_layPay_0 : decode cX8_layPay 0 = .ok (.aload_n 0, 1) := by decide +kernel
theorem dX8_layPay_1 : decode cX8_layPay 1 = .ok (.getfield 13, 3) := by decide +kernel
theorem dX8_layPay_4 : decode cX8_layPay 4 = .ok (.iload_n 1, 1) := by decide +kernel
theorem dX8_layPay_5 : decode cX8_layPay 5 = .ok (.iaload, 1) := by decide +kernel
theorem dX8_layPay_6 : decode cX8_layPay 6 = .ok (.istore_n 3, 1) := by decide +kernel
theorem dX8_layPay_7 : decode cX8_layPay 7 = .ok (.iload_n 3, 1) := by decide +kernel
theorem dX8_layPay_8 : decode cX8_layPay 8 = .ok (.ifCond .lt 253, 3) := by decide +kernel
theorem dX8_layPay_11 : decode cX8_layPay 11 = .ok (.aload_n 0, 1) := by decide +kernel
theorem dX8_layPay_12 : decode cX8_layPay 12 = .ok (.getfield 13, 3) := by decide +kernel
theorem dX8_layPay_15 : decode cX8_layPay 15 = .ok (.iload_n 2, 1) := by decide +kernel
theorem dX8_layPay_16 : decode cX8_layPay 16 = .ok (.iaload, 1) := by decide +kernel
theorem dX8_layPay_17 : decode cX8_layPay 17 = .ok (.istore 4, 2) := by decide +kernel
theorem dX8_layPay_19 : decode cX8_layPay 19 = .ok (.iload 4, 2) := by decide +kernel
end
section
theorem dX8_layPay_21 : decode cX8_layPay 21 = .ok (.ifCond .lt 234, 3) := by decide +kernel
theorem dX8_layPay_24 : decode cX8_layPay 24 = .ok (.iload_n 3, 1) := by decide +kernel
theorem dX8_layPay_25 : decode cX8_layPay 25 = .ok (.aload_n 0, 1) := by decide +kernel
theorem dX8_layPay_26 : decode cX8_layPay 26 = .ok (.getfield 13, 3) := by decide +kernel
theorem dX8_layPay_29 : decode cX8_layPay 29 = .ok (.iload_n 1, 1) := by decide +kernel
theorem dX8_layPay_30 : decode cX8_layPay 30 = .ok (.iaload, 1) := by decide +kernel
theorem dX8_layPay_31 : decode cX8_layPay 31 = .ok (.if_icmp .ne 18, 3) := by decide +kernel
theorem dX8_layPay_34 : decode cX8_layPay 34 = .ok (.iload 4, 2) := by decide +kernel
theorem dX8_layPay_36 : decode cX8_layPay 36 = .ok (.aload_n 0, 1) := by decide +kernel
theorem dX8_layPay_37 : decode cX8_layPay 37 = .ok (.getfield 13, 3) := by decide +kernel
theorem dX8_layPay_40 : decode cX8_layPay 40 = .ok (.iload_n 2, 1) := by decide +kernel
theorem dX8_layPay_41 : decode cX8_layPay 41 = .ok (.iaload, 1) := by decide +kernel
theorem dX8_layPay_42 : decode cX8_layPay 42 = .ok (.if_icmp .ne 7, 3) := by decide +kernel
theorem dX8_layPay_45 : decode cX8_layPay 45 = .ok (.iconst 0, 1) := by decide +kernel
theorem dX8_layPay_46 : decode cX8_layPay 46 = .ok (.goto 5, 3) := by decide +kernel
theorem dX8_layPay_49 : decode cX8_layPay 49 = .ok (.ldc 143, 2) := by decide +kernel
theorem dX8_layPay_51 : decode cX8_layPay 51 = .ok (.istore 5, 2) := by decide +kernel
theorem dX8_layPay_53 : decode cX8_layPay 53 = .ok (.iload_n 3, 1) := by decide +kernel
theorem dX8_layPay_54 : decode cX8_layPay 54 = .ok (.aload_n 0, 1) := by decide +kernel
theorem dX8_layPay_55 : decode cX8_layPay 55 = .ok (.getfield 13, 3) := by decide +kernel
theorem dX8_layPay_58 : decode cX8_layPay 58 = .ok (.iload_n 1, 1) := by decide +kernel
theorem dX8_layPay_59 : decode cX8_layPay 59 = .ok (.iaload, 1) := by decide +kernel
theorem dX8_layPay_60 : decode cX8_layPay 60 = .ok (.if_icmp .ge 79, 3) := by decide +kernel
theorem dX8_layPay_63 : decode cX8_layPay 63 = .ok (.iload 4, 2) := by decide +kernel
theorem dX8_layPay_65 : decode cX8_layPay 65 = .ok (.aload_n 0, 1) := by decide +kernel
theorem dX8_layPay_66 : decode cX8_layPay 66 = .ok (.getfield 13, 3) := by decide +kernel
theorem dX8_layPay_69 : decode cX8_layPay 69 = .ok (.iload_n 2, 1) := by decide +kernel
theorem dX8_layPay_70 : decode cX8_layPay 70 = .ok (.iaload, 1) := by decide +kernel
theorem dX8_layPay_71 : decode cX8_layPay 71 = .ok (.if_icmp .ge 68, 3) := by decide +kernel
theorem dX8_layPay_74 : decode cX8_layPay 74 = .ok (.aload_n 0, 1) := by decide +kernel
theorem dX8_layPay_75 : decode cX8_layPay 75 = .ok (.getfield 41, 3) := by decide +kernel
theorem dX8_layPay_78 : decode cX8_layPay 78 = .ok (.bipush 8, 2) := by decide +kernel
theorem dX8_layPay_80 : decode cX8_layPay 80 = .ok (.iload_n 3, 1) := by decide +kernel
theorem dX8_layPay_81 : decode cX8_layPay 81 = .ok (.imul, 1) := by decide +kernel
theorem dX8_layPay_82 : decode cX8_layPay 82 = .ok (.iload 4, 2) := by decide +kernel
theorem dX8_layPay_84 : decode cX8_layPay 84 = .ok (.iadd, 1) := by decide +kernel
theorem dX8_layPay_85 : decode cX8_layPay 85 = .ok (.aload_n 0, 1) := by decide +kernel
theorem dX8_layPay_86 : decode cX8_layPay 86 = .ok (.bipush 8, 2) := by decide +kernel
theorem dX8_layPay_88 : decode cX8_layPay 88 = .ok (.iload_n 1, 1) := by decide +kernel
theorem dX8_layPay_89 : decode cX8_layPay 89 = .ok (.imul, 1) := by decide +kernel
theorem dX8_layPay_90 : decode cX8_layPay 90 = .ok (.iload_n 3, 1) := by decide +kernel
theorem dX8_layPay_91 : decode cX8_layPay 91 = .ok (.iadd, 1) := by decide +kernel
theorem dX8_layPay_92 : decode cX8_layPay 92 = .ok (.bipush 8, 2) := by decide +kernel
theorem dX8_layPay_94 : decode cX8_layPay 94 = .ok (.iload_n 2, 1) := by decide +kernel
theorem dX8_layPay_95 : decode cX8_layPay 95 = .ok (.imul, 1) := by decide +kernel
theorem dX8_layPay_96 : decode cX8_layPay 96 = .ok (.iload 4, 2) := by decide +kernel
theorem dX8_layPay_98 : decode cX8_layPay 98 = .ok (.iadd, 1) := by decide +kernel
theorem dX8_layPay_99 : decode cX8_layPay 99 = .ok (.invokevirtual 147, 3) := by decide +kernel
theorem dX8_layPay_102 : decode cX8_layPay 102 = .ok (.iastore, 1) := by decide +kernel
theorem dX8_layPay_103 : decode cX8_layPay 103 = .ok (.iload 5, 2) := by decide +kernel
theorem dX8_layPay_105 : decode cX8_layPay 105 = .ok (.aload_n 0, 1) := by decide +kernel
theorem dX8_layPay_106 : decode cX8_layPay 106 = .ok (.getfield 41, 3) := by decide +kernel
theorem dX8_layPay_109 : decode cX8_layPay 109 = .ok (.bipush 8, 2) := by decide +kernel
theorem dX8_layPay_111 : decode cX8_layPay 111 = .ok (.iload_n 3, 1) := by decide +kernel
theorem dX8_layPay_112 : decode cX8_layPay 112 = .ok (.imul, 1) := by decide +kernel
theorem dX8_layPay_113 : decode cX8_layPay 113 = .ok (.iload 4, 2) := by decide +kernel
theorem dX8_layPay_115 : decode cX8_layPay 115 = .ok (.iadd, 1) := by decide +kernel
theorem dX8_layPay_116 : decode cX8_layPay 116 = .ok (.iaload, 1) := by decide +kernel
theorem dX8_layPay_117 : decode cX8_layPay 117 = .ok (.aload_n 0, 1) := by decide +kernel
theorem dX8_layPay_118 : decode cX8_layPay 118 = .ok (.getfield 38, 3) := by decide +kernel
theorem dX8_layPay_121 : decode cX8_layPay 121 = .ok (.bipush 9, 2) := by decide +kernel
theorem dX8_layPay_123 : decode cX8_layPay 123 = .ok (.iload_n 3, 1) := by decide +kernel
theorem dX8_layPay_124 : decode cX8_layPay 124 = .ok (.iconst 1, 1) := by decide +kernel
theorem dX8_layPay_125 : decode cX8_layPay 125 = .ok (.iadd, 1) := by decide +kernel
theorem dX8_layPay_126 : decode cX8_layPay 126 = .ok (.imul, 1) := by decide +kernel
theorem dX8_layPay_127 : decode cX8_layPay 127 = .ok (.iload 4, 2) := by decide +kernel
theorem dX8_layPay_129 : decode cX8_layPay 129 = .ok (.iadd, 1) := by decide +kernel
theorem dX8_layPay_130 : decode cX8_layPay 130 = .ok (.iconst 1, 1) := by decide +kernel
theorem dX8_layPay_131 : decode cX8_layPay 131 = .ok (.iadd, 1) := by decide +kernel
theorem dX8_layPay_132 : decode cX8_layPay 132 = .ok (.iaload, 1) := by decide +kernel
theorem dX8_layPay_133 : decode cX8_layPay 133 = .ok (.iadd, 1) := by decide +kernel
theorem dX8_layPay_134 : decode cX8_layPay 134 = .ok (.invokestatic 133, 3) := by decide +kernel
theorem dX8_layPay_137 : decode cX8_layPay 137 = .ok (.istore 5, 2) := by decide +kernel
theorem dX8_layPay_139 : decode cX8_layPay 139 = .ok (.iload_n 3, 1) := by decide +kernel
theorem dX8_layPay_140 : decode cX8_layPay 140 = .ok (.aload_n 0, 1) := by decide +kernel
theorem dX8_layPay_141 : decode cX8_layPay 141 = .ok (.getfield 13, 3) := by decide +kernel
theorem dX8_layPay_144 : decode cX8_layPay 144 = .ok (.iload_n 1, 1) := by decide +kernel
theorem dX8_layPay_145 : decode cX8_layPay 145 = .ok (.iaload, 1) := by decide +kernel
theorem dX8_layPay_146 : decode cX8_layPay 146 = .ok (.if_icmp .ge 36, 3) := by decide +kernel
theorem dX8_layPay_149 : decode cX8_layPay 149 = .ok (.iload 5, 2) := by decide +kernel
theorem dX8_layPay_151 : decode cX8_layPay 151 = .ok (.aload_n 0, 1) := by decide +kernel
theorem dX8_layPay_152 : decode cX8_layPay 152 = .ok (.bipush 8, 2) := by decide +kernel
theorem dX8_layPay_154 : decode cX8_layPay 154 = .ok (.iload_n 1, 1) := by decide +kernel
theorem dX8_layPay_155 : decode cX8_layPay 155 = .ok (.imul, 1) := by decide +kernel
theorem dX8_layPay_156 : decode cX8_layPay 156 = .ok (.iload_n 3, 1) := by decide +kernel
theorem dX8_layPay_157 : decode cX8_layPay 157 = .ok (.iadd, 1) := by decide +kernel
theorem dX8_layPay_158 : decode cX8_layPay 158 = .ok (.invokevirtual 150, 3) := by decide +kernel
theorem dX8_layPay_161 : decode cX8_layPay 161 = .ok (.aload_n 0, 1) := by decide +kernel
theorem dX8_layPay_162 : decode cX8_layPay 162 = .ok (.getfield 38, 3) := by decide +kernel
theorem dX8_layPay_165 : decode cX8_layPay 165 = .ok (.bipush 9, 2) := by decide +kernel
theorem dX8_layPay_167 : decode cX8_layPay 167 = .ok (.iload_n 3, 1) := by decide +kernel
theorem dX8_layPay_168 : decode cX8_layPay 168 = .ok (.iconst 1, 1) := by decide +kernel
theorem dX8_layPay_169 : decode cX8_layPay 169 = .ok (.iadd, 1) := by decide +kernel
theorem dX8_layPay_170 : decode cX8_layPay 170 = .ok (.imul, 1) := by decide +kernel
theorem dX8_layPay_171 : decode cX8_layPay 171 = .ok (.iload 4, 2) := by decide +kernel
theorem dX8_layPay_173 : decode cX8_layPay 173 = .ok (.iadd, 1) := by decide +kernel
theorem dX8_layPay_174 : decode cX8_layPay 174 = .ok (.iaload, 1) := by decide +kernel
theorem dX8_layPay_175 : decode cX8_layPay 175 = .ok (.iadd, 1) := by decide +kernel
theorem dX8_layPay_176 : decode cX8_layPay 176 = .ok (.invokestatic 133, 3) := by decide +kernel
theorem dX8_layPay_179 : decode cX8_layPay 179 = .ok (.goto 5, 3) := by decide +kernel
theorem dX8_layPay_182 : decode cX8_layPay 182 = .ok (.iload 5, 2) := by decide +kernel
theorem dX8_layPay_184 : decode cX8_layPay 184 = .ok (.istore 5, 2) := by decide +kernel
theorem dX8_layPay_186 : decode cX8_layPay 186 = .ok (.iload 4, 2) := by decide +kernel
theorem dX8_layPay_188 : decode cX8_layPay 188 = .ok (.aload_n 0, 1) := by decide +kernel
theorem dX8_layPay_189 : decode cX8_layPay 189 = .ok (.getfield 13, 3) := by decide +kernel
theorem dX8_layPay_192 : decode cX8_layPay 192 = .ok (.iload_n 2, 1) := by decide +kernel
theorem dX8_layPay_193 : decode cX8_layPay 193 = .ok (.iaload, 1) := by decide +kernel
theorem dX8_layPay_194 : decode cX8_layPay 194 = .ok (.if_icmp .ge 37, 3) := by decide +kernel
theorem dX8_layPay_197 : decode cX8_layPay 197 = .ok (.iload 5, 2) := by decide +kernel
theorem dX8_layPay_199 : decode cX8_layPay 199 = .ok (.aload_n 0, 1) := by decide +kernel
theorem dX8_layPay_200 : decode cX8_layPay 200 = .ok (.bipush 8, 2) := by decide +kernel
theorem dX8_layPay_202 : decode cX8_layPay 202 = .ok (.iload_n 2, 1) := by decide +kernel
theorem dX8_layPay_203 : decode cX8_layPay 203 = .ok (.imul, 1) := by decide +kernel
theorem dX8_layPay_204 : decode cX8_layPay 204 = .ok (.iload 4, 2) := by decide +kernel
theorem dX8_layPay_206 : decode cX8_layPay 206 = .ok (.iadd, 1) := by decide +kernel
theorem dX8_layPay_207 : decode cX8_layPay 207 = .ok (.invokevirtual 150, 3) := by decide +kernel
theorem dX8_layPay_210 : decode cX8_layPay 210 = .ok (.aload_n 0, 1) := by decide +kernel
theorem dX8_layPay_211 : decode cX8_layPay 211 = .ok (.getfield 38, 3) := by decide +kernel
theorem dX8_layPay_214 : decode cX8_layPay 214 = .ok (.bipush 9, 2) := by decide +kernel
theorem dX8_layPay_216 : decode cX8_layPay 216 = .ok (.iload_n 3, 1) := by decide +kernel
theorem dX8_layPay_217 : decode cX8_layPay 217 = .ok (.imul, 1) := by decide +kernel
theorem dX8_layPay_218 : decode cX8_layPay 218 = .ok (.iload 4, 2) := by decide +kernel
theorem dX8_layPay_220 : decode cX8_layPay 220 = .ok (.iadd, 1) := by decide +kernel
theorem dX8_layPay_221 : decode cX8_layPay 221 = .ok (.iconst 1, 1) := by decide +kernel
theorem dX8_layPay_222 : decode cX8_layPay 222 = .ok (.iadd, 1) := by decide +kernel
theorem dX8_layPay_223 : decode cX8_layPay 223 = .ok (.iaload, 1) := by decide +kernel
theorem dX8_layPay_224 : decode cX8_layPay 224 = .ok (.iadd, 1) := by decide +kernel
theorem dX8_layPay_225 : decode cX8_layPay 225 = .ok (.invokestatic 133, 3) := by decide +kernel
theorem dX8_layPay_228 : decode cX8_layPay 228 = .ok (.goto 5, 3) := by decide +kernel
theorem dX8_layPay_231 : decode cX8_layPay 231 = .ok (.iload 5, 2) := by decide +kernel
theorem dX8_layPay_233 : decode cX8_layPay 233 = .ok (.istore 5, 2) := by decide +kernel
theorem dX8_layPay_235 : decode cX8_layPay 235 = .ok (.aload_n 0, 1) := by decide +kernel
theorem dX8_layPay_236 : decode cX8_layPay 236 = .ok (.getfield 38, 3) := by decide +kernel
theorem dX8_layPay_239 : decode cX8_layPay 239 = .ok (.bipush 9, 2) := by decide +kernel
theorem dX8_layPay_241 : decode cX8_layPay 241 = .ok (.iload_n 3, 1) := by decide +kernel
theorem dX8_layPay_242 : decode cX8_layPay 242 = .ok (.imul, 1) := by decide +kernel
theorem dX8_layPay_243 : decode cX8_layPay 243 = .ok (.iload 4, 2) := by decide +kernel
theorem dX8_layPay_245 : decode cX8_layPay 245 = .ok (.iadd, 1) := by decide +kernel
theorem dX8_layPay_246 : decode cX8_layPay 246 = .ok (.iload 5, 2) := by decide +kernel
theorem dX8_layPay_248 : decode cX8_layPay 248 = .ok (.iastore, 1) := by decide +kernel
theorem dX8_layPay_249 : decode cX8_layPay 249 = .ok (.iinc 4 (-1), 3) := by decide +kernel
theorem dX8_layPay_252 : decode cX8_layPay 252 = .ok (.goto (-233), 3) := by decide +kernel
theorem dX8_layPay_255 : decode cX8_layPay 255 = .ok (.iinc 3 (-1), 3) := by decide +kernel
theorem dX8_layPay_258 : decode cX8_layPay 258 = .ok (.goto (-251), 3) := by decide +kernel
theorem dX8_layPay_261 : decode cX8_layPay 261 = .ok (.return_, 1) := by decide +kernel
theorem dX8_putStep_0 : decode cX8_putStep 0 = .ok (.aload_n 0, 1) := by decide +kernel
theorem dX8_putStep_1 : decode cX8_putStep 1 = .ok (.getfield 44, 3) := by decide +kernel
theorem dX8_putStep_4 : decode cX8_putStep 4 = .ok (.aload_n 0, 1) := by decide +kernel
theorem dX8_putStep_5 : decode cX8_putStep 5 = .ok (.getfield 154, 3) := by decide +kernel
theorem dX8_putStep_8 : decode cX8_putStep 8 = .ok (.iload_n 1, 1) := by decide +kernel
theorem dX8_putStep_9 : decode cX8_putStep 9 = .ok (.iastore, 1) := by decide +kernel
theorem dX8_putStep_10 : decode cX8_putStep 10 = .ok (.aload_n 0, 1) := by decide +kernel
theorem dX8_putStep_11 : decode cX8_putStep 11 = .ok (.getfield 47, 3) := by decide +kernel
theorem dX8_putStep_14 : decode cX8_putStep 14 = .ok (.aload_n 0, 1) := by decide +kernel
theorem dX8_putStep_15 : decode cX8_putStep 15 = .ok (.getfield 154, 3) := by decide +kernel
theorem dX8_putStep_18 : decode cX8_putStep 18 = .ok (.iload_n 2, 1) := by decide +kernel
theorem dX8_putStep_19 : decode cX8_putStep 19 = .ok (.iastore, 1) := by decide +kernel
theorem dX8_putStep_20 : decode cX8_putStep 20 = .ok (.aload_n 0, 1) := by decide +kernel
theorem dX8_putStep_21 : decode cX8_putStep 21 = .ok (.getfield 50, 3) := by decide +kernel
theorem dX8_putStep_24 : decode cX8_putStep 24 = .ok (.aload_n 0, 1) := by decide +kernel
theorem dX8_putStep_25 : decode cX8_putStep 25 = .ok (.getfield 154, 3) := by decide +kernel
theorem dX8_putStep_28 : decode cX8_putStep 28 = .ok (.iload_n 3, 1) := by decide +kernel
theorem dX8_putStep_29 : decode cX8_putStep 29 = .ok (.iastore, 1) := by decide +kernel
theorem dX8_putStep_30 : decode cX8_putStep 30 = .ok (.aload_n 0, 1) := by decide +kernel
theorem dX8_putStep_31 : decode cX8_putStep 31 = .ok (.getfield 53, 3) := by decide +kernel
theorem dX8_putStep_34 : decode cX8_putStep 34 = .ok (.aload_n 0, 1) := by decide +kernel
theorem dX8_putStep_35 : decode cX8_putStep 35 = .ok (.getfield 154, 3) := by decide +kernel
theorem dX8_putStep_38 : decode cX8_putStep 38 = .ok (.iload 4, 2) := by decide +kernel
theorem dX8_putStep_40 : decode cX8_putStep 40 = .ok (.iastore, 1) := by decide +kernel
theorem dX8_putStep_41 : decode cX8_putStep 41 = .ok (.aload_n 0, 1) := by decide +kernel
theorem dX8_putStep_42 : decode cX8_putStep 42 = .ok (.dup, 1) := by decide +kernel
theorem dX8_putStep_43 : decode cX8_putStep 43 = .ok (.getfield 154, 3) := by decide +kernel
theorem dX8_putStep_46 : decode cX8_putStep 46 = .ok (.iconst 1, 1) := by decide +kernel
theorem dX8_putStep_47 : decode cX8_putStep 47 = .ok (.iadd, 1) := by decide +kernel
theorem dX8_putStep_48 : decode cX8_putStep 48 = .ok (.putfield 154, 3) := by decide +kernel
theorem dX8_putStep_51 : decode cX8_putStep 51 = .ok (.return_, 1) := by decide +kernel
theorem dX8_laySteps_0 : decode cX8_laySteps 0 = .ok (.aload_n 0, 1) := by decide +kernel
theorem dX8_laySteps_1 : decode cX8_laySteps 1 = .ok (.iload_n 1, 1) := by decide +kernel
theorem dX8_laySteps_2 : decode cX8_laySteps 2 = .ok (.iload_n 2, 1) := by decide +kernel
theorem dX8_laySteps_3 : decode cX8_laySteps 3 = .ok (.invokevirtual 157, 3) := by decide +kernel
theorem dX8_laySteps_6 : decode cX8_laySteps 6 = .ok (.aload_n 0, 1) := by decide +kernel
theorem dX8_laySteps_7 : decode cX8_laySteps 7 = .ok (.iconst 0, 1) := by decide +kernel
theorem dX8_laySteps_8 : decode cX8_laySteps 8 = .ok (.putfield 154, 3) := by decide +kernel
theorem dX8_laySteps_11 : decode cX8_laySteps 11 = .ok (.iconst 0, 1) := by decide +kernel
theorem dX8_laySteps_12 : decode cX8_laySteps 12 = .ok (.istore_n 3, 1) := by decide +kernel
theorem dX8_laySteps_13 : decode cX8_laySteps 13 = .ok (.iconst 0, 1) := by decide +kernel
theorem dX8_laySteps_14 : decode cX8_laySteps 14 = .ok (.istore 4, 2) := by decide +kernel
theorem dX8_laySteps_16 : decode cX8_laySteps 16 = .ok (.iload_n 3, 1) := by decide +kernel
theorem dX8_laySteps_17 : decode cX8_laySteps 17 = .ok (.aload_n 0, 1) := by decide +kernel
theorem dX8_laySteps_18 : decode cX8_laySteps 18 = .ok (.getfield 13, 3) := by decide +kernel
theorem dX8_laySteps_21 : decode cX8_laySteps 21 = .ok (.iload_n 1, 1) := by decide +kernel
theorem dX8_laySteps_22 : decode cX8_laySteps 22 = .ok (.iaload, 1) := by decide +kernel
theorem dX8_laySteps_23 : decode cX8_laySteps 23 = .ok (.if_icmp .lt 14, 3) := by decide +kernel
theorem dX8_laySteps_26 : decode cX8_laySteps 26 = .ok (.iload 4, 2) := by decide +kernel
theorem dX8_laySteps_28 : decode cX8_laySteps 28 = .ok (.aload_n 0, 1) := by decide +kernel
theorem dX8_laySteps_29 : decode cX8_laySteps 29 = .ok (.getfield 13, 3) := by decide +kernel
theorem dX8_laySteps_32 : decode cX8_laySteps 32 = .ok (.iload_n 2, 1) := by decide +kernel
theorem dX8_laySteps_33 : decode cX8_laySteps 33 = .ok (.iaload, 1) := by decide +kernel
theorem dX8_laySteps_34 : decode cX8_laySteps 34 = .ok (.if_icmp .ge 201, 3) := by decide +kernel
theorem dX8_laySteps_37 : decode cX8_laySteps 37 = .ok (.aload_n 0, 1) := by decide +kernel
theorem dX8_laySteps_38 : decode cX8_laySteps 38 = .ok (.getfield 38, 3) := by decide +kernel
theorem dX8_laySteps_41 : decode cX8_laySteps 41 = .ok (.bipush 9, 2) := by decide +kernel
theorem dX8_laySteps_43 : decode cX8_laySteps 43 = .ok (.iload_n 3, 1) := by decide +kernel
theorem dX8_laySteps_44 : decode cX8_laySteps 44 = .ok (.imul, 1) := by decide +kernel
theorem dX8_laySteps_45 : decode cX8_laySteps 45 = .ok (.iload 4, 2) := by decide +kernel
theorem dX8_laySteps_47 : decode cX8_laySteps 47 = .ok (.iadd, 1) := by decide +kernel
theorem dX8_laySteps_48 : decode cX8_laySteps 48 = .ok (.iaload, 1) := by decide +kernel
theorem dX8_laySteps_49 : decode cX8_laySteps 49 = .ok (.istore 5, 2) := by decide +kernel
theorem dX8_laySteps_51 : decode cX8_laySteps 51 = .ok (.iload_n 3, 1) := by decide +kernel
theorem dX8_laySteps_52 : decode cX8_laySteps 52 = .ok (.aload_n 0, 1) := by decide +kernel
theorem dX8_laySteps_53 : decode cX8_laySteps 53 = .ok (.getfield 13, 3) := by decide +kernel
theorem dX8_laySteps_56 : decode cX8_laySteps 56 = .ok (.iload_n 1, 1) := by decide +kernel
theorem dX8_laySteps_57 : decode cX8_laySteps 57 = .ok (.iaload, 1) := by decide +kernel
theorem dX8_laySteps_58 : decode cX8_laySteps 58 = .ok (.if_icmp .ge 18, 3) := by decide +kernel
theorem dX8_laySteps_61 : decode cX8_laySteps 61 = .ok (.iload 4, 2) := by decide +kernel
theorem dX8_laySteps_63 : decode cX8_laySteps 63 = .ok (.aload_n 0, 1) := by decide +kernel
theorem dX8_laySteps_64 : decode cX8_laySteps 64 = .ok (.getfield 13, 3) := by decide +kernel
theorem dX8_laySteps_67 : decode cX8_laySteps 67 = .ok (.iload_n 2, 1) := by decide +kernel
theorem dX8_laySteps_68 : decode cX8_laySteps 68 = .ok (.iaload, 1) := by decide +kernel
theorem dX8_laySteps_69 : decode cX8_laySteps 69 = .ok (.if_icmp .ge 7, 3) := by decide +kernel
theorem dX8_laySteps_72 : decode cX8_laySteps 72 = .ok (.iconst 1, 1) := by decide +kernel
theorem dX8_laySteps_73 : decode cX8_laySteps 73 = .ok (.goto 4, 3) := by decide +kernel
theorem dX8_laySteps_76 : decode cX8_laySteps 76 = .ok (.iconst 0, 1) := by decide +kernel
theorem dX8_laySteps_77 : decode cX8_laySteps 77 = .ok (.istore 6, 2) := by decide +kernel
theorem dX8_laySteps_79 : decode cX8_laySteps 79 = .ok (.iload 6, 2) := by decide +kernel
theorem dX8_laySteps_81 : decode cX8_laySteps 81 = .ok (.ifCond .eq 66, 3) := by decide +kernel
theorem dX8_laySteps_84 : decode cX8_laySteps 84 = .ok (.aload_n 0, 1) := by decide +kernel
theorem dX8_laySteps_85 : decode cX8_laySteps 85 = .ok (.getfield 41, 3) := by decide +kernel
theorem dX8_laySteps_88 : decode cX8_laySteps 88 = .ok (.bipush 8, 2) := by decide +kernel
theorem dX8_laySteps_90 : decode cX8_laySteps 90 = .ok (.iload_n 3, 1) := by decide +kernel
theorem dX8_laySteps_91 : decode cX8_laySteps 91 = .ok (.imul, 1) := by decide +kernel
theorem dX8_laySteps_92 : decode cX8_laySteps 92 = .ok (.iload 4, 2) := by decide +kernel
theorem dX8_laySteps_94 : decode cX8_laySteps 94 = .ok (.iadd, 1) := by decide +kernel
theorem dX8_laySteps_95 : decode cX8_laySteps 95 = .ok (.iaload, 1) := by decide +kernel
theorem dX8_laySteps_96 : decode cX8_laySteps 96 = .ok (.aload_n 0, 1) := by decide +kernel
theorem dX8_laySteps_97 : decode cX8_laySteps 97 = .ok (.getfield 38, 3) := by decide +kernel
theorem dX8_laySteps_100 : decode cX8_laySteps 100 = .ok (.bipush 9, 2) := by decide +kernel
theorem dX8_laySteps_102 : decode cX8_laySteps 102 = .ok (.iload_n 3, 1) := by decide +kernel
theorem dX8_laySteps_103 : decode cX8_laySteps 103 = .ok (.iconst 1, 1) := by decide +kernel
theorem dX8_laySteps_104 : decode cX8_laySteps 104 = .ok (.iadd, 1) := by decide +kernel
theorem dX8_laySteps_105 : decode cX8_laySteps 105 = .ok (.imul, 1) := by decide +kernel
theorem dX8_laySteps_106 : decode cX8_laySteps 106 = .ok (.iload 4, 2) := by decide +kernel
theorem dX8_laySteps_108 : decode cX8_laySteps 108 = .ok (.iadd, 1) := by decide +kernel
theorem dX8_laySteps_109 : decode cX8_laySteps 109 = .ok (.iconst 1, 1) := by decide +kernel
theorem dX8_laySteps_110 : decode cX8_laySteps 110 = .ok (.iadd, 1) := by decide +kernel
theorem dX8_laySteps_111 : decode cX8_laySteps 111 = .ok (.iaload, 1) := by decide +kernel
theorem dX8_laySteps_112 : decode cX8_laySteps 112 = .ok (.iadd, 1) := by decide +kernel
theorem dX8_laySteps_113 : decode cX8_laySteps 113 = .ok (.iload 5, 2) := by decide +kernel
theorem dX8_laySteps_115 : decode cX8_laySteps 115 = .ok (.if_icmp .ne 32, 3) := by decide +kernel
theorem dX8_laySteps_118 : decode cX8_laySteps 118 = .ok (.aload_n 0, 1) := by decide +kernel
theorem dX8_laySteps_119 : decode cX8_laySteps 119 = .ok (.iconst 0, 1) := by decide +kernel
theorem dX8_laySteps_120 : decode cX8_laySteps 120 = .ok (.aload_n 0, 1) := by decide +kernel
theorem dX8_laySteps_121 : decode cX8_laySteps 121 = .ok (.getfield 41, 3) := by decide +kernel
theorem dX8_laySteps_124 : decode cX8_laySteps 124 = .ok (.bipush 8, 2) := by decide +kernel
theorem dX8_laySteps_126 : decode cX8_laySteps 126 = .ok (.iload_n 3, 1) := by decide +kernel
theorem dX8_laySteps_127 : decode cX8_laySteps 127 = .ok (.imul, 1) := by decide +kernel
theorem dX8_laySteps_128 : decode cX8_laySteps 128 = .ok (.iload 4, 2) := by decide +kernel
theorem dX8_laySteps_130 : decode cX8_laySteps 130 = .ok (.iadd, 1) := by decide +kernel
theorem dX8_laySteps_131 : decode cX8_laySteps 131 = .ok (.iaload, 1) := by decide +kernel
theorem dX8_laySteps_132 : decode cX8_laySteps 132 = .ok (.iload_n 3, 1) := by decide +kernel
theorem dX8_laySteps_133 : decode cX8_laySteps 133 = .ok (.iload 4, 2) := by decide +kernel
theorem dX8_laySteps_135 : decode cX8_laySteps 135 = .ok (.invokevirtual 160, 3) := by decide +kernel
theorem dX8_laySteps_138 : decode cX8_laySteps 138 = .ok (.iinc 3 1, 3) := by decide +kernel
theorem dX8_laySteps_141 : decode cX8_laySteps 141 = .ok (.iinc 4 1, 3) := by decide +kernel
theorem dX8_laySteps_144 : decode cX8_laySteps 144 = .ok (.goto 88, 3) := by decide +kernel
theorem dX8_laySteps_147 : decode cX8_laySteps 147 = .ok (.iload_n 3, 1) := by decide +kernel
theorem dX8_laySteps_148 : decode cX8_laySteps 148 = .ok (.aload_n 0, 1) := by decide +kernel
theorem dX8_laySteps_149 : decode cX8_laySteps 149 = .ok (.getfield 13, 3) := by decide +kernel
theorem dX8_laySteps_152 : decode cX8_laySteps 152 = .ok (.iload_n 1, 1) := by decide +kernel
theorem dX8_laySteps_153 : decode cX8_laySteps 153 = .ok (.iaload, 1) := by decide +kernel
theorem dX8_laySteps_154 : decode cX8_laySteps 154 = .ok (.if_icmp .ge 56, 3) := by decide +kernel
theorem dX8_laySteps_157 : decode cX8_laySteps 157 = .ok (.aload_n 0, 1) := by decide +kernel
theorem dX8_laySteps_158 : decode cX8_laySteps 158 = .ok (.bipush 8, 2) := by decide +kernel
theorem dX8_laySteps_160 : decode cX8_laySteps 160 = .ok (.iload_n 1, 1) := by decide +kernel
theorem dX8_laySteps_161 : decode cX8_laySteps 161 = .ok (.imul, 1) := by decide +kernel
theorem dX8_laySteps_162 : decode cX8_laySteps 162 = .ok (.iload_n 3, 1) := by decide +kernel
theorem dX8_laySteps_163 : decode cX8_laySteps 163 = .ok (.iadd, 1) := by decide +kernel
theorem dX8_laySteps_164 : decode cX8_laySteps 164 = .ok (.invokevirtual 150, 3) := by decide +kernel
theorem dX8_laySteps_167 : decode cX8_laySteps 167 = .ok (.aload_n 0, 1) := by decide +kernel
theorem dX8_laySteps_168 : decode cX8_laySteps 168 = .ok (.getfield 38, 3) := by decide +kernel
theorem dX8_laySteps_171 : decode cX8_laySteps 171 = .ok (.bipush 9, 2) := by decide +kernel
theorem dX8_laySteps_173 : decode cX8_laySteps 173 = .ok (.iload_n 3, 1) := by decide +kernel
theorem dX8_laySteps_174 : decode cX8_laySteps 174 = .ok (.iconst 1, 1) := by decide +kernel
theorem dX8_laySteps_175 : decode cX8_laySteps 175 = .ok (.iadd, 1) := by decide +kernel
theorem dX8_laySteps_176 : decode cX8_laySteps 176 = .ok (.imul, 1) := by decide +kernel
theorem dX8_laySteps_177 : decode cX8_laySteps 177 = .ok (.iload 4, 2) := by decide +kernel
theorem dX8_laySteps_179 : decode cX8_laySteps 179 = .ok (.iadd, 1) := by decide +kernel
theorem dX8_laySteps_180 : decode cX8_laySteps 180 = .ok (.iaload, 1) := by decide +kernel
theorem dX8_laySteps_181 : decode cX8_laySteps 181 = .ok (.iadd, 1) := by decide +kernel
theorem dX8_laySteps_182 : decode cX8_laySteps 182 = .ok (.iload 5, 2) := by decide +kernel
theorem dX8_laySteps_184 : decode cX8_laySteps 184 = .ok (.if_icmp .ne 26, 3) := by decide +kernel
theorem dX8_laySteps_187 : decode cX8_laySteps 187 = .ok (.aload_n 0, 1) := by decide +kernel
theorem dX8_laySteps_188 : decode cX8_laySteps 188 = .ok (.iconst 1, 1) := by decide +kernel
theorem dX8_laySteps_189 : decode cX8_laySteps 189 = .ok (.aload_n 0, 1) := by decide +kernel
theorem dX8_laySteps_190 : decode cX8_laySteps 190 = .ok (.bipush 8, 2) := by decide +kernel
theorem dX8_laySteps_192 : decode cX8_laySteps 192 = .ok (.iload_n 1, 1) := by decide +kernel
theorem dX8_laySteps_193 : decode cX8_laySteps 193 = .ok (.imul, 1) := by decide +kernel
theorem dX8_laySteps_194 : decode cX8_laySteps 194 = .ok (.iload_n 3, 1) := by decide +kernel
theorem dX8_laySteps_195 : decode cX8_laySteps 195 = .ok (.iadd, 1) := by decide +kernel
theorem dX8_laySteps_196 : decode cX8_laySteps 196 = .ok (.invokevirtual 150, 3) := by decide +kernel
theorem dX8_laySteps_199 : decode cX8_laySteps 199 = .ok (.iload_n 3, 1) := by decide +kernel
theorem dX8_laySteps_200 : decode cX8_laySteps 200 = .ok (.iconst (-1), 1) := by decide +kernel
theorem dX8_laySteps_201 : decode cX8_laySteps 201 = .ok (.invokevirtual 160, 3) := by decide +kernel
theorem dX8_laySteps_204 : decode cX8_laySteps 204 = .ok (.iinc 3 1, 3) := by decide +kernel
theorem dX8_laySteps_207 : decode cX8_laySteps 207 = .ok (.goto 25, 3) := by decide +kernel
theorem dX8_laySteps_210 : decode cX8_laySteps 210 = .ok (.aload_n 0, 1) := by decide +kernel
theorem dX8_laySteps_211 : decode cX8_laySteps 211 = .ok (.iconst 2, 1) := by decide +kernel
theorem dX8_laySteps_212 : decode cX8_laySteps 212 = .ok (.aload_n 0, 1) := by decide +kernel
theorem dX8_laySteps_213 : decode cX8_laySteps 213 = .ok (.bipush 8, 2) := by decide +kernel
theorem dX8_laySteps_215 : decode cX8_laySteps 215 = .ok (.iload_n 2, 1) := by decide +kernel
theorem dX8_laySteps_216 : decode cX8_laySteps 216 = .ok (.imul, 1) := by decide +kernel
theorem dX8_laySteps_217 : decode cX8_laySteps 217 = .ok (.iload 4, 2) := by decide +kernel
theorem dX8_laySteps_219 : decode cX8_laySteps 219 = .ok (.iadd, 1) := by decide +kernel
theorem dX8_laySteps_220 : decode cX8_laySteps 220 = .ok (.invokevirtual 150, 3) := by decide +kernel
theorem dX8_laySteps_223 : decode cX8_laySteps 223 = .ok (.iconst (-1), 1) := by decide +kernel
theorem dX8_laySteps_224 : decode cX8_laySteps 224 = .ok (.iload 4, 2) := by decide +kernel
theorem dX8_laySteps_226 : decode cX8_laySteps 226 = .ok (.invokevirtual 160, 3) := by decide +kernel
theorem dX8_laySteps_229 : decode cX8_laySteps 229 = .ok (.iinc 4 1, 3) := by decide +kernel
theorem dX8_laySteps_232 : decode cX8_laySteps 232 = .ok (.goto (-216), 3) := by decide +kernel
theorem dX8_laySteps_235 : decode cX8_laySteps 235 = .ok (.return_, 1) := by decide +kernel
theorem dX8_farOf_0 : decode cX8_farOf 0 = .ok (.aload_n 0, 1) := by decide +kernel
theorem dX8_farOf_1 : decode cX8_farOf 1 = .ok (.iload_n 1, 1) := by decide +kernel
theorem dX8_farOf_2 : decode cX8_farOf 2 = .ok (.iload_n 2, 1) := by decide +kernel
theorem dX8_farOf_3 : decode cX8_farOf 3 = .ok (.invokevirtual 157, 3) := by decide +kernel
theorem dX8_farOf_6 : decode cX8_farOf 6 = .ok (.aload_n 0, 1) := by decide +kernel
theorem dX8_farOf_7 : decode cX8_farOf 7 = .ok (.getfield 38, 3) := by decide +kernel
theorem dX8_farOf_10 : decode cX8_farOf 10 = .ok (.iconst 0, 1) := by decide +kernel
theorem dX8_farOf_11 : decode cX8_farOf 11 = .ok (.iaload, 1) := by decide +kernel
theorem dX8_farOf_12 : decode cX8_farOf 12 = .ok (.ireturn, 1) := by decide +kernel
theorem dX8_costAll_0 : decode cX8_costAll 0 = .ok (.iconst 0, 1) := by decide +kernel
theorem dX8_costAll_1 : decode cX8_costAll 1 = .ok (.istore_n 2, 1) := by decide +kernel
theorem dX8_costAll_2 : decode cX8_costAll 2 = .ok (.iconst 0, 1) := by decide +kernel
theorem dX8_costAll_3 : decode cX8_costAll 3 = .ok (.istore_n 3, 1) := by decide +kernel
theorem dX8_costAll_4 : decode cX8_costAll 4 = .ok (.iload_n 3, 1) := by decide +kernel
theorem dX8_costAll_5 : decode cX8_costAll 5 = .ok (.aload_n 0, 1) := by decide +kernel
theorem dX8_costAll_6 : decode cX8_costAll 6 = .ok (.getfield 13, 3) := by decide +kernel
theorem dX8_costAll_9 : decode cX8_costAll 9 = .ok (.iload_n 1, 1) := by decide +kernel
theorem dX8_costAll_10 : decode cX8_costAll 10 = .ok (.iaload, 1) := by decide +kernel
theorem dX8_costAll_11 : decode cX8_costAll 11 = .ok (.if_icmp .ge 22, 3) := by decide +kernel
theorem dX8_costAll_14 : decode cX8_costAll 14 = .ok (.iload_n 2, 1) := by decide +kernel
theorem dX8_costAll_15 : decode cX8_costAll 15 = .ok (.aload_n 0, 1) := by decide +kernel
theorem dX8_costAll_16 : decode cX8_costAll 16 = .ok (.bipush 8, 2) := by decide +kernel
theorem dX8_costAll_18 : decode cX8_costAll 18 = .ok (.iload_n 1, 1) := by decide +kernel
theorem dX8_costAll_19 : decode cX8_costAll 19 = .ok (.imul, 1) := by decide +kernel
theorem dX8_costAll_20 : decode cX8_costAll 20 = .ok (.iload_n 3, 1) := by decide +kernel
theorem dX8_costAll_21 : decode cX8_costAll 21 = .ok (.iadd, 1) := by decide +kernel
theorem dX8_costAll_22 : decode cX8_costAll 22 = .ok (.invokevirtual 150, 3) := by decide +kernel
theorem dX8_costAll_25 : decode cX8_costAll 25 = .ok (.iadd, 1) := by decide +kernel
theorem dX8_costAll_26 : decode cX8_costAll 26 = .ok (.istore_n 2, 1) := by decide +kernel
theorem dX8_costAll_27 : decode cX8_costAll 27 = .ok (.iinc 3 1, 3) := by decide +kernel
theorem dX8_costAll_30 : decode cX8_costAll 30 = .ok (.goto (-26), 3) := by decide +kernel
theorem dX8_costAll_33 : decode cX8_costAll 33 = .ok (.iload_n 2, 1) := by decide +kernel
theorem dX8_costAll_34 : decode cX8_costAll 34 = .ok (.ireturn, 1) := by decide +kernel
theorem dX8_allOf_0 : decode cX8_allOf 0 = .ok (.aload_n 0, 1) := by decide +kernel
theorem dX8_allOf_1 : decode cX8_allOf 1 = .ok (.iload_n 1, 1) := by decide +kernel
theorem dX8_allOf_2 : decode cX8_allOf 2 = .ok (.invokevirtual 164, 3) := by decide +kernel
theorem dX8_allOf_5 : decode cX8_allOf 5 = .ok (.aload_n 0, 1) := by decide +kernel
theorem dX8_allOf_6 : decode cX8_allOf 6 = .ok (.iload_n 2, 1) := by decide +kernel
theorem dX8_allOf_7 : decode cX8_allOf 7 = .ok (.invokevirtual 164, 3) := by decide +kernel
theorem dX8_allOf_10 : decode cX8_allOf 10 = .ok (.iadd, 1) := by decide +kernel
theorem dX8_allOf_11 : decode cX8_allOf 11 = .ok (.ireturn, 1) := by decide +kernel
theorem dX8_scoreOf_0 : decode cX8_scoreOf 0 = .ok (.aload_n 0, 1) := by decide +kernel
theorem dX8_scoreOf_1 : decode cX8_scoreOf 1 = .ok (.iload_n 1, 1) := by decide +kernel
theorem dX8_scoreOf_2 : decode cX8_scoreOf 2 = .ok (.iload_n 2, 1) := by decide +kernel
theorem dX8_scoreOf_3 : decode cX8_scoreOf 3 = .ok (.invokevirtual 167, 3) := by decide +kernel
theorem dX8_scoreOf_6 : decode cX8_scoreOf 6 = .ok (.istore_n 3, 1) := by decide +kernel
theorem dX8_scoreOf_7 : decode cX8_scoreOf 7 = .ok (.sipush 1000, 3) := by decide +kernel
theorem dX8_scoreOf_10 : decode cX8_scoreOf 10 = .ok (.sipush 1000, 3) := by decide +kernel
theorem dX8_scoreOf_13 : decode cX8_scoreOf 13 = .ok (.aload_n 0, 1) := by decide +kernel
theorem dX8_scoreOf_14 : decode cX8_scoreOf 14 = .ok (.iload_n 1, 1) := by decide +kernel
theorem dX8_scoreOf_15 : decode cX8_scoreOf 15 = .ok (.iload_n 2, 1) := by decide +kernel
theorem dX8_scoreOf_16 : decode cX8_scoreOf 16 = .ok (.invokevirtual 170, 3) := by decide +kernel
theorem dX8_scoreOf_19 : decode cX8_scoreOf 19 = .ok (.imul, 1) := by decide +kernel
theorem dX8_scoreOf_20 : decode cX8_scoreOf 20 = .ok (.iload_n 3, 1) := by decide +kernel
theorem dX8_scoreOf_21 : decode cX8_scoreOf 21 = .ok (.iadd, 1) := by decide +kernel
theorem dX8_scoreOf_22 : decode cX8_scoreOf 22 = .ok (.iconst 1, 1) := by decide +kernel
theorem dX8_scoreOf_23 : decode cX8_scoreOf 23 = .ok (.isub, 1) := by decide +kernel
theorem dX8_scoreOf_24 : decode cX8_scoreOf 24 = .ok (.iload_n 3, 1) := by decide +kernel
theorem dX8_scoreOf_25 : decode cX8_scoreOf 25 = .ok (.idiv, 1) := by decide +kernel
theorem dX8_scoreOf_26 : decode cX8_scoreOf 26 = .ok (.isub, 1) := by decide +kernel
theorem dX8_scoreOf_27 : decode cX8_scoreOf 27 = .ok (.ireturn, 1) := by decide +kernel
theorem dX8_gramSign_0 : decode cX8_gramSign 0 = .ok (.iload_n 0, 1) := by decide +kernel
theorem dX8_gramSign_1 : decode cX8_gramSign 1 = .ok (.bipush 94, 2) := by decide +kernel
theorem dX8_gramSign_3 : decode cX8_gramSign 3 = .ok (.if_icmp .ne 7, 3) := by decide +kernel
theorem dX8_gramSign_6 : decode cX8_gramSign 6 = .ok (.iconst 0, 1) := by decide +kernel
theorem dX8_gramSign_7 : decode cX8_gramSign 7 = .ok (.goto 20, 3) := by decide +kernel
theorem dX8_gramSign_10 : decode cX8_gramSign 10 = .ok (.iload_n 0, 1) := by decide +kernel
theorem dX8_gramSign_11 : decode cX8_gramSign 11 = .ok (.bipush 36, 2) := by decide +kernel
theorem dX8_gramSign_13 : decode cX8_gramSign 13 = .ok (.if_icmp .ne 8, 3) := by decide +kernel
theorem dX8_gramSign_16 : decode cX8_gramSign 16 = .ok (.bipush 27, 2) := by decide +kernel
theorem dX8_gramSign_18 : decode cX8_gramSign 18 = .ok (.goto 9, 3) := by decide +kernel
theorem dX8_gramSign_21 : decode cX8_gramSign 21 = .ok (.iload_n 0, 1) := by decide +kernel
theorem dX8_gramSign_22 : decode cX8_gramSign 22 = .ok (.bipush 97, 2) := by decide +kernel
theorem dX8_gramSign_24 : decode cX8_gramSign 24 = .ok (.isub, 1) := by decide +kernel
theorem dX8_gramSign_25 : decode cX8_gramSign 25 = .ok (.iconst 1, 1) := by decide +kernel
theorem dX8_gramSign_26 : decode cX8_gramSign 26 = .ok (.iadd, 1) := by decide +kernel
theorem dX8_gramSign_27 : decode cX8_gramSign 27 = .ok (.ireturn, 1) := by decide +kernel
theorem dX8_gramAt_0 : decode cX8_gramAt 0 = .ok (.iload_n 2, 1) := by decide +kernel
theorem dX8_gramAt_1 : decode cX8_gramAt 1 = .ok (.ifCond .ne 7, 3) := by decide +kernel
theorem dX8_gramAt_4 : decode cX8_gramAt 4 = .ok (.iconst 0, 1) := by decide +kernel
theorem dX8_gramAt_5 : decode cX8_gramAt 5 = .ok (.goto 19, 3) := by decide +kernel
theorem dX8_gramAt_8 : decode cX8_gramAt 8 = .ok (.aload_n 0, 1) := by decide +kernel
theorem dX8_gramAt_9 : decode cX8_gramAt 9 = .ok (.getfield 25, 3) := by decide +kernel
theorem dX8_gramAt_12 : decode cX8_gramAt 12 = .ok (.bipush 12, 2) := by decide +kernel
theorem dX8_gramAt_14 : decode cX8_gramAt 14 = .ok (.iload_n 1, 1) := by decide +kernel
theorem dX8_gramAt_15 : decode cX8_gramAt 15 = .ok (.imul, 1) := by decide +kernel
theorem dX8_gramAt_16 : decode cX8_gramAt 16 = .ok (.iload_n 2, 1) := by decide +kernel
theorem dX8_gramAt_17 : decode cX8_gramAt 17 = .ok (.iadd, 1) := by decide +kernel
theorem dX8_gramAt_18 : decode cX8_gramAt 18 = .ok (.iconst 1, 1) := by decide +kernel
theorem dX8_gramAt_19 : decode cX8_gramAt 19 = .ok (.isub, 1) := by decide +kernel
theorem dX8_gramAt_20 : decode cX8_gramAt 20 = .ok (.iaload, 1) := by decide +kernel
theorem dX8_gramAt_21 : decode cX8_gramAt 21 = .ok (.invokestatic 173, 3) := by decide +kernel
theorem dX8_gramAt_24 : decode cX8_gramAt 24 = .ok (.istore_n 3, 1) := by decide +kernel
theorem dX8_gramAt_25 : decode cX8_gramAt 25 = .ok (.iload_n 2, 1) := by decide +kernel
theorem dX8_gramAt_26 : decode cX8_gramAt 26 = .ok (.aload_n 0, 1) := by decide +kernel
theorem dX8_gramAt_27 : decode cX8_gramAt 27 = .ok (.getfield 19, 3) := by decide +kernel
theorem dX8_gramAt_30 : decode cX8_gramAt 30 = .ok (.iload_n 1, 1) := by decide +kernel
theorem dX8_gramAt_31 : decode cX8_gramAt 31 = .ok (.iaload, 1) := by decide +kernel
theorem dX8_gramAt_32 : decode cX8_gramAt 32 = .ok (.if_icmp .ne 8, 3) := by decide +kernel
theorem dX8_gramAt_35 : decode cX8_gramAt 35 = .ok (.bipush 27, 2) := by decide +kernel
theorem dX8_gramAt_37 : decode cX8_gramAt 37 = .ok (.goto 17, 3) := by decide +kernel
theorem dX8_gramAt_40 : decode cX8_gramAt 40 = .ok (.aload_n 0, 1) := by decide +kernel
theorem dX8_gramAt_41 : decode cX8_gramAt 41 = .ok (.getfield 25, 3) := by decide +kernel
theorem dX8_gramAt_44 : decode cX8_gramAt 44 = .ok (.bipush 12, 2) := by decide +kernel
theorem dX8_gramAt_46 : decode cX8_gramAt 46 = .ok (.iload_n 1, 1) := by decide +kernel
theorem dX8_gramAt_47 : decode cX8_gramAt 47 = .ok (.imul, 1) := by decide +kernel
theorem dX8_gramAt_48 : decode cX8_gramAt 48 = .ok (.iload_n 2, 1) := by decide +kernel
theorem dX8_gramAt_49 : decode cX8_gramAt 49 = .ok (.iadd, 1) := by decide +kernel
theorem dX8_gramAt_50 : decode cX8_gramAt 50 = .ok (.iaload, 1) := by decide +kernel
theorem dX8_gramAt_51 : decode cX8_gramAt 51 = .ok (.invokestatic 173, 3) := by decide +kernel
theorem dX8_gramAt_54 : decode cX8_gramAt 54 = .ok (.istore 4, 2) := by decide +kernel
theorem dX8_gramAt_56 : decode cX8_gramAt 56 = .ok (.bipush 28, 2) := by decide +kernel
theorem dX8_gramAt_58 : decode cX8_gramAt 58 = .ok (.iload_n 3, 1) := by decide +kernel
theorem dX8_gramAt_59 : decode cX8_gramAt 59 = .ok (.imul, 1) := by decide +kernel
theorem dX8_gramAt_60 : decode cX8_gramAt 60 = .ok (.iload 4, 2) := by decide +kernel
theorem dX8_gramAt_62 : decode cX8_gramAt 62 = .ok (.iadd, 1) := by decide +kernel
theorem dX8_gramAt_63 : decode cX8_gramAt 63 = .ok (.ireturn, 1) := by decide +kernel
theorem dX8_layGrams_0 : decode cX8_layGrams 0 = .ok (.iconst 0, 1) := by decide +kernel
theorem dX8_layGrams_1 : decode cX8_layGrams 1 = .ok (.istore_n 2, 1) := by decide +kernel
theorem dX8_layGrams_2 : decode cX8_layGrams 2 = .ok (.iload_n 2, 1) := by decide +kernel
theorem dX8_layGrams_3 : decode cX8_layGrams 3 = .ok (.sipush 784, 3) := by decide +kernel
theorem dX8_layGrams_6 : decode cX8_layGrams 6 = .ok (.if_icmp .ge 16, 3) := by decide +kernel
theorem dX8_layGrams_9 : decode cX8_layGrams 9 = .ok (.aload_n 0, 1) := by decide +kernel
theorem dX8_layGrams_10 : decode cX8_layGrams 10 = .ok (.getfield 56, 3) := by decide +kernel
theorem dX8_layGrams_13 : decode cX8_layGrams 13 = .ok (.iload_n 2, 1) := by decide +kernel
theorem dX8_layGrams_14 : decode cX8_layGrams 14 = .ok (.iconst 0, 1) := by decide +kernel
theorem dX8_layGrams_15 : decode cX8_layGrams 15 = .ok (.iastore, 1) := by decide +kernel
theorem dX8_layGrams_16 : decode cX8_layGrams 16 = .ok (.iinc 2 1, 3) := by decide +kernel
theorem dX8_layGrams_19 : decode cX8_layGrams 19 = .ok (.goto (-17), 3) := by decide +kernel
theorem dX8_layGrams_22 : decode cX8_layGrams 22 = .ok (.bipush 8, 2) := by decide +kernel
theorem dX8_layGrams_24 : decode cX8_layGrams 24 = .ok (.iload_n 1, 1) := by decide +kernel
theorem dX8_layGrams_25 : decode cX8_layGrams 25 = .ok (.imul, 1) := by decide +kernel
theorem dX8_layGrams_26 : decode cX8_layGrams 26 = .ok (.istore_n 2, 1) := by decide +kernel
theorem dX8_layGrams_27 : decode cX8_layGrams 27 = .ok (.iload_n 2, 1) := by decide +kernel
theorem dX8_layGrams_28 : decode cX8_layGrams 28 = .ok (.bipush 8, 2) := by decide +kernel
theorem dX8_layGrams_30 : decode cX8_layGrams 30 = .ok (.iload_n 1, 1) := by decide +kernel
theorem dX8_layGrams_31 : decode cX8_layGrams 31 = .ok (.imul, 1) := by decide +kernel
theorem dX8_layGrams_32 : decode cX8_layGrams 32 = .ok (.aload_n 0, 1) := by decide +kernel
theorem dX8_layGrams_33 : decode cX8_layGrams 33 = .ok (.getfield 13, 3) := by decide +kernel
theorem dX8_layGrams_36 : decode cX8_layGrams 36 = .ok (.iload_n 1, 1) := by decide +kernel
theorem dX8_layGrams_37 : decode cX8_layGrams 37 = .ok (.iaload, 1) := by decide +kernel
theorem dX8_layGrams_38 : decode cX8_layGrams 38 = .ok (.iadd, 1) := by decide +kernel
theorem dX8_layGrams_39 : decode cX8_layGrams 39 = .ok (.if_icmp .ge 50, 3) := by decide +kernel
theorem dX8_layGrams_42 : decode cX8_layGrams 42 = .ok (.iconst 0, 1) := by decide +kernel
theorem dX8_layGrams_43 : decode cX8_layGrams 43 = .ok (.istore_n 3, 1) := by decide +kernel
theorem dX8_layGrams_44 : decode cX8_layGrams 44 = .ok (.iload_n 3, 1) := by decide +kernel
theorem dX8_layGrams_45 : decode cX8_layGrams 45 = .ok (.aload_n 0, 1) := by decide +kernel
theorem dX8_layGrams_46 : decode cX8_layGrams 46 = .ok (.getfield 19, 3) := by decide +kernel
theorem dX8_layGrams_49 : decode cX8_layGrams 49 = .ok (.iload_n 2, 1) := by decide +kernel
theorem dX8_layGrams_50 : decode cX8_layGrams 50 = .ok (.iaload, 1) := by decide +kernel
theorem dX8_layGrams_51 : decode cX8_layGrams 51 = .ok (.if_icmp .gt 32, 3) := by decide +kernel
theorem dX8_layGrams_54 : decode cX8_layGrams 54 = .ok (.aload_n 0, 1) := by decide +kernel
theorem dX8_layGrams_55 : decode cX8_layGrams 55 = .ok (.iload_n 2, 1) := by decide +kernel
theorem dX8_layGrams_56 : decode cX8_layGrams 56 = .ok (.invokevirtual 140, 3) := by decide +kernel
theorem dX8_layGrams_59 : decode cX8_layGrams 59 = .ok (.ifCond .eq 24, 3) := by decide +kernel
theorem dX8_layGrams_62 : decode cX8_layGrams 62 = .ok (.aload_n 0, 1) := by decide +kernel
theorem dX8_layGrams_63 : decode cX8_layGrams 63 = .ok (.getfield 56, 3) := by decide +kernel
theorem dX8_layGrams_66 : decode cX8_layGrams 66 = .ok (.aload_n 0, 1) := by decide +kernel
theorem dX8_layGrams_67 : decode cX8_layGrams 67 = .ok (.iload_n 2, 1) := by decide +kernel
theorem dX8_layGrams_68 : decode cX8_layGrams 68 = .ok (.iload_n 3, 1) := by decide +kernel
theorem dX8_layGrams_69 : decode cX8_layGrams 69 = .ok (.invokevirtual 176, 3) := by decide +kernel
theorem dX8_layGrams_72 : decode cX8_layGrams 72 = .ok (.dup2, 1) := by decide +kernel
theorem dX8_layGrams_73 : decode cX8_layGrams 73 = .ok (.iaload, 1) := by decide +kernel
theorem dX8_layGrams_74 : decode cX8_layGrams 74 = .ok (.iconst 1, 1) := by decide +kernel
theorem dX8_layGrams_75 : decode cX8_layGrams 75 = .ok (.iadd, 1) := by decide +kernel
theorem dX8_layGrams_76 : decode cX8_layGrams 76 = .ok (.iastore, 1) := by decide +kernel
theorem dX8_layGrams_77 : decode cX8_layGrams 77 = .ok (.iinc 3 1, 3) := by decide +kernel
theorem dX8_layGrams_80 : decode cX8_layGrams 80 = .ok (.goto (-36), 3) := by decide +kernel
theorem dX8_layGrams_83 : decode cX8_layGrams 83 = .ok (.iinc 2 1, 3) := by decide +kernel
theorem dX8_layGrams_86 : decode cX8_layGrams 86 = .ok (.goto (-59), 3) := by decide +kernel
theorem dX8_layGrams_89 : decode cX8_layGrams 89 = .ok (.return_, 1) := by decide +kernel
theorem dX8_gramsOf_0 : decode cX8_gramsOf 0 = .ok (.iconst 0, 1) := by decide +kernel
theorem dX8_gramsOf_1 : decode cX8_gramsOf 1 = .ok (.istore_n 2, 1) := by decide +kernel
theorem dX8_gramsOf_2 : decode cX8_gramsOf 2 = .ok (.bipush 8, 2) := by decide +kernel
theorem dX8_gramsOf_4 : decode cX8_gramsOf 4 = .ok (.iload_n 1, 1) := by decide +kernel
theorem dX8_gramsOf_5 : decode cX8_gramsOf 5 = .ok (.imul, 1) := by decide +kernel
theorem dX8_gramsOf_6 : decode cX8_gramsOf 6 = .ok (.istore_n 3, 1) := by decide +kernel
theorem dX8_gramsOf_7 : decode cX8_gramsOf 7 = .ok (.iload_n 3, 1) := by decide +kernel
theorem dX8_gramsOf_8 : decode cX8_gramsOf 8 = .ok (.bipush 8, 2) := by decide +kernel
theorem dX8_gramsOf_10 : decode cX8_gramsOf 10 = .ok (.iload_n 1, 1) := by decide +kernel
theorem dX8_gramsOf_11 : decode cX8_gramsOf 11 = .ok (.imul, 1) := by decide +kernel
theorem dX8_gramsOf_12 : decode cX8_gramsOf 12 = .ok (.aload_n 0, 1) := by decide +kernel
theorem dX8_gramsOf_13 : decode cX8_gramsOf 13 = .ok (.getfield 13, 3) := by decide +kernel
theorem dX8_gramsOf_16 : decode cX8_gramsOf 16 = .ok (.iload_n 1, 1) := by decide +kernel
theorem dX8_gramsOf_17 : decode cX8_gramsOf 17 = .ok (.iaload, 1) := by decide +kernel
theorem dX8_gramsOf_18 : decode cX8_gramsOf 18 = .ok (.iadd, 1) := by decide +kernel
theorem dX8_gramsOf_19 : decode cX8_gramsOf 19 = .ok (.if_icmp .ge 32, 3) := by decide +kernel
theorem dX8_gramsOf_22 : decode cX8_gramsOf 22 = .ok (.iload_n 2, 1) := by decide +kernel
theorem dX8_gramsOf_23 : decode cX8_gramsOf 23 = .ok (.aload_n 0, 1) := by decide +kernel
theorem dX8_gramsOf_24 : decode cX8_gramsOf 24 = .ok (.iload_n 3, 1) := by decide +kernel
theorem dX8_gramsOf_25 : decode cX8_gramsOf 25 = .ok (.invokevirtual 140, 3) := by decide +kernel
theorem dX8_gramsOf_28 : decode cX8_gramsOf 28 = .ok (.ifCond .eq 14, 3) := by decide +kernel
theorem dX8_gramsOf_31 : decode cX8_gramsOf 31 = .ok (.aload_n 0, 1) := by decide +kernel
theorem dX8_gramsOf_32 : decode cX8_gramsOf 32 = .ok (.getfield 19, 3) := by decide +kernel
theorem dX8_gramsOf_35 : decode cX8_gramsOf 35 = .ok (.iload_n 3, 1) := by decide +kernel
theorem dX8_gramsOf_36 : decode cX8_gramsOf 36 = .ok (.iaload, 1) := by decide +kernel
theorem dX8_gramsOf_37 : decode cX8_gramsOf 37 = .ok (.iconst 1, 1) := by decide +kernel
theorem dX8_gramsOf_38 : decode cX8_gramsOf 38 = .ok (.iadd, 1) := by decide +kernel
theorem dX8_gramsOf_39 : decode cX8_gramsOf 39 = .ok (.goto 4, 3) := by decide +kernel
theorem dX8_gramsOf_42 : decode cX8_gramsOf 42 = .ok (.iconst 0, 1) := by decide +kernel
theorem dX8_gramsOf_43 : decode cX8_gramsOf 43 = .ok (.iadd, 1) := by decide +kernel
theorem dX8_gramsOf_44 : decode cX8_gramsOf 44 = .ok (.istore_n 2, 1) := by decide +kernel
theorem dX8_gramsOf_45 : decode cX8_gramsOf 45 = .ok (.iinc 3 1, 3) := by decide +kernel
theorem dX8_gramsOf_48 : decode cX8_gramsOf 48 = .ok (.goto (-41), 3) := by decide +kernel
theorem dX8_gramsOf_51 : decode cX8_gramsOf 51 = .ok (.iload_n 2, 1) := by decide +kernel
theorem dX8_gramsOf_52 : decode cX8_gramsOf 52 = .ok (.ireturn, 1) := by decide +kernel
theorem dX8_sharedOf_0 : decode cX8_sharedOf 0 = .ok (.aload_n 0, 1) := by decide +kernel
theorem dX8_sharedOf_1 : decode cX8_sharedOf 1 = .ok (.iload_n 1, 1) := by decide +kernel
theorem dX8_sharedOf_2 : decode cX8_sharedOf 2 = .ok (.invokevirtual 179, 3) := by decide +kernel
theorem dX8_sharedOf_5 : decode cX8_sharedOf 5 = .ok (.iconst 0, 1) := by decide +kernel
theorem dX8_sharedOf_6 : decode cX8_sharedOf 6 = .ok (.istore_n 3, 1) := by decide +kernel
theorem dX8_sharedOf_7 : decode cX8_sharedOf 7 = .ok (.bipush 8, 2) := by decide +kernel
theorem dX8_sharedOf_9 : decode cX8_sharedOf 9 = .ok (.iload_n 2, 1) := by decide +kernel
theorem dX8_sharedOf_10 : decode cX8_sharedOf 10 = .ok (.imul, 1) := by decide +kernel
theorem dX8_sharedOf_11 : decode cX8_sharedOf 11 = .ok (.istore 4, 2) := by decide +kernel
theorem dX8_sharedOf_13 : decode cX8_sharedOf 13 = .ok (.iload 4, 2) := by decide +kernel
theorem dX8_sharedOf_15 : decode cX8_sharedOf 15 = .ok (.bipush 8, 2) := by decide +kernel
theorem dX8_sharedOf_17 : decode cX8_sharedOf 17 = .ok (.iload_n 2, 1) := by decide +kernel
theorem dX8_sharedOf_18 : decode cX8_sharedOf 18 = .ok (.imul, 1) := by decide +kernel
theorem dX8_sharedOf_19 : decode cX8_sharedOf 19 = .ok (.aload_n 0, 1) := by decide +kernel
theorem dX8_sharedOf_20 : decode cX8_sharedOf 20 = .ok (.getfield 13, 3) := by decide +kernel
theorem dX8_sharedOf_23 : decode cX8_sharedOf 23 = .ok (.iload_n 2, 1) := by decide +kernel
theorem dX8_sharedOf_24 : decode cX8_sharedOf 24 = .ok (.iaload, 1) := by decide +kernel
theorem dX8_sharedOf_25 : decode cX8_sharedOf 25 = .ok (.iadd, 1) := by decide +kernel
theorem dX8_sharedOf_26 : decode cX8_sharedOf 26 = .ok (.if_icmp .ge 92, 3) := by decide +kernel
theorem dX8_sharedOf_29 : decode cX8_sharedOf 29 = .ok (.iconst 0, 1) := by decide +kernel
theorem dX8_sharedOf_30 : decode cX8_sharedOf 30 = .ok (.istore 5, 2) := by decide +kernel
theorem dX8_sharedOf_32 : decode cX8_sharedOf 32 = .ok (.iload 5, 2) := by decide +kernel
theorem dX8_sharedOf_34 : decode cX8_sharedOf 34 = .ok (.aload_n 0, 1) := by decide +kernel
theorem dX8_sharedOf_35 : decode cX8_sharedOf 35 = .ok (.getfield 19, 3) := by decide +kernel
theorem dX8_sharedOf_38 : decode cX8_sharedOf 38 = .ok (.iload 4, 2) := by decide +kernel
theorem dX8_sharedOf_40 : decode cX8_sharedOf 40 = .ok (.iaload, 1) := by decide +kernel
theorem dX8_sharedOf_41 : decode cX8_sharedOf 41 = .ok (.if_icmp .gt 71, 3) := by decide +kernel
theorem dX8_sharedOf_44 : decode cX8_sharedOf 44 = .ok (.aload_n 0, 1) := by decide +kernel
theorem dX8_sharedOf_45 : decode cX8_sharedOf 45 = .ok (.iload 4, 2) := by decide +kernel
theorem dX8_sharedOf_47 : decode cX8_sharedOf 47 = .ok (.invokevirtual 140, 3) := by decide +kernel
theorem dX8_sharedOf_50 : decode cX8_sharedOf 50 = .ok (.ifCond .eq 62, 3) := by decide +kernel
theorem dX8_sharedOf_53 : decode cX8_sharedOf 53 = .ok (.aload_n 0, 1) := by decide +kernel
theorem dX8_sharedOf_54 : decode cX8_sharedOf 54 = .ok (.iload 4, 2) := by decide +kernel
theorem dX8_sharedOf_56 : decode cX8_sharedOf 56 = .ok (.iload 5, 2) := by decide +kernel
theorem dX8_sharedOf_58 : decode cX8_sharedOf 58 = .ok (.invokevirtual 176, 3) := by decide +kernel
theorem dX8_sharedOf_61 : decode cX8_sharedOf 61 = .ok (.istore 6, 2) := by decide +kernel
theorem dX8_sharedOf_63 : decode cX8_sharedOf 63 = .ok (.iload_n 3, 1) := by decide +kernel
theorem dX8_sharedOf_64 : decode cX8_sharedOf 64 = .ok (.aload_n 0, 1) := by decide +kernel
theorem dX8_sharedOf_65 : decode cX8_sharedOf 65 = .ok (.getfield 56, 3) := by decide +kernel
theorem dX8_sharedOf_68 : decode cX8_sharedOf 68 = .ok (.iload 6, 2) := by decide +kernel
theorem dX8_sharedOf_70 : decode cX8_sharedOf 70 = .ok (.iaload, 1) := by decide +kernel
theorem dX8_sharedOf_71 : decode cX8_sharedOf 71 = .ok (.ifCond .le 7, 3) := by decide +kernel
theorem dX8_sharedOf_74 : decode cX8_sharedOf 74 = .ok (.iconst 1, 1) := by decide +kernel
theorem dX8_sharedOf_75 : decode cX8_sharedOf 75 = .ok (.goto 4, 3) := by decide +kernel
theorem dX8_sharedOf_78 : decode cX8_sharedOf 78 = .ok (.iconst 0, 1) := by decide +kernel
theorem dX8_sharedOf_79 : decode cX8_sharedOf 79 = .ok (.iadd, 1) := by decide +kernel
theorem dX8_sharedOf_80 : decode cX8_sharedOf 80 = .ok (.istore_n 3, 1) := by decide +kernel
theorem dX8_sharedOf_81 : decode cX8_sharedOf 81 = .ok (.aload_n 0, 1) := by decide +kernel
theorem dX8_sharedOf_82 : decode cX8_sharedOf 82 = .ok (.getfield 56, 3) := by decide +kernel
theorem dX8_sharedOf_85 : decode cX8_sharedOf 85 = .ok (.iload 6, 2) := by decide +kernel
theorem dX8_sharedOf_87 : decode cX8_sharedOf 87 = .ok (.dup2, 1) := by decide +kernel
theorem dX8_sharedOf_88 : decode cX8_sharedOf 88 = .ok (.iaload, 1) := by decide +kernel
theorem dX8_sharedOf_89 : decode cX8_sharedOf 89 = .ok (.aload_n 0, 1) := by decide +kernel
theorem dX8_sharedOf_90 : decode cX8_sharedOf 90 = .ok (.getfield 56, 3) := by decide +kernel
theorem dX8_sharedOf_93 : decode cX8_sharedOf 93 = .ok (.iload 6, 2) := by decide +kernel
theorem dX8_sharedOf_95 : decode cX8_sharedOf 95 = .ok (.iaload, 1) := by decide +kernel
theorem dX8_sharedOf_96 : decode cX8_sharedOf 96 = .ok (.ifCond .le 7, 3) := by decide +kernel
theorem dX8_sharedOf_99 : decode cX8_sharedOf 99 = .ok (.iconst 1, 1) := by decide +kernel
theorem dX8_sharedOf_100 : decode cX8_sharedOf 100 = .ok (.goto 4, 3) := by decide +kernel
theorem dX8_sharedOf_103 : decode cX8_sharedOf 103 = .ok (.iconst 0, 1) := by decide +kernel
theorem dX8_sharedOf_104 : decode cX8_sharedOf 104 = .ok (.isub, 1) := by decide +kernel
theorem dX8_sharedOf_105 : decode cX8_sharedOf 105 = .ok (.iastore, 1) := by decide +kernel
theorem dX8_sharedOf_106 : decode cX8_sharedOf 106 = .ok (.iinc 5 1, 3) := by decide +kernel
theorem dX8_sharedOf_109 : decode cX8_sharedOf 109 = .ok (.goto (-77), 3) := by decide +kernel
theorem dX8_sharedOf_112 : decode cX8_sharedOf 112 = .ok (.iinc 4 1, 3) := by decide +kernel
theorem dX8_sharedOf_115 : decode cX8_sharedOf 115 = .ok (.goto (-102), 3) := by decide +kernel
theorem dX8_sharedOf_118 : decode cX8_sharedOf 118 = .ok (.iload_n 3, 1) := by decide +kernel
theorem dX8_sharedOf_119 : decode cX8_sharedOf 119 = .ok (.ireturn, 1) := by decide +kernel
theorem dX8_wordsOf_0 : decode cX8_wordsOf 0 = .ok (.iconst 0, 1) := by decide +kernel
theorem dX8_wordsOf_1 : decode cX8_wordsOf 1 = .ok (.istore_n 2, 1) := by decide +kernel
theorem dX8_wordsOf_2 : decode cX8_wordsOf 2 = .ok (.iconst 0, 1) := by decide +kernel
theorem dX8_wordsOf_3 : decode cX8_wordsOf 3 = .ok (.istore_n 3, 1) := by decide +kernel
theorem dX8_wordsOf_4 : decode cX8_wordsOf 4 = .ok (.iload_n 3, 1) := by decide +kernel
theorem dX8_wordsOf_5 : decode cX8_wordsOf 5 = .ok (.aload_n 0, 1) := by decide +kernel
theorem dX8_wordsOf_6 : decode cX8_wordsOf 6 = .ok (.getfield 13, 3) := by decide +kernel
theorem dX8_wordsOf_9 : decode cX8_wordsOf 9 = .ok (.iload_n 1, 1) := by decide +kernel
theorem dX8_wordsOf_10 : decode cX8_wordsOf 10 = .ok (.iaload, 1) := by decide +kernel
theorem dX8_wordsOf_11 : decode cX8_wordsOf 11 = .ok (.if_icmp .ge 30, 3) := by decide +kernel
theorem dX8_wordsOf_14 : decode cX8_wordsOf 14 = .ok (.iload_n 2, 1) := by decide +kernel
theorem dX8_wordsOf_15 : decode cX8_wordsOf 15 = .ok (.aload_n 0, 1) := by decide +kernel
theorem dX8_wordsOf_16 : decode cX8_wordsOf 16 = .ok (.bipush 8, 2) := by decide +kernel
theorem dX8_wordsOf_18 : decode cX8_wordsOf 18 = .ok (.iload_n 1, 1) := by decide +kernel
theorem dX8_wordsOf_19 : decode cX8_wordsOf 19 = .ok (.imul, 1) := by decide +kernel
theorem dX8_wordsOf_20 : decode cX8_wordsOf 20 = .ok (.iload_n 3, 1) := by decide +kernel
theorem dX8_wordsOf_21 : decode cX8_wordsOf 21 = .ok (.iadd, 1) := by decide +kernel
theorem dX8_wordsOf_22 : decode cX8_wordsOf 22 = .ok (.invokevirtual 140, 3) := by decide +kernel
theorem dX8_wordsOf_25 : decode cX8_wordsOf 25 = .ok (.ifCond .eq 7, 3) := by decide +kernel
theorem dX8_wordsOf_28 : decode cX8_wordsOf 28 = .ok (.iconst 1, 1) := by decide +kernel
theorem dX8_wordsOf_29 : decode cX8_wordsOf 29 = .ok (.goto 4, 3) := by decide +kernel
theorem dX8_wordsOf_32 : decode cX8_wordsOf 32 = .ok (.iconst 0, 1) := by decide +kernel
theorem dX8_wordsOf_33 : decode cX8_wordsOf 33 = .ok (.iadd, 1) := by decide +kernel
theorem dX8_wordsOf_34 : decode cX8_wordsOf 34 = .ok (.istore_n 2, 1) := by decide +kernel
theorem dX8_wordsOf_35 : decode cX8_wordsOf 35 = .ok (.iinc 3 1, 3) := by decide +kernel
theorem dX8_wordsOf_38 : decode cX8_wordsOf 38 = .ok (.goto (-34), 3) := by decide +kernel
theorem dX8_wordsOf_41 : decode cX8_wordsOf 41 = .ok (.iload_n 2, 1) := by decide +kernel
theorem dX8_wordsOf_42 : decode cX8_wordsOf 42 = .ok (.ireturn, 1) := by decide +kernel
theorem dX8_tagsOf_0 : decode cX8_tagsOf 0 = .ok (.aload_n 0, 1) := by decide +kernel
theorem dX8_tagsOf_1 : decode cX8_tagsOf 1 = .ok (.getfield 13, 3) := by decide +kernel
theorem dX8_tagsOf_4 : decode cX8_tagsOf 4 = .ok (.iload_n 1, 1) := by decide +kernel
theorem dX8_tagsOf_5 : decode cX8_tagsOf 5 = .ok (.iaload, 1) := by decide +kernel
theorem dX8_tagsOf_6 : decode cX8_tagsOf 6 = .ok (.aload_n 0, 1) := by decide +kernel
theorem dX8_tagsOf_7 : decode cX8_tagsOf 7 = .ok (.iload_n 1, 1) := by decide +kernel
theorem dX8_tagsOf_8 : decode cX8_tagsOf 8 = .ok (.invokevirtual 183, 3) := by decide +kernel
theorem dX8_tagsOf_11 : decode cX8_tagsOf 11 = .ok (.isub, 1) := by decide +kernel
theorem dX8_tagsOf_12 : decode cX8_tagsOf 12 = .ok (.ireturn, 1) := by decide +kernel
theorem dX8_segmentNow_0 : decode cX8_segmentNow 0 = .ok (.iload_n 2, 1) := by decide +kernel
theorem dX8_segmentNow_1 : decode cX8_segmentNow 1 = .ok (.tableswitch 66 0 4 #[35, 42, 48, 54, 60], 35) := by decide +kernel
theorem dX8_segmentNow_36 : decode cX8_segmentNow 36 = .ok (.aload_n 0, 1) := by decide +kernel
theorem dX8_segmentNow_37 : decode cX8_segmentNow 37 = .ok (.getfield 13, 3) := by decide +kernel
theorem dX8_segmentNow_40 : decode cX8_segmentNow 40 = .ok (.iload_n 1, 1) := by decide +kernel
theorem dX8_segmentNow_41 : decode cX8_segmentNow 41 = .ok (.iaload, 1) := by decide +kernel
theorem dX8_segmentNow_42 : decode cX8_segmentNow 42 = .ok (.ireturn, 1) := by decide +kernel
theorem dX8_segmentNow_43 : decode cX8_segmentNow 43 = .ok (.aload_n 0, 1) := by decide +kernel
theorem dX8_segmentNow_44 : decode cX8_segmentNow 44 = .ok (.iload_n 1, 1) := by decide +kernel
theorem dX8_segmentNow_45 : decode cX8_segmentNow 45 = .ok (.invokevirtual 183, 3) := by decide +kernel
theorem dX8_segmentNow_48 : decode cX8_segmentNow 48 = .ok (.ireturn, 1) := by decide +kernel
theorem dX8_segmentNow_49 : decode cX8_segmentNow 49 = .ok (.aload_n 0, 1) := by decide +kernel
theorem dX8_segmentNow_50 : decode cX8_segmentNow 50 = .ok (.iload_n 1, 1) := by decide +kernel
theorem dX8_segmentNow_51 : decode cX8_segmentNow 51 = .ok (.invokevirtual 186, 3) := by decide +kernel
theorem dX8_segmentNow_54 : decode cX8_segmentNow 54 = .ok (.ireturn, 1) := by decide +kernel
theorem dX8_segmentNow_55 : decode cX8_segmentNow 55 = .ok (.aload_n 0, 1) := by decide +kernel
theorem dX8_segmentNow_56 : decode cX8_segmentNow 56 = .ok (.iload_n 1, 1) := by decide +kernel
theorem dX8_segmentNow_57 : decode cX8_segmentNow 57 = .ok (.invokevirtual 189, 3) := by decide +kernel
theorem dX8_segmentNow_60 : decode cX8_segmentNow 60 = .ok (.ireturn, 1) := by decide +kernel
theorem dX8_segmentNow_61 : decode cX8_segmentNow 61 = .ok (.aload_n 0, 1) := by decide +kernel
theorem dX8_segmentNow_62 : decode cX8_segmentNow 62 = .ok (.iload_n 1, 1) := by decide +kernel
theorem dX8_segmentNow_63 : decode cX8_segmentNow 63 = .ok (.invokevirtual 164, 3) := by decide +kernel
theorem dX8_segmentNow_66 : decode cX8_segmentNow 66 = .ok (.ireturn, 1) := by decide +kernel
theorem dX8_segmentNow_67 : decode cX8_segmentNow 67 = .ok (.aload_n 0, 1) := by decide +kernel
theorem dX8_segmentNow_68 : decode cX8_segmentNow 68 = .ok (.getfield 16, 3) := by decide +kernel
theorem dX8_segmentNow_71 : decode cX8_segmentNow 71 = .ok (.iload_n 1, 1) := by decide +kernel
theorem dX8_segmentNow_72 : decode cX8_segmentNow 72 = .ok (.iaload, 1) := by decide +kernel
theorem dX8_segmentNow_73 : decode cX8_segmentNow 73 = .ok (.ireturn, 1) := by decide +kernel
theorem dX8_segment_0 : decode cX8_segment 0 = .ok (.aload_n 0, 1) := by decide +kernel
theorem dX8_segment_1 : decode cX8_segment 1 = .ok (.iload_n 1, 1) := by decide +kernel
theorem dX8_segment_2 : decode cX8_segment 2 = .ok (.invokevirtual 120, 3) := by decide +kernel
theorem dX8_segment_5 : decode cX8_segment 5 = .ok (.ifCond .ne 7, 3) := by decide +kernel
theorem dX8_segment_8 : decode cX8_segment 8 = .ok (.sipush (-1001), 3) := by decide +kernel
theorem dX8_segment_11 : decode cX8_segment 11 = .ok (.ireturn, 1) := by decide +kernel
theorem dX8_segment_12 : decode cX8_segment 12 = .ok (.iload_n 2, 1) := by decide +kernel
theorem dX8_segment_13 : decode cX8_segment 13 = .ok (.iconst 0, 1) := by decide +kernel
theorem dX8_segment_14 : decode cX8_segment 14 = .ok (.iconst 5, 1) := by decide +kernel
theorem dX8_segment_15 : decode cX8_segment 15 = .ok (.invokestatic 75, 3) := by decide +kernel
theorem dX8_segment_18 : decode cX8_segment 18 = .ok (.ifCond .eq 12, 3) := by decide +kernel
theorem dX8_segment_21 : decode cX8_segment 21 = .ok (.aload_n 0, 1) := by decide +kernel
theorem dX8_segment_22 : decode cX8_segment 22 = .ok (.iload_n 1, 1) := by decide +kernel
theorem dX8_segment_23 : decode cX8_segment 23 = .ok (.iload_n 2, 1) := by decide +kernel
theorem dX8_segment_24 : decode cX8_segment 24 = .ok (.invokevirtual 192, 3) := by decide +kernel
theorem dX8_segment_27 : decode cX8_segment 27 = .ok (.goto 6, 3) := by decide +kernel
theorem dX8_segment_30 : decode cX8_segment 30 = .ok (.sipush (-1002), 3) := by decide +kernel
theorem dX8_segment_33 : decode cX8_segment 33 = .ok (.ireturn, 1) := by decide +kernel
theorem dX8_isSign_0 : decode cX8_isSign 0 = .ok (.aload_n 0, 1) := by decide +kernel
theorem dX8_isSign_1 : decode cX8_isSign 1 = .ok (.iload_n 1, 1) := by decide +kernel
theorem dX8_isSign_2 : decode cX8_isSign 2 = .ok (.invokevirtual 120, 3) := by decide +kernel
theorem dX8_isSign_5 : decode cX8_isSign 5 = .ok (.ifCond .eq 23, 3) := by decide +kernel
theorem dX8_isSign_8 : decode cX8_isSign 8 = .ok (.iload_n 2, 1) := by decide +kernel
theorem dX8_isSign_9 : decode cX8_isSign 9 = .ok (.iconst 0, 1) := by decide +kernel
theorem dX8_isSign_10 : decode cX8_isSign 10 = .ok (.aload_n 0, 1) := by decide +kernel
theorem dX8_isSign_11 : decode cX8_isSign 11 = .ok (.getfield 13, 3) := by decide +kernel
theorem dX8_isSign_14 : decode cX8_isSign 14 = .ok (.iload_n 1, 1) := by decide +kernel
theorem dX8_isSign_15 : decode cX8_isSign 15 = .ok (.iaload, 1) := by decide +kernel
theorem dX8_isSign_16 : decode cX8_isSign 16 = .ok (.iconst 1, 1) := by decide +kernel
theorem dX8_isSign_17 : decode cX8_isSign 17 = .ok (.isub, 1) := by decide +kernel
theorem dX8_isSign_18 : decode cX8_isSign 18 = .ok (.invokestatic 75, 3) := by decide +kernel
theorem dX8_isSign_21 : decode cX8_isSign 21 = .ok (.ifCond .eq 7, 3) := by decide +kernel
theorem dX8_isSign_24 : decode cX8_isSign 24 = .ok (.iconst 1, 1) := by decide +kernel
theorem dX8_isSign_25 : decode cX8_isSign 25 = .ok (.goto 4, 3) := by decide +kernel
theorem dX8_isSign_28 : decode cX8_isSign 28 = .ok (.iconst 0, 1) := by decide +kernel
theorem dX8_isSign_29 : decode cX8_isSign 29 = .ok (.ireturn, 1) := by decide +kernel
theorem dX8_signNow_0 : decode cX8_signNow 0 = .ok (.iload_n 2, 1) := by decide +kernel
theorem dX8_signNow_1 : decode cX8_signNow 1 = .ok (.iconst 2, 1) := by decide +kernel
theorem dX8_signNow_2 : decode cX8_signNow 2 = .ok (.if_icmp .ge 35, 3) := by decide +kernel
theorem dX8_signNow_5 : decode cX8_signNow 5 = .ok (.iload_n 2, 1) := by decide +kernel
theorem dX8_signNow_6 : decode cX8_signNow 6 = .ok (.ifCond .ne 12, 3) := by decide +kernel
theorem dX8_signNow_9 : decode cX8_signNow 9 = .ok (.aload_n 0, 1) := by decide +kernel
theorem dX8_signNow_10 : decode cX8_signNow 10 = .ok (.getfield 19, 3) := by decide +kernel
theorem dX8_signNow_13 : decode cX8_signNow 13 = .ok (.iload_n 1, 1) := by decide +kernel
theorem dX8_signNow_14 : decode cX8_signNow 14 = .ok (.iaload, 1) := by decide +kernel
theorem dX8_signNow_15 : decode cX8_signNow 15 = .ok (.goto 21, 3) := by decide +kernel
theorem dX8_signNow_18 : decode cX8_signNow 18 = .ok (.aload_n 0, 1) := by decide +kernel
theorem dX8_signNow_19 : decode cX8_signNow 19 = .ok (.iload_n 1, 1) := by decide +kernel
theorem dX8_signNow_20 : decode cX8_signNow 20 = .ok (.invokevirtual 140, 3) := by decide +kernel
theorem dX8_signNow_23 : decode cX8_signNow 23 = .ok (.ifCond .eq 7, 3) := by decide +kernel
theorem dX8_signNow_26 : decode cX8_signNow 26 = .ok (.iconst 0, 1) := by decide +kernel
theorem dX8_signNow_27 : decode cX8_signNow 27 = .ok (.goto 9, 3) := by decide +kernel
theorem dX8_signNow_30 : decode cX8_signNow 30 = .ok (.aload_n 0, 1) := by decide +kernel
theorem dX8_signNow_31 : decode cX8_signNow 31 = .ok (.getfield 22, 3) := by decide +kernel
theorem dX8_signNow_34 : decode cX8_signNow 34 = .ok (.iload_n 1, 1) := by decide +kernel
theorem dX8_signNow_35 : decode cX8_signNow 35 = .ok (.iaload, 1) := by decide +kernel
theorem dX8_signNow_36 : decode cX8_signNow 36 = .ok (.ireturn, 1) := by decide +kernel
theorem dX8_signNow_37 : decode cX8_signNow 37 = .ok (.iload_n 2, 1) := by decide +kernel
theorem dX8_signNow_38 : decode cX8_signNow 38 = .ok (.iconst 2, 1) := by decide +kernel
theorem dX8_signNow_39 : decode cX8_signNow 39 = .ok (.isub, 1) := by decide +kernel
theorem dX8_signNow_40 : decode cX8_signNow 40 = .ok (.aload_n 0, 1) := by decide +kernel
theorem dX8_signNow_41 : decode cX8_signNow 41 = .ok (.getfield 19, 3) := by decide +kernel
theorem dX8_signNow_44 : decode cX8_signNow 44 = .ok (.iload_n 1, 1) := by decide +kernel
theorem dX8_signNow_45 : decode cX8_signNow 45 = .ok (.iaload, 1) := by decide +kernel
theorem dX8_signNow_46 : decode cX8_signNow 46 = .ok (.if_icmp .ge 19, 3) := by decide +kernel
theorem dX8_signNow_49 : decode cX8_signNow 49 = .ok (.aload_n 0, 1) := by decide +kernel
theorem dX8_signNow_50 : decode cX8_signNow 50 = .ok (.getfield 25, 3) := by decide +kernel
theorem dX8_signNow_53 : decode cX8_signNow 53 = .ok (.bipush 12, 2) := by decide +kernel
theorem dX8_signNow_55 : decode cX8_signNow 55 = .ok (.iload_n 1, 1) := by decide +kernel
theorem dX8_signNow_56 : decode cX8_signNow 56 = .ok (.imul, 1) := by decide +kernel
theorem dX8_signNow_57 : decode cX8_signNow 57 = .ok (.iload_n 2, 1) := by decide +kernel
theorem dX8_signNow_58 : decode cX8_signNow 58 = .ok (.iadd, 1) := by decide +kernel
theorem dX8_signNow_59 : decode cX8_signNow 59 = .ok (.iconst 2, 1) := by decide +kernel
theorem dX8_signNow_60 : decode cX8_signNow 60 = .ok (.isub, 1) := by decide +kernel
theorem dX8_signNow_61 : decode cX8_signNow 61 = .ok (.iaload, 1) := by decide +kernel
theorem dX8_signNow_62 : decode cX8_signNow 62 = .ok (.goto 4, 3) := by decide +kernel
theorem dX8_signNow_65 : decode cX8_signNow 65 = .ok (.iconst (-1), 1) := by decide +kernel
theorem dX8_signNow_66 : decode cX8_signNow 66 = .ok (.ireturn, 1) := by decide +kernel
theorem dX8_sign_0 : decode cX8_sign 0 = .ok (.aload_n 0, 1) := by decide +kernel
theorem dX8_sign_1 : decode cX8_sign 1 = .ok (.iload_n 1, 1) := by decide +kernel
theorem dX8_sign_2 : decode cX8_sign 2 = .ok (.iload_n 2, 1) := by decide +kernel
theorem dX8_sign_3 : decode cX8_sign 3 = .ok (.invokevirtual 195, 3) := by decide +kernel
theorem dX8_sign_6 : decode cX8_sign 6 = .ok (.ifCond .ne 7, 3) := by decide +kernel
theorem dX8_sign_9 : decode cX8_sign 9 = .ok (.sipush (-1001), 3) := by decide +kernel
theorem dX8_sign_12 : decode cX8_sign 12 = .ok (.ireturn, 1) := by decide +kernel
theorem dX8_sign_13 : decode cX8_sign 13 = .ok (.iload_n 3, 1) := by decide +kernel
theorem dX8_sign_14 : decode cX8_sign 14 = .ok (.iconst 0, 1) := by decide +kernel
theorem dX8_sign_15 : decode cX8_sign 15 = .ok (.bipush 13, 2) := by decide +kernel
theorem dX8_sign_17 : decode cX8_sign 17 = .ok (.invokestatic 75, 3) := by decide +kernel
theorem dX8_sign_20 : decode cX8_sign 20 = .ok (.ifCond .eq 17, 3) := by decide +kernel
theorem dX8_sign_23 : decode cX8_sign 23 = .ok (.aload_n 0, 1) := by decide +kernel
theorem dX8_sign_24 : decode cX8_sign 24 = .ok (.bipush 8, 2) := by decide +kernel
theorem dX8_sign_26 : decode cX8_sign 26 = .ok (.iload_n 1, 1) := by decide +kernel
theorem dX8_sign_27 : decode cX8_sign 27 = .ok (.imul, 1) := by decide +kernel
theorem dX8_sign_28 : decode cX8_sign 28 = .ok (.iload_n 2, 1) := by decide +kernel
theorem dX8_sign_29 : decode cX8_sign 29 = .ok (.iadd, 1) := by decide +kernel
theorem dX8_sign_30 : decode cX8_sign 30 = .ok (.iload_n 3, 1) := by decide +kernel
theorem dX8_sign_31 : decode cX8_sign 31 = .ok (.invokevirtual 198, 3) := by decide +kernel
theorem dX8_sign_34 : decode cX8_sign 34 = .ok (.goto 6, 3) := by decide +kernel
theorem dX8_sign_37 : decode cX8_sign 37 = .ok (.sipush (-1002), 3) := by decide +kernel
theorem dX8_sign_40 : decode cX8_sign 40 = .ok (.ireturn, 1) := by decide +kernel
theorem dX8_alike_0 : decode cX8_alike 0 = .ok (.aload_n 0, 1) := by decide +kernel
theorem dX8_alike_1 : decode cX8_alike 1 = .ok (.iload_n 1, 1) := by decide +kernel
theorem dX8_alike_2 : decode cX8_alike 2 = .ok (.iload_n 2, 1) := by decide +kernel
theorem dX8_alike_3 : decode cX8_alike 3 = .ok (.invokevirtual 195, 3) := by decide +kernel
theorem dX8_alike_6 : decode cX8_alike 6 = .ok (.ifCond .eq 13, 3) := by decide +kernel
theorem dX8_alike_9 : decode cX8_alike 9 = .ok (.aload_n 0, 1) := by decide +kernel
theorem dX8_alike_10 : decode cX8_alike 10 = .ok (.iload_n 3, 1) := by decide +kernel
theorem dX8_alike_11 : decode cX8_alike 11 = .ok (.iload 4, 2) := by decide +kernel
theorem dX8_alike_13 : decode cX8_alike 13 = .ok (.invokevirtual 195, 3) := by decide +kernel
theorem dX8_alike_16 : decode cX8_alike 16 = .ok (.ifCond .ne 7, 3) := by decide +kernel
theorem dX8_alike_19 : decode cX8_alike 19 = .ok (.sipush (-1001), 3) := by decide +kernel
theorem dX8_alike_22 : decode cX8_alike 22 = .ok (.ireturn, 1) := by decide +kernel
theorem dX8_alike_23 : decode cX8_alike 23 = .ok (.aload_n 0, 1) := by decide +kernel
theorem dX8_alike_24 : decode cX8_alike 24 = .ok (.bipush 8, 2) := by decide +kernel
theorem dX8_alike_26 : decode cX8_alike 26 = .ok (.iload_n 1, 1) := by decide +kernel
theorem dX8_alike_27 : decode cX8_alike 27 = .ok (.imul, 1) := by decide +kernel
theorem dX8_alike_28 : decode cX8_alike 28 = .ok (.iload_n 2, 1) := by decide +kernel
theorem dX8_alike_29 : decode cX8_alike 29 = .ok (.iadd, 1) := by decide +kernel
theorem dX8_alike_30 : decode cX8_alike 30 = .ok (.invokevirtual 140, 3) := by decide +kernel
theorem dX8_alike_33 : decode cX8_alike 33 = .ok (.ifCond .eq 21, 3) := by decide +kernel
theorem dX8_alike_36 : decode cX8_alike 36 = .ok (.aload_n 0, 1) := by decide +kernel
theorem dX8_alike_37 : decode cX8_alike 37 = .ok (.bipush 8, 2) := by decide +kernel
theorem dX8_alike_39 : decode cX8_alike 39 = .ok (.iload_n 3, 1) := by decide +kernel
theorem dX8_alike_40 : decode cX8_alike 40 = .ok (.imul, 1) := by decide +kernel
theorem dX8_alike_41 : decode cX8_alike 41 = .ok (.iload 4, 2) := by decide +kernel
theorem dX8_alike_43 : decode cX8_alike 43 = .ok (.iadd, 1) := by decide +kernel
theorem dX8_alike_44 : decode cX8_alike 44 = .ok (.invokevirtual 140, 3) := by decide +kernel
theorem dX8_alike_47 : decode cX8_alike 47 = .ok (.ifCond .eq 7, 3) := by decide +kernel
theorem dX8_alike_50 : decode cX8_alike 50 = .ok (.iconst 1, 1) := by decide +kernel
theorem dX8_alike_51 : decode cX8_alike 51 = .ok (.goto 4, 3) := by decide +kernel
theorem dX8_alike_54 : decode cX8_alike 54 = .ok (.iconst 0, 1) := by decide +kernel
theorem dX8_alike_55 : decode cX8_alike 55 = .ok (.istore 5, 2) := by decide +kernel
theorem dX8_alike_57 : decode cX8_alike 57 = .ok (.iload 5, 2) := by decide +kernel
theorem dX8_alike_59 : decode cX8_alike 59 = .ok (.ifCond .eq 23, 3) := by decide +kernel
theorem dX8_alike_62 : decode cX8_alike 62 = .ok (.aload_n 0, 1) := by decide +kernel
theorem dX8_alike_63 : decode cX8_alike 63 = .ok (.bipush 8, 2) := by decide +kernel
theorem dX8_alike_65 : decode cX8_alike 65 = .ok (.iload_n 1, 1) := by decide +kernel
theorem dX8_alike_66 : decode cX8_alike 66 = .ok (.imul, 1) := by decide +kernel
theorem dX8_alike_67 : decode cX8_alike 67 = .ok (.iload_n 2, 1) := by decide +kernel
theorem dX8_alike_68 : decode cX8_alike 68 = .ok (.iadd, 1) := by decide +kernel
theorem dX8_alike_69 : decode cX8_alike 69 = .ok (.bipush 8, 2) := by decide +kernel
theorem dX8_alike_71 : decode cX8_alike 71 = .ok (.iload_n 3, 1) := by decide +kernel
theorem dX8_alike_72 : decode cX8_alike 72 = .ok (.imul, 1) := by decide +kernel
theorem dX8_alike_73 : decode cX8_alike 73 = .ok (.iload 4, 2) := by decide +kernel
theorem dX8_alike_75 : decode cX8_alike 75 = .ok (.iadd, 1) := by decide +kernel
theorem dX8_alike_76 : decode cX8_alike 76 = .ok (.invokevirtual 144, 3) := by decide +kernel
theorem dX8_alike_79 : decode cX8_alike 79 = .ok (.goto 4, 3) := by decide +kernel
theorem dX8_alike_82 : decode cX8_alike 82 = .ok (.iconst (-1), 1) := by decide +kernel
theorem dX8_alike_83 : decode cX8_alike 83 = .ok (.ireturn, 1) := by decide +kernel
theorem dX8_stepsOf_0 : decode cX8_stepsOf 0 = .ok (.aload_n 0, 1) := by decide +kernel
theorem dX8_stepsOf_1 : decode cX8_stepsOf 1 = .ok (.iload_n 1, 1) := by decide +kernel
theorem dX8_stepsOf_2 : decode cX8_stepsOf 2 = .ok (.iload_n 2, 1) := by decide +kernel
theorem dX8_stepsOf_3 : decode cX8_stepsOf 3 = .ok (.invokevirtual 201, 3) := by decide +kernel
theorem dX8_stepsOf_6 : decode cX8_stepsOf 6 = .ok (.aload_n 0, 1) := by decide +kernel
theorem dX8_stepsOf_7 : decode cX8_stepsOf 7 = .ok (.getfield 154, 3) := by decide +kernel
theorem dX8_stepsOf_10 : decode cX8_stepsOf 10 = .ok (.ireturn, 1) := by decide +kernel
theorem dX8_twoNow_0 : decode cX8_twoNow 0 = .ok (.iload_n 3, 1) := by decide +kernel
theorem dX8_twoNow_1 : decode cX8_twoNow 1 = .ok (.tableswitch 59 0 3 #[31, 38, 45, 52], 31) := by decide +kernel
theorem dX8_twoNow_32 : decode cX8_twoNow 32 = .ok (.aload_n 0, 1) := by decide +kernel
theorem dX8_twoNow_33 : decode cX8_twoNow 33 = .ok (.iload_n 1, 1) := by decide +kernel
theorem dX8_twoNow_34 : decode cX8_twoNow 34 = .ok (.iload_n 2, 1) := by decide +kernel
theorem dX8_twoNow_35 : decode cX8_twoNow 35 = .ok (.invokevirtual 170, 3) := by decide +kernel
theorem dX8_twoNow_38 : decode cX8_twoNow 38 = .ok (.ireturn, 1) := by decide +kernel
theorem dX8_twoNow_39 : decode cX8_twoNow 39 = .ok (.aload_n 0, 1) := by decide +kernel
theorem dX8_twoNow_40 : decode cX8_twoNow 40 = .ok (.iload_n 1, 1) := by decide +kernel
theorem dX8_twoNow_41 : decode cX8_twoNow 41 = .ok (.iload_n 2, 1) := by decide +kernel
theorem dX8_twoNow_42 : decode cX8_twoNow 42 = .ok (.invokevirtual 167, 3) := by decide +kernel
theorem dX8_twoNow_45 : decode cX8_twoNow 45 = .ok (.ireturn, 1) := by decide +kernel
theorem dX8_twoNow_46 : decode cX8_twoNow 46 = .ok (.aload_n 0, 1) := by decide +kernel
theorem dX8_twoNow_47 : decode cX8_twoNow 47 = .ok (.iload_n 1, 1) := by decide +kernel
theorem dX8_twoNow_48 : decode cX8_twoNow 48 = .ok (.iload_n 2, 1) := by decide +kernel
theorem dX8_twoNow_49 : decode cX8_twoNow 49 = .ok (.invokevirtual 204, 3) := by decide +kernel
theorem dX8_twoNow_52 : decode cX8_twoNow 52 = .ok (.ireturn, 1) := by decide +kernel
theorem dX8_twoNow_53 : decode cX8_twoNow 53 = .ok (.aload_n 0, 1) := by decide +kernel
theorem dX8_twoNow_54 : decode cX8_twoNow 54 = .ok (.iload_n 1, 1) := by decide +kernel
theorem dX8_twoNow_55 : decode cX8_twoNow 55 = .ok (.iload_n 2, 1) := by decide +kernel
theorem dX8_twoNow_56 : decode cX8_twoNow 56 = .ok (.invokevirtual 207, 3) := by decide +kernel
theorem dX8_twoNow_59 : decode cX8_twoNow 59 = .ok (.ireturn, 1) := by decide +kernel
theorem dX8_twoNow_60 : decode cX8_twoNow 60 = .ok (.aload_n 0, 1) := by decide +kernel
theorem dX8_twoNow_61 : decode cX8_twoNow 61 = .ok (.iload_n 1, 1) := by decide +kernel
theorem dX8_twoNow_62 : decode cX8_twoNow 62 = .ok (.iload_n 2, 1) := by decide +kernel
theorem dX8_twoNow_63 : decode cX8_twoNow 63 = .ok (.invokevirtual 210, 3) := by decide +kernel
theorem dX8_twoNow_66 : decode cX8_twoNow 66 = .ok (.ireturn, 1) := by decide +kernel
theorem dX8_two_0 : decode cX8_two 0 = .ok (.aload_n 0, 1) := by decide +kernel
theorem dX8_two_1 : decode cX8_two 1 = .ok (.iload_n 1, 1) := by decide +kernel
theorem dX8_two_2 : decode cX8_two 2 = .ok (.invokevirtual 120, 3) := by decide +kernel
theorem dX8_two_5 : decode cX8_two 5 = .ok (.ifCond .eq 11, 3) := by decide +kernel
theorem dX8_two_8 : decode cX8_two 8 = .ok (.aload_n 0, 1) := by decide +kernel
theorem dX8_two_9 : decode cX8_two 9 = .ok (.iload_n 2, 1) := by decide +kernel
theorem dX8_two_10 : decode cX8_two 10 = .ok (.invokevirtual 120, 3) := by decide +kernel
theorem dX8_two_13 : decode cX8_two 13 = .ok (.ifCond .ne 7, 3) := by decide +kernel
theorem dX8_two_16 : decode cX8_two 16 = .ok (.sipush (-1001), 3) := by decide +kernel
theorem dX8_two_19 : decode cX8_two 19 = .ok (.ireturn, 1) := by decide +kernel
theorem dX8_two_20 : decode cX8_two 20 = .ok (.iload_n 3, 1) := by decide +kernel
theorem dX8_two_21 : decode cX8_two 21 = .ok (.iconst 0, 1) := by decide +kernel
theorem dX8_two_22 : decode cX8_two 22 = .ok (.iconst 4, 1) := by decide +kernel
theorem dX8_two_23 : decode cX8_two 23 = .ok (.invokestatic 75, 3) := by decide +kernel
theorem dX8_two_26 : decode cX8_two 26 = .ok (.ifCond .eq 13, 3) := by decide +kernel
theorem dX8_two_29 : decode cX8_two 29 = .ok (.aload_n 0, 1) := by decide +kernel
theorem dX8_two_30 : decode cX8_two 30 = .ok (.iload_n 1, 1) := by decide +kernel
theorem dX8_two_31 : decode cX8_two 31 = .ok (.iload_n 2, 1) := by decide +kernel
theorem dX8_two_32 : decode cX8_two 32 = .ok (.iload_n 3, 1) := by decide +kernel
theorem dX8_two_33 : decode cX8_two 33 = .ok (.invokevirtual 213, 3) := by decide +kernel
theorem dX8_two_36 : decode cX8_two 36 = .ok (.goto 6, 3) := by decide +kernel
theorem dX8_two_39 : decode cX8_two 39 = .ok (.sipush (-1002), 3) := by decide +kernel
theorem dX8_two_42 : decode cX8_two 42 = .ok (.ireturn, 1) := by decide +kernel
theorem dX8_isLetter_0 : decode cX8_isLetter 0 = .ok (.iload_n 0, 1) := by decide +kernel
theorem dX8_isLetter_1 : decode cX8_isLetter 1 = .ok (.bipush 97, 2) := by decide +kernel
theorem dX8_isLetter_3 : decode cX8_isLetter 3 = .ok (.bipush 122, 2) := by decide +kernel
theorem dX8_isLetter_5 : decode cX8_isLetter 5 = .ok (.invokestatic 75, 3) := by decide +kernel
theorem dX8_isLetter_8 : decode cX8_isLetter 8 = .ok (.ireturn, 1) := by decide +kernel
theorem dX8_gram_0 : decode cX8_gram 0 = .ok (.iload_n 1, 1) := by decide +kernel
theorem dX8_gram_1 : decode cX8_gram 1 = .ok (.bipush 94, 2) := by decide +kernel
theorem dX8_gram_3 : decode cX8_gram 3 = .ok (.if_icmp .eq 10, 3) := by decide +kernel
theorem dX8_gram_6 : decode cX8_gram 6 = .ok (.iload_n 1, 1) := by decide +kernel
theorem dX8_gram_7 : decode cX8_gram 7 = .ok (.invokestatic 217, 3) := by decide +kernel
theorem dX8_gram_10 : decode cX8_gram 10 = .ok (.ifCond .eq 32, 3) := by decide +kernel
theorem dX8_gram_13 : decode cX8_gram 13 = .ok (.iload_n 2, 1) := by decide +kernel
theorem dX8_gram_14 : decode cX8_gram 14 = .ok (.bipush 36, 2) := by decide +kernel
theorem dX8_gram_16 : decode cX8_gram 16 = .ok (.if_icmp .eq 10, 3) := by decide +kernel
theorem dX8_gram_19 : decode cX8_gram 19 = .ok (.iload_n 2, 1) := by decide +kernel
theorem dX8_gram_20 : decode cX8_gram 20 = .ok (.invokestatic 217, 3) := by decide +kernel
theorem dX8_gram_23 : decode cX8_gram 23 = .ok (.ifCond .eq 19, 3) := by decide +kernel
theorem dX8_gram_26 : decode cX8_gram 26 = .ok (.iload_n 1, 1) := by decide +kernel
theorem dX8_gram_27 : decode cX8_gram 27 = .ok (.bipush 94, 2) := by decide +kernel
theorem dX8_gram_29 : decode cX8_gram 29 = .ok (.if_icmp .ne 9, 3) := by decide +kernel
theorem dX8_gram_32 : decode cX8_gram 32 = .ok (.iload_n 2, 1) := by decide +kernel
theorem dX8_gram_33 : decode cX8_gram 33 = .ok (.bipush 36, 2) := by decide +kernel
theorem dX8_gram_35 : decode cX8_gram 35 = .ok (.if_icmp .eq 7, 3) := by decide +kernel
theorem dX8_gram_38 : decode cX8_gram 38 = .ok (.iconst 1, 1) := by decide +kernel
theorem dX8_gram_39 : decode cX8_gram 39 = .ok (.goto 4, 3) := by decide +kernel
theorem dX8_gram_42 : decode cX8_gram 42 = .ok (.iconst 0, 1) := by decide +kernel
theorem dX8_gram_43 : decode cX8_gram 43 = .ok (.istore_n 3, 1) := by decide +kernel
theorem dX8_gram_44 : decode cX8_gram 44 = .ok (.iload_n 3, 1) := by decide +kernel
theorem dX8_gram_45 : decode cX8_gram 45 = .ok (.ifCond .ne 7, 3) := by decide +kernel
theorem dX8_gram_48 : decode cX8_gram 48 = .ok (.sipush (-1002), 3) := by decide +kernel
theorem dX8_gram_51 : decode cX8_gram 51 = .ok (.ireturn, 1) := by decide +kernel
theorem dX8_gram_52 : decode cX8_gram 52 = .ok (.iconst 0, 1) := by decide +kernel
theorem dX8_gram_53 : decode cX8_gram 53 = .ok (.istore 4, 2) := by decide +kernel
theorem dX8_gram_55 : decode cX8_gram 55 = .ok (.iconst 0, 1) := by decide +kernel
end
section
theorem dX8_gram_56 : decode cX8_gram 56 = .ok (.istore 5, 2) := by decide +kernel
theorem dX8_gram_58 : decode cX8_gram 58 = .ok (.iload 5, 2) := by decide +kernel
theorem dX8_gram_60 : decode cX8_gram 60 = .ok (.aload_n 0, 1) := by decide +kernel
theorem dX8_gram_61 : decode cX8_gram 61 = .ok (.getfield 107, 3) := by decide +kernel
theorem dX8_gram_64 : decode cX8_gram 64 = .ok (.if_icmp .ge 45, 3) := by decide +kernel
theorem dX8_gram_67 : decode cX8_gram 67 = .ok (.aload_n 0, 1) := by decide +kernel
theorem dX8_gram_68 : decode cX8_gram 68 = .ok (.iload 5, 2) := by decide +kernel
theorem dX8_gram_70 : decode cX8_gram 70 = .ok (.invokevirtual 179, 3) := by decide +kernel
theorem dX8_gram_73 : decode cX8_gram 73 = .ok (.iload 4, 2) := by decide +kernel
theorem dX8_gram_75 : decode cX8_gram 75 = .ok (.aload_n 0, 1) := by decide +kernel
theorem dX8_gram_76 : decode cX8_gram 76 = .ok (.getfield 56, 3) := by decide +kernel
theorem dX8_gram_79 : decode cX8_gram 79 = .ok (.bipush 28, 2) := by decide +kernel
theorem dX8_gram_81 : decode cX8_gram 81 = .ok (.iload_n 1, 1) := by decide +kernel
theorem dX8_gram_82 : decode cX8_gram 82 = .ok (.invokestatic 173, 3) := by decide +kernel
theorem dX8_gram_85 : decode cX8_gram 85 = .ok (.imul, 1) := by decide +kernel
theorem dX8_gram_86 : decode cX8_gram 86 = .ok (.iload_n 2, 1) := by decide +kernel
theorem dX8_gram_87 : decode cX8_gram 87 = .ok (.invokestatic 173, 3) := by decide +kernel
theorem dX8_gram_90 : decode cX8_gram 90 = .ok (.iadd, 1) := by decide +kernel
theorem dX8_gram_91 : decode cX8_gram 91 = .ok (.iaload, 1) := by decide +kernel
theorem dX8_gram_92 : decode cX8_gram 92 = .ok (.ifCond .le 7, 3) := by decide +kernel
theorem dX8_gram_95 : decode cX8_gram 95 = .ok (.iconst 1, 1) := by decide +kernel
theorem dX8_gram_96 : decode cX8_gram 96 = .ok (.goto 4, 3) := by decide +kernel
theorem dX8_gram_99 : decode cX8_gram 99 = .ok (.iconst 0, 1) := by decide +kernel
theorem dX8_gram_100 : decode cX8_gram 100 = .ok (.iadd, 1) := by decide +kernel
theorem dX8_gram_101 : decode cX8_gram 101 = .ok (.istore 4, 2) := by decide +kernel
theorem dX8_gram_103 : decode cX8_gram 103 = .ok (.iinc 5 1, 3) := by decide +kernel
theorem dX8_gram_106 : decode cX8_gram 106 = .ok (.goto (-48), 3) := by decide +kernel
theorem dX8_gram_109 : decode cX8_gram 109 = .ok (.iload 4, 2) := by decide +kernel
theorem dX8_gram_111 : decode cX8_gram 111 = .ok (.ireturn, 1) := by decide +kernel
theorem dX8_roomOf_0 : decode cX8_roomOf 0 = .ok (.sipush 1000, 3) := by decide +kernel
theorem dX8_roomOf_3 : decode cX8_roomOf 3 = .ok (.aload_n 0, 1) := by decide +kernel
theorem dX8_roomOf_4 : decode cX8_roomOf 4 = .ok (.getfield 32, 3) := by decide +kernel
theorem dX8_roomOf_7 : decode cX8_roomOf 7 = .ok (.isub, 1) := by decide +kernel
theorem dX8_roomOf_8 : decode cX8_roomOf 8 = .ok (.aload_n 0, 1) := by decide +kernel
theorem dX8_roomOf_9 : decode cX8_roomOf 9 = .ok (.iload_n 1, 1) := by decide +kernel
theorem dX8_roomOf_10 : decode cX8_roomOf 10 = .ok (.bipush 12, 2) := by decide +kernel
theorem dX8_roomOf_12 : decode cX8_roomOf 12 = .ok (.invokevirtual 167, 3) := by decide +kernel
theorem dX8_roomOf_15 : decode cX8_roomOf 15 = .ok (.imul, 1) := by decide +kernel
theorem dX8_roomOf_16 : decode cX8_roomOf 16 = .ok (.sipush 1000, 3) := by decide +kernel
theorem dX8_roomOf_19 : decode cX8_roomOf 19 = .ok (.idiv, 1) := by decide +kernel
theorem dX8_roomOf_20 : decode cX8_roomOf 20 = .ok (.ireturn, 1) := by decide +kernel
theorem dX8_size_0 : decode cX8_size 0 = .ok (.iload_n 0, 1) := by decide +kernel
theorem dX8_size_1 : decode cX8_size 1 = .ok (.ifCond .ge 8, 3) := by decide +kernel
theorem dX8_size_4 : decode cX8_size 4 = .ok (.iload_n 0, 1) := by decide +kernel
theorem dX8_size_5 : decode cX8_size 5 = .ok (.ineg, 1) := by decide +kernel
theorem dX8_size_6 : decode cX8_size 6 = .ok (.goto 4, 3) := by decide +kernel
theorem dX8_size_9 : decode cX8_size 9 = .ok (.iload_n 0, 1) := by decide +kernel
theorem dX8_size_10 : decode cX8_size 10 = .ok (.ireturn, 1) := by decide +kernel
theorem dX8_canByLengths_0 : decode cX8_canByLengths 0 = .ok (.aload_n 0, 1) := by decide +kernel
theorem dX8_canByLengths_1 : decode cX8_canByLengths 1 = .ok (.iload_n 1, 1) := by decide +kernel
theorem dX8_canByLengths_2 : decode cX8_canByLengths 2 = .ok (.invokevirtual 183, 3) := by decide +kernel
theorem dX8_canByLengths_5 : decode cX8_canByLengths 5 = .ok (.aload_n 0, 1) := by decide +kernel
theorem dX8_canByLengths_6 : decode cX8_canByLengths 6 = .ok (.bipush 12, 2) := by decide +kernel
theorem dX8_canByLengths_8 : decode cX8_canByLengths 8 = .ok (.invokevirtual 183, 3) := by decide +kernel
theorem dX8_canByLengths_11 : decode cX8_canByLengths 11 = .ok (.isub, 1) := by decide +kernel
theorem dX8_canByLengths_12 : decode cX8_canByLengths 12 = .ok (.invokestatic 220, 3) := by decide +kernel
theorem dX8_canByLengths_15 : decode cX8_canByLengths 15 = .ok (.istore_n 2, 1) := by decide +kernel
theorem dX8_canByLengths_16 : decode cX8_canByLengths 16 = .ok (.aload_n 0, 1) := by decide +kernel
theorem dX8_canByLengths_17 : decode cX8_canByLengths 17 = .ok (.iload_n 1, 1) := by decide +kernel
theorem dX8_canByLengths_18 : decode cX8_canByLengths 18 = .ok (.invokevirtual 186, 3) := by decide +kernel
theorem dX8_canByLengths_21 : decode cX8_canByLengths 21 = .ok (.aload_n 0, 1) := by decide +kernel
theorem dX8_canByLengths_22 : decode cX8_canByLengths 22 = .ok (.bipush 12, 2) := by decide +kernel
theorem dX8_canByLengths_24 : decode cX8_canByLengths 24 = .ok (.invokevirtual 186, 3) := by decide +kernel
theorem dX8_canByLengths_27 : decode cX8_canByLengths 27 = .ok (.isub, 1) := by decide +kernel
theorem dX8_canByLengths_28 : decode cX8_canByLengths 28 = .ok (.invokestatic 220, 3) := by decide +kernel
theorem dX8_canByLengths_31 : decode cX8_canByLengths 31 = .ok (.istore_n 3, 1) := by decide +kernel
theorem dX8_canByLengths_32 : decode cX8_canByLengths 32 = .ok (.bipush 10, 2) := by decide +kernel
theorem dX8_canByLengths_34 : decode cX8_canByLengths 34 = .ok (.iload_n 2, 1) := by decide +kernel
theorem dX8_canByLengths_35 : decode cX8_canByLengths 35 = .ok (.imul, 1) := by decide +kernel
theorem dX8_canByLengths_36 : decode cX8_canByLengths 36 = .ok (.aload_n 0, 1) := by decide +kernel
theorem dX8_canByLengths_37 : decode cX8_canByLengths 37 = .ok (.getfield 28, 3) := by decide +kernel
theorem dX8_canByLengths_40 : decode cX8_canByLengths 40 = .ok (.iload_n 3, 1) := by decide +kernel
theorem dX8_canByLengths_41 : decode cX8_canByLengths 41 = .ok (.imul, 1) := by decide +kernel
theorem dX8_canByLengths_42 : decode cX8_canByLengths 42 = .ok (.iadd, 1) := by decide +kernel
theorem dX8_canByLengths_43 : decode cX8_canByLengths 43 = .ok (.aload_n 0, 1) := by decide +kernel
theorem dX8_canByLengths_44 : decode cX8_canByLengths 44 = .ok (.iload_n 1, 1) := by decide +kernel
theorem dX8_canByLengths_45 : decode cX8_canByLengths 45 = .ok (.invokevirtual 223, 3) := by decide +kernel
theorem dX8_canByLengths_48 : decode cX8_canByLengths 48 = .ok (.if_icmp .gt 7, 3) := by decide +kernel
theorem dX8_canByLengths_51 : decode cX8_canByLengths 51 = .ok (.iconst 1, 1) := by decide +kernel
theorem dX8_canByLengths_52 : decode cX8_canByLengths 52 = .ok (.goto 4, 3) := by decide +kernel
theorem dX8_canByLengths_55 : decode cX8_canByLengths 55 = .ok (.iconst 0, 1) := by decide +kernel
theorem dX8_canByLengths_56 : decode cX8_canByLengths 56 = .ok (.ireturn, 1) := by decide +kernel
theorem dX8_canByGrams_0 : decode cX8_canByGrams 0 = .ok (.aload_n 0, 1) := by decide +kernel
theorem dX8_canByGrams_1 : decode cX8_canByGrams 1 = .ok (.iload_n 1, 1) := by decide +kernel
theorem dX8_canByGrams_2 : decode cX8_canByGrams 2 = .ok (.invokevirtual 189, 3) := by decide +kernel
theorem dX8_canByGrams_5 : decode cX8_canByGrams 5 = .ok (.istore_n 2, 1) := by decide +kernel
theorem dX8_canByGrams_6 : decode cX8_canByGrams 6 = .ok (.aload_n 0, 1) := by decide +kernel
theorem dX8_canByGrams_7 : decode cX8_canByGrams 7 = .ok (.bipush 12, 2) := by decide +kernel
theorem dX8_canByGrams_9 : decode cX8_canByGrams 9 = .ok (.invokevirtual 189, 3) := by decide +kernel
theorem dX8_canByGrams_12 : decode cX8_canByGrams 12 = .ok (.istore_n 3, 1) := by decide +kernel
theorem dX8_canByGrams_13 : decode cX8_canByGrams 13 = .ok (.iconst 5, 1) := by decide +kernel
theorem dX8_canByGrams_14 : decode cX8_canByGrams 14 = .ok (.iload_n 2, 1) := by decide +kernel
theorem dX8_canByGrams_15 : decode cX8_canByGrams 15 = .ok (.iload_n 3, 1) := by decide +kernel
theorem dX8_canByGrams_16 : decode cX8_canByGrams 16 = .ok (.if_icmp .le 7, 3) := by decide +kernel
theorem dX8_canByGrams_19 : decode cX8_canByGrams 19 = .ok (.iload_n 2, 1) := by decide +kernel
theorem dX8_canByGrams_20 : decode cX8_canByGrams 20 = .ok (.goto 4, 3) := by decide +kernel
theorem dX8_canByGrams_23 : decode cX8_canByGrams 23 = .ok (.iload_n 3, 1) := by decide +kernel
theorem dX8_canByGrams_24 : decode cX8_canByGrams 24 = .ok (.aload_n 0, 1) := by decide +kernel
theorem dX8_canByGrams_25 : decode cX8_canByGrams 25 = .ok (.iload_n 1, 1) := by decide +kernel
theorem dX8_canByGrams_26 : decode cX8_canByGrams 26 = .ok (.bipush 12, 2) := by decide +kernel
theorem dX8_canByGrams_28 : decode cX8_canByGrams 28 = .ok (.invokevirtual 207, 3) := by decide +kernel
theorem dX8_canByGrams_31 : decode cX8_canByGrams 31 = .ok (.isub, 1) := by decide +kernel
theorem dX8_canByGrams_32 : decode cX8_canByGrams 32 = .ok (.imul, 1) := by decide +kernel
theorem dX8_canByGrams_33 : decode cX8_canByGrams 33 = .ok (.bipush 12, 2) := by decide +kernel
theorem dX8_canByGrams_35 : decode cX8_canByGrams 35 = .ok (.aload_n 0, 1) := by decide +kernel
theorem dX8_canByGrams_36 : decode cX8_canByGrams 36 = .ok (.iload_n 1, 1) := by decide +kernel
theorem dX8_canByGrams_37 : decode cX8_canByGrams 37 = .ok (.invokevirtual 223, 3) := by decide +kernel
theorem dX8_canByGrams_40 : decode cX8_canByGrams 40 = .ok (.imul, 1) := by decide +kernel
theorem dX8_canByGrams_41 : decode cX8_canByGrams 41 = .ok (.if_icmp .gt 7, 3) := by decide +kernel
theorem dX8_canByGrams_44 : decode cX8_canByGrams 44 = .ok (.iconst 1, 1) := by decide +kernel
theorem dX8_canByGrams_45 : decode cX8_canByGrams 45 = .ok (.goto 4, 3) := by decide +kernel
theorem dX8_canByGrams_48 : decode cX8_canByGrams 48 = .ok (.iconst 0, 1) := by decide +kernel
theorem dX8_canByGrams_49 : decode cX8_canByGrams 49 = .ok (.ireturn, 1) := by decide +kernel
theorem dX8_isMatch_0 : decode cX8_isMatch 0 = .ok (.aload_n 0, 1) := by decide +kernel
theorem dX8_isMatch_1 : decode cX8_isMatch 1 = .ok (.iload_n 1, 1) := by decide +kernel
theorem dX8_isMatch_2 : decode cX8_isMatch 2 = .ok (.bipush 12, 2) := by decide +kernel
theorem dX8_isMatch_4 : decode cX8_isMatch 4 = .ok (.invokevirtual 204, 3) := by decide +kernel
theorem dX8_isMatch_7 : decode cX8_isMatch 7 = .ok (.aload_n 0, 1) := by decide +kernel
theorem dX8_isMatch_8 : decode cX8_isMatch 8 = .ok (.getfield 32, 3) := by decide +kernel
theorem dX8_isMatch_11 : decode cX8_isMatch 11 = .ok (.if_icmp .lt 7, 3) := by decide +kernel
theorem dX8_isMatch_14 : decode cX8_isMatch 14 = .ok (.iconst 1, 1) := by decide +kernel
theorem dX8_isMatch_15 : decode cX8_isMatch 15 = .ok (.goto 4, 3) := by decide +kernel
theorem dX8_isMatch_18 : decode cX8_isMatch 18 = .ok (.iconst 0, 1) := by decide +kernel
theorem dX8_isMatch_19 : decode cX8_isMatch 19 = .ok (.ireturn, 1) := by decide +kernel
theorem dX8_tagSteps_0 : decode cX8_tagSteps 0 = .ok (.aload_n 0, 1) := by decide +kernel
theorem dX8_tagSteps_1 : decode cX8_tagSteps 1 = .ok (.iload_n 1, 1) := by decide +kernel
theorem dX8_tagSteps_2 : decode cX8_tagSteps 2 = .ok (.bipush 12, 2) := by decide +kernel
theorem dX8_tagSteps_4 : decode cX8_tagSteps 4 = .ok (.invokevirtual 201, 3) := by decide +kernel
theorem dX8_tagSteps_7 : decode cX8_tagSteps 7 = .ok (.iconst 0, 1) := by decide +kernel
theorem dX8_tagSteps_8 : decode cX8_tagSteps 8 = .ok (.istore_n 2, 1) := by decide +kernel
theorem dX8_tagSteps_9 : decode cX8_tagSteps 9 = .ok (.iconst 0, 1) := by decide +kernel
theorem dX8_tagSteps_10 : decode cX8_tagSteps 10 = .ok (.istore_n 3, 1) := by decide +kernel
theorem dX8_tagSteps_11 : decode cX8_tagSteps 11 = .ok (.iload_n 3, 1) := by decide +kernel
theorem dX8_tagSteps_12 : decode cX8_tagSteps 12 = .ok (.aload_n 0, 1) := by decide +kernel
theorem dX8_tagSteps_13 : decode cX8_tagSteps 13 = .ok (.getfield 154, 3) := by decide +kernel
theorem dX8_tagSteps_16 : decode cX8_tagSteps 16 = .ok (.if_icmp .ge 70, 3) := by decide +kernel
theorem dX8_tagSteps_19 : decode cX8_tagSteps 19 = .ok (.aload_n 0, 1) := by decide +kernel
theorem dX8_tagSteps_20 : decode cX8_tagSteps 20 = .ok (.getfield 44, 3) := by decide +kernel
theorem dX8_tagSteps_23 : decode cX8_tagSteps 23 = .ok (.iload_n 3, 1) := by decide +kernel
theorem dX8_tagSteps_24 : decode cX8_tagSteps 24 = .ok (.iaload, 1) := by decide +kernel
theorem dX8_tagSteps_25 : decode cX8_tagSteps 25 = .ok (.iconst 2, 1) := by decide +kernel
theorem dX8_tagSteps_26 : decode cX8_tagSteps 26 = .ok (.if_icmp .ne 15, 3) := by decide +kernel
theorem dX8_tagSteps_29 : decode cX8_tagSteps 29 = .ok (.bipush 96, 2) := by decide +kernel
theorem dX8_tagSteps_31 : decode cX8_tagSteps 31 = .ok (.aload_n 0, 1) := by decide +kernel
theorem dX8_tagSteps_32 : decode cX8_tagSteps 32 = .ok (.getfield 53, 3) := by decide +kernel
theorem dX8_tagSteps_35 : decode cX8_tagSteps 35 = .ok (.iload_n 3, 1) := by decide +kernel
theorem dX8_tagSteps_36 : decode cX8_tagSteps 36 = .ok (.iaload, 1) := by decide +kernel
theorem dX8_tagSteps_37 : decode cX8_tagSteps 37 = .ok (.iadd, 1) := by decide +kernel
theorem dX8_tagSteps_38 : decode cX8_tagSteps 38 = .ok (.goto 14, 3) := by decide +kernel
theorem dX8_tagSteps_41 : decode cX8_tagSteps 41 = .ok (.bipush 8, 2) := by decide +kernel
theorem dX8_tagSteps_43 : decode cX8_tagSteps 43 = .ok (.iload_n 1, 1) := by decide +kernel
theorem dX8_tagSteps_44 : decode cX8_tagSteps 44 = .ok (.imul, 1) := by decide +kernel
theorem dX8_tagSteps_45 : decode cX8_tagSteps 45 = .ok (.aload_n 0, 1) := by decide +kernel
theorem dX8_tagSteps_46 : decode cX8_tagSteps 46 = .ok (.getfield 50, 3) := by decide +kernel
theorem dX8_tagSteps_49 : decode cX8_tagSteps 49 = .ok (.iload_n 3, 1) := by decide +kernel
theorem dX8_tagSteps_50 : decode cX8_tagSteps 50 = .ok (.iaload, 1) := by decide +kernel
theorem dX8_tagSteps_51 : decode cX8_tagSteps 51 = .ok (.iadd, 1) := by decide +kernel
theorem dX8_tagSteps_52 : decode cX8_tagSteps 52 = .ok (.istore 4, 2) := by decide +kernel
theorem dX8_tagSteps_54 : decode cX8_tagSteps 54 = .ok (.iload_n 2, 1) := by decide +kernel
theorem dX8_tagSteps_55 : decode cX8_tagSteps 55 = .ok (.aload_n 0, 1) := by decide +kernel
theorem dX8_tagSteps_56 : decode cX8_tagSteps 56 = .ok (.iload 4, 2) := by decide +kernel
theorem dX8_tagSteps_58 : decode cX8_tagSteps 58 = .ok (.invokevirtual 140, 3) := by decide +kernel
theorem dX8_tagSteps_61 : decode cX8_tagSteps 61 = .ok (.ifCond .ne 16, 3) := by decide +kernel
theorem dX8_tagSteps_64 : decode cX8_tagSteps 64 = .ok (.aload_n 0, 1) := by decide +kernel
theorem dX8_tagSteps_65 : decode cX8_tagSteps 65 = .ok (.getfield 47, 3) := by decide +kernel
theorem dX8_tagSteps_68 : decode cX8_tagSteps 68 = .ok (.iload_n 3, 1) := by decide +kernel
theorem dX8_tagSteps_69 : decode cX8_tagSteps 69 = .ok (.iaload, 1) := by decide +kernel
theorem dX8_tagSteps_70 : decode cX8_tagSteps 70 = .ok (.ifCond .le 7, 3) := by decide +kernel
theorem dX8_tagSteps_73 : decode cX8_tagSteps 73 = .ok (.iconst 1, 1) := by decide +kernel
theorem dX8_tagSteps_74 : decode cX8_tagSteps 74 = .ok (.goto 4, 3) := by decide +kernel
theorem dX8_tagSteps_77 : decode cX8_tagSteps 77 = .ok (.iconst 0, 1) := by decide +kernel
theorem dX8_tagSteps_78 : decode cX8_tagSteps 78 = .ok (.iadd, 1) := by decide +kernel
theorem dX8_tagSteps_79 : decode cX8_tagSteps 79 = .ok (.istore_n 2, 1) := by decide +kernel
theorem dX8_tagSteps_80 : decode cX8_tagSteps 80 = .ok (.iinc 3 1, 3) := by decide +kernel
theorem dX8_tagSteps_83 : decode cX8_tagSteps 83 = .ok (.goto (-72), 3) := by decide +kernel
theorem dX8_tagSteps_86 : decode cX8_tagSteps 86 = .ok (.iload_n 2, 1) := by decide +kernel
theorem dX8_tagSteps_87 : decode cX8_tagSteps 87 = .ok (.ireturn, 1) := by decide +kernel
theorem dX8_bit_0 : decode cX8_bit 0 = .ok (.iload_n 0, 1) := by decide +kernel
theorem dX8_bit_1 : decode cX8_bit 1 = .ok (.ifCond .eq 7, 3) := by decide +kernel
theorem dX8_bit_4 : decode cX8_bit 4 = .ok (.iconst 1, 1) := by decide +kernel
theorem dX8_bit_5 : decode cX8_bit 5 = .ok (.goto 4, 3) := by decide +kernel
theorem dX8_bit_8 : decode cX8_bit 8 = .ok (.iconst 0, 1) := by decide +kernel
theorem dX8_bit_9 : decode cX8_bit 9 = .ok (.ireturn, 1) := by decide +kernel
theorem dX8_nearNow_0 : decode cX8_nearNow 0 = .ok (.iload_n 2, 1) := by decide +kernel
theorem dX8_nearNow_1 : decode cX8_nearNow 1 = .ok (.tableswitch 74 5 9 #[35, 41, 50, 59, 68], 35) := by decide +kernel
theorem dX8_nearNow_36 : decode cX8_nearNow 36 = .ok (.aload_n 0, 1) := by decide +kernel
theorem dX8_nearNow_37 : decode cX8_nearNow 37 = .ok (.iload_n 1, 1) := by decide +kernel
theorem dX8_nearNow_38 : decode cX8_nearNow 38 = .ok (.invokevirtual 223, 3) := by decide +kernel
theorem dX8_nearNow_41 : decode cX8_nearNow 41 = .ok (.ireturn, 1) := by decide +kernel
theorem dX8_nearNow_42 : decode cX8_nearNow 42 = .ok (.aload_n 0, 1) := by decide +kernel
theorem dX8_nearNow_43 : decode cX8_nearNow 43 = .ok (.iload_n 1, 1) := by decide +kernel
theorem dX8_nearNow_44 : decode cX8_nearNow 44 = .ok (.invokevirtual 226, 3) := by decide +kernel
theorem dX8_nearNow_47 : decode cX8_nearNow 47 = .ok (.invokestatic 229, 3) := by decide +kernel
theorem dX8_nearNow_50 : decode cX8_nearNow 50 = .ok (.ireturn, 1) := by decide +kernel
theorem dX8_nearNow_51 : decode cX8_nearNow 51 = .ok (.aload_n 0, 1) := by decide +kernel
theorem dX8_nearNow_52 : decode cX8_nearNow 52 = .ok (.iload_n 1, 1) := by decide +kernel
theorem dX8_nearNow_53 : decode cX8_nearNow 53 = .ok (.invokevirtual 233, 3) := by decide +kernel
theorem dX8_nearNow_56 : decode cX8_nearNow 56 = .ok (.invokestatic 229, 3) := by decide +kernel
theorem dX8_nearNow_59 : decode cX8_nearNow 59 = .ok (.ireturn, 1) := by decide +kernel
theorem dX8_nearNow_60 : decode cX8_nearNow 60 = .ok (.aload_n 0, 1) := by decide +kernel
theorem dX8_nearNow_61 : decode cX8_nearNow 61 = .ok (.iload_n 1, 1) := by decide +kernel
theorem dX8_nearNow_62 : decode cX8_nearNow 62 = .ok (.invokevirtual 236, 3) := by decide +kernel
theorem dX8_nearNow_65 : decode cX8_nearNow 65 = .ok (.invokestatic 229, 3) := by decide +kernel
theorem dX8_nearNow_68 : decode cX8_nearNow 68 = .ok (.ireturn, 1) := by decide +kernel
theorem dX8_nearNow_69 : decode cX8_nearNow 69 = .ok (.aload_n 0, 1) := by decide +kernel
theorem dX8_nearNow_70 : decode cX8_nearNow 70 = .ok (.iload_n 1, 1) := by decide +kernel
theorem dX8_nearNow_71 : decode cX8_nearNow 71 = .ok (.invokevirtual 239, 3) := by decide +kernel
theorem dX8_nearNow_74 : decode cX8_nearNow 74 = .ok (.ireturn, 1) := by decide +kernel
theorem dX8_nearNow_75 : decode cX8_nearNow 75 = .ok (.aload_n 0, 1) := by decide +kernel
theorem dX8_nearNow_76 : decode cX8_nearNow 76 = .ok (.iload_n 1, 1) := by decide +kernel
theorem dX8_nearNow_77 : decode cX8_nearNow 77 = .ok (.bipush 12, 2) := by decide +kernel
theorem dX8_nearNow_79 : decode cX8_nearNow 79 = .ok (.iload_n 2, 1) := by decide +kernel
theorem dX8_nearNow_80 : decode cX8_nearNow 80 = .ok (.invokevirtual 213, 3) := by decide +kernel
theorem dX8_nearNow_83 : decode cX8_nearNow 83 = .ok (.ireturn, 1) := by decide +kernel
theorem dX8_near_0 : decode cX8_near 0 = .ok (.aload_n 0, 1) := by decide +kernel
theorem dX8_near_1 : decode cX8_near 1 = .ok (.iload_n 1, 1) := by decide +kernel
theorem dX8_near_2 : decode cX8_near 2 = .ok (.invokevirtual 120, 3) := by decide +kernel
theorem dX8_near_5 : decode cX8_near 5 = .ok (.ifCond .ne 7, 3) := by decide +kernel
theorem dX8_near_8 : decode cX8_near 8 = .ok (.sipush (-1001), 3) := by decide +kernel
theorem dX8_near_11 : decode cX8_near 11 = .ok (.ireturn, 1) := by decide +kernel
theorem dX8_near_12 : decode cX8_near 12 = .ok (.iload_n 2, 1) := by decide +kernel
theorem dX8_near_13 : decode cX8_near 13 = .ok (.iconst 0, 1) := by decide +kernel
theorem dX8_near_14 : decode cX8_near 14 = .ok (.bipush 9, 2) := by decide +kernel
theorem dX8_near_16 : decode cX8_near 16 = .ok (.invokestatic 75, 3) := by decide +kernel
theorem dX8_near_19 : decode cX8_near 19 = .ok (.ifCond .ne 7, 3) := by decide +kernel
theorem dX8_near_22 : decode cX8_near 22 = .ok (.sipush (-1002), 3) := by decide +kernel
theorem dX8_near_25 : decode cX8_near 25 = .ok (.ireturn, 1) := by decide +kernel
theorem dX8_near_26 : decode cX8_near 26 = .ok (.aload_n 0, 1) := by decide +kernel
theorem dX8_near_27 : decode cX8_near 27 = .ok (.getfield 126, 3) := by decide +kernel
theorem dX8_near_30 : decode cX8_near 30 = .ok (.ifCond .eq 12, 3) := by decide +kernel
theorem dX8_near_33 : decode cX8_near 33 = .ok (.aload_n 0, 1) := by decide +kernel
theorem dX8_near_34 : decode cX8_near 34 = .ok (.iload_n 1, 1) := by decide +kernel
theorem dX8_near_35 : decode cX8_near 35 = .ok (.iload_n 2, 1) := by decide +kernel
theorem dX8_near_36 : decode cX8_near 36 = .ok (.invokevirtual 242, 3) := by decide +kernel
theorem dX8_near_39 : decode cX8_near 39 = .ok (.goto 6, 3) := by decide +kernel
theorem dX8_near_42 : decode cX8_near 42 = .ok (.sipush (-1003), 3) := by decide +kernel
theorem dX8_near_45 : decode cX8_near 45 = .ok (.ireturn, 1) := by decide +kernel
theorem dX8_step_0 : decode cX8_step 0 = .ok (.aload_n 0, 1) := by decide +kernel
theorem dX8_step_1 : decode cX8_step 1 = .ok (.iload_n 1, 1) := by decide +kernel
theorem dX8_step_2 : decode cX8_step 2 = .ok (.invokevirtual 120, 3) := by decide +kernel
theorem dX8_step_5 : decode cX8_step 5 = .ok (.ifCond .ne 7, 3) := by decide +kernel
theorem dX8_step_8 : decode cX8_step 8 = .ok (.sipush (-1001), 3) := by decide +kernel
theorem dX8_step_11 : decode cX8_step 11 = .ok (.ireturn, 1) := by decide +kernel
theorem dX8_step_12 : decode cX8_step 12 = .ok (.iload_n 3, 1) := by decide +kernel
theorem dX8_step_13 : decode cX8_step 13 = .ok (.iconst 0, 1) := by decide +kernel
theorem dX8_step_14 : decode cX8_step 14 = .ok (.iconst 3, 1) := by decide +kernel
theorem dX8_step_15 : decode cX8_step 15 = .ok (.invokestatic 75, 3) := by decide +kernel
theorem dX8_step_18 : decode cX8_step 18 = .ok (.ifCond .ne 7, 3) := by decide +kernel
theorem dX8_step_21 : decode cX8_step 21 = .ok (.sipush (-1002), 3) := by decide +kernel
theorem dX8_step_24 : decode cX8_step 24 = .ok (.ireturn, 1) := by decide +kernel
theorem dX8_step_25 : decode cX8_step 25 = .ok (.aload_n 0, 1) := by decide +kernel
theorem dX8_step_26 : decode cX8_step 26 = .ok (.getfield 126, 3) := by decide +kernel
theorem dX8_step_29 : decode cX8_step 29 = .ok (.ifCond .ne 7, 3) := by decide +kernel
theorem dX8_step_32 : decode cX8_step 32 = .ok (.sipush (-1003), 3) := by decide +kernel
theorem dX8_step_35 : decode cX8_step 35 = .ok (.ireturn, 1) := by decide +kernel
theorem dX8_step_36 : decode cX8_step 36 = .ok (.aload_n 0, 1) := by decide +kernel
theorem dX8_step_37 : decode cX8_step 37 = .ok (.iload_n 1, 1) := by decide +kernel
theorem dX8_step_38 : decode cX8_step 38 = .ok (.bipush 12, 2) := by decide +kernel
theorem dX8_step_40 : decode cX8_step 40 = .ok (.invokevirtual 201, 3) := by decide +kernel
theorem dX8_step_43 : decode cX8_step 43 = .ok (.iload_n 2, 1) := by decide +kernel
theorem dX8_step_44 : decode cX8_step 44 = .ok (.iconst 0, 1) := by decide +kernel
theorem dX8_step_45 : decode cX8_step 45 = .ok (.aload_n 0, 1) := by decide +kernel
theorem dX8_step_46 : decode cX8_step 46 = .ok (.getfield 154, 3) := by decide +kernel
theorem dX8_step_49 : decode cX8_step 49 = .ok (.iconst 1, 1) := by decide +kernel
theorem dX8_step_50 : decode cX8_step 50 = .ok (.isub, 1) := by decide +kernel
theorem dX8_step_51 : decode cX8_step 51 = .ok (.invokestatic 75, 3) := by decide +kernel
theorem dX8_step_54 : decode cX8_step 54 = .ok (.ifCond .ne 7, 3) := by decide +kernel
theorem dX8_step_57 : decode cX8_step 57 = .ok (.sipush (-1001), 3) := by decide +kernel
theorem dX8_step_60 : decode cX8_step 60 = .ok (.ireturn, 1) := by decide +kernel
theorem dX8_step_61 : decode cX8_step 61 = .ok (.iload_n 3, 1) := by decide +kernel
theorem dX8_step_62 : decode cX8_step 62 = .ok (.ifCond .ne 12, 3) := by decide +kernel
theorem dX8_step_65 : decode cX8_step 65 = .ok (.aload_n 0, 1) := by decide +kernel
theorem dX8_step_66 : decode cX8_step 66 = .ok (.getfield 44, 3) := by decide +kernel
theorem dX8_step_69 : decode cX8_step 69 = .ok (.iload_n 2, 1) := by decide +kernel
theorem dX8_step_70 : decode cX8_step 70 = .ok (.iaload, 1) := by decide +kernel
theorem dX8_step_71 : decode cX8_step 71 = .ok (.goto 37, 3) := by decide +kernel
theorem dX8_step_74 : decode cX8_step 74 = .ok (.iload_n 3, 1) := by decide +kernel
theorem dX8_step_75 : decode cX8_step 75 = .ok (.iconst 1, 1) := by decide +kernel
theorem dX8_step_76 : decode cX8_step 76 = .ok (.if_icmp .ne 12, 3) := by decide +kernel
theorem dX8_step_79 : decode cX8_step 79 = .ok (.aload_n 0, 1) := by decide +kernel
theorem dX8_step_80 : decode cX8_step 80 = .ok (.getfield 47, 3) := by decide +kernel
theorem dX8_step_83 : decode cX8_step 83 = .ok (.iload_n 2, 1) := by decide +kernel
theorem dX8_step_84 : decode cX8_step 84 = .ok (.iaload, 1) := by decide +kernel
theorem dX8_step_85 : decode cX8_step 85 = .ok (.goto 23, 3) := by decide +kernel
theorem dX8_step_88 : decode cX8_step 88 = .ok (.iload_n 3, 1) := by decide +kernel
theorem dX8_step_89 : decode cX8_step 89 = .ok (.iconst 2, 1) := by decide +kernel
theorem dX8_step_90 : decode cX8_step 90 = .ok (.if_icmp .ne 12, 3) := by decide +kernel
theorem dX8_step_93 : decode cX8_step 93 = .ok (.aload_n 0, 1) := by decide +kernel
theorem dX8_step_94 : decode cX8_step 94 = .ok (.getfield 50, 3) := by decide +kernel
theorem dX8_step_97 : decode cX8_step 97 = .ok (.iload_n 2, 1) := by decide +kernel
theorem dX8_step_98 : decode cX8_step 98 = .ok (.iaload, 1) := by decide +kernel
theorem dX8_step_99 : decode cX8_step 99 = .ok (.goto 9, 3) := by decide +kernel
theorem dX8_step_102 : decode cX8_step 102 = .ok (.aload_n 0, 1) := by decide +kernel
theorem dX8_step_103 : decode cX8_step 103 = .ok (.getfield 53, 3) := by decide +kernel
theorem dX8_step_106 : decode cX8_step 106 = .ok (.iload_n 2, 1) := by decide +kernel
theorem dX8_step_107 : decode cX8_step 107 = .ok (.iaload, 1) := by decide +kernel
theorem dX8_step_108 : decode cX8_step 108 = .ok (.ireturn, 1) := by decide +kernel
theorem dX8_isAhead_0 : decode cX8_isAhead 0 = .ok (.aload_n 0, 1) := by decide +kernel
theorem dX8_isAhead_1 : decode cX8_isAhead 1 = .ok (.getfield 62, 3) := by decide +kernel
theorem dX8_isAhead_4 : decode cX8_isAhead 4 = .ok (.iload_n 1, 1) := by decide +kernel
theorem dX8_isAhead_5 : decode cX8_isAhead 5 = .ok (.iaload, 1) := by decide +kernel
theorem dX8_isAhead_6 : decode cX8_isAhead 6 = .ok (.aload_n 0, 1) := by decide +kernel
theorem dX8_isAhead_7 : decode cX8_isAhead 7 = .ok (.getfield 62, 3) := by decide +kernel
theorem dX8_isAhead_10 : decode cX8_isAhead 10 = .ok (.iload_n 2, 1) := by decide +kernel
theorem dX8_isAhead_11 : decode cX8_isAhead 11 = .ok (.iaload, 1) := by decide +kernel
theorem dX8_isAhead_12 : decode cX8_isAhead 12 = .ok (.if_icmp .eq 24, 3) := by decide +kernel
theorem dX8_isAhead_15 : decode cX8_isAhead 15 = .ok (.aload_n 0, 1) := by decide +kernel
theorem dX8_isAhead_16 : decode cX8_isAhead 16 = .ok (.getfield 62, 3) := by decide +kernel
theorem dX8_isAhead_19 : decode cX8_isAhead 19 = .ok (.iload_n 1, 1) := by decide +kernel
theorem dX8_isAhead_20 : decode cX8_isAhead 20 = .ok (.iaload, 1) := by decide +kernel
theorem dX8_isAhead_21 : decode cX8_isAhead 21 = .ok (.aload_n 0, 1) := by decide +kernel
theorem dX8_isAhead_22 : decode cX8_isAhead 22 = .ok (.getfield 62, 3) := by decide +kernel
theorem dX8_isAhead_25 : decode cX8_isAhead 25 = .ok (.iload_n 2, 1) := by decide +kernel
theorem dX8_isAhead_26 : decode cX8_isAhead 26 = .ok (.iaload, 1) := by decide +kernel
theorem dX8_isAhead_27 : decode cX8_isAhead 27 = .ok (.if_icmp .le 7, 3) := by decide +kernel
theorem dX8_isAhead_30 : decode cX8_isAhead 30 = .ok (.iconst 1, 1) := by decide +kernel
theorem dX8_isAhead_31 : decode cX8_isAhead 31 = .ok (.goto 4, 3) := by decide +kernel
theorem dX8_isAhead_34 : decode cX8_isAhead 34 = .ok (.iconst 0, 1) := by decide +kernel
theorem dX8_isAhead_35 : decode cX8_isAhead 35 = .ok (.ireturn, 1) := by decide +kernel
theorem dX8_isAhead_36 : decode cX8_isAhead 36 = .ok (.aload_n 0, 1) := by decide +kernel
theorem dX8_isAhead_37 : decode cX8_isAhead 37 = .ok (.getfield 65, 3) := by decide +kernel
theorem dX8_isAhead_40 : decode cX8_isAhead 40 = .ok (.iload_n 1, 1) := by decide +kernel
theorem dX8_isAhead_41 : decode cX8_isAhead 41 = .ok (.iaload, 1) := by decide +kernel
theorem dX8_isAhead_42 : decode cX8_isAhead 42 = .ok (.aload_n 0, 1) := by decide +kernel
theorem dX8_isAhead_43 : decode cX8_isAhead 43 = .ok (.getfield 65, 3) := by decide +kernel
theorem dX8_isAhead_46 : decode cX8_isAhead 46 = .ok (.iload_n 2, 1) := by decide +kernel
theorem dX8_isAhead_47 : decode cX8_isAhead 47 = .ok (.iaload, 1) := by decide +kernel
theorem dX8_isAhead_48 : decode cX8_isAhead 48 = .ok (.if_icmp .ge 7, 3) := by decide +kernel
theorem dX8_isAhead_51 : decode cX8_isAhead 51 = .ok (.iconst 1, 1) := by decide +kernel
theorem dX8_isAhead_52 : decode cX8_isAhead 52 = .ok (.goto 4, 3) := by decide +kernel
theorem dX8_isAhead_55 : decode cX8_isAhead 55 = .ok (.iconst 0, 1) := by decide +kernel
theorem dX8_isAhead_56 : decode cX8_isAhead 56 = .ok (.ireturn, 1) := by decide +kernel
theorem dX8_layRanks_0 : decode cX8_layRanks 0 = .ok (.aload_n 0, 1) := by decide +kernel
theorem dX8_layRanks_1 : decode cX8_layRanks 1 = .ok (.iconst 0, 1) := by decide +kernel
theorem dX8_layRanks_2 : decode cX8_layRanks 2 = .ok (.putfield 245, 3) := by decide +kernel
theorem dX8_layRanks_5 : decode cX8_layRanks 5 = .ok (.iconst 0, 1) := by decide +kernel
theorem dX8_layRanks_6 : decode cX8_layRanks 6 = .ok (.istore_n 1, 1) := by decide +kernel
theorem dX8_layRanks_7 : decode cX8_layRanks 7 = .ok (.iload_n 1, 1) := by decide +kernel
theorem dX8_layRanks_8 : decode cX8_layRanks 8 = .ok (.aload_n 0, 1) := by decide +kernel
theorem dX8_layRanks_9 : decode cX8_layRanks 9 = .ok (.getfield 107, 3) := by decide +kernel
theorem dX8_layRanks_12 : decode cX8_layRanks 12 = .ok (.if_icmp .ge 108, 3) := by decide +kernel
theorem dX8_layRanks_15 : decode cX8_layRanks 15 = .ok (.aload_n 0, 1) := by decide +kernel
theorem dX8_layRanks_16 : decode cX8_layRanks 16 = .ok (.getfield 62, 3) := by decide +kernel
theorem dX8_layRanks_19 : decode cX8_layRanks 19 = .ok (.iload_n 1, 1) := by decide +kernel
theorem dX8_layRanks_20 : decode cX8_layRanks 20 = .ok (.aload_n 0, 1) := by decide +kernel
theorem dX8_layRanks_21 : decode cX8_layRanks 21 = .ok (.iload_n 1, 1) := by decide +kernel
theorem dX8_layRanks_22 : decode cX8_layRanks 22 = .ok (.bipush 12, 2) := by decide +kernel
theorem dX8_layRanks_24 : decode cX8_layRanks 24 = .ok (.invokevirtual 204, 3) := by decide +kernel
theorem dX8_layRanks_27 : decode cX8_layRanks 27 = .ok (.iastore, 1) := by decide +kernel
theorem dX8_layRanks_28 : decode cX8_layRanks 28 = .ok (.aload_n 0, 1) := by decide +kernel
theorem dX8_layRanks_29 : decode cX8_layRanks 29 = .ok (.getfield 65, 3) := by decide +kernel
theorem dX8_layRanks_32 : decode cX8_layRanks 32 = .ok (.iload_n 1, 1) := by decide +kernel
theorem dX8_layRanks_33 : decode cX8_layRanks 33 = .ok (.aload_n 0, 1) := by decide +kernel
theorem dX8_layRanks_34 : decode cX8_layRanks 34 = .ok (.iload_n 1, 1) := by decide +kernel
theorem dX8_layRanks_35 : decode cX8_layRanks 35 = .ok (.invokevirtual 239, 3) := by decide +kernel
theorem dX8_layRanks_38 : decode cX8_layRanks 38 = .ok (.iastore, 1) := by decide +kernel
theorem dX8_layRanks_39 : decode cX8_layRanks 39 = .ok (.aload_n 0, 1) := by decide +kernel
theorem dX8_layRanks_40 : decode cX8_layRanks 40 = .ok (.getfield 62, 3) := by decide +kernel
theorem dX8_layRanks_43 : decode cX8_layRanks 43 = .ok (.iload_n 1, 1) := by decide +kernel
theorem dX8_layRanks_44 : decode cX8_layRanks 44 = .ok (.iaload, 1) := by decide +kernel
theorem dX8_layRanks_45 : decode cX8_layRanks 45 = .ok (.aload_n 0, 1) := by decide +kernel
theorem dX8_layRanks_46 : decode cX8_layRanks 46 = .ok (.getfield 32, 3) := by decide +kernel
theorem dX8_layRanks_49 : decode cX8_layRanks 49 = .ok (.if_icmp .lt 65, 3) := by decide +kernel
theorem dX8_layRanks_52 : decode cX8_layRanks 52 = .ok (.aload_n 0, 1) := by decide +kernel
theorem dX8_layRanks_53 : decode cX8_layRanks 53 = .ok (.getfield 245, 3) := by decide +kernel
theorem dX8_layRanks_56 : decode cX8_layRanks 56 = .ok (.istore_n 2, 1) := by decide +kernel
theorem dX8_layRanks_57 : decode cX8_layRanks 57 = .ok (.iload_n 2, 1) := by decide +kernel
theorem dX8_layRanks_58 : decode cX8_layRanks 58 = .ok (.ifCond .le 39, 3) := by decide +kernel
theorem dX8_layRanks_61 : decode cX8_layRanks 61 = .ok (.aload_n 0, 1) := by decide +kernel
theorem dX8_layRanks_62 : decode cX8_layRanks 62 = .ok (.iload_n 1, 1) := by decide +kernel
theorem dX8_layRanks_63 : decode cX8_layRanks 63 = .ok (.aload_n 0, 1) := by decide +kernel
theorem dX8_layRanks_64 : decode cX8_layRanks 64 = .ok (.getfield 59, 3) := by decide +kernel
theorem dX8_layRanks_67 : decode cX8_layRanks 67 = .ok (.iload_n 2, 1) := by decide +kernel
theorem dX8_layRanks_68 : decode cX8_layRanks 68 = .ok (.iconst 1, 1) := by decide +kernel
theorem dX8_layRanks_69 : decode cX8_layRanks 69 = .ok (.isub, 1) := by decide +kernel
theorem dX8_layRanks_70 : decode cX8_layRanks 70 = .ok (.iaload, 1) := by decide +kernel
theorem dX8_layRanks_71 : decode cX8_layRanks 71 = .ok (.invokevirtual 248, 3) := by decide +kernel
theorem dX8_layRanks_74 : decode cX8_layRanks 74 = .ok (.ifCond .eq 23, 3) := by decide +kernel
theorem dX8_layRanks_77 : decode cX8_layRanks 77 = .ok (.aload_n 0, 1) := by decide +kernel
theorem dX8_layRanks_78 : decode cX8_layRanks 78 = .ok (.getfield 59, 3) := by decide +kernel
theorem dX8_layRanks_81 : decode cX8_layRanks 81 = .ok (.iload_n 2, 1) := by decide +kernel
theorem dX8_layRanks_82 : decode cX8_layRanks 82 = .ok (.aload_n 0, 1) := by decide +kernel
theorem dX8_layRanks_83 : decode cX8_layRanks 83 = .ok (.getfield 59, 3) := by decide +kernel
theorem dX8_layRanks_86 : decode cX8_layRanks 86 = .ok (.iload_n 2, 1) := by decide +kernel
theorem dX8_layRanks_87 : decode cX8_layRanks 87 = .ok (.iconst 1, 1) := by decide +kernel
theorem dX8_layRanks_88 : decode cX8_layRanks 88 = .ok (.isub, 1) := by decide +kernel
theorem dX8_layRanks_89 : decode cX8_layRanks 89 = .ok (.iaload, 1) := by decide +kernel
theorem dX8_layRanks_90 : decode cX8_layRanks 90 = .ok (.iastore, 1) := by decide +kernel
theorem dX8_layRanks_91 : decode cX8_layRanks 91 = .ok (.iinc 2 (-1), 3) := by decide +kernel
theorem dX8_layRanks_94 : decode cX8_layRanks 94 = .ok (.goto (-37), 3) := by decide +kernel
theorem dX8_layRanks_97 : decode cX8_layRanks 97 = .ok (.aload_n 0, 1) := by decide +kernel
theorem dX8_layRanks_98 : decode cX8_layRanks 98 = .ok (.getfield 59, 3) := by decide +kernel
theorem dX8_layRanks_101 : decode cX8_layRanks 101 = .ok (.iload_n 2, 1) := by decide +kernel
theorem dX8_layRanks_102 : decode cX8_layRanks 102 = .ok (.iload_n 1, 1) := by decide +kernel
theorem dX8_layRanks_103 : decode cX8_layRanks 103 = .ok (.iastore, 1) := by decide +kernel
theorem dX8_layRanks_104 : decode cX8_layRanks 104 = .ok (.aload_n 0, 1) := by decide +kernel
theorem dX8_layRanks_105 : decode cX8_layRanks 105 = .ok (.dup, 1) := by decide +kernel
theorem dX8_layRanks_106 : decode cX8_layRanks 106 = .ok (.getfield 245, 3) := by decide +kernel
theorem dX8_layRanks_109 : decode cX8_layRanks 109 = .ok (.iconst 1, 1) := by decide +kernel
theorem dX8_layRanks_110 : decode cX8_layRanks 110 = .ok (.iadd, 1) := by decide +kernel
theorem dX8_layRanks_111 : decode cX8_layRanks 111 = .ok (.putfield 245, 3) := by decide +kernel
theorem dX8_layRanks_114 : decode cX8_layRanks 114 = .ok (.iinc 1 1, 3) := by decide +kernel
theorem dX8_layRanks_117 : decode cX8_layRanks 117 = .ok (.goto (-110), 3) := by decide +kernel
theorem dX8_layRanks_120 : decode cX8_layRanks 120 = .ok (.return_, 1) := by decide +kernel
theorem dX8_rank_0 : decode cX8_rank 0 = .ok (.aload_n 0, 1) := by decide +kernel
theorem dX8_rank_1 : decode cX8_rank 1 = .ok (.getfield 126, 3) := by decide +kernel
theorem dX8_rank_4 : decode cX8_rank 4 = .ok (.ifCond .ne 7, 3) := by decide +kernel
theorem dX8_rank_7 : decode cX8_rank 7 = .ok (.sipush (-1003), 3) := by decide +kernel
theorem dX8_rank_10 : decode cX8_rank 10 = .ok (.ireturn, 1) := by decide +kernel
theorem dX8_rank_11 : decode cX8_rank 11 = .ok (.aload_n 0, 1) := by decide +kernel
theorem dX8_rank_12 : decode cX8_rank 12 = .ok (.invokevirtual 251, 3) := by decide +kernel
theorem dX8_rank_15 : decode cX8_rank 15 = .ok (.iload_n 1, 1) := by decide +kernel
theorem dX8_rank_16 : decode cX8_rank 16 = .ok (.iconst 0, 1) := by decide +kernel
theorem dX8_rank_17 : decode cX8_rank 17 = .ok (.aload_n 0, 1) := by decide +kernel
theorem dX8_rank_18 : decode cX8_rank 18 = .ok (.getfield 245, 3) := by decide +kernel
theorem dX8_rank_21 : decode cX8_rank 21 = .ok (.iconst 1, 1) := by decide +kernel
theorem dX8_rank_22 : decode cX8_rank 22 = .ok (.isub, 1) := by decide +kernel
theorem dX8_rank_23 : decode cX8_rank 23 = .ok (.invokestatic 75, 3) := by decide +kernel
theorem dX8_rank_26 : decode cX8_rank 26 = .ok (.ifCond .eq 12, 3) := by decide +kernel
theorem dX8_rank_29 : decode cX8_rank 29 = .ok (.aload_n 0, 1) := by decide +kernel
theorem dX8_rank_30 : decode cX8_rank 30 = .ok (.getfield 59, 3) := by decide +kernel
theorem dX8_rank_33 : decode cX8_rank 33 = .ok (.iload_n 1, 1) := by decide +kernel
theorem dX8_rank_34 : decode cX8_rank 34 = .ok (.iaload, 1) := by decide +kernel
theorem dX8_rank_35 : decode cX8_rank 35 = .ok (.goto 6, 3) := by decide +kernel
theorem dX8_rank_38 : decode cX8_rank 38 = .ok (.sipush (-1001), 3) := by decide +kernel
theorem dX8_rank_41 : decode cX8_rank 41 = .ok (.ireturn, 1) := by decide +kernel
theorem dX8_layCovered_0 : decode cX8_layCovered 0 = .ok (.iconst 0, 1) := by decide +kernel
theorem dX8_layCovered_1 : decode cX8_layCovered 1 = .ok (.istore_n 1, 1) := by decide +kernel
theorem dX8_layCovered_2 : decode cX8_layCovered 2 = .ok (.iload_n 1, 1) := by decide +kernel
theorem dX8_layCovered_3 : decode cX8_layCovered 3 = .ok (.bipush 8, 2) := by decide +kernel
theorem dX8_layCovered_5 : decode cX8_layCovered 5 = .ok (.if_icmp .ge 16, 3) := by decide +kernel
theorem dX8_layCovered_8 : decode cX8_layCovered 8 = .ok (.aload_n 0, 1) := by decide +kernel
theorem dX8_layCovered_9 : decode cX8_layCovered 9 = .ok (.getfield 68, 3) := by decide +kernel
theorem dX8_layCovered_12 : decode cX8_layCovered 12 = .ok (.iload_n 1, 1) := by decide +kernel
theorem dX8_layCovered_13 : decode cX8_layCovered 13 = .ok (.iconst 0, 1) := by decide +kernel
theorem dX8_layCovered_14 : decode cX8_layCovered 14 = .ok (.bastore, 1) := by decide +kernel
theorem dX8_layCovered_15 : decode cX8_layCovered 15 = .ok (.iinc 1 1, 3) := by decide +kernel
theorem dX8_layCovered_18 : decode cX8_layCovered 18 = .ok (.goto (-16), 3) := by decide +kernel
theorem dX8_layCovered_21 : decode cX8_layCovered 21 = .ok (.iconst 0, 1) := by decide +kernel
theorem dX8_layCovered_22 : decode cX8_layCovered 22 = .ok (.istore_n 1, 1) := by decide +kernel
theorem dX8_layCovered_23 : decode cX8_layCovered 23 = .ok (.iload_n 1, 1) := by decide +kernel
theorem dX8_layCovered_24 : decode cX8_layCovered 24 = .ok (.aload_n 0, 1) := by decide +kernel
theorem dX8_layCovered_25 : decode cX8_layCovered 25 = .ok (.getfield 107, 3) := by decide +kernel
theorem dX8_layCovered_28 : decode cX8_layCovered 28 = .ok (.if_icmp .ge 72, 3) := by decide +kernel
theorem dX8_layCovered_31 : decode cX8_layCovered 31 = .ok (.aload_n 0, 1) := by decide +kernel
theorem dX8_layCovered_32 : decode cX8_layCovered 32 = .ok (.iload_n 1, 1) := by decide +kernel
theorem dX8_layCovered_33 : decode cX8_layCovered 33 = .ok (.invokevirtual 236, 3) := by decide +kernel
theorem dX8_layCovered_36 : decode cX8_layCovered 36 = .ok (.istore_n 2, 1) := by decide +kernel
theorem dX8_layCovered_37 : decode cX8_layCovered 37 = .ok (.aload_n 0, 1) := by decide +kernel
theorem dX8_layCovered_38 : decode cX8_layCovered 38 = .ok (.iload_n 1, 1) := by decide +kernel
theorem dX8_layCovered_39 : decode cX8_layCovered 39 = .ok (.bipush 12, 2) := by decide +kernel
theorem dX8_layCovered_41 : decode cX8_layCovered 41 = .ok (.invokevirtual 201, 3) := by decide +kernel
theorem dX8_layCovered_44 : decode cX8_layCovered 44 = .ok (.iconst 0, 1) := by decide +kernel
theorem dX8_layCovered_45 : decode cX8_layCovered 45 = .ok (.istore_n 3, 1) := by decide +kernel
theorem dX8_layCovered_46 : decode cX8_layCovered 46 = .ok (.iload_n 3, 1) := by decide +kernel
theorem dX8_layCovered_47 : decode cX8_layCovered 47 = .ok (.aload_n 0, 1) := by decide +kernel
theorem dX8_layCovered_48 : decode cX8_layCovered 48 = .ok (.getfield 154, 3) := by decide +kernel
theorem dX8_layCovered_51 : decode cX8_layCovered 51 = .ok (.if_icmp .ge 43, 3) := by decide +kernel
theorem dX8_layCovered_54 : decode cX8_layCovered 54 = .ok (.iload_n 2, 1) := by decide +kernel
theorem dX8_layCovered_55 : decode cX8_layCovered 55 = .ok (.ifCond .eq 39, 3) := by decide +kernel
theorem dX8_layCovered_58 : decode cX8_layCovered 58 = .ok (.aload_n 0, 1) := by decide +kernel
theorem dX8_layCovered_59 : decode cX8_layCovered 59 = .ok (.getfield 44, 3) := by decide +kernel
theorem dX8_layCovered_62 : decode cX8_layCovered 62 = .ok (.iload_n 3, 1) := by decide +kernel
theorem dX8_layCovered_63 : decode cX8_layCovered 63 = .ok (.iaload, 1) := by decide +kernel
theorem dX8_layCovered_64 : decode cX8_layCovered 64 = .ok (.ifCond .ne 24, 3) := by decide +kernel
theorem dX8_layCovered_67 : decode cX8_layCovered 67 = .ok (.aload_n 0, 1) := by decide +kernel
theorem dX8_layCovered_68 : decode cX8_layCovered 68 = .ok (.getfield 47, 3) := by decide +kernel
theorem dX8_layCovered_71 : decode cX8_layCovered 71 = .ok (.iload_n 3, 1) := by decide +kernel
theorem dX8_layCovered_72 : decode cX8_layCovered 72 = .ok (.iaload, 1) := by decide +kernel
theorem dX8_layCovered_73 : decode cX8_layCovered 73 = .ok (.ifCond .ne 15, 3) := by decide +kernel
theorem dX8_layCovered_76 : decode cX8_layCovered 76 = .ok (.aload_n 0, 1) := by decide +kernel
theorem dX8_layCovered_77 : decode cX8_layCovered 77 = .ok (.getfield 68, 3) := by decide +kernel
theorem dX8_layCovered_80 : decode cX8_layCovered 80 = .ok (.aload_n 0, 1) := by decide +kernel
theorem dX8_layCovered_81 : decode cX8_layCovered 81 = .ok (.getfield 53, 3) := by decide +kernel
theorem dX8_layCovered_84 : decode cX8_layCovered 84 = .ok (.iload_n 3, 1) := by decide +kernel
theorem dX8_layCovered_85 : decode cX8_layCovered 85 = .ok (.iaload, 1) := by decide +kernel
theorem dX8_layCovered_86 : decode cX8_layCovered 86 = .ok (.iconst 1, 1) := by decide +kernel
theorem dX8_layCovered_87 : decode cX8_layCovered 87 = .ok (.bastore, 1) := by decide +kernel
theorem dX8_layCovered_88 : decode cX8_layCovered 88 = .ok (.iinc 3 1, 3) := by decide +kernel
theorem dX8_layCovered_91 : decode cX8_layCovered 91 = .ok (.goto (-45), 3) := by decide +kernel
theorem dX8_layCovered_94 : decode cX8_layCovered 94 = .ok (.iinc 1 1, 3) := by decide +kernel
theorem dX8_layCovered_97 : decode cX8_layCovered 97 = .ok (.goto (-74), 3) := by decide +kernel
theorem dX8_layCovered_100 : decode cX8_layCovered 100 = .ok (.return_, 1) := by decide +kernel
theorem dX8_canMany_0 : decode cX8_canMany 0 = .ok (.iconst 0, 1) := by decide +kernel
theorem dX8_canMany_1 : decode cX8_canMany 1 = .ok (.istore_n 3, 1) := by decide +kernel
theorem dX8_canMany_2 : decode cX8_canMany 2 = .ok (.iconst 0, 1) := by decide +kernel
theorem dX8_canMany_3 : decode cX8_canMany 3 = .ok (.istore 4, 2) := by decide +kernel
theorem dX8_canMany_5 : decode cX8_canMany 5 = .ok (.iload 4, 2) := by decide +kernel
theorem dX8_canMany_7 : decode cX8_canMany 7 = .ok (.aload_n 0, 1) := by decide +kernel
theorem dX8_canMany_8 : decode cX8_canMany 8 = .ok (.getfield 107, 3) := by decide +kernel
theorem dX8_canMany_11 : decode cX8_canMany 11 = .ok (.if_icmp .ge 46, 3) := by decide +kernel
theorem dX8_canMany_14 : decode cX8_canMany 14 = .ok (.iload_n 3, 1) := by decide +kernel
theorem dX8_canMany_15 : decode cX8_canMany 15 = .ok (.iload_n 1, 1) := by decide +kernel
theorem dX8_canMany_16 : decode cX8_canMany 16 = .ok (.ifCond .eq 12, 3) := by decide +kernel
theorem dX8_canMany_19 : decode cX8_canMany 19 = .ok (.aload_n 0, 1) := by decide +kernel
theorem dX8_canMany_20 : decode cX8_canMany 20 = .ok (.iload 4, 2) := by decide +kernel
theorem dX8_canMany_22 : decode cX8_canMany 22 = .ok (.invokevirtual 226, 3) := by decide +kernel
theorem dX8_canMany_25 : decode cX8_canMany 25 = .ok (.ifCond .eq 20, 3) := by decide +kernel
theorem dX8_canMany_28 : decode cX8_canMany 28 = .ok (.iload_n 2, 1) := by decide +kernel
theorem dX8_canMany_29 : decode cX8_canMany 29 = .ok (.ifCond .eq 12, 3) := by decide +kernel
theorem dX8_canMany_32 : decode cX8_canMany 32 = .ok (.aload_n 0, 1) := by decide +kernel
theorem dX8_canMany_33 : decode cX8_canMany 33 = .ok (.iload 4, 2) := by decide +kernel
theorem dX8_canMany_35 : decode cX8_canMany 35 = .ok (.invokevirtual 233, 3) := by decide +kernel
theorem dX8_canMany_38 : decode cX8_canMany 38 = .ok (.ifCond .eq 7, 3) := by decide +kernel
theorem dX8_canMany_41 : decode cX8_canMany 41 = .ok (.iconst 1, 1) := by decide +kernel
theorem dX8_canMany_42 : decode cX8_canMany 42 = .ok (.goto 4, 3) := by decide +kernel
theorem dX8_canMany_45 : decode cX8_canMany 45 = .ok (.iconst 0, 1) := by decide +kernel
theorem dX8_canMany_46 : decode cX8_canMany 46 = .ok (.invokestatic 229, 3) := by decide +kernel
theorem dX8_canMany_49 : decode cX8_canMany 49 = .ok (.iadd, 1) := by decide +kernel
theorem dX8_canMany_50 : decode cX8_canMany 50 = .ok (.istore_n 3, 1) := by decide +kernel
theorem dX8_canMany_51 : decode cX8_canMany 51 = .ok (.iinc 4 1, 3) := by decide +kernel
theorem dX8_canMany_54 : decode cX8_canMany 54 = .ok (.goto (-49), 3) := by decide +kernel
theorem dX8_canMany_57 : decode cX8_canMany 57 = .ok (.iload_n 3, 1) := by decide +kernel
theorem dX8_canMany_58 : decode cX8_canMany 58 = .ok (.ireturn, 1) := by decide +kernel
theorem dX8_coveredMany_0 : decode cX8_coveredMany 0 = .ok (.aload_n 0, 1) := by decide +kernel
theorem dX8_coveredMany_1 : decode cX8_coveredMany 1 = .ok (.invokevirtual 254, 3) := by decide +kernel
theorem dX8_coveredMany_4 : decode cX8_coveredMany 4 = .ok (.iconst 0, 1) := by decide +kernel
theorem dX8_coveredMany_5 : decode cX8_coveredMany 5 = .ok (.istore_n 1, 1) := by decide +kernel
theorem dX8_coveredMany_6 : decode cX8_coveredMany 6 = .ok (.iconst 0, 1) := by decide +kernel
theorem dX8_coveredMany_7 : decode cX8_coveredMany 7 = .ok (.istore_n 2, 1) := by decide +kernel
theorem dX8_coveredMany_8 : decode cX8_coveredMany 8 = .ok (.iload_n 2, 1) := by decide +kernel
theorem dX8_coveredMany_9 : decode cX8_coveredMany 9 = .ok (.aload_n 0, 1) := by decide +kernel
theorem dX8_coveredMany_10 : decode cX8_coveredMany 10 = .ok (.getfield 13, 3) := by decide +kernel
theorem dX8_coveredMany_13 : decode cX8_coveredMany 13 = .ok (.bipush 12, 2) := by decide +kernel
theorem dX8_coveredMany_15 : decode cX8_coveredMany 15 = .ok (.iaload, 1) := by decide +kernel
theorem dX8_coveredMany_16 : decode cX8_coveredMany 16 = .ok (.if_icmp .ge 21, 3) := by decide +kernel
theorem dX8_coveredMany_19 : decode cX8_coveredMany 19 = .ok (.iload_n 1, 1) := by decide +kernel
theorem dX8_coveredMany_20 : decode cX8_coveredMany 20 = .ok (.aload_n 0, 1) := by decide +kernel
theorem dX8_coveredMany_21 : decode cX8_coveredMany 21 = .ok (.getfield 68, 3) := by decide +kernel
theorem dX8_coveredMany_24 : decode cX8_coveredMany 24 = .ok (.iload_n 2, 1) := by decide +kernel
theorem dX8_coveredMany_25 : decode cX8_coveredMany 25 = .ok (.baload, 1) := by decide +kernel
theorem dX8_coveredMany_26 : decode cX8_coveredMany 26 = .ok (.invokestatic 229, 3) := by decide +kernel
theorem dX8_coveredMany_29 : decode cX8_coveredMany 29 = .ok (.iadd, 1) := by decide +kernel
theorem dX8_coveredMany_30 : decode cX8_coveredMany 30 = .ok (.istore_n 1, 1) := by decide +kernel
theorem dX8_coveredMany_31 : decode cX8_coveredMany 31 = .ok (.iinc 2 1, 3) := by decide +kernel
theorem dX8_coveredMany_34 : decode cX8_coveredMany 34 = .ok (.goto (-26), 3) := by decide +kernel
theorem dX8_coveredMany_37 : decode cX8_coveredMany 37 = .ok (.iload_n 1, 1) := by decide +kernel
theorem dX8_coveredMany_38 : decode cX8_coveredMany 38 = .ok (.ireturn, 1) := by decide +kernel
theorem dX8_matchesMany_0 : decode cX8_matchesMany 0 = .ok (.aload_n 0, 1) := by decide +kernel
theorem dX8_matchesMany_1 : decode cX8_matchesMany 1 = .ok (.invokevirtual 251, 3) := by decide +kernel
theorem dX8_matchesMany_4 : decode cX8_matchesMany 4 = .ok (.aload_n 0, 1) := by decide +kernel
theorem dX8_matchesMany_5 : decode cX8_matchesMany 5 = .ok (.getfield 245, 3) := by decide +kernel
theorem dX8_matchesMany_8 : decode cX8_matchesMany 8 = .ok (.ireturn, 1) := by decide +kernel
theorem dX8_questionNow_0 : decode cX8_questionNow 0 = .ok (.iload_n 1, 1) := by decide +kernel
theorem dX8_questionNow_1 : decode cX8_questionNow 1 = .ok (.tableswitch 66 5 9 #[35, 40, 47, 54, 61], 35) := by decide +kernel
theorem dX8_questionNow_36 : decode cX8_questionNow 36 = .ok (.aload_n 0, 1) := by decide +kernel
theorem dX8_questionNow_37 : decode cX8_questionNow 37 = .ok (.invokevirtual 257, 3) := by decide +kernel
theorem dX8_questionNow_40 : decode cX8_questionNow 40 = .ok (.ireturn, 1) := by decide +kernel
theorem dX8_questionNow_41 : decode cX8_questionNow 41 = .ok (.aload_n 0, 1) := by decide +kernel
theorem dX8_questionNow_42 : decode cX8_questionNow 42 = .ok (.iconst 1, 1) := by decide +kernel
theorem dX8_questionNow_43 : decode cX8_questionNow 43 = .ok (.iconst 0, 1) := by decide +kernel
theorem dX8_questionNow_44 : decode cX8_questionNow 44 = .ok (.invokevirtual 260, 3) := by decide +kernel
theorem dX8_questionNow_47 : decode cX8_questionNow 47 = .ok (.ireturn, 1) := by decide +kernel
theorem dX8_questionNow_48 : decode cX8_questionNow 48 = .ok (.aload_n 0, 1) := by decide +kernel
theorem dX8_questionNow_49 : decode cX8_questionNow 49 = .ok (.iconst 0, 1) := by decide +kernel
theorem dX8_questionNow_50 : decode cX8_questionNow 50 = .ok (.iconst 1, 1) := by decide +kernel
theorem dX8_questionNow_51 : decode cX8_questionNow 51 = .ok (.invokevirtual 260, 3) := by decide +kernel
theorem dX8_questionNow_54 : decode cX8_questionNow 54 = .ok (.ireturn, 1) := by decide +kernel
theorem dX8_questionNow_55 : decode cX8_questionNow 55 = .ok (.aload_n 0, 1) := by decide +kernel
theorem dX8_questionNow_56 : decode cX8_questionNow 56 = .ok (.iconst 1, 1) := by decide +kernel
theorem dX8_questionNow_57 : decode cX8_questionNow 57 = .ok (.iconst 1, 1) := by decide +kernel
theorem dX8_questionNow_58 : decode cX8_questionNow 58 = .ok (.invokevirtual 260, 3) := by decide +kernel
theorem dX8_questionNow_61 : decode cX8_questionNow 61 = .ok (.ireturn, 1) := by decide +kernel
theorem dX8_questionNow_62 : decode cX8_questionNow 62 = .ok (.aload_n 0, 1) := by decide +kernel
theorem dX8_questionNow_63 : decode cX8_questionNow 63 = .ok (.invokevirtual 264, 3) := by decide +kernel
theorem dX8_questionNow_66 : decode cX8_questionNow 66 = .ok (.ireturn, 1) := by decide +kernel
theorem dX8_questionNow_67 : decode cX8_questionNow 67 = .ok (.aload_n 0, 1) := by decide +kernel
theorem dX8_questionNow_68 : decode cX8_questionNow 68 = .ok (.bipush 12, 2) := by decide +kernel
theorem dX8_questionNow_70 : decode cX8_questionNow 70 = .ok (.iload_n 1, 1) := by decide +kernel
theorem dX8_questionNow_71 : decode cX8_questionNow 71 = .ok (.invokevirtual 192, 3) := by decide +kernel
theorem dX8_questionNow_74 : decode cX8_questionNow 74 = .ok (.ireturn, 1) := by decide +kernel
theorem dX8_question_0 : decode cX8_question 0 = .ok (.iload_n 1, 1) := by decide +kernel
theorem dX8_question_1 : decode cX8_question 1 = .ok (.iconst 0, 1) := by decide +kernel
theorem dX8_question_2 : decode cX8_question 2 = .ok (.bipush 9, 2) := by decide +kernel
theorem dX8_question_4 : decode cX8_question 4 = .ok (.invokestatic 75, 3) := by decide +kernel
theorem dX8_question_7 : decode cX8_question 7 = .ok (.ifCond .ne 7, 3) := by decide +kernel
theorem dX8_question_10 : decode cX8_question 10 = .ok (.sipush (-1002), 3) := by decide +kernel
theorem dX8_question_13 : decode cX8_question 13 = .ok (.ireturn, 1) := by decide +kernel
theorem dX8_question_14 : decode cX8_question 14 = .ok (.aload_n 0, 1) := by decide +kernel
theorem dX8_question_15 : decode cX8_question 15 = .ok (.getfield 126, 3) := by decide +kernel
theorem dX8_question_18 : decode cX8_question 18 = .ok (.ifCond .eq 11, 3) := by decide +kernel
theorem dX8_question_21 : decode cX8_question 21 = .ok (.aload_n 0, 1) := by decide +kernel
theorem dX8_question_22 : decode cX8_question 22 = .ok (.iload_n 1, 1) := by decide +kernel
theorem dX8_question_23 : decode cX8_question 23 = .ok (.invokevirtual 267, 3) := by decide +kernel
theorem dX8_question_26 : decode cX8_question 26 = .ok (.goto 6, 3) := by decide +kernel
theorem dX8_question_29 : decode cX8_question 29 = .ok (.sipush (-1003), 3) := by decide +kernel
theorem dX8_question_32 : decode cX8_question 32 = .ok (.ireturn, 1) := by decide +kernel
theorem dX8_covered_0 : decode cX8_covered 0 = .ok (.aload_n 0, 1) := by decide +kernel
theorem dX8_covered_1 : decode cX8_covered 1 = .ok (.getfield 126, 3) := by decide +kernel
theorem dX8_covered_4 : decode cX8_covered 4 = .ok (.ifCond .ne 7, 3) := by decide +kernel
theorem dX8_covered_7 : decode cX8_covered 7 = .ok (.sipush (-1003), 3) := by decide +kernel
theorem dX8_covered_10 : decode cX8_covered 10 = .ok (.ireturn, 1) := by decide +kernel
theorem dX8_covered_11 : decode cX8_covered 11 = .ok (.iload_n 1, 1) := by decide +kernel
theorem dX8_covered_12 : decode cX8_covered 12 = .ok (.iconst 0, 1) := by decide +kernel
theorem dX8_covered_13 : decode cX8_covered 13 = .ok (.aload_n 0, 1) := by decide +kernel
theorem dX8_covered_14 : decode cX8_covered 14 = .ok (.getfield 13, 3) := by decide +kernel
theorem dX8_covered_17 : decode cX8_covered 17 = .ok (.bipush 12, 2) := by decide +kernel
theorem dX8_covered_19 : decode cX8_covered 19 = .ok (.iaload, 1) := by decide +kernel
theorem dX8_covered_20 : decode cX8_covered 20 = .ok (.iconst 1, 1) := by decide +kernel
theorem dX8_covered_21 : decode cX8_covered 21 = .ok (.isub, 1) := by decide +kernel
theorem dX8_covered_22 : decode cX8_covered 22 = .ok (.invokestatic 75, 3) := by decide +kernel
theorem dX8_covered_25 : decode cX8_covered 25 = .ok (.ifCond .ne 7, 3) := by decide +kernel
theorem dX8_covered_28 : decode cX8_covered 28 = .ok (.sipush (-1001), 3) := by decide +kernel
theorem dX8_covered_31 : decode cX8_covered 31 = .ok (.ireturn, 1) := by decide +kernel
theorem dX8_covered_32 : decode cX8_covered 32 = .ok (.aload_n 0, 1) := by decide +kernel
theorem dX8_covered_33 : decode cX8_covered 33 = .ok (.invokevirtual 254, 3) := by decide +kernel
theorem dX8_covered_36 : decode cX8_covered 36 = .ok (.aload_n 0, 1) := by decide +kernel
theorem dX8_covered_37 : decode cX8_covered 37 = .ok (.getfield 68, 3) := by decide +kernel
theorem dX8_covered_40 : decode cX8_covered 40 = .ok (.iload_n 1, 1) := by decide +kernel
theorem dX8_covered_41 : decode cX8_covered 41 = .ok (.baload, 1) := by decide +kernel
theorem dX8_covered_42 : decode cX8_covered 42 = .ok (.invokestatic 229, 3) := by decide +kernel
theorem dX8_covered_45 : decode cX8_covered 45 = .ok (.ireturn, 1) := by decide +kernel
theorem dX8_gramsAll_0 : decode cX8_gramsAll 0 = .ok (.iconst 0, 1) := by decide +kernel
theorem dX8_gramsAll_1 : decode cX8_gramsAll 1 = .ok (.istore_n 1, 1) := by decide +kernel
theorem dX8_gramsAll_2 : decode cX8_gramsAll 2 = .ok (.iload_n 1, 1) := by decide +kernel
theorem dX8_gramsAll_3 : decode cX8_gramsAll 3 = .ok (.sipush 784, 3) := by decide +kernel
theorem dX8_gramsAll_6 : decode cX8_gramsAll 6 = .ok (.if_icmp .ge 16, 3) := by decide +kernel
theorem dX8_gramsAll_9 : decode cX8_gramsAll 9 = .ok (.aload_n 0, 1) := by decide +kernel
theorem dX8_gramsAll_10 : decode cX8_gramsAll 10 = .ok (.getfield 72, 3) := by decide +kernel
theorem dX8_gramsAll_13 : decode cX8_gramsAll 13 = .ok (.iload_n 1, 1) := by decide +kernel
theorem dX8_gramsAll_14 : decode cX8_gramsAll 14 = .ok (.iconst 0, 1) := by decide +kernel
theorem dX8_gramsAll_15 : decode cX8_gramsAll 15 = .ok (.bastore, 1) := by decide +kernel
theorem dX8_gramsAll_16 : decode cX8_gramsAll 16 = .ok (.iinc 1 1, 3) := by decide +kernel
theorem dX8_gramsAll_19 : decode cX8_gramsAll 19 = .ok (.goto (-17), 3) := by decide +kernel
theorem dX8_gramsAll_22 : decode cX8_gramsAll 22 = .ok (.iconst 0, 1) := by decide +kernel
theorem dX8_gramsAll_23 : decode cX8_gramsAll 23 = .ok (.istore_n 1, 1) := by decide +kernel
theorem dX8_gramsAll_24 : decode cX8_gramsAll 24 = .ok (.iload_n 1, 1) := by decide +kernel
theorem dX8_gramsAll_25 : decode cX8_gramsAll 25 = .ok (.aload_n 0, 1) := by decide +kernel
theorem dX8_gramsAll_26 : decode cX8_gramsAll 26 = .ok (.getfield 107, 3) := by decide +kernel
theorem dX8_gramsAll_29 : decode cX8_gramsAll 29 = .ok (.if_icmp .ge 58, 3) := by decide +kernel
theorem dX8_gramsAll_32 : decode cX8_gramsAll 32 = .ok (.aload_n 0, 1) := by decide +kernel
theorem dX8_gramsAll_33 : decode cX8_gramsAll 33 = .ok (.iload_n 1, 1) := by decide +kernel
theorem dX8_gramsAll_34 : decode cX8_gramsAll 34 = .ok (.invokevirtual 179, 3) := by decide +kernel
theorem dX8_gramsAll_37 : decode cX8_gramsAll 37 = .ok (.iconst 0, 1) := by decide +kernel
theorem dX8_gramsAll_38 : decode cX8_gramsAll 38 = .ok (.istore_n 2, 1) := by decide +kernel
theorem dX8_gramsAll_39 : decode cX8_gramsAll 39 = .ok (.iload_n 2, 1) := by decide +kernel
theorem dX8_gramsAll_40 : decode cX8_gramsAll 40 = .ok (.sipush 784, 3) := by decide +kernel
theorem dX8_gramsAll_43 : decode cX8_gramsAll 43 = .ok (.if_icmp .ge 38, 3) := by decide +kernel
theorem dX8_gramsAll_46 : decode cX8_gramsAll 46 = .ok (.aload_n 0, 1) := by decide +kernel
theorem dX8_gramsAll_47 : decode cX8_gramsAll 47 = .ok (.getfield 72, 3) := by decide +kernel
theorem dX8_gramsAll_50 : decode cX8_gramsAll 50 = .ok (.iload_n 2, 1) := by decide +kernel
theorem dX8_gramsAll_51 : decode cX8_gramsAll 51 = .ok (.aload_n 0, 1) := by decide +kernel
theorem dX8_gramsAll_52 : decode cX8_gramsAll 52 = .ok (.getfield 72, 3) := by decide +kernel
theorem dX8_gramsAll_55 : decode cX8_gramsAll 55 = .ok (.iload_n 2, 1) := by decide +kernel
theorem dX8_gramsAll_56 : decode cX8_gramsAll 56 = .ok (.baload, 1) := by decide +kernel
theorem dX8_gramsAll_57 : decode cX8_gramsAll 57 = .ok (.ifCond .ne 12, 3) := by decide +kernel
theorem dX8_gramsAll_60 : decode cX8_gramsAll 60 = .ok (.aload_n 0, 1) := by decide +kernel
theorem dX8_gramsAll_61 : decode cX8_gramsAll 61 = .ok (.getfield 56, 3) := by decide +kernel
theorem dX8_gramsAll_64 : decode cX8_gramsAll 64 = .ok (.iload_n 2, 1) := by decide +kernel
theorem dX8_gramsAll_65 : decode cX8_gramsAll 65 = .ok (.iaload, 1) := by decide +kernel
theorem dX8_gramsAll_66 : decode cX8_gramsAll 66 = .ok (.ifCond .le 7, 3) := by decide +kernel
theorem dX8_gramsAll_69 : decode cX8_gramsAll 69 = .ok (.iconst 1, 1) := by decide +kernel
theorem dX8_gramsAll_70 : decode cX8_gramsAll 70 = .ok (.goto 4, 3) := by decide +kernel
theorem dX8_gramsAll_73 : decode cX8_gramsAll 73 = .ok (.iconst 0, 1) := by decide +kernel
theorem dX8_gramsAll_74 : decode cX8_gramsAll 74 = .ok (.bastore, 1) := by decide +kernel
theorem dX8_gramsAll_75 : decode cX8_gramsAll 75 = .ok (.iinc 2 1, 3) := by decide +kernel
theorem dX8_gramsAll_78 : decode cX8_gramsAll 78 = .ok (.goto (-39), 3) := by decide +kernel
theorem dX8_gramsAll_81 : decode cX8_gramsAll 81 = .ok (.iinc 1 1, 3) := by decide +kernel
theorem dX8_gramsAll_84 : decode cX8_gramsAll 84 = .ok (.goto (-60), 3) := by decide +kernel
theorem dX8_gramsAll_87 : decode cX8_gramsAll 87 = .ok (.iconst 0, 1) := by decide +kernel
theorem dX8_gramsAll_88 : decode cX8_gramsAll 88 = .ok (.istore_n 1, 1) := by decide +kernel
theorem dX8_gramsAll_89 : decode cX8_gramsAll 89 = .ok (.iconst 0, 1) := by decide +kernel
theorem dX8_gramsAll_90 : decode cX8_gramsAll 90 = .ok (.istore_n 2, 1) := by decide +kernel
theorem dX8_gramsAll_91 : decode cX8_gramsAll 91 = .ok (.iload_n 2, 1) := by decide +kernel
theorem dX8_gramsAll_92 : decode cX8_gramsAll 92 = .ok (.sipush 784, 3) := by decide +kernel
theorem dX8_gramsAll_95 : decode cX8_gramsAll 95 = .ok (.if_icmp .ge 21, 3) := by decide +kernel
theorem dX8_gramsAll_98 : decode cX8_gramsAll 98 = .ok (.iload_n 1, 1) := by decide +kernel
theorem dX8_gramsAll_99 : decode cX8_gramsAll 99 = .ok (.aload_n 0, 1) := by decide +kernel
theorem dX8_gramsAll_100 : decode cX8_gramsAll 100 = .ok (.getfield 72, 3) := by decide +kernel
theorem dX8_gramsAll_103 : decode cX8_gramsAll 103 = .ok (.iload_n 2, 1) := by decide +kernel
theorem dX8_gramsAll_104 : decode cX8_gramsAll 104 = .ok (.baload, 1) := by decide +kernel
theorem dX8_gramsAll_105 : decode cX8_gramsAll 105 = .ok (.invokestatic 229, 3) := by decide +kernel
theorem dX8_gramsAll_108 : decode cX8_gramsAll 108 = .ok (.iadd, 1) := by decide +kernel
theorem dX8_gramsAll_109 : decode cX8_gramsAll 109 = .ok (.istore_n 1, 1) := by decide +kernel
theorem dX8_gramsAll_110 : decode cX8_gramsAll 110 = .ok (.iinc 2 1, 3) := by decide +kernel
theorem dX8_gramsAll_113 : decode cX8_gramsAll 113 = .ok (.goto (-22), 3) := by decide +kernel
theorem dX8_gramsAll_116 : decode cX8_gramsAll 116 = .ok (.iload_n 1, 1) := by decide +kernel
theorem dX8_gramsAll_117 : decode cX8_gramsAll 117 = .ok (.ireturn, 1) := by decide +kernel
theorem dX8_howMany_0 : decode cX8_howMany 0 = .ok (.iload_n 1, 1) := by decide +kernel
theorem dX8_howMany_1 : decode cX8_howMany 1 = .ok (.tableswitch 87 0 7 #[47, 52, 57, 62, 67, 72, 77, 82], 47) := by decide +kernel
theorem dX8_howMany_48 : decode cX8_howMany 48 = .ok (.aload_n 0, 1) := by decide +kernel
theorem dX8_howMany_49 : decode cX8_howMany 49 = .ok (.getfield 79, 3) := by decide +kernel
theorem dX8_howMany_52 : decode cX8_howMany 52 = .ok (.ireturn, 1) := by decide +kernel
theorem dX8_howMany_53 : decode cX8_howMany 53 = .ok (.aload_n 0, 1) := by decide +kernel
theorem dX8_howMany_54 : decode cX8_howMany 54 = .ok (.getfield 107, 3) := by decide +kernel
theorem dX8_howMany_57 : decode cX8_howMany 57 = .ok (.ireturn, 1) := by decide +kernel
theorem dX8_howMany_58 : decode cX8_howMany 58 = .ok (.aload_n 0, 1) := by decide +kernel
theorem dX8_howMany_59 : decode cX8_howMany 59 = .ok (.getfield 117, 3) := by decide +kernel
theorem dX8_howMany_62 : decode cX8_howMany 62 = .ok (.ireturn, 1) := by decide +kernel
theorem dX8_howMany_63 : decode cX8_howMany 63 = .ok (.aload_n 0, 1) := by decide +kernel
theorem dX8_howMany_64 : decode cX8_howMany 64 = .ok (.getfield 123, 3) := by decide +kernel
theorem dX8_howMany_67 : decode cX8_howMany 67 = .ok (.ireturn, 1) := by decide +kernel
theorem dX8_howMany_68 : decode cX8_howMany 68 = .ok (.aload_n 0, 1) := by decide +kernel
theorem dX8_howMany_69 : decode cX8_howMany 69 = .ok (.getfield 130, 3) := by decide +kernel
theorem dX8_howMany_72 : decode cX8_howMany 72 = .ok (.ireturn, 1) := by decide +kernel
theorem dX8_howMany_73 : decode cX8_howMany 73 = .ok (.aload_n 0, 1) := by decide +kernel
theorem dX8_howMany_74 : decode cX8_howMany 74 = .ok (.getfield 28, 3) := by decide +kernel
theorem dX8_howMany_77 : decode cX8_howMany 77 = .ok (.ireturn, 1) := by decide +kernel
theorem dX8_howMany_78 : decode cX8_howMany 78 = .ok (.aload_n 0, 1) := by decide +kernel
theorem dX8_howMany_79 : decode cX8_howMany 79 = .ok (.getfield 32, 3) := by decide +kernel
theorem dX8_howMany_82 : decode cX8_howMany 82 = .ok (.ireturn, 1) := by decide +kernel
theorem dX8_howMany_83 : decode cX8_howMany 83 = .ok (.aload_n 0, 1) := by decide +kernel
theorem dX8_howMany_84 : decode cX8_howMany 84 = .ok (.invokevirtual 270, 3) := by decide +kernel
theorem dX8_howMany_87 : decode cX8_howMany 87 = .ok (.ireturn, 1) := by decide +kernel
theorem dX8_howMany_88 : decode cX8_howMany 88 = .ok (.sipush (-1002), 3) := by decide +kernel
theorem dX8_howMany_91 : decode cX8_howMany 91 = .ok (.ireturn, 1) := by decide +kernel
theorem dX8_count_0 : decode cX8_count 0 = .ok (.aload_n 0, 1) := by decide +kernel
theorem dX8_count_1 : decode cX8_count 1 = .ok (.iload_n 1, 1) := by decide +kernel
theorem dX8_count_2 : decode cX8_count 2 = .ok (.invokevirtual 273, 3) := by decide +kernel
theorem dX8_count_5 : decode cX8_count 5 = .ok (.ireturn, 1) := by decide +kernel
theorem dX8_mix_0 : decode cX8_mix 0 = .ok (.aload_n 0, 1) := by decide +kernel
theorem dX8_mix_1 : decode cX8_mix 1 = .ok (.ldc2_w 276, 3) := by decide +kernel
theorem dX8_mix_4 : decode cX8_mix 4 = .ok (.aload_n 0, 1) := by decide +kernel
theorem dX8_mix_5 : decode cX8_mix 5 = .ok (.getfield 278, 3) := by decide +kernel
theorem dX8_mix_8 : decode cX8_mix 8 = .ok (.lmul, 1) := by decide +kernel
theorem dX8_mix_9 : decode cX8_mix 9 = .ok (.lload_n 1, 1) := by decide +kernel
theorem dX8_mix_10 : decode cX8_mix 10 = .ok (.ladd, 1) := by decide +kernel
theorem dX8_mix_11 : decode cX8_mix 11 = .ok (.putfield 278, 3) := by decide +kernel
theorem dX8_mix_14 : decode cX8_mix 14 = .ok (.return_, 1) := by decide +kernel
theorem dX8_mixQuestion_0 : decode cX8_mixQuestion 0 = .ok (.iconst 0, 1) := by decide +kernel
theorem dX8_mixQuestion_1 : decode cX8_mixQuestion 1 = .ok (.istore_n 1, 1) := by decide +kernel
theorem dX8_mixQuestion_2 : decode cX8_mixQuestion 2 = .ok (.iload_n 1, 1) := by decide +kernel
theorem dX8_mixQuestion_3 : decode cX8_mixQuestion 3 = .ok (.bipush 10, 2) := by decide +kernel
theorem dX8_mixQuestion_5 : decode cX8_mixQuestion 5 = .ok (.if_icmp .ge 19, 3) := by decide +kernel
theorem dX8_mixQuestion_8 : decode cX8_mixQuestion 8 = .ok (.aload_n 0, 1) := by decide +kernel
theorem dX8_mixQuestion_9 : decode cX8_mixQuestion 9 = .ok (.aload_n 0, 1) := by decide +kernel
theorem dX8_mixQuestion_10 : decode cX8_mixQuestion 10 = .ok (.iload_n 1, 1) := by decide +kernel
theorem dX8_mixQuestion_11 : decode cX8_mixQuestion 11 = .ok (.invokevirtual 267, 3) := by decide +kernel
theorem dX8_mixQuestion_14 : decode cX8_mixQuestion 14 = .ok (.i2l, 1) := by decide +kernel
theorem dX8_mixQuestion_15 : decode cX8_mixQuestion 15 = .ok (.invokevirtual 282, 3) := by decide +kernel
theorem dX8_mixQuestion_18 : decode cX8_mixQuestion 18 = .ok (.iinc 1 1, 3) := by decide +kernel
theorem dX8_mixQuestion_21 : decode cX8_mixQuestion 21 = .ok (.goto (-19), 3) := by decide +kernel
theorem dX8_mixQuestion_24 : decode cX8_mixQuestion 24 = .ok (.iconst 0, 1) := by decide +kernel
theorem dX8_mixQuestion_25 : decode cX8_mixQuestion 25 = .ok (.istore_n 1, 1) := by decide +kernel
theorem dX8_mixQuestion_26 : decode cX8_mixQuestion 26 = .ok (.iload_n 1, 1) := by decide +kernel
theorem dX8_mixQuestion_27 : decode cX8_mixQuestion 27 = .ok (.aload_n 0, 1) := by decide +kernel
theorem dX8_mixQuestion_28 : decode cX8_mixQuestion 28 = .ok (.getfield 107, 3) := by decide +kernel
theorem dX8_mixQuestion_31 : decode cX8_mixQuestion 31 = .ok (.if_icmp .ge 34, 3) := by decide +kernel
theorem dX8_mixQuestion_34 : decode cX8_mixQuestion 34 = .ok (.iconst 0, 1) := by decide +kernel
theorem dX8_mixQuestion_35 : decode cX8_mixQuestion 35 = .ok (.istore_n 2, 1) := by decide +kernel
theorem dX8_mixQuestion_36 : decode cX8_mixQuestion 36 = .ok (.iload_n 2, 1) := by decide +kernel
theorem dX8_mixQuestion_37 : decode cX8_mixQuestion 37 = .ok (.bipush 10, 2) := by decide +kernel
theorem dX8_mixQuestion_39 : decode cX8_mixQuestion 39 = .ok (.if_icmp .ge 20, 3) := by decide +kernel
theorem dX8_mixQuestion_42 : decode cX8_mixQuestion 42 = .ok (.aload_n 0, 1) := by decide +kernel
theorem dX8_mixQuestion_43 : decode cX8_mixQuestion 43 = .ok (.aload_n 0, 1) := by decide +kernel
theorem dX8_mixQuestion_44 : decode cX8_mixQuestion 44 = .ok (.iload_n 1, 1) := by decide +kernel
theorem dX8_mixQuestion_45 : decode cX8_mixQuestion 45 = .ok (.iload_n 2, 1) := by decide +kernel
theorem dX8_mixQuestion_46 : decode cX8_mixQuestion 46 = .ok (.invokevirtual 242, 3) := by decide +kernel
theorem dX8_mixQuestion_49 : decode cX8_mixQuestion 49 = .ok (.i2l, 1) := by decide +kernel
theorem dX8_mixQuestion_50 : decode cX8_mixQuestion 50 = .ok (.invokevirtual 282, 3) := by decide +kernel
theorem dX8_mixQuestion_53 : decode cX8_mixQuestion 53 = .ok (.iinc 2 1, 3) := by decide +kernel
theorem dX8_mixQuestion_56 : decode cX8_mixQuestion 56 = .ok (.goto (-20), 3) := by decide +kernel
theorem dX8_mixQuestion_59 : decode cX8_mixQuestion 59 = .ok (.iinc 1 1, 3) := by decide +kernel
theorem dX8_mixQuestion_62 : decode cX8_mixQuestion 62 = .ok (.goto (-36), 3) := by decide +kernel
theorem dX8_mixQuestion_65 : decode cX8_mixQuestion 65 = .ok (.aload_n 0, 1) := by decide +kernel
theorem dX8_mixQuestion_66 : decode cX8_mixQuestion 66 = .ok (.invokevirtual 251, 3) := by decide +kernel
theorem dX8_mixQuestion_69 : decode cX8_mixQuestion 69 = .ok (.iconst 0, 1) := by decide +kernel
theorem dX8_mixQuestion_70 : decode cX8_mixQuestion 70 = .ok (.istore_n 1, 1) := by decide +kernel
theorem dX8_mixQuestion_71 : decode cX8_mixQuestion 71 = .ok (.iload_n 1, 1) := by decide +kernel
theorem dX8_mixQuestion_72 : decode cX8_mixQuestion 72 = .ok (.aload_n 0, 1) := by decide +kernel
theorem dX8_mixQuestion_73 : decode cX8_mixQuestion 73 = .ok (.getfield 245, 3) := by decide +kernel
theorem dX8_mixQuestion_76 : decode cX8_mixQuestion 76 = .ok (.if_icmp .ge 20, 3) := by decide +kernel
theorem dX8_mixQuestion_79 : decode cX8_mixQuestion 79 = .ok (.aload_n 0, 1) := by decide +kernel
theorem dX8_mixQuestion_80 : decode cX8_mixQuestion 80 = .ok (.aload_n 0, 1) := by decide +kernel
theorem dX8_mixQuestion_81 : decode cX8_mixQuestion 81 = .ok (.getfield 59, 3) := by decide +kernel
theorem dX8_mixQuestion_84 : decode cX8_mixQuestion 84 = .ok (.iload_n 1, 1) := by decide +kernel
theorem dX8_mixQuestion_85 : decode cX8_mixQuestion 85 = .ok (.iaload, 1) := by decide +kernel
theorem dX8_mixQuestion_86 : decode cX8_mixQuestion 86 = .ok (.i2l, 1) := by decide +kernel
theorem dX8_mixQuestion_87 : decode cX8_mixQuestion 87 = .ok (.invokevirtual 282, 3) := by decide +kernel
theorem dX8_mixQuestion_90 : decode cX8_mixQuestion 90 = .ok (.iinc 1 1, 3) := by decide +kernel
theorem dX8_mixQuestion_93 : decode cX8_mixQuestion 93 = .ok (.goto (-22), 3) := by decide +kernel
theorem dX8_mixQuestion_96 : decode cX8_mixQuestion 96 = .ok (.return_, 1) := by decide +kernel
theorem dX8_digest_0 : decode cX8_digest 0 = .ok (.aload_n 0, 1) := by decide +kernel
theorem dX8_digest_1 : decode cX8_digest 1 = .ok (.ldc2_w 286, 3) := by decide +kernel
theorem dX8_digest_4 : decode cX8_digest 4 = .ok (.putfield 278, 3) := by decide +kernel
theorem dX8_digest_7 : decode cX8_digest 7 = .ok (.iconst 0, 1) := by decide +kernel
theorem dX8_digest_8 : decode cX8_digest 8 = .ok (.istore_n 1, 1) := by decide +kernel
theorem dX8_digest_9 : decode cX8_digest 9 = .ok (.iload_n 1, 1) := by decide +kernel
theorem dX8_digest_10 : decode cX8_digest 10 = .ok (.bipush 6, 2) := by decide +kernel
theorem dX8_digest_12 : decode cX8_digest 12 = .ok (.aload_n 0, 1) := by decide +kernel
theorem dX8_digest_13 : decode cX8_digest 13 = .ok (.getfield 107, 3) := by decide +kernel
theorem dX8_digest_16 : decode cX8_digest 16 = .ok (.imul, 1) := by decide +kernel
theorem dX8_digest_17 : decode cX8_digest 17 = .ok (.if_icmp .ge 26, 3) := by decide +kernel
theorem dX8_digest_20 : decode cX8_digest 20 = .ok (.aload_n 0, 1) := by decide +kernel
theorem dX8_digest_21 : decode cX8_digest 21 = .ok (.aload_n 0, 1) := by decide +kernel
theorem dX8_digest_22 : decode cX8_digest 22 = .ok (.iload_n 1, 1) := by decide +kernel
theorem dX8_digest_23 : decode cX8_digest 23 = .ok (.bipush 6, 2) := by decide +kernel
theorem dX8_digest_25 : decode cX8_digest 25 = .ok (.idiv, 1) := by decide +kernel
theorem dX8_digest_26 : decode cX8_digest 26 = .ok (.iload_n 1, 1) := by decide +kernel
theorem dX8_digest_27 : decode cX8_digest 27 = .ok (.bipush 6, 2) := by decide +kernel
theorem dX8_digest_29 : decode cX8_digest 29 = .ok (.irem, 1) := by decide +kernel
theorem dX8_digest_30 : decode cX8_digest 30 = .ok (.invokevirtual 192, 3) := by decide +kernel
theorem dX8_digest_33 : decode cX8_digest 33 = .ok (.i2l, 1) := by decide +kernel
theorem dX8_digest_34 : decode cX8_digest 34 = .ok (.invokevirtual 282, 3) := by decide +kernel
theorem dX8_digest_37 : decode cX8_digest 37 = .ok (.iinc 1 1, 3) := by decide +kernel
theorem dX8_digest_40 : decode cX8_digest 40 = .ok (.goto (-31), 3) := by decide +kernel
theorem dX8_digest_43 : decode cX8_digest 43 = .ok (.iconst 0, 1) := by decide +kernel
theorem dX8_digest_44 : decode cX8_digest 44 = .ok (.istore_n 1, 1) := by decide +kernel
theorem dX8_digest_45 : decode cX8_digest 45 = .ok (.iload_n 1, 1) := by decide +kernel
theorem dX8_digest_46 : decode cX8_digest 46 = .ok (.aload_n 0, 1) := by decide +kernel
theorem dX8_digest_47 : decode cX8_digest 47 = .ok (.getfield 107, 3) := by decide +kernel
theorem dX8_digest_50 : decode cX8_digest 50 = .ok (.if_icmp .ge 52, 3) := by decide +kernel
theorem dX8_digest_53 : decode cX8_digest 53 = .ok (.iload_n 1, 1) := by decide +kernel
theorem dX8_digest_54 : decode cX8_digest 54 = .ok (.iconst 1, 1) := by decide +kernel
theorem dX8_digest_55 : decode cX8_digest 55 = .ok (.iadd, 1) := by decide +kernel
theorem dX8_digest_56 : decode cX8_digest 56 = .ok (.istore_n 2, 1) := by decide +kernel
theorem dX8_digest_57 : decode cX8_digest 57 = .ok (.iload_n 2, 1) := by decide +kernel
theorem dX8_digest_58 : decode cX8_digest 58 = .ok (.aload_n 0, 1) := by decide +kernel
theorem dX8_digest_59 : decode cX8_digest 59 = .ok (.getfield 107, 3) := by decide +kernel
theorem dX8_digest_62 : decode cX8_digest 62 = .ok (.if_icmp .ge 34, 3) := by decide +kernel
theorem dX8_digest_65 : decode cX8_digest 65 = .ok (.iconst 0, 1) := by decide +kernel
theorem dX8_digest_66 : decode cX8_digest 66 = .ok (.istore_n 3, 1) := by decide +kernel
theorem dX8_digest_67 : decode cX8_digest 67 = .ok (.iload_n 3, 1) := by decide +kernel
theorem dX8_digest_68 : decode cX8_digest 68 = .ok (.iconst 5, 1) := by decide +kernel
theorem dX8_digest_69 : decode cX8_digest 69 = .ok (.if_icmp .ge 21, 3) := by decide +kernel
theorem dX8_digest_72 : decode cX8_digest 72 = .ok (.aload_n 0, 1) := by decide +kernel
theorem dX8_digest_73 : decode cX8_digest 73 = .ok (.aload_n 0, 1) := by decide +kernel
theorem dX8_digest_74 : decode cX8_digest 74 = .ok (.iload_n 1, 1) := by decide +kernel
theorem dX8_digest_75 : decode cX8_digest 75 = .ok (.iload_n 2, 1) := by decide +kernel
theorem dX8_digest_76 : decode cX8_digest 76 = .ok (.iload_n 3, 1) := by decide +kernel
theorem dX8_digest_77 : decode cX8_digest 77 = .ok (.invokevirtual 213, 3) := by decide +kernel
theorem dX8_digest_80 : decode cX8_digest 80 = .ok (.i2l, 1) := by decide +kernel
theorem dX8_digest_81 : decode cX8_digest 81 = .ok (.invokevirtual 282, 3) := by decide +kernel
theorem dX8_digest_84 : decode cX8_digest 84 = .ok (.iinc 3 1, 3) := by decide +kernel
theorem dX8_digest_87 : decode cX8_digest 87 = .ok (.goto (-20), 3) := by decide +kernel
theorem dX8_digest_90 : decode cX8_digest 90 = .ok (.iinc 2 1, 3) := by decide +kernel
theorem dX8_digest_93 : decode cX8_digest 93 = .ok (.goto (-36), 3) := by decide +kernel
theorem dX8_digest_96 : decode cX8_digest 96 = .ok (.iinc 1 1, 3) := by decide +kernel
theorem dX8_digest_99 : decode cX8_digest 99 = .ok (.goto (-54), 3) := by decide +kernel
theorem dX8_digest_102 : decode cX8_digest 102 = .ok (.aload_n 0, 1) := by decide +kernel
theorem dX8_digest_103 : decode cX8_digest 103 = .ok (.getfield 126, 3) := by decide +kernel
theorem dX8_digest_106 : decode cX8_digest 106 = .ok (.ifCond .eq 7, 3) := by decide +kernel
theorem dX8_digest_109 : decode cX8_digest 109 = .ok (.aload_n 0, 1) := by decide +kernel
theorem dX8_digest_110 : decode cX8_digest 110 = .ok (.invokevirtual 288, 3) := by decide +kernel
theorem dX8_digest_113 : decode cX8_digest 113 = .ok (.iconst 0, 1) := by decide +kernel
theorem dX8_digest_114 : decode cX8_digest 114 = .ok (.istore_n 1, 1) := by decide +kernel
theorem dX8_digest_115 : decode cX8_digest 115 = .ok (.iload_n 1, 1) := by decide +kernel
theorem dX8_digest_116 : decode cX8_digest 116 = .ok (.aload_n 0, 1) := by decide +kernel
theorem dX8_digest_117 : decode cX8_digest 117 = .ok (.getfield 79, 3) := by decide +kernel
theorem dX8_digest_120 : decode cX8_digest 120 = .ok (.if_icmp .ge 20, 3) := by decide +kernel
theorem dX8_digest_123 : decode cX8_digest 123 = .ok (.aload_n 0, 1) := by decide +kernel
theorem dX8_digest_124 : decode cX8_digest 124 = .ok (.aload_n 0, 1) := by decide +kernel
theorem dX8_digest_125 : decode cX8_digest 125 = .ok (.getfield 7, 3) := by decide +kernel
theorem dX8_digest_128 : decode cX8_digest 128 = .ok (.iload_n 1, 1) := by decide +kernel
theorem dX8_digest_129 : decode cX8_digest 129 = .ok (.iaload, 1) := by decide +kernel
theorem dX8_digest_130 : decode cX8_digest 130 = .ok (.i2l, 1) := by decide +kernel
theorem dX8_digest_131 : decode cX8_digest 131 = .ok (.invokevirtual 282, 3) := by decide +kernel
theorem dX8_digest_134 : decode cX8_digest 134 = .ok (.iinc 1 1, 3) := by decide +kernel
theorem dX8_digest_137 : decode cX8_digest 137 = .ok (.goto (-22), 3) := by decide +kernel
theorem dX8_digest_140 : decode cX8_digest 140 = .ok (.iconst 0, 1) := by decide +kernel
theorem dX8_digest_141 : decode cX8_digest 141 = .ok (.istore_n 1, 1) := by decide +kernel
theorem dX8_digest_142 : decode cX8_digest 142 = .ok (.iload_n 1, 1) := by decide +kernel
theorem dX8_digest_143 : decode cX8_digest 143 = .ok (.bipush 8, 2) := by decide +kernel
theorem dX8_digest_145 : decode cX8_digest 145 = .ok (.if_icmp .ge 19, 3) := by decide +kernel
theorem dX8_digest_148 : decode cX8_digest 148 = .ok (.aload_n 0, 1) := by decide +kernel
theorem dX8_digest_149 : decode cX8_digest 149 = .ok (.aload_n 0, 1) := by decide +kernel
theorem dX8_digest_150 : decode cX8_digest 150 = .ok (.iload_n 1, 1) := by decide +kernel
theorem dX8_digest_151 : decode cX8_digest 151 = .ok (.invokevirtual 273, 3) := by decide +kernel
theorem dX8_digest_154 : decode cX8_digest 154 = .ok (.i2l, 1) := by decide +kernel
theorem dX8_digest_155 : decode cX8_digest 155 = .ok (.invokevirtual 282, 3) := by decide +kernel
theorem dX8_digest_158 : decode cX8_digest 158 = .ok (.iinc 1 1, 3) := by decide +kernel
theorem dX8_digest_161 : decode cX8_digest 161 = .ok (.goto (-19), 3) := by decide +kernel
theorem dX8_digest_164 : decode cX8_digest 164 = .ok (.aload_n 0, 1) := by decide +kernel
theorem dX8_digest_165 : decode cX8_digest 165 = .ok (.getfield 278, 3) := by decide +kernel
theorem dX8_digest_168 : decode cX8_digest 168 = .ok (.lreturn, 1) := by decide +kernel
end
section
/-! ===== the memory: kinds, lengths and owners of the cells; ints, references and longs by address and place ===== -/
abbrev Gz : Type := va_G × (Nat → ClassId) × Nat
abbrev Kz : Type := (Nat → Nat) × (Nat → Nat) × (Nat → Nat)
abbrev Iz : Type := Nat → Nat → Int32
abbrev Rz : Type := Nat → Nat → Option Nat
abbrev Jz : Type := Nat → Nat → Int64
def nfz (c : Nat) : Nat := ([3, 14, 7, 2, 5, 6, 3, 14, 31] : List Nat).getD c 0
def ftz (c k : Nat) : Nat := (([[1, 1, 1], [1, 1, 1, 1, 0, 0, 0, 0, 0, 0, 0, 0, 0, 0], [1, 1, 1, 0, 0, 0, 0], [1, 0], [1, 0, 0, 0, 0], [1, 1, 0, 0, 0, 0], [1, 0, 0], [1, 1, 1, 1, 1, 1, 1, 0, 0, 0, 0, 0, 0, 0], [0, 1, 0, 0, 1, 1, 1, 1, 1, 0, 0, 0, 0, 0, 0, 1, 1, 1, 0, 1, 1, 1, 1, 1, 0, 1, 1, 1, 1, 1, 2]] : List (List Nat)).getD c []).getD k 0
def fvz (t : Nat) (I : Iz) (R : Rz) (J : Jz) (a k : Nat) : Value := match t with
  | 0 => .int (I a k)
  | 1 => va_rf (R a k)
  | _ => .long (J a k)
/-- a row of a two-place function, altered at one place -/
def u2 {α : Type} (f : Nat → Nat → α) (a k : Nat) (x : α) : Nat → Nat → α := fun b => if b = a then (fun j => if j = k then x else f a j) else f b
theorem u2_ne {α : Type} {f : Nat → Nat → α} {a b k : Nat} {x : α} (h : b ≠ a) : u2 f a k x b = f b := if_neg h
theorem u2_eq {α : Type} {f : Nat → Nat → α} {a k : Nat} {x : α} : u2 f a k x a k = x := by simp [u2]
theorem u2_at {α : Type} {f : Nat → Nat → α} {a j k : Nat} {x : α} (h : j ≠ k) : u2 f a k x a j = f a j := by simp [u2, h]
theorem u2_row {α : Type} {f : Nat → Nat → α} {a k : Nat} {x : α} : u2 f a k x a = fun j => if j = k then x else f a j := by simp [u2]
def atM (g : Gz) (κ : Kz) (I : Iz) (R : Rz) (J : Jz) (H : Heap) (a : Nat) : Prop :=
  (κ.1 a < 9 → t_OB a (g.1.1 (κ.1 a)) (nfz (κ.1 a)) (g.1.2 (κ.1 a)) H (fun k => fvz (ftz (κ.1 a) k) I R J a k)) ∧
  ((κ.1 a = 9 ∨ κ.1 a = 10) → H[a]? = some (vp_cell (g.2.1 (κ.1 a)) (κ.2.1 a, .inl (I a)))) ∧
  ((11 ≤ κ.1 a ∧ κ.1 a < 15) → H[a]? = some (vp_cell (g.2.1 (κ.1 a)) (κ.2.1 a, .inr (.inr (.inr (.inr (R a)))))))
def MM (g : Gz) (κ : Kz) (I : Iz) (R : Rz) (J : Jz) (H : Heap) : Prop := ∀ a, (κ.1 a < 15 → g.2.2 ≤ a) ∧ atM g κ I R J H a
theorem atM.keep {g : Gz} {κ κ1 : Kz} {I I1 : Iz} {R R1 : Rz} {J J1 : Jz} {H H1 : Heap} {b : Nat} (h : atM g κ I R J H b) (hH : H1[b]? = H[b]?) (hI : I1 b = I b) (hR : R1 b = R b) (hJ : J1 b = J b) (hK : κ1.1 b = κ.1 b) (hN : κ1.2.1 b = κ.2.1 b) : atM g κ1 I1 R1 J1 H1 b := by
  obtain ⟨h1, h2, h3⟩ := h
  unfold atM
  rw [hK, hN, hH, hI, hR]
  refine ⟨fun q => ((h1 q).kept hH).to (fun k _ => ?_), h2, h3⟩
  unfold fvz
  rw [hI, hR, hJ]
/-- one cell is altered -/
theorem MM.one {g : Gz} {κ : Kz} {I I1 : Iz} {R R1 : Rz} {J J1 : Jz} {H H1 : Heap} {a : Nat} (h : MM g κ I R J H) (hI : ∀ b, b ≠ a → I1 b = I b) (hR : ∀ b, b ≠ a → R1 b = R b) (hJ : ∀ b, b ≠ a → J1 b = J b) (hH : ∀ b, b ≠ a → H1[b]? = H[b]?) (ha : atM g κ I1 R1 J1 H1 a) : MM g κ I1 R1 J1 H1 := by
  intro b
  refine ⟨(h b).1, ?_⟩
  by_cases e : b = a
  · subst e
    exact ha
  · exact (h b).2.keep (hH b e) (hI b e) (hR b e) (hJ b e) rfl rfl
abbrev tyz (g : Gz) : List (ClassId × FieldType) := [(g.2.1 9, .int), (g.2.1 10, .boolean), (g.2.1 11, .object RX1), (g.2.1 12, .object RX5), (g.2.1 13, .object RX6), (g.2.1 14, .array .int)]
/-- the words that stay true as the tables warm, and those of nest mates, which ride in the world -/
def isNest : Cond → Bool
  | .fieldLinkNest .. => true
  | .methodLinkNest .. => true
  | _ => false
def tg : List Cond := lw_tbl.filter goodWord
def tn : List Cond := lw_tbl.filter isNest
theorem tg_mem {w : Cond} (i : Nat) (h : lw_tbl[i]? = some w) (hg : goodWord w = true) : w ∈ tg := List.mem_filter.mpr ⟨List.mem_of_getElem? h, hg⟩
theorem tn_mem {w : Cond} (i : Nat) (h : lw_tbl[i]? = some w) (hg : isNest w = true) : w ∈ tn := List.mem_filter.mpr ⟨List.mem_of_getElem? h, hg⟩
theorem tg_good {w : Cond} (h : w ∈ tg) : (w.onTables && w.keeps) = true ∨ ∃ ty, w = .arrayClass ty := good_of_word (List.mem_filter.mp h).2
theorem nest_warm {w : Cond} (hn : isNest w = true) {s U : State} (hW : s.WarmedH U.vm) (h : va_Nw w s) : va_Nw w U := by
  cases w <;> first | exact va_Nw.warmF hW h | exact va_Nw.warmM hW h | cases hn
theorem nest_same {w : Cond} (hn : isNest w = true) {s U : State} (hW : s.vm = U.vm) (h : va_Nw w s) : va_Nw w U := by
  cases w <;> first | exact va_Nw.same rfl hW h | cases hn
theorem nest_use {w : Cond} (hn : isNest w = true) {A : Array Value} {U : State} (h : va_Nw w U) : w.before A U = true := by
  cases w <;> first | exact va_Nw.use rfl h | cases hn
def AOi (U : State) : Prop := (Cond.arrayOver (.array .int)).before #[] U = true
theorem AOi.moved {u U : State} (hvm : u.vm.Alike U.vm) (h : AOi u) : AOi U := by
  unfold AOi Cond.before Cond.holds at h ⊢
  simp only [Cond.value, beq_iff_eq] at h ⊢
  cases hc : u.vm.findClass (FieldType.array .int).toString with
  | none => simp [hc] at h
  | some comp =>
    simp only [hc, Option.bind_some, Option.bind_eq_some_iff, Option.map_eq_some_iff] at h
    obtain ⟨c, hi, k, hk, hb⟩ := h
    obtain ⟨k', hk', he⟩ := hvm.2.2 _ _ hk
    have hi2 : (U.vm.classes.findIdx? fun (x : Class) => match x.kind with | .array component _ => component == comp | _ => false) = some c := by
      have e3 : u.vm.bare = U.vm.bare := by first | exact hvm.bare_eq | exact hvm.bare_eq.symm
      have e1 := va_idx_bare U.vm comp
      have e2 := va_idx_bare u.vm comp
      rw [e3] at e2
      exact e1.symm.trans (e2.trans hi)
    have f1 : U.vm.findClass (FieldType.array .int).toString = some comp := by rw [hvm.findClass]; exact hc
    simp only [f1, Option.bind_some, Option.bind_eq_some_iff, Option.map_eq_some_iff]
    refine ⟨c, hi2, k', hk', ?_⟩
    rw [he, hvm.findClass]
    exact hb
def KKz (g : Gz) (U : State) : Prop := va_K g.1 vwCl (tyz g) U ∧ (∀ w ∈ tn, va_Nw w U) ∧ va_AO RX1 U ∧ va_AO RX5 U ∧ va_AO RX6 U ∧ AOi U
theorem KKz.warm {g : Gz} {s U : State} (hW : s.WarmedH U.vm) (h : KKz g s) : KKz g U := ⟨va_K.moved hW.alike h.1, fun w hw => nest_warm (List.mem_filter.mp hw).2 hW (h.2.1 w hw), va_AO.moved hW.alike h.2.2.1, va_AO.moved hW.alike h.2.2.2.1, va_AO.moved hW.alike h.2.2.2.2.1, AOi.moved hW.alike h.2.2.2.2.2⟩
theorem KKz.same {g : Gz} {s U : State} (hW : s.vm = U.vm) (h : KKz g s) : KKz g U := by
  have ha : s.vm.Alike U.vm := by rw [hW]; exact Vm.Alike.refl U.vm
  exact ⟨va_K.moved ha h.1, fun w hw => nest_same (List.mem_filter.mp hw).2 hW (h.2.1 w hw), va_AO.moved ha h.2.2.1, va_AO.moved ha h.2.2.2.1, va_AO.moved ha h.2.2.2.2.1, AOi.moved ha h.2.2.2.2.2⟩
/-! ===== the walk: everything that stands still in one tuple ===== -/
abbrev Zz : Type := Program × Launch × Env × Room × State × MethodId × Array Value × List Frame × Method × Code × (State → Prop) × Gz
abbrev zp (z : Zz) := z.1
abbrev zl (z : Zz) := z.2.1
abbrev ze (z : Zz) := z.2.2.1
abbrev zR (z : Zz) := z.2.2.2.1
abbrev zs (z : Zz) := z.2.2.2.2.1
abbrev zm (z : Zz) := z.2.2.2.2.2.1
abbrev za (z : Zz) := z.2.2.2.2.2.2.1
abbrev zb (z : Zz) := z.2.2.2.2.2.2.2.1
abbrev zt (z : Zz) := z.2.2.2.2.2.2.2.2.1
abbrev zc (z : Zz) := z.2.2.2.2.2.2.2.2.2.1
abbrev zq (z : Zz) := z.2.2.2.2.2.2.2.2.2.2.1
abbrev zg (z : Zz) := z.2.2.2.2.2.2.2.2.2.2.2
def lvh (ls : Array Slot) (nL : Nat) (l : List (Nat × Value)) : Prop := ls.size = nL ∧ lv_wf ls ∧ ∀ k v, l.lookup k = some v → ls[k]? = some (.val v)
def V (z : Zz) (nL k n pc : Nat) (lv : List (Nat × Value)) (st : List Value) (κ : Kz) (I : Iz) (R : Rz) (J : Jz) : Prop :=
  ∀ (ls : Array Slot) (H : Heap) (locs : List Loc), lvh ls nL lv → MM (zg z) κ I R J H → va_S (fun q => (zg z).2.2 ≤ q) (zs z).heap H locs →
    W (zp z) (zl z) (ze z) (zR z) (zs z) (zm z) (za z) (zb z) (zt z) (zc z) H locs k n (zq z) (F0 (zm z) pc ls st)
/-- what stands still in a method's walk: its code, class, locals, its room's depth -/
def Am (z : Zz) (cc : ByteArray) (own : String) (nL d : Nat) : Prop :=
  CallFix (zp z) (zm z) (zc z) cc nL (zs z) (za z) tg own ∧ KKz (zg z) (zs z) ∧ (zg z).2.2 ≤ (zs z).heap.size ∧ d ≤ (zR z).frames ∧ 40 * d ≤ (zR z).locals
theorem lookup_mem {l : List (Nat × Value)} {k : Nat} {v : Value} (h : l.lookup k = some v) : (k, v) ∈ l := by
  induction l with
  | nil => simp at h
  | cons q t ih =>
    obtain ⟨a, b⟩ := q
    by_cases e : k = a
    · subst e
      simp at h
      subst h
      exact List.mem_cons_self
    · have h2 : (k == a) = false := by simpa using e
      rw [List.lookup_cons, h2] at h
      exact List.mem_cons_of_mem _ (ih h)
theorem lvh.of {ls : Array Slot} {nL : Nat} {l : List (Nat × Value)} (h : lv_has ls nL l) : lvh ls nL l := ⟨h.1, h.2.1, fun _ _ hk => h.2.2 _ (lookup_mem hk)⟩
theorem lvh.one {ls : Array Slot} {nL : Nat} {l : List (Nat × Value)} (h : lvh ls nL l) {k : Nat} {v : Value} (hk : l.lookup k = some v) : lv_has ls nL [(k, v)] :=
  ⟨h.1, h.2.1, fun q hq => by
    have e : q = (k, v) := by simpa using hq
    subst e
    exact h.2.2 k v hk⟩
/-- the local at i is no second half -/
def clr (l : List (Nat × Value)) (i : Nat) : Bool := match i with
  | 0 => true
  | j + 1 => match l.lookup j with
    | some w => w.category != 2
    | none => true
theorem lvh.store1 {ls : Array Slot} {nL : Nat} {l : List (Nat × Value)} {i : Nat} {v : Value} (h : lvh ls nL l) (hi : i < nL) (hc : v.category = 1) (hcl : clr l i = true) : ∃ ls', storeLocals ls i v = some ls' ∧ lvh ls' nL ((i, v) :: l) := by
  obtain ⟨ls', e, h'⟩ := lv_store1 (l := []) (v := v) ⟨h.1, h.2.1, fun q hq => by simp at hq⟩ hi hc
  refine ⟨ls', e, h'.1, h'.2.1, fun k w hk => ?_⟩
  by_cases e2 : k = i
  · subst e2
    have hw : v = w := by simpa using hk
    subst hw
    exact h'.2.2 _ List.mem_cons_self
  · have h2 : (k == i) = false := by simpa using e2
    rw [List.lookup_cons, h2] at hk
    obtain ⟨ls2, e3, h3⟩ := lv_store1 (v := v) (h.one hk) hi hc
    have e4 : ls2 = ls' := Option.some.inj (e3.symm.trans e)
    subst e4
    refine h3.2.2 (k, w) (List.mem_cons_of_mem _ (List.mem_filter.mpr ⟨List.mem_cons_self, ?_⟩))
    by_cases e5 : k + 1 = i
    · subst e5
      simp only [clr, hk] at hcl
      simp [h2]
      intro h6
      simp [h6] at hcl
    · simp [h2, e5]
theorem lvh.store2 {ls : Array Slot} {nL : Nat} {l : List (Nat × Value)} {i : Nat} {v : Value} (h : lvh ls nL l) (hi : i + 1 < nL) (hc : v.category = 2) (hcl : clr l i = true) : ∃ ls', storeLocals ls i v = some ls' ∧ lvh ls' nL ((i, v) :: l.filter (fun q => !(q.1 == i + 1))) := by
  obtain ⟨ls', e, h'⟩ := lv_store2 (l := []) (v := v) ⟨h.1, h.2.1, fun q hq => by simp at hq⟩ hi hc
  refine ⟨ls', e, h'.1, h'.2.1, fun k w hk => ?_⟩
  by_cases e2 : k = i
  · subst e2
    have hw : v = w := by simpa using hk
    subst hw
    exact h'.2.2 _ List.mem_cons_self
  · have h2 : (k == i) = false := by simpa using e2
    rw [List.lookup_cons, h2] at hk
    have hm := lookup_mem hk
    have h7 : ¬ k = i + 1 := by
      have := (List.mem_filter.mp hm).2
      simpa using this
    have hk2 : l.lookup k = some w := by
      clear hcl hm h e h' hi
      induction l with
      | nil => simp at hk
      | cons q t ih =>
        obtain ⟨a, b⟩ := q
        by_cases e8 : k = a
        · subst e8
          have h9 : (!(k == i + 1)) = true := by simpa using h7
          rw [List.filter_cons_of_pos (by simpa using h7)] at hk
          simpa using hk
        · have h9 : (k == a) = false := by simpa using e8
          rw [List.lookup_cons, h9]
          apply ih
          by_cases h10 : a = i + 1
          · rw [List.filter_cons_of_neg (by simpa using h10)] at hk
            exact hk
          · rw [List.filter_cons_of_pos (by simpa using h10), List.lookup_cons, h9] at hk
            exact hk
    obtain ⟨ls2, e3, h3⟩ := lv_store2 (v := v) (h.one hk2) hi hc
    have e4 : ls2 = ls' := Option.some.inj (e3.symm.trans e)
    subst e4
    refine h3.2.2 (k, w) (List.mem_cons_of_mem _ (List.mem_filter.mpr ⟨List.mem_cons_self, ?_⟩))
    by_cases e5 : k + 1 = i
    · subst e5
      simp only [clr, hk2] at hcl
      simp [h2]
      refine ⟨h7, fun h6 => ?_⟩
      simp [h6] at hcl
    · simp [h2, e5, h7]
/-- fewer locals, in another order -/
def subl : List (Nat × Value) → List (Nat × Value) → Prop
  | [], _ => True
  | q :: t, l => l.lookup q.1 = some q.2 ∧ subl t l
theorem subl.use {l' l : List (Nat × Value)} (h : subl l' l) {k : Nat} {v : Value} (hk : l'.lookup k = some v) : l.lookup k = some v := by
  induction l' with
  | nil => simp at hk
  | cons q t ih =>
    obtain ⟨a, b⟩ := q
    by_cases e : k = a
    · subst e
      have hw : b = v := by simpa using hk
      subst hw
      exact h.1
    · have h2 : (k == a) = false := by simpa using e
      rw [List.lookup_cons, h2] at hk
      exact ih h.2 hk
section VR
variable {z : Zz} {cc : ByteArray} {own : String} {nL d k n pc : Nat} {lv : List (Nat × Value)} {st : List Value} {κ : Kz} {I : Iz} {R : Rz} {J : Jz}
theorem v_loc {lv' : List (Nat × Value)} (hs : subl lv' lv) (h : V z nL k n pc lv' st κ I R J) : V z nL k n pc lv st κ I R J :=
  fun ls H locs hl hM hS => h ls H locs ⟨hl.1, hl.2.1, fun _ _ hk => hl.2.2 _ _ (hs.use hk)⟩ hM hS
theorem v_pc {pc' : Nat} (e : pc = pc') (h : V z nL k n pc' lv st κ I R J) : V z nL k n pc lv st κ I R J := e ▸ h
theorem v_iconst (hz : Am z cc own nL d) {i : Int} (dd : decode cc pc = .ok (.iconst i, 1))
    (h : V z nL k n (pc + 1) lv (.int (Int32.ofInt i) :: st) κ I R J) : V z nL k n pc lv st κ I R J :=
  fun ls H locs hl hM hS => lv_iconst hz.1.1 hz.1.2.1 dd rfl (h ls H locs hl hM hS)
theorem v_bipush (hz : Am z cc own nL d) {i : Int} (dd : decode cc pc = .ok (.bipush i, 2))
    (h : V z nL k n (pc + 2) lv (.int (Int8.ofInt i).toInt32 :: st) κ I R J) : V z nL k n pc lv st κ I R J :=
  fun ls H locs hl hM hS => lv_bipush hz.1.1 hz.1.2.1 dd rfl (h ls H locs hl hM hS)
theorem v_sipush (hz : Am z cc own nL d) {i : Int} (dd : decode cc pc = .ok (.sipush i, 3))
    (h : V z nL k n (pc + 3) lv (.int (Int16.ofInt i).toInt32 :: st) κ I R J) : V z nL k n pc lv st κ I R J :=
  fun ls H locs hl hM hS => lv_sipush hz.1.1 hz.1.2.1 dd rfl (h ls H locs hl hM hS)
theorem v_ic (hz : Am z cc own nL d) {i : Int} {v : Int32} (dd : decode cc pc = .ok (.iconst i, 1)) (hv : Int32.ofInt i = v)
    (h : V z nL k n (pc + 1) lv (.int v :: st) κ I R J) : V z nL k n pc lv st κ I R J :=
  fun ls H locs hl hM hS => lv_iconst hz.1.1 hz.1.2.1 dd hv (h ls H locs hl hM hS)
theorem v_bi (hz : Am z cc own nL d) {i : Int} {v : Int32} (dd : decode cc pc = .ok (.bipush i, 2)) (hv : (Int8.ofInt i).toInt32 = v)
    (h : V z nL k n (pc + 2) lv (.int v :: st) κ I R J) : V z nL k n pc lv st κ I R J :=
  fun ls H locs hl hM hS => lv_bipush hz.1.1 hz.1.2.1 dd hv (h ls H locs hl hM hS)
theorem v_si (hz : Am z cc own nL d) {i : Int} {v : Int32} (dd : decode cc pc = .ok (.sipush i, 3)) (hv : (Int16.ofInt i).toInt32 = v)
    (h : V z nL k n (pc + 3) lv (.int v :: st) κ I R J) : V z nL k n pc lv st κ I R J :=
  fun ls H locs hl hM hS => lv_sipush hz.1.1 hz.1.2.1 dd hv (h ls H locs hl hM hS)
theorem v_ldc (hz : Am z cc own nL d) {i : Nat} {v : Int32} (hw : Cond.constant own i v ∈ tg) (dd : decode cc pc = .ok (.ldc i, 2))
    (h : V z nL k n (pc + 2) lv (.int v :: st) κ I R J) : V z nL k n pc lv st κ I R J :=
  fun ls H locs hl hM hS => lv_ldc hz.1.1 hz.1.2.1 hz.1.2.2.2.1 (hz.1.2.2.2.2 _ hw) dd (h ls H locs hl hM hS)
theorem v_ldc2 (hz : Am z cc own nL d) {i : Nat} {v : Int64} (hw : Cond.constantLong own i v ∈ tg) (dd : decode cc pc = .ok (.ldc2_w i, 3))
    (h : V z nL k n (pc + 3) lv (.long v :: st) κ I R J) : V z nL k n pc lv st κ I R J :=
  fun ls H locs hl hM hS => lv_ldc2 hz.1.1 hz.1.2.1 hz.1.2.2.2.1 (hz.1.2.2.2.2 _ hw) dd (h ls H locs hl hM hS)
theorem v_iload_n (hz : Am z cc own nL d) {i : Fin 4} {x : Int32} (dd : decode cc pc = .ok (.iload_n i, 1)) (hx : lv.lookup (i : Nat) = some (.int x))
    (h : V z nL k n (pc + 1) lv (.int x :: st) κ I R J) : V z nL k n pc lv st κ I R J :=
  fun ls H locs hl hM hS => lv_iload_n hz.1.1 hz.1.2.1 dd rfl (hl.2.2 _ _ hx) (h ls H locs hl hM hS)
theorem v_iload (hz : Am z cc own nL d) {i : Nat} {x : Int32} (dd : decode cc pc = .ok (.iload i, 2)) (hx : lv.lookup i = some (.int x))
    (h : V z nL k n (pc + 2) lv (.int x :: st) κ I R J) : V z nL k n pc lv st κ I R J :=
  fun ls H locs hl hM hS => lv_iload hz.1.1 hz.1.2.1 dd (hl.2.2 _ _ hx) (h ls H locs hl hM hS)
theorem v_lload_n (hz : Am z cc own nL d) {i : Fin 4} {x : Int64} (dd : decode cc pc = .ok (.lload_n i, 1)) (hx : lv.lookup (i : Nat) = some (.long x))
    (h : V z nL k n (pc + 1) lv (.long x :: st) κ I R J) : V z nL k n pc lv st κ I R J :=
  fun ls H locs hl hM hS => lv_lload_n hz.1.1 hz.1.2.1 dd rfl (hl.2.2 _ _ hx) (h ls H locs hl hM hS)
theorem v_lload (hz : Am z cc own nL d) {i : Nat} {x : Int64} (dd : decode cc pc = .ok (.lload i, 2)) (hx : lv.lookup i = some (.long x))
    (h : V z nL k n (pc + 2) lv (.long x :: st) κ I R J) : V z nL k n pc lv st κ I R J :=
  fun ls H locs hl hM hS => lv_lload hz.1.1 hz.1.2.1 dd (hl.2.2 _ _ hx) (h ls H locs hl hM hS)
theorem v_aload_n (hz : Am z cc own nL d) {i : Fin 4} {x : Nat} (dd : decode cc pc = .ok (.aload_n i, 1)) (hx : lv.lookup (i : Nat) = some (.ref x))
    (h : V z nL k n (pc + 1) lv (.ref x :: st) κ I R J) : V z nL k n pc lv st κ I R J :=
  fun ls H locs hl hM hS => lv_aload_n hz.1.1 hz.1.2.1 dd rfl (hl.2.2 _ _ hx) (h ls H locs hl hM hS)
theorem v_aload (hz : Am z cc own nL d) {i : Nat} {x : Nat} (dd : decode cc pc = .ok (.aload i, 2)) (hx : lv.lookup i = some (.ref x))
    (h : V z nL k n (pc + 2) lv (.ref x :: st) κ I R J) : V z nL k n pc lv st κ I R J :=
  fun ls H locs hl hM hS => lv_aload hz.1.1 hz.1.2.1 dd (hl.2.2 _ _ hx) (h ls H locs hl hM hS)
theorem v_iadd (hz : Am z cc own nL d) {x y : Int32} (dd : decode cc pc = .ok (.iadd, 1))
    (h : V z nL k n (pc + 1) lv (.int (x + y) :: st) κ I R J) : V z nL k n pc lv (.int y :: .int x :: st) κ I R J :=
  fun ls H locs hl hM hS => lv_iadd hz.1.1 hz.1.2.1 dd (h ls H locs hl hM hS)
theorem v_isub (hz : Am z cc own nL d) {x y : Int32} (dd : decode cc pc = .ok (.isub, 1))
    (h : V z nL k n (pc + 1) lv (.int (x - y) :: st) κ I R J) : V z nL k n pc lv (.int y :: .int x :: st) κ I R J :=
  fun ls H locs hl hM hS => lv_isub hz.1.1 hz.1.2.1 dd (h ls H locs hl hM hS)
theorem v_imul (hz : Am z cc own nL d) {x y : Int32} (dd : decode cc pc = .ok (.imul, 1))
    (h : V z nL k n (pc + 1) lv (.int (x * y) :: st) κ I R J) : V z nL k n pc lv (.int y :: .int x :: st) κ I R J :=
  fun ls H locs hl hM hS => lv_imul hz.1.1 hz.1.2.1 dd (h ls H locs hl hM hS)
theorem v_iand (hz : Am z cc own nL d) {x y : Int32} (dd : decode cc pc = .ok (.iand, 1))
    (h : V z nL k n (pc + 1) lv (.int (x &&& y) :: st) κ I R J) : V z nL k n pc lv (.int y :: .int x :: st) κ I R J :=
  fun ls H locs hl hM hS => lv_iand hz.1.1 hz.1.2.1 dd (h ls H locs hl hM hS)
theorem v_ladd (hz : Am z cc own nL d) {x y : Int64} (dd : decode cc pc = .ok (.ladd, 1))
    (h : V z nL k n (pc + 1) lv (.long (x + y) :: st) κ I R J) : V z nL k n pc lv (.long y :: .long x :: st) κ I R J :=
  fun ls H locs hl hM hS => lv_ladd hz.1.1 hz.1.2.1 dd (h ls H locs hl hM hS)
theorem v_lmul (hz : Am z cc own nL d) {x y : Int64} (dd : decode cc pc = .ok (.lmul, 1))
    (h : V z nL k n (pc + 1) lv (.long (x * y) :: st) κ I R J) : V z nL k n pc lv (.long y :: .long x :: st) κ I R J :=
  fun ls H locs hl hM hS => lv_lmul hz.1.1 hz.1.2.1 dd (h ls H locs hl hM hS)
theorem v_ineg (hz : Am z cc own nL d) {x : Int32} (dd : decode cc pc = .ok (.ineg, 1))
    (h : V z nL k n (pc + 1) lv (.int (-x) :: st) κ I R J) : V z nL k n pc lv (.int x :: st) κ I R J :=
  fun ls H locs hl hM hS => lv_ineg hz.1.1 hz.1.2.1 dd (h ls H locs hl hM hS)
theorem v_i2l (hz : Am z cc own nL d) {x : Int32} (dd : decode cc pc = .ok (.i2l, 1))
    (h : V z nL k n (pc + 1) lv (.long x.toInt64 :: st) κ I R J) : V z nL k n pc lv (.int x :: st) κ I R J :=
  fun ls H locs hl hM hS => lv_i2l hz.1.1 hz.1.2.1 dd rfl (h ls H locs hl hM hS)
theorem v_idiv (hz : Am z cc own nL d) {x y : Int32} (dd : decode cc pc = .ok (.idiv, 1)) (hne : ¬ y = 0)
    (h : V z nL k n (pc + 1) lv (.int (x / y) :: st) κ I R J) : V z nL k n pc lv (.int y :: .int x :: st) κ I R J :=
  fun ls H locs hl hM hS => lv_idiv hz.1.1 hz.1.2.1 dd hne (h ls H locs hl hM hS)
theorem v_irem (hz : Am z cc own nL d) {x y : Int32} (dd : decode cc pc = .ok (.irem, 1)) (hne : ¬ y = 0)
    (h : V z nL k n (pc + 1) lv (.int (x - x / y * y) :: st) κ I R J) : V z nL k n pc lv (.int y :: .int x :: st) κ I R J :=
  fun ls H locs hl hM hS => lv_irem hz.1.1 hz.1.2.1 dd hne (h ls H locs hl hM hS)
theorem v_dup (hz : Am z cc own nL d) {v : Value} (dd : decode cc pc = .ok (.dup, 1)) (hc : v.category = 1)
    (h : V z nL k n (pc + 1) lv (v :: v :: st) κ I R J) : V z nL k n pc lv (v :: st) κ I R J :=
  fun ls H locs hl hM hS => lv_dup hz.1.1 hz.1.2.1 dd hc (h ls H locs hl hM hS)
theorem v_dup2 (hz : Am z cc own nL d) {v u : Value} (dd : decode cc pc = .ok (.dup2, 1)) (hc : v.category = 1) (hd : u.category = 1)
    (h : V z nL k n (pc + 1) lv (v :: u :: v :: u :: st) κ I R J) : V z nL k n pc lv (v :: u :: st) κ I R J :=
  fun ls H locs hl hM hS => lv_dup2_11 hz.1.1 hz.1.2.1 dd hc hd (h ls H locs hl hM hS)
theorem v_istore_n (hz : Am z cc own nL d) {i : Fin 4} {x : Int32} (dd : decode cc pc = .ok (.istore_n i, 1)) (hn : (i : Nat) < nL) (hcl : clr lv i = true)
    (h : V z nL k n (pc + 1) (((i : Nat), .int x) :: lv) st κ I R J) : V z nL k n pc lv (.int x :: st) κ I R J := by
  intro ls H locs hl hM hS
  obtain ⟨ls', e', h'⟩ := hl.store1 (v := .int x) hn rfl hcl
  intro T hT X
  obtain ⟨t, a, b⟩ := h ls' H locs h' hM hS T hT X
  have hexec := hz.1.1
  have hb := hz.1.2.1
  refine ⟨t, ?_, b⟩
  jvm_step X.here [X.here.top, ↓top_set X.here.top, hexec, hb, dd, e']
  exact a
theorem v_istore (hz : Am z cc own nL d) {i : Nat} {x : Int32} (dd : decode cc pc = .ok (.istore i, 2)) (hn : (i : Nat) < nL) (hcl : clr lv i = true)
    (h : V z nL k n (pc + 2) (((i : Nat), .int x) :: lv) st κ I R J) : V z nL k n pc lv (.int x :: st) κ I R J := by
  intro ls H locs hl hM hS
  obtain ⟨ls', e', h'⟩ := hl.store1 (v := .int x) hn rfl hcl
  intro T hT X
  obtain ⟨t, a, b⟩ := h ls' H locs h' hM hS T hT X
  have hexec := hz.1.1
  have hb := hz.1.2.1
  refine ⟨t, ?_, b⟩
  jvm_step X.here [X.here.top, ↓top_set X.here.top, hexec, hb, dd, e']
  exact a
theorem v_astore_n (hz : Am z cc own nL d) {i : Fin 4} {x : Nat} (dd : decode cc pc = .ok (.astore_n i, 1)) (hn : (i : Nat) < nL) (hcl : clr lv i = true)
    (h : V z nL k n (pc + 1) (((i : Nat), .ref x) :: lv) st κ I R J) : V z nL k n pc lv (.ref x :: st) κ I R J := by
  intro ls H locs hl hM hS
  obtain ⟨ls', e', h'⟩ := hl.store1 (v := .ref x) hn rfl hcl
  intro T hT X
  obtain ⟨t, a, b⟩ := h ls' H locs h' hM hS T hT X
  have hexec := hz.1.1
  have hb := hz.1.2.1
  refine ⟨t, ?_, b⟩
  jvm_step X.here [X.here.top, ↓top_set X.here.top, hexec, hb, dd, e', Value.isRef]
  exact a
theorem v_astore (hz : Am z cc own nL d) {i : Nat} {x : Nat} (dd : decode cc pc = .ok (.astore i, 2)) (hn : (i : Nat) < nL) (hcl : clr lv i = true)
    (h : V z nL k n (pc + 2) (((i : Nat), .ref x) :: lv) st κ I R J) : V z nL k n pc lv (.ref x :: st) κ I R J := by
  intro ls H locs hl hM hS
  obtain ⟨ls', e', h'⟩ := hl.store1 (v := .ref x) hn rfl hcl
  intro T hT X
  obtain ⟨t, a, b⟩ := h ls' H locs h' hM hS T hT X
  have hexec := hz.1.1
  have hb := hz.1.2.1
  refine ⟨t, ?_, b⟩
  jvm_step X.here [X.here.top, ↓top_set X.here.top, hexec, hb, dd, e', Value.isRef]
  exact a
theorem v_lstore_n (hz : Am z cc own nL d) {i : Fin 4} {x : Int64} (dd : decode cc pc = .ok (.lstore_n i, 1)) (hn : (i : Nat) + 1 < nL) (hcl : clr lv i = true)
    (h : V z nL k n (pc + 1) (((i : Nat), .long x) :: lv.filter (fun q => !(q.1 == (i : Nat) + 1))) st κ I R J) : V z nL k n pc lv (.long x :: st) κ I R J := by
  intro ls H locs hl hM hS
  obtain ⟨ls', e', h'⟩ := hl.store2 (v := .long x) hn rfl hcl
  intro T hT X
  obtain ⟨t, a, b⟩ := h ls' H locs h' hM hS T hT X
  have hexec := hz.1.1
  have hb := hz.1.2.1
  refine ⟨t, ?_, b⟩
  jvm_step X.here [X.here.top, ↓top_set X.here.top, hexec, hb, dd, e']
  exact a
theorem v_lstore (hz : Am z cc own nL d) {i : Nat} {x : Int64} (dd : decode cc pc = .ok (.lstore i, 2)) (hn : (i : Nat) + 1 < nL) (hcl : clr lv i = true)
    (h : V z nL k n (pc + 2) (((i : Nat), .long x) :: lv.filter (fun q => !(q.1 == (i : Nat) + 1))) st κ I R J) : V z nL k n pc lv (.long x :: st) κ I R J := by
  intro ls H locs hl hM hS
  obtain ⟨ls', e', h'⟩ := hl.store2 (v := .long x) hn rfl hcl
  intro T hT X
  obtain ⟨t, a, b⟩ := h ls' H locs h' hM hS T hT X
  have hexec := hz.1.1
  have hb := hz.1.2.1
  refine ⟨t, ?_, b⟩
  jvm_step X.here [X.here.top, ↓top_set X.here.top, hexec, hb, dd, e']
  exact a
theorem v_iinc (hz : Am z cc own nL d) {i : Nat} {c : Int} {x : Int32} (dd : decode cc pc = .ok (.iinc i c, 3)) (hx : lv.lookup i = some (.int x)) (hn : i < nL) (hcl : clr lv i = true)
    (h : V z nL k n (pc + 3) ((i, .int (x + Int32.ofInt c)) :: lv) st κ I R J) : V z nL k n pc lv st κ I R J := by
  intro ls H locs hl hM hS
  obtain ⟨ls', e', h'⟩ := hl.store1 (v := .int (x + Int32.ofInt c)) hn rfl hcl
  have hg := hl.2.2 _ _ hx
  intro T hT X
  obtain ⟨t, a, b⟩ := h ls' H locs h' hM hS T hT X
  have hexec := hz.1.1
  have hb := hz.1.2.1
  refine ⟨t, ?_, b⟩
  jvm_step X.here [X.here.top, ↓top_set X.here.top, hexec, hb, dd, hg, e']
  exact a
theorem v_if_eq (hz : Am z cc own nL d) (tgt : Nat) {x : Int32} {off : Int} (dd : decode cc pc = .ok (.ifCond .eq off, 3)) (ht : (pc : Int) + off = (tgt : Int))
    (kt : x = 0 → V z nL k n tgt lv st κ I R J) (kf : ¬ (x = 0) → V z nL k n (pc + 3) lv st κ I R J) : V z nL k n pc lv (.int x :: st) κ I R J :=
  fun ls H locs hl hM hS => lv_if_eq hz.1.1 hz.1.2.1 dd ht (fun q => kt (by first | exact q | simpa using q) ls H locs hl hM hS) (fun q => kf (by first | exact q | simpa using q) ls H locs hl hM hS)
theorem v_if_ne (hz : Am z cc own nL d) (tgt : Nat) {x : Int32} {off : Int} (dd : decode cc pc = .ok (.ifCond .ne off, 3)) (ht : (pc : Int) + off = (tgt : Int))
    (kt : x ≠ 0 → V z nL k n tgt lv st κ I R J) (kf : ¬ (x ≠ 0) → V z nL k n (pc + 3) lv st κ I R J) : V z nL k n pc lv (.int x :: st) κ I R J :=
  fun ls H locs hl hM hS => lv_if_ne hz.1.1 hz.1.2.1 dd ht (fun q => kt (by first | exact q | simpa using q) ls H locs hl hM hS) (fun q => kf (by first | exact q | simpa using q) ls H locs hl hM hS)
theorem v_if_lt (hz : Am z cc own nL d) (tgt : Nat) {x : Int32} {off : Int} (dd : decode cc pc = .ok (.ifCond .lt off, 3)) (ht : (pc : Int) + off = (tgt : Int))
    (kt : x < 0 → V z nL k n tgt lv st κ I R J) (kf : ¬ (x < 0) → V z nL k n (pc + 3) lv st κ I R J) : V z nL k n pc lv (.int x :: st) κ I R J :=
  fun ls H locs hl hM hS => lv_if_lt hz.1.1 hz.1.2.1 dd ht (fun q => kt (by first | exact q | simpa using q) ls H locs hl hM hS) (fun q => kf (by first | exact q | simpa using q) ls H locs hl hM hS)
theorem v_if_ge (hz : Am z cc own nL d) (tgt : Nat) {x : Int32} {off : Int} (dd : decode cc pc = .ok (.ifCond .ge off, 3)) (ht : (pc : Int) + off = (tgt : Int))
    (kt : 0 ≤ x → V z nL k n tgt lv st κ I R J) (kf : ¬ (0 ≤ x) → V z nL k n (pc + 3) lv st κ I R J) : V z nL k n pc lv (.int x :: st) κ I R J :=
  fun ls H locs hl hM hS => lv_if_ge hz.1.1 hz.1.2.1 dd ht (fun q => kt (by first | exact q | simpa using q) ls H locs hl hM hS) (fun q => kf (by first | exact q | simpa using q) ls H locs hl hM hS)
theorem v_if_gt (hz : Am z cc own nL d) (tgt : Nat) {x : Int32} {off : Int} (dd : decode cc pc = .ok (.ifCond .gt off, 3)) (ht : (pc : Int) + off = (tgt : Int))
    (kt : 0 < x → V z nL k n tgt lv st κ I R J) (kf : ¬ (0 < x) → V z nL k n (pc + 3) lv st κ I R J) : V z nL k n pc lv (.int x :: st) κ I R J :=
  fun ls H locs hl hM hS => lv_if_gt hz.1.1 hz.1.2.1 dd ht (fun q => kt (by first | exact q | simpa using q) ls H locs hl hM hS) (fun q => kf (by first | exact q | simpa using q) ls H locs hl hM hS)
theorem v_if_le (hz : Am z cc own nL d) (tgt : Nat) {x : Int32} {off : Int} (dd : decode cc pc = .ok (.ifCond .le off, 3)) (ht : (pc : Int) + off = (tgt : Int))
    (kt : x ≤ 0 → V z nL k n tgt lv st κ I R J) (kf : ¬ (x ≤ 0) → V z nL k n (pc + 3) lv st κ I R J) : V z nL k n pc lv (.int x :: st) κ I R J :=
  fun ls H locs hl hM hS => lv_if_le hz.1.1 hz.1.2.1 dd ht (fun q => kt (by first | exact q | simpa using q) ls H locs hl hM hS) (fun q => kf (by first | exact q | simpa using q) ls H locs hl hM hS)
theorem v_icmp_eq (hz : Am z cc own nL d) (tgt : Nat) {x y : Int32} {off : Int} (dd : decode cc pc = .ok (.if_icmp .eq off, 3)) (ht : (pc : Int) + off = (tgt : Int))
    (kt : x = y → V z nL k n tgt lv st κ I R J) (kf : ¬ (x = y) → V z nL k n (pc + 3) lv st κ I R J) : V z nL k n pc lv (.int y :: .int x :: st) κ I R J :=
  fun ls H locs hl hM hS => lv_icmp_eq hz.1.1 hz.1.2.1 dd ht (fun q => kt (by first | exact q | simpa using q) ls H locs hl hM hS) (fun q => kf (by first | exact q | simpa using q) ls H locs hl hM hS)
theorem v_icmp_ne (hz : Am z cc own nL d) (tgt : Nat) {x y : Int32} {off : Int} (dd : decode cc pc = .ok (.if_icmp .ne off, 3)) (ht : (pc : Int) + off = (tgt : Int))
    (kt : x ≠ y → V z nL k n tgt lv st κ I R J) (kf : ¬ (x ≠ y) → V z nL k n (pc + 3) lv st κ I R J) : V z nL k n pc lv (.int y :: .int x :: st) κ I R J :=
  fun ls H locs hl hM hS => lv_icmp_ne hz.1.1 hz.1.2.1 dd ht (fun q => kt (by first | exact q | simpa using q) ls H locs hl hM hS) (fun q => kf (by first | exact q | simpa using q) ls H locs hl hM hS)
theorem v_icmp_lt (hz : Am z cc own nL d) (tgt : Nat) {x y : Int32} {off : Int} (dd : decode cc pc = .ok (.if_icmp .lt off, 3)) (ht : (pc : Int) + off = (tgt : Int))
    (kt : x < y → V z nL k n tgt lv st κ I R J) (kf : ¬ (x < y) → V z nL k n (pc + 3) lv st κ I R J) : V z nL k n pc lv (.int y :: .int x :: st) κ I R J :=
  fun ls H locs hl hM hS => lv_icmp_lt hz.1.1 hz.1.2.1 dd ht (fun q => kt (by first | exact q | simpa using q) ls H locs hl hM hS) (fun q => kf (by first | exact q | simpa using q) ls H locs hl hM hS)
theorem v_icmp_ge (hz : Am z cc own nL d) (tgt : Nat) {x y : Int32} {off : Int} (dd : decode cc pc = .ok (.if_icmp .ge off, 3)) (ht : (pc : Int) + off = (tgt : Int))
    (kt : y ≤ x → V z nL k n tgt lv st κ I R J) (kf : ¬ (y ≤ x) → V z nL k n (pc + 3) lv st κ I R J) : V z nL k n pc lv (.int y :: .int x :: st) κ I R J :=
  fun ls H locs hl hM hS => lv_icmp_ge hz.1.1 hz.1.2.1 dd ht (fun q => kt (by first | exact q | simpa using q) ls H locs hl hM hS) (fun q => kf (by first | exact q | simpa using q) ls H locs hl hM hS)
theorem v_icmp_gt (hz : Am z cc own nL d) (tgt : Nat) {x y : Int32} {off : Int} (dd : decode cc pc = .ok (.if_icmp .gt off, 3)) (ht : (pc : Int) + off = (tgt : Int))
    (kt : y < x → V z nL k n tgt lv st κ I R J) (kf : ¬ (y < x) → V z nL k n (pc + 3) lv st κ I R J) : V z nL k n pc lv (.int y :: .int x :: st) κ I R J :=
  fun ls H locs hl hM hS => lv_icmp_gt hz.1.1 hz.1.2.1 dd ht (fun q => kt (by first | exact q | simpa using q) ls H locs hl hM hS) (fun q => kf (by first | exact q | simpa using q) ls H locs hl hM hS)
theorem v_icmp_le (hz : Am z cc own nL d) (tgt : Nat) {x y : Int32} {off : Int} (dd : decode cc pc = .ok (.if_icmp .le off, 3)) (ht : (pc : Int) + off = (tgt : Int))
    (kt : x ≤ y → V z nL k n tgt lv st κ I R J) (kf : ¬ (x ≤ y) → V z nL k n (pc + 3) lv st κ I R J) : V z nL k n pc lv (.int y :: .int x :: st) κ I R J :=
  fun ls H locs hl hM hS => lv_icmp_le hz.1.1 hz.1.2.1 dd ht (fun q => kt (by first | exact q | simpa using q) ls H locs hl hM hS) (fun q => kf (by first | exact q | simpa using q) ls H locs hl hM hS)
theorem v_goto (hz : Am z cc own nL d) (tgt : Nat) {off : Int} (dd : decode cc pc = .ok (.goto off, 3)) (ht : (pc : Int) + off = (tgt : Int))
    (h : V z nL k n tgt lv st κ I R J) : V z nL k n pc lv st κ I R J :=
  fun ls H locs hl hM hS => lv_goto hz.1.1 hz.1.2.1 dd ht (h ls H locs hl hM hS)
end VR
end
section
/-! ===== fields and arrays over the memory ===== -/
def CLz (c : Nat) (C : String) (T : u_T) (N : Nat) : Prop :=
  vwCl[c]? = some (C, T, N) ∧ N = nfz c ∧ c < 9 ∧ (∀ w ∈ u_ws C T N, w ∈ tg) ∧ (∃ ty : Nat → FieldType, ∀ k, k < N → parseFieldDescriptor (T k).2.2.1 = some (ty k)) ∧ (∀ a, a < N → ∀ b, b < N → a ≠ b → (T a).2.1 ≠ (T b).2.1) ∧ (∀ k, k < N → (T k).1 = C)
/-- the constant own#idx names the field k of the class c; t: its sort (0 int, 1 reference, 2 long) -/
def FLz (own : String) (idx c k t : Nat) (ty : FieldType) (fin : Bool) : Prop :=
  ∃ (C : String) (T : u_T) (N : Nat), CLz c C T N ∧ k < N ∧ ftz c k = t ∧ parseFieldDescriptor (T k).2.2.1 = some ty ∧ (T k).2.2.2 = fin ∧
    (Cond.fieldLink own idx C (T k).2.1 (T k).2.2.1 ∈ tg ∨ ∃ host, Cond.fieldLinkNest own idx C (T k).2.1 (T k).2.2.1 host ∈ tn)
section VH
variable {z : Zz} {cc : ByteArray} {own : String} {nL d k n pc : Nat} {lv : List (Nat × Value)} {st : List Value} {κ : Kz} {I : Iz} {R : Rz} {J : Jz}
theorem v_get (hz : Am z cc own nL d) {idx c f t : Nat} {ty : FieldType} {fin : Bool} (fl : FLz own idx c f t ty fin) {a : Nat} (hK : κ.1 a = c) (dd : decode cc pc = .ok (.getfield idx, 3))
    (h : V z nL k n (pc + 3) lv (fvz t I R J a f :: st) κ I R J) : V z nL k n pc lv (.ref a :: st) κ I R J := by
  obtain ⟨C, T, N, ⟨hc, hN, hc9, hin, ⟨ty0, hty⟩, hnm, hC⟩, hf, ht, -, -, hlk⟩ := fl
  obtain ⟨⟨hexec, hb, -, hown, hts⟩, ⟨hKK, hNN, -⟩, -, -, -⟩ := hz
  intro ls H locs hl hM hS
  have hob := (hM a).2.1 (by rw [hK]; exact hc9)
  rw [hK] at hob
  obtain ⟨cell, q1, q2, q3, q4⟩ := hob
  obtain ⟨hSl, hfc, kC, hkC, hkind⟩ := hKK.1 c _ hc
  obtain ⟨cf, kf, fi, fd, hi, hsl⟩ := hSl f hf
  have hst := (u_facts hfc hkC (u_lays hts hin hf) hi).1
  have hv : cell.slots[fd.slot]? = some (fvz t I R J a f) := by rw [hsl, ← ht]; exact q4 f (by rw [← hN]; exact hf)
  have hi' : (zs z).fieldFound? C (T f).2.1 (T f).2.2.1 = some (cf, kf, fi, fd) := by
    have := hi
    rw [show ((C, T, N) : vw_C).2.1 = T from rfl, hC f hf] at this
    exact this
  rcases hlk with hlk | ⟨host, hlk⟩
  · exact W.getf hexec hb hown (hts _ hlk) hi' hst q1 (by rw [q3]; exact fun h => by cases h) hv rfl rfl dd (h ls H locs hl hM hS)
  · exact va_Wgetf hexec hb hown (nest_use rfl (hNN _ hlk)) hi' hst q1 (by rw [q3]; exact fun h => by cases h) hv rfl rfl dd (h ls H locs hl hM hS)
theorem v_getI (hz : Am z cc own nL d) {idx c f : Nat} {ty : FieldType} {fin : Bool} (fl : FLz own idx c f 0 ty fin) {a : Nat} (hK : κ.1 a = c) (dd : decode cc pc = .ok (.getfield idx, 3))
    (h : V z nL k n (pc + 3) lv (.int (I a f) :: st) κ I R J) : V z nL k n pc lv (.ref a :: st) κ I R J := v_get hz fl hK dd h
theorem v_getR (hz : Am z cc own nL d) {idx c f b : Nat} {ty : FieldType} {fin : Bool} (fl : FLz own idx c f 1 ty fin) {a : Nat} (hK : κ.1 a = c) (hR : R a f = some b) (dd : decode cc pc = .ok (.getfield idx, 3))
    (h : V z nL k n (pc + 3) lv (.ref b :: st) κ I R J) : V z nL k n pc lv (.ref a :: st) κ I R J := v_get hz fl hK dd (by
  show V z nL k n (pc + 3) lv (va_rf (R a f) :: st) κ I R J
  rw [hR]
  exact h)
theorem v_getJ (hz : Am z cc own nL d) {idx c f : Nat} {ty : FieldType} {fin : Bool} (fl : FLz own idx c f 2 ty fin) {a : Nat} (hK : κ.1 a = c) (dd : decode cc pc = .ok (.getfield idx, 3))
    (h : V z nL k n (pc + 3) lv (.long (J a f) :: st) κ I R J) : V z nL k n pc lv (.ref a :: st) κ I R J := v_get hz fl hK dd h
/-- a store into a field that isn't final -/
theorem v_put (hz : Am z cc own nL d) {idx c f t : Nat} {ty : FieldType} (fl : FLz own idx c f t ty false) {a : Nat} (hK : κ.1 a = c) {v : Value} (hn : narrow ty v = v) (hfit : fits ty v = true) (dd : decode cc pc = .ok (.putfield idx, 3))
    {I1 : Iz} {R1 : Rz} {J1 : Jz} (hI : ∀ b, b ≠ a → I1 b = I b) (hR : ∀ b, b ≠ a → R1 b = R b) (hJ : ∀ b, b ≠ a → J1 b = J b)
    (hval : ∀ j, updV (fun k => fvz (ftz c k) I R J a k) f v j = fvz (ftz c j) I1 R1 J1 a j)
    (h : V z nL k n (pc + 3) lv st κ I1 R1 J1) : V z nL k n pc lv (v :: .ref a :: st) κ I R J := by
  obtain ⟨C, T, N, ⟨hc, hN, hc9, hin, ⟨ty0, hty⟩, hnm, hC⟩, hf, ht, hd, hfin, hlk⟩ := fl
  obtain ⟨⟨hexec, hb, -, hown, hts⟩, ⟨hKK, hNN, -⟩, -, -, -⟩ := hz
  intro ls H locs hl hM hS
  have hlo : (zg z).2.2 ≤ a := (hM a).1 (by rw [hK]; omega)
  have hob := (hM a).2.1 (by rw [hK]; exact hc9)
  rw [hK] at hob
  obtain ⟨cell, q1, q2, q3, q4⟩ := hob
  have hap := va_apart (own := own) hts hin ty0 hty hnm hKK hc
  obtain ⟨hSl, hfc, kC, hkC, hkind⟩ := hKK.1 c _ hc
  obtain ⟨cf, kf, fi, fd, hi, hsl⟩ := hSl f hf
  have hlay := hts _ (hin _ (u_in_lay hf))
  unfold u_lay at hlay
  rw [if_neg (by rw [hfin]; decide)] at hlay
  have hst := (u_facts hfc hkC (u_lays hts hin hf) hi).1
  have h6 := u_store hfc hkC hkind hlay hi hd hn hfit
  have hi' : (zs z).fieldFound? C (T f).2.1 (T f).2.2.1 = some (cf, kf, fi, fd) := by
    have := hi
    rw [show ((C, T, N) : vw_C).2.1 = T from rfl, hC f hf] at this
    exact this
  have hfn : f < nfz c := by rw [← hN]; exact hf
  have fin : ∀ H' : Heap, H'[a]? = some (cell.setSlot fd.slot v) → H'.size = H.size → (∀ q, q ≠ a → H'[q]? = H[q]?) → W (zp z) (zl z) (ze z) (zR z) (zs z) (zm z) (za z) (zb z) (zt z) (zc z) H' (locs ++ [⟨a, fd.slot⟩]) k n (zq z) (F0 (zm z) (pc + 3) ls st) := by
    intro H' e1 e2 e3
    rw [hsl] at e1
    refine h ls H' _ hl (hM.one hI hR hJ e3 ⟨fun _ => ?_, fun q => ?_, fun q => ?_⟩) (hS.put e2 e3 hlo)
    · rw [hK]
      exact t_OB.to (V := updV (fun k => fvz (ftz c k) I R J a k) f v) ⟨_, e1, q2, q3, t_set q4 (by rw [← hN]; exact hap) hfn v⟩ (fun j _ => hval j)
    · rw [hK] at q; omega
    · rw [hK] at q; omega
  rcases hlk with hlk | ⟨host, hlk⟩
  · exact W.putK hexec hb (f := fd) ⟨hown, hts _ hlk, ⟨_, _, _, hi'⟩, hst⟩ (by rw [q2]; exact h6) q1 q3 (by rw [hsl]; exact k2_hasslot (q4 f hfn)) rfl rfl dd fin
  · exact va_WputK hexec hb (f := fd) hown (nest_use rfl (hNN _ hlk)) hi' hst (by rw [q2]; exact h6) q1 q3 (by rw [hsl]; exact k2_hasslot (q4 f hfn)) rfl rfl dd fin
theorem hval_I {c f a : Nat} {x : Int32} (ht : ftz c f = 0) (j : Nat) : updV (fun k => fvz (ftz c k) I R J a k) f (.int x) j = fvz (ftz c j) (u2 I a f x) R J a j := by
  by_cases e : j = f
  · subst e
    simp [updV, fvz, ht, u2]
  · simp only [updV, e, if_false]
    unfold fvz
    split <;> simp [u2, e]
theorem hval_J {c f a : Nat} {x : Int64} (ht : ftz c f = 2) (j : Nat) : updV (fun k => fvz (ftz c k) I R J a k) f (.long x) j = fvz (ftz c j) I R (u2 J a f x) a j := by
  by_cases e : j = f
  · subst e
    simp [updV, fvz, ht, u2]
  · simp only [updV, e, if_false]
    unfold fvz
    split <;> simp [u2, e]
theorem FLz.ft {idx c f t : Nat} {ty : FieldType} {fin : Bool} (fl : FLz own idx c f t ty fin) : ftz c f = t := by
  obtain ⟨_, _, _, -, -, h, -⟩ := fl
  exact h
theorem v_putI (hz : Am z cc own nL d) {idx c f : Nat} (fl : FLz own idx c f 0 .int false) {a : Nat} (hK : κ.1 a = c) {x : Int32} (dd : decode cc pc = .ok (.putfield idx, 3))
    (h : V z nL k n (pc + 3) lv st κ (u2 I a f x) R J) : V z nL k n pc lv (.int x :: .ref a :: st) κ I R J :=
  v_put hz fl hK (vp_nar_int x) (by rfl) dd (fun _ q => u2_ne q) (fun _ _ => rfl) (fun _ _ => rfl) (hval_I fl.ft) h
theorem v_putZ (hz : Am z cc own nL d) {idx c f : Nat} (fl : FLz own idx c f 0 .boolean false) {a : Nat} (hK : κ.1 a = c) {x : Int32} (hx : x = 0 ∨ x = 1) (dd : decode cc pc = .ok (.putfield idx, 3))
    (h : V z nL k n (pc + 3) lv st κ (u2 I a f x) R J) : V z nL k n pc lv (.int x :: .ref a :: st) κ I R J :=
  v_put hz fl hK (by rcases hx with rfl | rfl <;> rfl) (by rcases hx with rfl | rfl <;> rfl) dd (fun _ q => u2_ne q) (fun _ _ => rfl) (fun _ _ => rfl) (hval_I fl.ft) h
theorem v_putJ (hz : Am z cc own nL d) {idx c f : Nat} (fl : FLz own idx c f 2 .long false) {a : Nat} (hK : κ.1 a = c) {x : Int64} (dd : decode cc pc = .ok (.putfield idx, 3))
    (h : V z nL k n (pc + 3) lv st κ I R (u2 J a f x)) : V z nL k n pc lv (.long x :: .ref a :: st) κ I R J :=
  v_put hz fl hK (by rfl) (by rfl) dd (fun _ _ => rfl) (fun _ _ => rfl) (fun _ q => u2_ne q) (hval_J fl.ft) h
/-! arrays of ints -/
theorem ii_in {j N : Nat} (h : j < N) (hN : N < 2147483648) : vp_in (nI j) N := vp_in_nI h hN
theorem v_iald (hz : Am z cc own nL d) {a : Nat} (hK : κ.1 a = 9) {i : Int32} (hin : vp_in i (κ.2.1 a)) (dd : decode cc pc = .ok (.iaload, 1))
    (h : V z nL k n (pc + 1) lv (.int (I a i.toNatClampNeg) :: st) κ I R J) : V z nL k n pc lv (.int i :: .ref a :: st) κ I R J := by
  obtain ⟨⟨hexec, hb, -, hown, hts⟩, ⟨hKK, hNN, -⟩, -, -, -⟩ := hz
  intro ls H locs hl hM hS
  have hcell := (hM a).2.2.1 (Or.inl hK)
  rw [hK] at hcell
  exact va_iald hexec hb hKK (ws := [(a, .inl (_, κ.2.1 a, .inl (I a)))]) (fun k9 q hq => by
    have h0 : k9 < 1 := (List.getElem?_eq_some_iff.mp hq).1
    rw [show k9 = 0 by omega] at hq
    cases hq
    exact hcell) 0 0 rfl rfl hin dd (h ls H locs hl hM hS)
theorem v_zald (hz : Am z cc own nL d) {a : Nat} (hK : κ.1 a = 10) {i : Int32} (hin : vp_in i (κ.2.1 a)) (dd : decode cc pc = .ok (.baload, 1))
    (h : V z nL k n (pc + 1) lv (.int (I a i.toNatClampNeg) :: st) κ I R J) : V z nL k n pc lv (.int i :: .ref a :: st) κ I R J := by
  obtain ⟨⟨hexec, hb, -, hown, hts⟩, ⟨hKK, hNN, -⟩, -, -, -⟩ := hz
  intro ls H locs hl hM hS
  have hcell := (hM a).2.2.1 (Or.inr hK)
  rw [hK] at hcell
  exact va_zald hexec hb hKK (ws := [(a, .inl (_, κ.2.1 a, .inl (I a)))]) (fun k9 q hq => by
    have h0 : k9 < 1 := (List.getElem?_eq_some_iff.mp hq).1
    rw [show k9 = 0 by omega] at hq
    cases hq
    exact hcell) 0 1 rfl rfl hin dd (h ls H locs hl hM hS)
theorem u2_arr (f : Nat → Nat → Int32) (a i : Nat) (x : Int32) : (fun q => updV (fun j => Value.int (f a j)) i (.int x) q) = fun q => .int (u2 f a i x a q) := by
  funext q
  by_cases hq : q = i
  · subst hq
    simp [updV, u2]
  · simp [updV, u2, hq]
theorem v_iast (hz : Am z cc own nL d) {a : Nat} (hK : κ.1 a = 9) {i x : Int32} (hin : vp_in i (κ.2.1 a)) (dd : decode cc pc = .ok (.iastore, 1))
    (h : V z nL k n (pc + 1) lv st κ (u2 I a i.toNatClampNeg x) R J) : V z nL k n pc lv (.int x :: .int i :: .ref a :: st) κ I R J := by
  obtain ⟨⟨hexec, hb, -, hown, hts⟩, ⟨hKK, hNN, -⟩, -, -, -⟩ := hz
  intro ls H locs hl hM hS
  have hlo : (zg z).2.2 ≤ a := (hM a).1 (by rw [hK]; omega)
  have hcell := (hM a).2.2.1 (Or.inl hK)
  rw [hK] at hcell
  refine W.iast hexec hb hcell ((hKK.2 0 _ rfl).1 (κ.2.1 a) (fun j => .int (I a j))) (fun q => by cases q) (by show ¬ (i < 0 ∨ (arrV _ _ _).slots.size ≤ _); rw [arrV_size]; exact hin) rfl rfl dd fun H1 e z1 oq => ?_
  refine h ls H1 _ hl (hM.one (fun _ q => u2_ne q) (fun _ _ => rfl) (fun _ _ => rfl) oq ⟨fun q => ?_, fun _ => ?_, fun q => ?_⟩) (hS.put z1 oq hlo)
  · rw [hK] at q; omega
  · rw [hK, e, vp_cell_i, vp_cell_i, arrV_store]
    exact congrArg (fun f => some (arrV _ _ f)) (u2_arr I a _ x)
  · rw [hK] at q; omega
theorem v_zast (hz : Am z cc own nL d) {a : Nat} (hK : κ.1 a = 10) {i x : Int32} (hx : x = 0 ∨ x = 1) (hin : vp_in i (κ.2.1 a)) (dd : decode cc pc = .ok (.bastore, 1))
    (h : V z nL k n (pc + 1) lv st κ (u2 I a i.toNatClampNeg x) R J) : V z nL k n pc lv (.int x :: .int i :: .ref a :: st) κ I R J := by
  obtain ⟨⟨hexec, hb, -, hown, hts⟩, ⟨hKK, hNN, -⟩, -, -, -⟩ := hz
  intro ls H locs hl hM hS
  have hlo : (zg z).2.2 ≤ a := (hM a).1 (by rw [hK]; omega)
  have hcell := (hM a).2.2.1 (Or.inr hK)
  rw [hK] at hcell
  refine W.zast hexec hb hcell ((hKK.2 1 _ rfl).1 (κ.2.1 a) (fun j => .int (I a j))) (fun q => by cases q) (by show ¬ (i < 0 ∨ (arrV _ _ _).slots.size ≤ _); rw [arrV_size]; exact hin) rfl rfl dd fun H1 e z1 oq => ?_
  rw [show narrow .boolean (.int x) = .int x by rcases hx with rfl | rfl <;> rfl] at e
  refine h ls H1 _ hl (hM.one (fun _ q => u2_ne q) (fun _ _ => rfl) (fun _ _ => rfl) oq ⟨fun q => ?_, fun _ => ?_, fun q => ?_⟩) (hS.put z1 oq hlo)
  · rw [hK] at q; omega
  · rw [hK, e, vp_cell_i, vp_cell_i, arrV_store]
    exact congrArg (fun f => some (arrV _ _ f)) (u2_arr I a _ x)
  · rw [hK] at q; omega
/-! arrays of references -/
theorem v_aald (hz : Am z cc own nL d) {a b : Nat} (hK : 11 ≤ κ.1 a ∧ κ.1 a < 15) {i : Int32} (hin : vp_in i (κ.2.1 a)) (hR : R a i.toNatClampNeg = some b) (dd : decode cc pc = .ok (.aaload, 1))
    (h : V z nL k n (pc + 1) lv (.ref b :: st) κ I R J) : V z nL k n pc lv (.int i :: .ref a :: st) κ I R J := by
  obtain ⟨⟨hexec, hb, -, hown, hts⟩, ⟨hKK, hNN, -⟩, -, -, -⟩ := hz
  intro ls H locs hl hM hS
  have hcell := (hM a).2.2.2 hK
  have hlt : i.toNatClampNeg < κ.2.1 a := Nat.not_le.mp fun q => hin (Or.inr q)
  have ht : ∃ ty : FieldType, ty.isReference = true ∧ ArrOfT (zs z) ((zg z).2.1 (κ.1 a)) ty := by
    rcases (show κ.1 a = 11 ∨ κ.1 a = 12 ∨ κ.1 a = 13 ∨ κ.1 a = 14 by omega) with e | e | e | e <;> rw [e]
    · exact ⟨_, rfl, (hKK.2 2 _ rfl).1⟩
    · exact ⟨_, rfl, (hKK.2 3 _ rfl).1⟩
    · exact ⟨_, rfl, (hKK.2 4 _ rfl).1⟩
    · exact ⟨_, rfl, (hKK.2 5 _ rfl).1⟩
  obtain ⟨ty, hty, harr⟩ := ht
  refine W.aald (v := .ref b) (ty := ty) hexec hb hcell (harr (κ.2.1 a) (fun j => va_rf (R a j))) hty (fun q => by cases q) (by show ¬ (i < 0 ∨ (arrV _ _ _).slots.size ≤ _); rw [arrV_size]; exact hin) ?_ rfl rfl dd (h ls H locs hl hM hS)
  show (arrV _ _ _).slots[_]? = _
  rw [arrV_read _ _ hlt, hR]
  rfl
theorem v_alen (hz : Am z cc own nL d) {a : Nat} (hK : 9 ≤ κ.1 a ∧ κ.1 a < 15) (dd : decode cc pc = .ok (.arraylength, 1))
    (h : V z nL k n (pc + 1) lv (.int (nI (κ.2.1 a)) :: st) κ I R J) : V z nL k n pc lv (.ref a :: st) κ I R J := by
  obtain ⟨⟨hexec, hb, -, hown, hts⟩, ⟨hKK, hNN, -⟩, -, -, -⟩ := hz
  intro ls H locs hl hM hS
  have ht : ∃ ty : FieldType, ArrOfT (zs z) ((zg z).2.1 (κ.1 a)) ty := by
    rcases (show κ.1 a = 9 ∨ κ.1 a = 10 ∨ κ.1 a = 11 ∨ κ.1 a = 12 ∨ κ.1 a = 13 ∨ κ.1 a = 14 by omega) with e | e | e | e | e | e <;> rw [e]
    · exact ⟨_, (hKK.2 0 _ rfl).1⟩
    · exact ⟨_, (hKK.2 1 _ rfl).1⟩
    · exact ⟨_, (hKK.2 2 _ rfl).1⟩
    · exact ⟨_, (hKK.2 3 _ rfl).1⟩
    · exact ⟨_, (hKK.2 4 _ rfl).1⟩
    · exact ⟨_, (hKK.2 5 _ rfl).1⟩
  obtain ⟨ty, harr⟩ := ht
  rcases (show (κ.1 a = 9 ∨ κ.1 a = 10) ∨ (11 ≤ κ.1 a ∧ κ.1 a < 15) by omega) with e | e
  · exact W.alen (n := nI (κ.2.1 a)) hexec hb ((hM a).2.2.1 e) (harr (κ.2.1 a) (fun j => .int (I a j))) (by rw [vp_cell_i, arrV_size] <;> rfl) rfl rfl dd (h ls H locs hl hM hS)
  · exact W.alen (n := nI (κ.2.1 a)) hexec hb ((hM a).2.2.2 e) (harr (κ.2.1 a) (fun j => va_rf (R a j))) (by rw [vp_cell_q, arrV_size] <;> rfl) rfl rfl dd (h ls H locs hl hM hS)
end VH
end
section
/-! ===== contracts over the memory; returns and calls ===== -/
abbrev Mz : Type := MethodName × ByteArray × Nat × Option FieldType × Nat
abbrev Postz : Type := Option Value → Kz → Iz → Rz → Jz → Prop
def Pz (g : Gz) (av : List Value) (κ : Kz) (I : Iz) (R : Rz) (J : Jz) : Array Value → State → Prop := fun a U => a = av.toArray ∧ MM g κ I R J U.heap ∧ KKz g U ∧ g.2.2 ≤ U.heap.size
def Qz (g : Gz) (P : Postz) : Array Value → State → Outcome → State → Prop := fun _ st o t => (∃ (v : Option Value) (κ : Kz) (I : Iz) (R : Rz) (J : Jz), o = .returned v ∧ P v κ I R J ∧ MM g κ I R J t.heap) ∧ va_F (fun q => g.2.2 ≤ q) st t
def Ct (l : Launch) (M : Mz) (mc ms : Nat) (g : Gz) (av : List Value) (κ : Kz) (I : Iz) (R : Rz) (J : Jz) (P : Postz) : Prop :=
  Met l M.1 (.code M.1 M.2.1 M.2.2.1 M.2.2.2.1 :: tg) { frames := M.2.2.2.2, cells := mc, slots := ms, locals := 40 * M.2.2.2.2 } (Pz g av κ I R J) (Qz g P) mc ms (fun q => g.2.2 ≤ q)
def Rt (z : Zz) (y : MethodName) (ret : Option FieldType) (mc ms : Nat) (P : Postz) : Prop :=
  zq z = MQ (zb z) (Qz (zg z) P) (za z) (zs z) mc ms (fun q => (zg z).2.2 ≤ q) ∧ (zt z).sig.returnType = ret ∧ (zt z).locks = false ∧ (zt z).name = y.name
theorem ct_of {l : Launch} {M : Mz} {mc ms : Nat} {g : Gz} {av : List Value} {κ : Kz} {I : Iz} {R : Rz} {J : Jz} {P : Postz} (hpl : plainName M.1.cls = true) (hlen : (lg_sl av).length ≤ M.2.2.1)
    (body : ∀ z : Zz, Am z M.2.1 M.1.cls M.2.2.1 M.2.2.2.2 → Rt z M.1 M.2.2.2.1 mc ms P → (zR z).cells = mc → (zR z).slots = ms → V z M.2.2.1 0 0 0 (lv_args 0 av) [] κ I R J) : Ct l M mc ms g av κ I R J P := by
  refine Met.ofW (cc := M.2.1) (maxL := M.2.2.1) (ret := M.2.2.2.1) hpl rfl ?_
  intro p e s m args below meth c s₁ B hml hv
  obtain ⟨rfl, hM, hK, hlo⟩ := hv
  have hts := atoms_spec (ws := .code M.1 M.2.1 M.2.2.1 M.2.2.2.1 :: tg) B.pre
  have hl := lv_entry av (n := M.2.2.1) hlen
  rw [lg_entry_eq]
  exact body (p, l, e, _, s, m, av.toArray, below, meth, c, _, g) ⟨⟨B.exec, B.bytes, hml, findClass_of_methodNamed B.named, fun w hw => hts w (List.mem_cons_of_mem _ hw)⟩, hK, hlo, Nat.le_refl _, Nat.le_refl _⟩ ⟨rfl, B.returns, B.notSynchronized, (name_of_methodNamed B.named B.method).1⟩ rfl rfl _ _ _ (lvh.of hl) hM va_S.rf
/-! answers that leave the kinds, the references and the longs as they were -/
def Si (κ : Kz) (R : Rz) (J : Jz) (p : Int32 → Iz → Prop) : Postz := fun v κ' I' R' J' => κ' = κ ∧ R' = R ∧ J' = J ∧ ∃ r, v = some (.int r) ∧ p r I'
def Sv (κ : Kz) (R : Rz) (J : Jz) (p : Iz → Prop) : Postz := fun v κ' I' R' J' => κ' = κ ∧ R' = R ∧ J' = J ∧ v = none ∧ p I'
def Sl (κ : Kz) (R : Rz) (J : Jz) (p : Int64 → Iz → Prop) : Postz := fun v κ' I' R' J' => κ' = κ ∧ R' = R ∧ J' = J ∧ ∃ r, v = some (.long r) ∧ p r I'
section VC
variable {z : Zz} {cc : ByteArray} {own : String} {nL d k n pc : Nat} {lv : List (Nat × Value)} {st : List Value} {κ : Kz} {I : Iz} {R : Rz} {J : Jz} {y : MethodName} {P : Postz}
theorem v_widen {k1 n1 : Nat} (h1 : k ≤ k1) (h2 : n ≤ n1) (h : V z nL k1 n1 pc lv st κ I R J) : V z nL k n pc lv st κ I R J := fun ls H locs hl hM hS => W.widen h1 h2 (h ls H locs hl hM hS)
theorem v_iret0 (hz : Am z cc own nL d) (hr : Rt z y (some .int) k n P) {v : Int32} (dd : decode cc pc = .ok (.ireturn, 1)) (hp : P (some (.int v)) κ I R J) : V z nL k n pc lv [.int v] κ I R J := by
  intro ls H locs hl hM hS
  obtain ⟨hq, hret, hlk, -⟩ := hr
  rw [hq]
  exact W.iret hz.1.1 hz.1.2.1 hret (fun t ht hW => ⟨⟨_, κ, I, R, J, rfl, hp, by rw [ht]; exact hM⟩, hS.F ht⟩) hS.2.2 dd hlk
theorem v_zret0 (hz : Am z cc own nL d) (hr : Rt z y (some .boolean) k n P) {v : Int32} (dd : decode cc pc = .ok (.ireturn, 1)) (hv : v = 0 ∨ v = 1) (hp : P (some (.int v)) κ I R J) : V z nL k n pc lv [.int v] κ I R J := by
  intro ls H locs hl hM hS
  obtain ⟨hq, hret, hlk, -⟩ := hr
  rw [hq]
  exact W.zret hz.1.1 hz.1.2.1 hret (by rcases hv with rfl | rfl <;> rfl) (fun t ht hW => ⟨⟨_, κ, I, R, J, rfl, hp, by rw [ht]; exact hM⟩, hS.F ht⟩) hS.2.2 dd hlk
theorem v_lret0 (hz : Am z cc own nL d) (hr : Rt z y (some .long) k n P) {v : Int64} (dd : decode cc pc = .ok (.lreturn, 1)) (hp : P (some (.long v)) κ I R J) : V z nL k n pc lv [.long v] κ I R J := by
  intro ls H locs hl hM hS
  obtain ⟨hq, hret, hlk, -⟩ := hr
  rw [hq]
  exact W.lret hz.1.1 hz.1.2.1 hret (fun t ht hW => ⟨⟨_, κ, I, R, J, rfl, hp, by rw [ht]; exact hM⟩, hS.F ht⟩) hS.2.2 dd hlk
theorem v_vret0 (hz : Am z cc own nL d) (hr : Rt z y none k n P) (dd : decode cc pc = .ok (.return_, 1)) (hp : P none κ I R J) : V z nL k n pc lv [] κ I R J := by
  intro ls H locs hl hM hS
  obtain ⟨hq, hret, hlk, -⟩ := hr
  rw [hq]
  exact W.vret hz.1.1 hz.1.2.1 hret (fun t ht hW => ⟨⟨_, κ, I, R, J, rfl, hp, by rw [ht]; exact hM⟩, hS.F ht⟩) hS.2.2 dd hlk
theorem v_iret {p : Int32 → Iz → Prop} (hz : Am z cc own nL d) (hr : Rt z y (some .int) k n (Si κ R J p)) {v : Int32} (dd : decode cc pc = .ok (.ireturn, 1)) (hp : p v I) : V z nL k n pc lv [.int v] κ I R J := v_iret0 hz hr dd ⟨rfl, rfl, rfl, _, rfl, hp⟩
theorem v_zret {p : Int32 → Iz → Prop} (hz : Am z cc own nL d) (hr : Rt z y (some .boolean) k n (Si κ R J p)) {v : Int32} (dd : decode cc pc = .ok (.ireturn, 1)) (hv : v = 0 ∨ v = 1) (hp : p v I) : V z nL k n pc lv [.int v] κ I R J := v_zret0 hz hr dd hv ⟨rfl, rfl, rfl, _, rfl, hp⟩
theorem v_lret {p : Int64 → Iz → Prop} (hz : Am z cc own nL d) (hr : Rt z y (some .long) k n (Sl κ R J p)) {v : Int64} (dd : decode cc pc = .ok (.lreturn, 1)) (hp : p v I) : V z nL k n pc lv [.long v] κ I R J := v_lret0 hz hr dd ⟨rfl, rfl, rfl, _, rfl, hp⟩
theorem v_vret {p : Iz → Prop} (hz : Am z cc own nL d) (hr : Rt z y none k n (Sv κ R J p)) (dd : decode cc pc = .ok (.return_, 1)) (hp : p I) : V z nL k n pc lv [] κ I R J := v_vret0 hz hr dd ⟨rfl, rfl, rfl, rfl, hp⟩
def GWz (M : Mz) (na : Nat) : Prop :=
  Cond.code M.1 M.2.1 M.2.2.1 M.2.2.2.1 ∈ tg ∧ Cond.initialized M.1.cls ∈ tg ∧ (M.1.cls ≠ "java/lang/invoke/MethodHandle" ∧ M.1.cls ≠ "java/lang/invoke/VarHandle" ∧ (parseMethodDescriptor M.1.desc).map (fun d => d.parameters.length) = some na)
def LKz (own : String) (idx : Nat) (M : Mz) : Prop := Cond.methodLink own idx M.1 ∈ tg ∨ ∃ host, Cond.methodLinkNest own idx M.1 host ∈ tn
def MLv (own : String) (idx : Nat) (M : Mz) (c na : Nat) : Prop := (∃ r : vw_C, vwCl[c]? = some r ∧ r.1 = M.1.cls) ∧ c < 9 ∧ GWz M na ∧ Cond.instanceMethod M.1 ∈ tg ∧ Cond.selects M.1.cls M.1 M.1 ∈ tg ∧ LKz own idx M
def MLs (own : String) (idx : Nat) (M : Mz) (na : Nat) : Prop := GWz M na ∧ Cond.static M.1 ∈ tg ∧ LKz own idx M
theorem gw_good {M : Mz} {na : Nat} (h : GWz M na) : GoodIn tg (.code M.1 M.2.1 M.2.2.1 M.2.2.2.1 :: tg) := fun w hw => by
  have hm : w ∈ tg := by
    rcases List.mem_cons.mp hw with e | e
    · rw [e]; exact h.1
    · exact e
  exact ⟨hm, tg_good hm⟩
theorem pz_blind {g : Gz} {av : List Value} : FrameBlind (Pz g av κ I R J) := fun a U f mk q => by
  obtain ⟨q0, q1, q2, q3⟩ := q
  exact ⟨q0, q1, KKz.same (s := U) (U := U.calling f mk a) rfl q2, q3⟩
theorem call_go {mc ms : Nat} {rest : List Value} {g0 : JFrame} {ls : Array Slot} {H : Heap} {locs : List Loc} {a0 : Array Value} (hg0 : g0 = F0 (zm z) pc ls st)
    (hr : va_Run (zp z) (zl z) (ze z) (zR z) (zs z) (zm z) (za z) (zb z) (zt z) (zc z) H locs k n mc ms g0 rest (Qz (zg z) P a0) (fun q => (zg z).2.2 ≤ q)) (hl : lvh ls nL lv) (hS : va_S (fun q => (zg z).2.2 ≤ q) (zs z).heap H locs)
    (h : ∀ v κ1 I1 R1 J1, P v κ1 I1 R1 J1 → V z nL (k + mc) (n + ms) (pc + 3) lv (v.toList ++ rest) κ1 I1 R1 J1) :
    W (zp z) (zl z) (ze z) (zR z) (zs z) (zm z) (za z) (zb z) (zt z) (zc z) H locs k n (zq z) (F0 (zm z) pc ls st) := by
  subst hg0
  intro T hT X
  obtain ⟨v, st₀, t, T', L, h0, X', hL, e1, e2, ⟨⟨v', κ1, I1, R1, J1, hv, hp, hM1⟩, hz1, hk1⟩, stp⟩ := hr T hT X
  cases hv
  rw [h0] at hz1 hk1
  obtain ⟨t2, a1, b1⟩ := h v κ1 I1 R1 J1 hp ls T'.heap (locs ++ L) hl (by rw [e1]; exact hM1) ⟨Nat.le_trans hS.1 (by rw [e1]; exact hz1), fun q h1 h2 => by rw [e1, hk1 q (Nat.lt_of_lt_of_le h1 hS.1) h2]; exact hS.2.1 q h1 h2, fun q hq => by
      rcases List.mem_append.mp hq with h | h
      · exact hS.2.2 q h
      · exact hL q h⟩ T' rfl X'
  exact ⟨t2, stp t2 a1, b1⟩
theorem v_callV0 (hz : Am z cc own nL d) {idx c na mc ms : Nat} {M : Mz} (ml : MLv own idx M c na) {b : Nat} {As rest : List Value} (hc : Ct (zl z) M mc ms (zg z) (.ref b :: As) κ I R J P) (hK : κ.1 b = c) (hna : As.length = na)
    (hst : st = As.reverse ++ .ref b :: rest) (hrs : (rest.map fun v => v.category).sum ≤ 8) (hd : M.2.2.2.2 + 1 ≤ d ∧ M.2.2.1 ≤ 21) (hroom : k + mc ≤ (zR z).cells ∧ n + ms ≤ (zR z).slots) (dd : decode cc pc = .ok (.invokevirtual idx, 3))
    (h : ∀ v κ1 I1 R1 J1, P v κ1 I1 R1 J1 → V z nL (k + mc) (n + ms) (pc + 3) lv (v.toList ++ rest) κ1 I1 R1 J1) : V z nL k n pc lv st κ I R J := by
  obtain ⟨⟨r, hr1, hr2⟩, hc9, hgw, hin, hsel, hlk⟩ := ml
  have hz0 := hz
  obtain ⟨⟨hexec, hb, hml, hown, hts⟩, hKK, hlo, hd1, hd2⟩ := hz
  intro ls H locs hl hM hS
  have hob := (hM b).2.1 (by rw [hK]; exact hc9)
  obtain ⟨cell, q1, q2, q3, -⟩ := hob
  have hrec : ∃ cellB : Cell, H[b]? = some cellB ∧ cellB.vm.isStatics = false ∧ (zs z).vm.findClass M.1.cls = some cellB.cls :=
    ⟨cell, q1, by rw [q3]; rfl, by rw [q2, hK, ← hr2]; exact (hKK.1.1 c r hr1).2.1⟩
  have hpre : ∀ U : State, U.heap = H → (zs z).WarmedH U.vm → Pz (zg z) (.ref b :: As) κ I R J (Value.ref b :: As).toArray U := fun U hU hW => ⟨rfl, by rw [hU]; exact hM, hKK.warm hW, by rw [hU]; exact Nat.le_trans hlo hS.1⟩
  have hloc : 8 + (M.2.2.1 + 11) + 40 * M.2.2.2.2 ≤ (zR z).locals := by omega
  have hfr : M.2.2.2.2 + 1 ≤ (zR z).frames := by omega
  rcases hlk with hlk | ⟨host, hlk⟩
  · exact call_go (P := P) rfl (va_runV (C := M.1.cls) (As := As) (rest := rest) ⟨hexec, hb, hml, hown, hts⟩ hc ⟨callB_of na hts (gw_good hgw) rfl rfl rfl (hts _ hgw.2.1) (hts _ hlk) hgw.2.2 ⟨hfr, hloc⟩, hts _ hin, hts _ hsel⟩ ⟨pz_blind, hrec, hpre⟩ rfl hna hl.1 hst (lv_room hrs) dd hroom) hl hS h
  · exact call_go (P := P) rfl (va_runVN (C := M.1.cls) (As := As) (rest := rest) ⟨hexec, hb, hml, hown, hts⟩ hc ⟨va_cnB na hts (gw_good hgw) rfl rfl rfl (hKK.2.1 _ hlk) (hts _ hgw.2.1) hgw.2.2 ⟨hfr, hloc⟩, hts _ hin, hts _ hsel⟩ ⟨pz_blind, hrec, hpre⟩ rfl hna hl.1 hst (lv_room hrs) dd hroom) hl hS h
theorem v_callS0 (hz : Am z cc own nL d) {idx na mc ms : Nat} {M : Mz} (ml : MLs own idx M na) {As rest : List Value} (hc : Ct (zl z) M mc ms (zg z) As κ I R J P) (hna : As.length = na)
    (hst : st = As.reverse ++ rest) (hrs : (rest.map fun v => v.category).sum ≤ 8) (hd : M.2.2.2.2 + 1 ≤ d ∧ M.2.2.1 ≤ 21) (hroom : k + mc ≤ (zR z).cells ∧ n + ms ≤ (zR z).slots) (dd : decode cc pc = .ok (.invokestatic idx, 3))
    (h : ∀ v κ1 I1 R1 J1, P v κ1 I1 R1 J1 → V z nL (k + mc) (n + ms) (pc + 3) lv (v.toList ++ rest) κ1 I1 R1 J1) : V z nL k n pc lv st κ I R J := by
  obtain ⟨hgw, hstt, hlk⟩ := ml
  obtain ⟨⟨hexec, hb, hml, hown, hts⟩, hKK, hlo, hd1, hd2⟩ := hz
  intro ls H locs hl hM hS
  have hpre : ∀ U : State, U.heap = H → (zs z).WarmedH U.vm → Pz (zg z) As κ I R J As.toArray U := fun U hU hW => ⟨rfl, by rw [hU]; exact hM, hKK.warm hW, by rw [hU]; exact Nat.le_trans hlo hS.1⟩
  have hloc : 8 + (M.2.2.1 + 11) + 40 * M.2.2.2.2 ≤ (zR z).locals := by omega
  have hfr : M.2.2.2.2 + 1 ≤ (zR z).frames := by omega
  rcases hlk with hlk | ⟨host, hlk⟩
  · exact call_go (P := P) rfl (va_runS (As := As) (rest := rest) ⟨hexec, hb, hml, hown, hts⟩ hc ⟨callB_of na hts (gw_good hgw) rfl rfl rfl (hts _ hgw.2.1) (hts _ hlk) hgw.2.2 ⟨hfr, hloc⟩, hts _ hstt⟩ ⟨pz_blind, hpre⟩ rfl hna hl.1 hst (lv_room hrs) dd hroom) hl hS h
  · exact call_go (P := P) rfl (va_runSN (As := As) (rest := rest) ⟨hexec, hb, hml, hown, hts⟩ hc ⟨va_cnB na hts (gw_good hgw) rfl rfl rfl (hKK.2.1 _ hlk) (hts _ hgw.2.1) hgw.2.2 ⟨hfr, hloc⟩, hts _ hstt, trivial⟩ ⟨pz_blind, hpre⟩ rfl hna hl.1 hst (lv_room hrs) dd hroom) hl hS h
/-! the calls that leave kinds, references and longs -/
theorem v_callVi {p : Int32 → Iz → Prop} (hz : Am z cc own nL d) {idx c na : Nat} {M : Mz} (ml : MLv own idx M c na) {b : Nat} {As rest : List Value} (hc : Ct (zl z) M 0 0 (zg z) (.ref b :: As) κ I R J (Si κ R J p)) (hK : κ.1 b = c) (hna : As.length = na)
    (hst : st = As.reverse ++ .ref b :: rest) (hrs : (rest.map fun v => v.category).sum ≤ 8) (hd : M.2.2.2.2 + 1 ≤ d ∧ M.2.2.1 ≤ 21) (hroom : k ≤ (zR z).cells ∧ n ≤ (zR z).slots) (dd : decode cc pc = .ok (.invokevirtual idx, 3))
    (h : ∀ r I1, p r I1 → V z nL k n (pc + 3) lv (.int r :: rest) κ I1 R J) : V z nL k n pc lv st κ I R J :=
  v_callV0 hz ml hc hK hna hst hrs hd hroom dd (fun v κ1 I1 R1 J1 hp => by
    obtain ⟨rfl, rfl, rfl, r, rfl, hp⟩ := hp
    exact h r I1 hp)
theorem v_callVv {p : Iz → Prop} (hz : Am z cc own nL d) {idx c na : Nat} {M : Mz} (ml : MLv own idx M c na) {b : Nat} {As rest : List Value} (hc : Ct (zl z) M 0 0 (zg z) (.ref b :: As) κ I R J (Sv κ R J p)) (hK : κ.1 b = c) (hna : As.length = na)
    (hst : st = As.reverse ++ .ref b :: rest) (hrs : (rest.map fun v => v.category).sum ≤ 8) (hd : M.2.2.2.2 + 1 ≤ d ∧ M.2.2.1 ≤ 21) (hroom : k ≤ (zR z).cells ∧ n ≤ (zR z).slots) (dd : decode cc pc = .ok (.invokevirtual idx, 3))
    (h : ∀ I1, p I1 → V z nL k n (pc + 3) lv rest κ I1 R J) : V z nL k n pc lv st κ I R J :=
  v_callV0 hz ml hc hK hna hst hrs hd hroom dd (fun v κ1 I1 R1 J1 hp => by
    obtain ⟨rfl, rfl, rfl, rfl, hp⟩ := hp
    exact h I1 hp)
theorem v_callVl {p : Int64 → Iz → Prop} (hz : Am z cc own nL d) {idx c na : Nat} {M : Mz} (ml : MLv own idx M c na) {b : Nat} {As rest : List Value} (hc : Ct (zl z) M 0 0 (zg z) (.ref b :: As) κ I R J (Sl κ R J p)) (hK : κ.1 b = c) (hna : As.length = na)
    (hst : st = As.reverse ++ .ref b :: rest) (hrs : (rest.map fun v => v.category).sum ≤ 8) (hd : M.2.2.2.2 + 1 ≤ d ∧ M.2.2.1 ≤ 21) (hroom : k ≤ (zR z).cells ∧ n ≤ (zR z).slots) (dd : decode cc pc = .ok (.invokevirtual idx, 3))
    (h : ∀ r I1, p r I1 → V z nL k n (pc + 3) lv (.long r :: rest) κ I1 R J) : V z nL k n pc lv st κ I R J :=
  v_callV0 hz ml hc hK hna hst hrs hd hroom dd (fun v κ1 I1 R1 J1 hp => by
    obtain ⟨rfl, rfl, rfl, r, rfl, hp⟩ := hp
    exact h r I1 hp)
theorem v_callSi {p : Int32 → Iz → Prop} (hz : Am z cc own nL d) {idx na : Nat} {M : Mz} (ml : MLs own idx M na) {As rest : List Value} (hc : Ct (zl z) M 0 0 (zg z) As κ I R J (Si κ R J p)) (hna : As.length = na)
    (hst : st = As.reverse ++ rest) (hrs : (rest.map fun v => v.category).sum ≤ 8) (hd : M.2.2.2.2 + 1 ≤ d ∧ M.2.2.1 ≤ 21) (hroom : k ≤ (zR z).cells ∧ n ≤ (zR z).slots) (dd : decode cc pc = .ok (.invokestatic idx, 3))
    (h : ∀ r I1, p r I1 → V z nL k n (pc + 3) lv (.int r :: rest) κ I1 R J) : V z nL k n pc lv st κ I R J :=
  v_callS0 hz ml hc hna hst hrs hd hroom dd (fun v κ1 I1 R1 J1 hp => by
    obtain ⟨rfl, rfl, rfl, r, rfl, hp⟩ := hp
    exact h r I1 hp)
theorem v_callSl {p : Int64 → Iz → Prop} (hz : Am z cc own nL d) {idx na : Nat} {M : Mz} (ml : MLs own idx M na) {As rest : List Value} (hc : Ct (zl z) M 0 0 (zg z) As κ I R J (Sl κ R J p)) (hna : As.length = na)
    (hst : st = As.reverse ++ rest) (hrs : (rest.map fun v => v.category).sum ≤ 8) (hd : M.2.2.2.2 + 1 ≤ d ∧ M.2.2.1 ≤ 21) (hroom : k ≤ (zR z).cells ∧ n ≤ (zR z).slots) (dd : decode cc pc = .ok (.invokestatic idx, 3))
    (h : ∀ r I1, p r I1 → V z nL k n (pc + 3) lv (.long r :: rest) κ I1 R J) : V z nL k n pc lv st κ I R J :=
  v_callS0 hz ml hc hna hst hrs hd hroom dd (fun v κ1 I1 R1 J1 hp => by
    obtain ⟨rfl, rfl, rfl, r, rfl, hp⟩ := hp
    exact h r I1 hp)
/-! the three of java/lang/Math -/
theorem v_mmax (hz : Am z cc own nL d) {idx : Nat} (h1 : Cond.methodLink own idx Lib.Math.max.name ∈ tg) (h2 : Cond.static Lib.Math.max.name ∈ tg) (h3 : Cond.initialized "java/lang/Math" ∈ tg) (h4 : Cond.code Lib.Math.max.name Lib.Math.max.code 2 (some .int) ∈ tg) (hd : 1 ≤ d) (hrs : (st.map fun v => v.category).sum ≤ 8) (hroom : k ≤ (zR z).cells ∧ n ≤ (zR z).slots) {x y : Int32} (dd : decode cc pc = .ok (.invokestatic idx, 3))
    (h : V z nL k n (pc + 3) lv (.int (if x < y then y else x) :: st) κ I R J) : V z nL k n pc lv (.int y :: .int x :: st) κ I R J := by
  obtain ⟨⟨hexec, hb, hml, hown, hts⟩, hKK, hlo, hd1, hd2⟩ := hz
  intro ls H locs hl hM hS
  exact va_mmax hexec hb (hml.trans hl.1.symm) hown (hts _ h1) (hts _ h2) (hts _ h3) (hts _ h4) (by omega) (by omega) hroom.1 hroom.2 dd (h ls H locs hl hM hS)
end VC
end
section
/-! ===== printed by wip/whole/mklinks.py: classes, fields and methods by the constants that name them ===== -/
theorem tg_in {ws : List Cond} (ps : List Nat) (hp : ws = ps.filterMap (fun i => lw_tbl[i]?)) (hg : ws.all goodWord = true) : ∀ w ∈ ws, w ∈ tg := fun w hw => by
  have h1 := List.all_eq_true.mp hg w hw
  rw [hp] at hw
  obtain ⟨i, -, hi⟩ := List.mem_filterMap.mp hw
  exact tg_mem i hi h1
theorem cl0 : CLz 0 RX0 TX0 3 := ⟨rfl, rfl, by decide, tg_in [200, 202, 204] (by decide +kernel) (by decide +kernel), ⟨tyX0, tyX0_ok⟩, nmX0, by decide +kernel⟩
theorem cl1 : CLz 1 RX1 TX1 14 := ⟨rfl, rfl, by decide, tg_in [238, 240, 242, 244, 246, 248, 250, 252, 254, 256, 258, 260, 262, 264] (by decide +kernel) (by decide +kernel), ⟨tyX1, tyX1_ok⟩, nmX1, by decide +kernel⟩
theorem cl2 : CLz 2 RX2 TX2 7 := ⟨rfl, rfl, by decide, tg_in [287, 289, 291, 293, 295, 297, 299] (by decide +kernel) (by decide +kernel), ⟨tyX2, tyX2_ok⟩, nmX2, by decide +kernel⟩
theorem cl3 : CLz 3 RX3 TX3 2 := ⟨rfl, rfl, by decide, tg_in [184, 186] (by decide +kernel) (by decide +kernel), ⟨tyX3, tyX3_ok⟩, nmX3, by decide +kernel⟩
theorem cl4 : CLz 4 RX4 TX4 5 := ⟨rfl, rfl, by decide, tg_in [106, 108, 110, 112, 114] (by decide +kernel) (by decide +kernel), ⟨tyX4, tyX4_ok⟩, nmX4, by decide +kernel⟩
theorem cl5 : CLz 5 RX5 TX5 6 := ⟨rfl, rfl, by decide, tg_in [162, 164, 166, 168, 170, 172] (by decide +kernel) (by decide +kernel), ⟨tyX5, tyX5_ok⟩, nmX5, by decide +kernel⟩
theorem cl6 : CLz 6 RX6 TX6 3 := ⟨rfl, rfl, by decide, tg_in [140, 142, 144] (by decide +kernel) (by decide +kernel), ⟨tyX6, tyX6_ok⟩, nmX6, by decide +kernel⟩
theorem cl7 : CLz 7 RX7 TX7 14 := ⟨rfl, rfl, by decide, tg_in [317, 319, 321, 323, 325, 327, 329, 331, 333, 335, 337, 339, 341, 343] (by decide +kernel) (by decide +kernel), ⟨tyX7, tyX7_ok⟩, nmX7, by decide +kernel⟩
theorem cl8 : CLz 8 RX8 TX8 31 := ⟨rfl, rfl, by decide, tg_in [727, 729, 731, 733, 735, 737, 739, 741, 743, 745, 747, 749, 751, 753, 755, 757, 759, 761, 763, 765, 767, 769, 771, 773, 775, 777, 779, 781, 783, 785, 787] (by decide +kernel) (by decide +kernel), ⟨tyX8, tyX8_ok⟩, nmX8, by decide +kernel⟩
theorem fX7_12 : FLz RX7 12 7 0 1 (.object "NearPhrases$Page") true := ⟨RX7, TX7, 14, cl7, by decide, rfl, by decide +kernel, rfl, Or.inl (tg_mem 303 (by decide +kernel) rfl)⟩
theorem fX7_18 : FLz RX7 18 7 1 1 (.array (.object "NearPhrases$Segment")) true := ⟨RX7, TX7, 14, cl7, by decide, rfl, by decide +kernel, rfl, Or.inl (tg_mem 304 (by decide +kernel) rfl)⟩
theorem fX7_23 : FLz RX7 23 7 2 1 (.object "NearPhrases$Segment") true := ⟨RX7, TX7, 14, cl7, by decide, rfl, by decide +kernel, rfl, Or.inl (tg_mem 305 (by decide +kernel) rfl)⟩
theorem fX7_30 : FLz RX7 30 7 3 1 (.object "NearPhrases$GramIndex") true := ⟨RX7, TX7, 14, cl7, by decide, rfl, by decide +kernel, rfl, Or.inl (tg_mem 306 (by decide +kernel) rfl)⟩
theorem fX7_37 : FLz RX7 37 7 4 1 (.object "NearPhrases$Aligner") true := ⟨RX7, TX7, 14, cl7, by decide, rfl, by decide +kernel, rfl, Or.inl (tg_mem 307 (by decide +kernel) rfl)⟩
theorem fX7_44 : FLz RX7 44 7 5 1 (.object "NearPhrases$Comparison") true := ⟨RX7, TX7, 14, cl7, by decide, rfl, by decide +kernel, rfl, Or.inl (tg_mem 308 (by decide +kernel) rfl)⟩
theorem fX7_51 : FLz RX7 51 7 6 1 (.object "NearPhrases$Findings") true := ⟨RX7, TX7, 14, cl7, by decide, rfl, by decide +kernel, rfl, Or.inl (tg_mem 309 (by decide +kernel) rfl)⟩
theorem fX7_55 : FLz RX7 55 7 8 0 .int false := ⟨RX7, TX7, 14, cl7, by decide, rfl, by decide +kernel, rfl, Or.inl (tg_mem 311 (by decide +kernel) rfl)⟩
theorem fX7_59 : FLz RX7 59 7 9 0 .int false := ⟨RX7, TX7, 14, cl7, by decide, rfl, by decide +kernel, rfl, Or.inl (tg_mem 312 (by decide +kernel) rfl)⟩
theorem fX7_62 : FLz RX7 62 7 13 0 .boolean false := ⟨RX7, TX7, 14, cl7, by decide, rfl, by decide +kernel, rfl, Or.inl (tg_mem 316 (by decide +kernel) rfl)⟩
theorem fX7_74 : FLz RX7 74 4 1 0 .int false := ⟨RX4, TX4, 5, cl4, by decide, rfl, by decide +kernel, rfl, Or.inr ⟨"NearPhrases", tn_mem 102 (by decide +kernel) rfl⟩⟩
theorem fX7_87 : FLz RX7 87 7 7 0 .int false := ⟨RX7, TX7, 14, cl7, by decide, rfl, by decide +kernel, rfl, Or.inl (tg_mem 310 (by decide +kernel) rfl)⟩
theorem fX7_102 : FLz RX7 102 5 5 0 .int false := ⟨RX5, TX5, 6, cl5, by decide, rfl, by decide +kernel, rfl, Or.inr ⟨"NearPhrases", tn_mem 161 (by decide +kernel) rfl⟩⟩
theorem fX7_105 : FLz RX7 105 7 10 0 .int false := ⟨RX7, TX7, 14, cl7, by decide, rfl, by decide +kernel, rfl, Or.inl (tg_mem 313 (by decide +kernel) rfl)⟩
theorem fX7_115 : FLz RX7 115 7 11 0 .int false := ⟨RX7, TX7, 14, cl7, by decide, rfl, by decide +kernel, rfl, Or.inl (tg_mem 314 (by decide +kernel) rfl)⟩
theorem fX7_118 : FLz RX7 118 7 12 0 .int false := ⟨RX7, TX7, 14, cl7, by decide, rfl, by decide +kernel, rfl, Or.inl (tg_mem 315 (by decide +kernel) rfl)⟩
theorem fX7_121 : FLz RX7 121 5 2 0 .int false := ⟨RX5, TX5, 6, cl5, by decide, rfl, by decide +kernel, rfl, Or.inr ⟨"NearPhrases", tn_mem 154 (by decide +kernel) rfl⟩⟩
theorem fX7_135 : FLz RX7 135 5 0 1 (.array (.object "NearPhrases$Sign")) true := ⟨RX5, TX5, 6, cl5, by decide, rfl, by decide +kernel, rfl, Or.inr ⟨"NearPhrases", tn_mem 149 (by decide +kernel) rfl⟩⟩
theorem fX7_174 : FLz RX7 174 2 0 1 (.array (.object "NearPhrases$Comparison")) true := ⟨RX2, TX2, 7, cl2, by decide, rfl, by decide +kernel, rfl, Or.inr ⟨"NearPhrases", tn_mem 277 (by decide +kernel) rfl⟩⟩
theorem fX7_178 : FLz RX7 178 1 7 0 .int false := ⟨RX1, TX1, 14, cl1, by decide, rfl, by decide +kernel, rfl, Or.inr ⟨"NearPhrases", tn_mem 228 (by decide +kernel) rfl⟩⟩
theorem fX7_184 : FLz RX7 184 2 3 0 .int false := ⟨RX2, TX2, 7, cl2, by decide, rfl, by decide +kernel, rfl, Or.inr ⟨"NearPhrases", tn_mem 283 (by decide +kernel) rfl⟩⟩
theorem fX7_187 : FLz RX7 187 2 1 1 (.array .int) true := ⟨RX2, TX2, 7, cl2, by decide, rfl, by decide +kernel, rfl, Or.inr ⟨"NearPhrases", tn_mem 279 (by decide +kernel) rfl⟩⟩
theorem fX7_194 : FLz RX7 194 2 2 1 (.array .boolean) true := ⟨RX2, TX2, 7, cl2, by decide, rfl, by decide +kernel, rfl, Or.inr ⟨"NearPhrases", tn_mem 281 (by decide +kernel) rfl⟩⟩
theorem fX7_198 : FLz RX7 198 3 1 0 .int false := ⟨RX3, TX3, 2, cl3, by decide, rfl, by decide +kernel, rfl, Or.inr ⟨"NearPhrases", tn_mem 183 (by decide +kernel) rfl⟩⟩
theorem fX7_213 : FLz RX7 213 4 0 1 (.array .int) true := ⟨RX4, TX4, 5, cl4, by decide, rfl, by decide +kernel, rfl, Or.inr ⟨"NearPhrases", tn_mem 99 (by decide +kernel) rfl⟩⟩
theorem fX8_7 : FLz RX8 7 8 1 1 (.array .int) true := ⟨RX8, TX8, 31, cl8, by decide, rfl, by decide +kernel, rfl, Or.inl (tg_mem 697 (by decide +kernel) rfl)⟩
theorem fX8_13 : FLz RX8 13 8 4 1 (.array .int) true := ⟨RX8, TX8, 31, cl8, by decide, rfl, by decide +kernel, rfl, Or.inl (tg_mem 700 (by decide +kernel) rfl)⟩
theorem fX8_16 : FLz RX8 16 8 5 1 (.array .int) true := ⟨RX8, TX8, 31, cl8, by decide, rfl, by decide +kernel, rfl, Or.inl (tg_mem 701 (by decide +kernel) rfl)⟩
theorem fX8_19 : FLz RX8 19 8 6 1 (.array .int) true := ⟨RX8, TX8, 31, cl8, by decide, rfl, by decide +kernel, rfl, Or.inl (tg_mem 702 (by decide +kernel) rfl)⟩
theorem fX8_22 : FLz RX8 22 8 7 1 (.array .int) true := ⟨RX8, TX8, 31, cl8, by decide, rfl, by decide +kernel, rfl, Or.inl (tg_mem 703 (by decide +kernel) rfl)⟩
theorem fX8_25 : FLz RX8 25 8 8 1 (.array .int) true := ⟨RX8, TX8, 31, cl8, by decide, rfl, by decide +kernel, rfl, Or.inl (tg_mem 704 (by decide +kernel) rfl)⟩
theorem fX8_28 : FLz RX8 28 8 9 0 .int false := ⟨RX8, TX8, 31, cl8, by decide, rfl, by decide +kernel, rfl, Or.inl (tg_mem 705 (by decide +kernel) rfl)⟩
theorem fX8_32 : FLz RX8 32 8 10 0 .int false := ⟨RX8, TX8, 31, cl8, by decide, rfl, by decide +kernel, rfl, Or.inl (tg_mem 706 (by decide +kernel) rfl)⟩
theorem fX8_35 : FLz RX8 35 8 15 1 (.array .int) true := ⟨RX8, TX8, 31, cl8, by decide, rfl, by decide +kernel, rfl, Or.inl (tg_mem 711 (by decide +kernel) rfl)⟩
theorem fX8_38 : FLz RX8 38 8 16 1 (.array .int) true := ⟨RX8, TX8, 31, cl8, by decide, rfl, by decide +kernel, rfl, Or.inl (tg_mem 712 (by decide +kernel) rfl)⟩
theorem fX8_41 : FLz RX8 41 8 17 1 (.array .int) true := ⟨RX8, TX8, 31, cl8, by decide, rfl, by decide +kernel, rfl, Or.inl (tg_mem 713 (by decide +kernel) rfl)⟩
theorem fX8_44 : FLz RX8 44 8 19 1 (.array .int) true := ⟨RX8, TX8, 31, cl8, by decide, rfl, by decide +kernel, rfl, Or.inl (tg_mem 715 (by decide +kernel) rfl)⟩
theorem fX8_47 : FLz RX8 47 8 20 1 (.array .int) true := ⟨RX8, TX8, 31, cl8, by decide, rfl, by decide +kernel, rfl, Or.inl (tg_mem 716 (by decide +kernel) rfl)⟩
theorem fX8_50 : FLz RX8 50 8 21 1 (.array .int) true := ⟨RX8, TX8, 31, cl8, by decide, rfl, by decide +kernel, rfl, Or.inl (tg_mem 717 (by decide +kernel) rfl)⟩
theorem fX8_53 : FLz RX8 53 8 22 1 (.array .int) true := ⟨RX8, TX8, 31, cl8, by decide, rfl, by decide +kernel, rfl, Or.inl (tg_mem 718 (by decide +kernel) rfl)⟩
theorem fX8_56 : FLz RX8 56 8 23 1 (.array .int) true := ⟨RX8, TX8, 31, cl8, by decide, rfl, by decide +kernel, rfl, Or.inl (tg_mem 719 (by decide +kernel) rfl)⟩
theorem fX8_59 : FLz RX8 59 8 25 1 (.array .int) true := ⟨RX8, TX8, 31, cl8, by decide, rfl, by decide +kernel, rfl, Or.inl (tg_mem 721 (by decide +kernel) rfl)⟩
theorem fX8_62 : FLz RX8 62 8 26 1 (.array .int) true := ⟨RX8, TX8, 31, cl8, by decide, rfl, by decide +kernel, rfl, Or.inl (tg_mem 722 (by decide +kernel) rfl)⟩
theorem fX8_65 : FLz RX8 65 8 27 1 (.array .int) true := ⟨RX8, TX8, 31, cl8, by decide, rfl, by decide +kernel, rfl, Or.inl (tg_mem 723 (by decide +kernel) rfl)⟩
theorem fX8_68 : FLz RX8 68 8 28 1 (.array .boolean) true := ⟨RX8, TX8, 31, cl8, by decide, rfl, by decide +kernel, rfl, Or.inl (tg_mem 724 (by decide +kernel) rfl)⟩
theorem fX8_72 : FLz RX8 72 8 29 1 (.array .boolean) true := ⟨RX8, TX8, 31, cl8, by decide, rfl, by decide +kernel, rfl, Or.inl (tg_mem 725 (by decide +kernel) rfl)⟩
theorem fX8_79 : FLz RX8 79 8 0 0 .int false := ⟨RX8, TX8, 31, cl8, by decide, rfl, by decide +kernel, rfl, Or.inl (tg_mem 696 (by decide +kernel) rfl)⟩
theorem fX8_82 : FLz RX8 82 8 14 0 .int false := ⟨RX8, TX8, 31, cl8, by decide, rfl, by decide +kernel, rfl, Or.inl (tg_mem 710 (by decide +kernel) rfl)⟩
theorem fX8_107 : FLz RX8 107 8 2 0 .int false := ⟨RX8, TX8, 31, cl8, by decide, rfl, by decide +kernel, rfl, Or.inl (tg_mem 698 (by decide +kernel) rfl)⟩
theorem fX8_117 : FLz RX8 117 8 11 0 .int false := ⟨RX8, TX8, 31, cl8, by decide, rfl, by decide +kernel, rfl, Or.inl (tg_mem 707 (by decide +kernel) rfl)⟩
theorem fX8_123 : FLz RX8 123 8 12 0 .int false := ⟨RX8, TX8, 31, cl8, by decide, rfl, by decide +kernel, rfl, Or.inl (tg_mem 708 (by decide +kernel) rfl)⟩
theorem fX8_126 : FLz RX8 126 8 3 0 .boolean false := ⟨RX8, TX8, 31, cl8, by decide, rfl, by decide +kernel, rfl, Or.inl (tg_mem 699 (by decide +kernel) rfl)⟩
theorem fX8_130 : FLz RX8 130 8 13 0 .int false := ⟨RX8, TX8, 31, cl8, by decide, rfl, by decide +kernel, rfl, Or.inl (tg_mem 709 (by decide +kernel) rfl)⟩
theorem fX8_154 : FLz RX8 154 8 18 0 .int false := ⟨RX8, TX8, 31, cl8, by decide, rfl, by decide +kernel, rfl, Or.inl (tg_mem 714 (by decide +kernel) rfl)⟩
theorem fX8_245 : FLz RX8 245 8 24 0 .int false := ⟨RX8, TX8, 31, cl8, by decide, rfl, by decide +kernel, rfl, Or.inl (tg_mem 720 (by decide +kernel) rfl)⟩
theorem fX8_278 : FLz RX8 278 8 30 2 .long false := ⟨RX8, TX8, 31, cl8, by decide, rfl, by decide +kernel, rfl, Or.inl (tg_mem 726 (by decide +kernel) rfl)⟩
theorem fX0_11 : FLz RX0 11 0 0 1 (.array (.array .int)) true := ⟨RX0, TX0, 3, cl0, by decide, rfl, by decide +kernel, rfl, Or.inl (tg_mem 197 (by decide +kernel) rfl)⟩
theorem fX0_16 : FLz RX0 16 0 1 1 (.array (.array .int)) true := ⟨RX0, TX0, 3, cl0, by decide, rfl, by decide +kernel, rfl, Or.inl (tg_mem 198 (by decide +kernel) rfl)⟩
theorem fX0_19 : FLz RX0 19 0 2 1 (.array .int) true := ⟨RX0, TX0, 3, cl0, by decide, rfl, by decide +kernel, rfl, Or.inl (tg_mem 199 (by decide +kernel) rfl)⟩
theorem fX0_30 : FLz RX0 30 1 4 0 .int false := ⟨RX1, TX1, 14, cl1, by decide, rfl, by decide +kernel, rfl, Or.inr ⟨"NearPhrases", tn_mem 220 (by decide +kernel) rfl⟩⟩
theorem fX0_42 : FLz RX0 42 1 5 0 .int false := ⟨RX1, TX1, 14, cl1, by decide, rfl, by decide +kernel, rfl, Or.inr ⟨"NearPhrases", tn_mem 222 (by decide +kernel) rfl⟩⟩
theorem fX0_49 : FLz RX0 49 1 6 0 .int false := ⟨RX1, TX1, 14, cl1, by decide, rfl, by decide +kernel, rfl, Or.inr ⟨"NearPhrases", tn_mem 224 (by decide +kernel) rfl⟩⟩
theorem fX0_59 : FLz RX0 59 6 1 0 .int false := ⟨RX6, TX6, 3, cl6, by decide, rfl, by decide +kernel, rfl, Or.inr ⟨"NearPhrases", tn_mem 136 (by decide +kernel) rfl⟩⟩
theorem fX0_74 : FLz RX0 74 5 2 0 .int false := ⟨RX5, TX5, 6, cl5, by decide, rfl, by decide +kernel, rfl, Or.inr ⟨"NearPhrases", tn_mem 153 (by decide +kernel) rfl⟩⟩
theorem fX0_77 : FLz RX0 77 5 0 1 (.array (.object "NearPhrases$Sign")) true := ⟨RX5, TX5, 6, cl5, by decide, rfl, by decide +kernel, rfl, Or.inr ⟨"NearPhrases", tn_mem 148 (by decide +kernel) rfl⟩⟩
theorem fX0_93 : FLz RX0 93 6 2 0 .int false := ⟨RX6, TX6, 3, cl6, by decide, rfl, by decide +kernel, rfl, Or.inr ⟨"NearPhrases", tn_mem 139 (by decide +kernel) rfl⟩⟩
theorem fX0_107 : FLz RX0 107 6 0 1 (.array .int) true := ⟨RX6, TX6, 3, cl6, by decide, rfl, by decide +kernel, rfl, Or.inr ⟨"NearPhrases", tn_mem 133 (by decide +kernel) rfl⟩⟩
theorem fX1_9 : FLz RX1 9 1 0 1 (.array .int) true := ⟨RX1, TX1, 14, cl1, by decide, rfl, by decide +kernel, rfl, Or.inl (tg_mem 213 (by decide +kernel) rfl)⟩
theorem fX1_15 : FLz RX1 15 1 1 1 (.array .int) true := ⟨RX1, TX1, 14, cl1, by decide, rfl, by decide +kernel, rfl, Or.inl (tg_mem 215 (by decide +kernel) rfl)⟩
theorem fX1_18 : FLz RX1 18 1 2 1 (.array .int) true := ⟨RX1, TX1, 14, cl1, by decide, rfl, by decide +kernel, rfl, Or.inl (tg_mem 217 (by decide +kernel) rfl)⟩
theorem fX1_21 : FLz RX1 21 1 3 1 (.array .int) true := ⟨RX1, TX1, 14, cl1, by decide, rfl, by decide +kernel, rfl, Or.inl (tg_mem 218 (by decide +kernel) rfl)⟩
theorem fX1_24 : FLz RX1 24 1 7 0 .int false := ⟨RX1, TX1, 14, cl1, by decide, rfl, by decide +kernel, rfl, Or.inl (tg_mem 226 (by decide +kernel) rfl)⟩
theorem fX1_28 : FLz RX1 28 1 8 0 .int false := ⟨RX1, TX1, 14, cl1, by decide, rfl, by decide +kernel, rfl, Or.inl (tg_mem 229 (by decide +kernel) rfl)⟩
theorem fX1_31 : FLz RX1 31 1 5 0 .int false := ⟨RX1, TX1, 14, cl1, by decide, rfl, by decide +kernel, rfl, Or.inl (tg_mem 223 (by decide +kernel) rfl)⟩
theorem fX1_34 : FLz RX1 34 1 4 0 .int false := ⟨RX1, TX1, 14, cl1, by decide, rfl, by decide +kernel, rfl, Or.inl (tg_mem 221 (by decide +kernel) rfl)⟩
theorem fX1_37 : FLz RX1 37 1 9 0 .int false := ⟨RX1, TX1, 14, cl1, by decide, rfl, by decide +kernel, rfl, Or.inl (tg_mem 230 (by decide +kernel) rfl)⟩
theorem fX1_40 : FLz RX1 40 1 10 0 .int false := ⟨RX1, TX1, 14, cl1, by decide, rfl, by decide +kernel, rfl, Or.inl (tg_mem 231 (by decide +kernel) rfl)⟩
theorem fX1_43 : FLz RX1 43 5 3 0 .int false := ⟨RX5, TX5, 6, cl5, by decide, rfl, by decide +kernel, rfl, Or.inr ⟨"NearPhrases", tn_mem 156 (by decide +kernel) rfl⟩⟩
theorem fX1_58 : FLz RX1 58 1 11 0 .boolean false := ⟨RX1, TX1, 14, cl1, by decide, rfl, by decide +kernel, rfl, Or.inl (tg_mem 233 (by decide +kernel) rfl)⟩
theorem fX1_62 : FLz RX1 62 5 4 0 .int false := ⟨RX5, TX5, 6, cl5, by decide, rfl, by decide +kernel, rfl, Or.inr ⟨"NearPhrases", tn_mem 159 (by decide +kernel) rfl⟩⟩
theorem fX1_69 : FLz RX1 69 1 6 0 .int false := ⟨RX1, TX1, 14, cl1, by decide, rfl, by decide +kernel, rfl, Or.inl (tg_mem 225 (by decide +kernel) rfl)⟩
theorem fX1_72 : FLz RX1 72 1 12 0 .boolean false := ⟨RX1, TX1, 14, cl1, by decide, rfl, by decide +kernel, rfl, Or.inl (tg_mem 235 (by decide +kernel) rfl)⟩
theorem fX1_75 : FLz RX1 75 1 13 0 .boolean false := ⟨RX1, TX1, 14, cl1, by decide, rfl, by decide +kernel, rfl, Or.inl (tg_mem 237 (by decide +kernel) rfl)⟩
theorem fX2_11 : FLz RX2 11 2 0 1 (.array (.object "NearPhrases$Comparison")) true := ⟨RX2, TX2, 7, cl2, by decide, rfl, by decide +kernel, rfl, Or.inl (tg_mem 276 (by decide +kernel) rfl)⟩
theorem fX2_18 : FLz RX2 18 2 1 1 (.array .int) true := ⟨RX2, TX2, 7, cl2, by decide, rfl, by decide +kernel, rfl, Or.inl (tg_mem 278 (by decide +kernel) rfl)⟩
theorem fX2_22 : FLz RX2 22 2 2 1 (.array .boolean) true := ⟨RX2, TX2, 7, cl2, by decide, rfl, by decide +kernel, rfl, Or.inl (tg_mem 280 (by decide +kernel) rfl)⟩
theorem fX2_26 : FLz RX2 26 2 3 0 .int false := ⟨RX2, TX2, 7, cl2, by decide, rfl, by decide +kernel, rfl, Or.inl (tg_mem 282 (by decide +kernel) rfl)⟩
theorem fX2_30 : FLz RX2 30 2 4 0 .int false := ⟨RX2, TX2, 7, cl2, by decide, rfl, by decide +kernel, rfl, Or.inl (tg_mem 284 (by decide +kernel) rfl)⟩
theorem fX2_33 : FLz RX2 33 2 5 0 .int false := ⟨RX2, TX2, 7, cl2, by decide, rfl, by decide +kernel, rfl, Or.inl (tg_mem 285 (by decide +kernel) rfl)⟩
theorem fX2_36 : FLz RX2 36 2 6 0 .int false := ⟨RX2, TX2, 7, cl2, by decide, rfl, by decide +kernel, rfl, Or.inl (tg_mem 286 (by decide +kernel) rfl)⟩
theorem fX2_39 : FLz RX2 39 1 11 0 .boolean false := ⟨RX1, TX1, 14, cl1, by decide, rfl, by decide +kernel, rfl, Or.inr ⟨"NearPhrases", tn_mem 232 (by decide +kernel) rfl⟩⟩
theorem fX2_43 : FLz RX2 43 1 12 0 .boolean false := ⟨RX1, TX1, 14, cl1, by decide, rfl, by decide +kernel, rfl, Or.inr ⟨"NearPhrases", tn_mem 234 (by decide +kernel) rfl⟩⟩
theorem fX2_46 : FLz RX2 46 1 13 0 .boolean false := ⟨RX1, TX1, 14, cl1, by decide, rfl, by decide +kernel, rfl, Or.inr ⟨"NearPhrases", tn_mem 236 (by decide +kernel) rfl⟩⟩
theorem fX2_65 : FLz RX2 65 1 7 0 .int false := ⟨RX1, TX1, 14, cl1, by decide, rfl, by decide +kernel, rfl, Or.inr ⟨"NearPhrases", tn_mem 227 (by decide +kernel) rfl⟩⟩
theorem fX2_68 : FLz RX2 68 1 3 1 (.array .int) true := ⟨RX1, TX1, 14, cl1, by decide, rfl, by decide +kernel, rfl, Or.inr ⟨"NearPhrases", tn_mem 219 (by decide +kernel) rfl⟩⟩
theorem fX2_71 : FLz RX2 71 1 0 1 (.array .int) true := ⟨RX1, TX1, 14, cl1, by decide, rfl, by decide +kernel, rfl, Or.inr ⟨"NearPhrases", tn_mem 214 (by decide +kernel) rfl⟩⟩
theorem fX2_74 : FLz RX2 74 1 1 1 (.array .int) true := ⟨RX1, TX1, 14, cl1, by decide, rfl, by decide +kernel, rfl, Or.inr ⟨"NearPhrases", tn_mem 216 (by decide +kernel) rfl⟩⟩
theorem fX3_9 : FLz RX3 9 3 0 1 (.array .int) true := ⟨RX3, TX3, 2, cl3, by decide, rfl, by decide +kernel, rfl, Or.inl (tg_mem 181 (by decide +kernel) rfl)⟩
theorem fX3_19 : FLz RX3 19 5 4 0 .int false := ⟨RX5, TX5, 6, cl5, by decide, rfl, by decide +kernel, rfl, Or.inr ⟨"NearPhrases", tn_mem 158 (by decide +kernel) rfl⟩⟩
theorem fX3_25 : FLz RX3 25 5 1 1 (.array .int) true := ⟨RX5, TX5, 6, cl5, by decide, rfl, by decide +kernel, rfl, Or.inr ⟨"NearPhrases", tn_mem 151 (by decide +kernel) rfl⟩⟩
theorem fX3_32 : FLz RX3 32 3 1 0 .int false := ⟨RX3, TX3, 2, cl3, by decide, rfl, by decide +kernel, rfl, Or.inl (tg_mem 182 (by decide +kernel) rfl)⟩
theorem fX4_9 : FLz RX4 9 4 0 1 (.array .int) true := ⟨RX4, TX4, 5, cl4, by decide, rfl, by decide +kernel, rfl, Or.inl (tg_mem 97 (by decide +kernel) rfl)⟩
theorem fX4_15 : FLz RX4 15 4 1 0 .int false := ⟨RX4, TX4, 5, cl4, by decide, rfl, by decide +kernel, rfl, Or.inl (tg_mem 100 (by decide +kernel) rfl)⟩
theorem fX4_19 : FLz RX4 19 4 2 0 .int false := ⟨RX4, TX4, 5, cl4, by decide, rfl, by decide +kernel, rfl, Or.inl (tg_mem 103 (by decide +kernel) rfl)⟩
theorem fX4_22 : FLz RX4 22 4 3 0 .int false := ⟨RX4, TX4, 5, cl4, by decide, rfl, by decide +kernel, rfl, Or.inl (tg_mem 104 (by decide +kernel) rfl)⟩
theorem fX4_25 : FLz RX4 25 4 4 0 .int false := ⟨RX4, TX4, 5, cl4, by decide, rfl, by decide +kernel, rfl, Or.inl (tg_mem 105 (by decide +kernel) rfl)⟩
theorem fX5_11 : FLz RX5 11 5 0 1 (.array (.object "NearPhrases$Sign")) true := ⟨RX5, TX5, 6, cl5, by decide, rfl, by decide +kernel, rfl, Or.inl (tg_mem 147 (by decide +kernel) rfl)⟩
theorem fX5_18 : FLz RX5 18 5 1 1 (.array .int) true := ⟨RX5, TX5, 6, cl5, by decide, rfl, by decide +kernel, rfl, Or.inl (tg_mem 150 (by decide +kernel) rfl)⟩
theorem fX5_25 : FLz RX5 25 4 1 0 .int false := ⟨RX4, TX4, 5, cl4, by decide, rfl, by decide +kernel, rfl, Or.inr ⟨"NearPhrases", tn_mem 101 (by decide +kernel) rfl⟩⟩
theorem fX5_31 : FLz RX5 31 4 0 1 (.array .int) true := ⟨RX4, TX4, 5, cl4, by decide, rfl, by decide +kernel, rfl, Or.inr ⟨"NearPhrases", tn_mem 98 (by decide +kernel) rfl⟩⟩
theorem fX5_38 : FLz RX5 38 5 2 0 .int false := ⟨RX5, TX5, 6, cl5, by decide, rfl, by decide +kernel, rfl, Or.inl (tg_mem 152 (by decide +kernel) rfl)⟩
theorem fX5_41 : FLz RX5 41 5 3 0 .int false := ⟨RX5, TX5, 6, cl5, by decide, rfl, by decide +kernel, rfl, Or.inl (tg_mem 155 (by decide +kernel) rfl)⟩
theorem fX5_44 : FLz RX5 44 5 4 0 .int false := ⟨RX5, TX5, 6, cl5, by decide, rfl, by decide +kernel, rfl, Or.inl (tg_mem 157 (by decide +kernel) rfl)⟩
theorem fX5_47 : FLz RX5 47 5 5 0 .int false := ⟨RX5, TX5, 6, cl5, by decide, rfl, by decide +kernel, rfl, Or.inl (tg_mem 160 (by decide +kernel) rfl)⟩
theorem fX5_70 : FLz RX5 70 6 1 0 .int false := ⟨RX6, TX6, 3, cl6, by decide, rfl, by decide +kernel, rfl, Or.inr ⟨"NearPhrases", tn_mem 137 (by decide +kernel) rfl⟩⟩
theorem fX5_73 : FLz RX5 73 6 0 1 (.array .int) true := ⟨RX6, TX6, 3, cl6, by decide, rfl, by decide +kernel, rfl, Or.inr ⟨"NearPhrases", tn_mem 134 (by decide +kernel) rfl⟩⟩
theorem fX6_9 : FLz RX6 9 6 0 1 (.array .int) true := ⟨RX6, TX6, 3, cl6, by decide, rfl, by decide +kernel, rfl, Or.inl (tg_mem 132 (by decide +kernel) rfl)⟩
theorem fX6_15 : FLz RX6 15 6 1 0 .int false := ⟨RX6, TX6, 3, cl6, by decide, rfl, by decide +kernel, rfl, Or.inl (tg_mem 135 (by decide +kernel) rfl)⟩
theorem fX6_19 : FLz RX6 19 6 2 0 .int false := ⟨RX6, TX6, 3, cl6, by decide, rfl, by decide +kernel, rfl, Or.inl (tg_mem 138 (by decide +kernel) rfl)⟩
abbrev mX7_init : Mz := (yX7_init, cX7_init, 2, none, 3)
theorem gX7_init : GWz mX7_init 0 := ⟨tg_mem 87 (by decide +kernel) rfl, tg_mem 73 (by decide +kernel) rfl, by decide +kernel⟩
abbrev mX7_letter : Mz := (yX7_letter, cX7_letter, 2, some .int, 1)
theorem gX7_letter : GWz mX7_letter 1 := ⟨tg_mem 349 (by decide +kernel) rfl, tg_mem 73 (by decide +kernel) rfl, by decide +kernel⟩
abbrev mX7_blank : Mz := (yX7_blank, cX7_blank, 2, some .int, 1)
theorem gX7_blank : GWz mX7_blank 0 := ⟨tg_mem 361 (by decide +kernel) rfl, tg_mem 73 (by decide +kernel) rfl, by decide +kernel⟩
abbrev mX7_fault : Mz := (yX7_fault, cX7_fault, 1, some .int, 4)
theorem gX7_fault : GWz mX7_fault 0 := ⟨tg_mem 369 (by decide +kernel) rfl, tg_mem 73 (by decide +kernel) rfl, by decide +kernel⟩
abbrev mX7_keep : Mz := (yX7_keep, cX7_keep, 3, some .int, 5)
theorem gX7_keep : GWz mX7_keep 0 := ⟨tg_mem 396 (by decide +kernel) rfl, tg_mem 73 (by decide +kernel) rfl, by decide +kernel⟩
abbrev mX7_drop : Mz := (yX7_drop, cX7_drop, 4, some .int, 2)
theorem gX7_drop : GWz mX7_drop 1 := ⟨tg_mem 459 (by decide +kernel) rfl, tg_mem 73 (by decide +kernel) rfl, by decide +kernel⟩
abbrev mX7_ask : Mz := (yX7_ask, cX7_ask, 1, some .int, 5)
theorem gX7_ask : GWz mX7_ask 0 := ⟨tg_mem 472 (by decide +kernel) rfl, tg_mem 73 (by decide +kernel) rfl, by decide +kernel⟩
abbrev mX7_weight : Mz := (yX7_weight, cX7_weight, 3, some .int, 0)
theorem gX7_weight : GWz mX7_weight 1 := ⟨tg_mem 476 (by decide +kernel) rfl, tg_mem 73 (by decide +kernel) rfl, by decide +kernel⟩
abbrev mX7_bound : Mz := (yX7_bound, cX7_bound, 3, some .int, 0)
theorem gX7_bound : GWz mX7_bound 1 := ⟨tg_mem 480 (by decide +kernel) rfl, tg_mem 73 (by decide +kernel) rfl, by decide +kernel⟩
abbrev mX7_segment : Mz := (yX7_segment, cX7_segment, 3, some .int, 3)
theorem gX7_segment : GWz mX7_segment 2 := ⟨tg_mem 484 (by decide +kernel) rfl, tg_mem 73 (by decide +kernel) rfl, by decide +kernel⟩
abbrev mX7_sign : Mz := (yX7_sign, cX7_sign, 4, some .int, 3)
theorem gX7_sign : GWz mX7_sign 3 := ⟨tg_mem 500 (by decide +kernel) rfl, tg_mem 73 (by decide +kernel) rfl, by decide +kernel⟩
abbrev mX7_alike : Mz := (yX7_alike, cX7_alike, 7, some .int, 3)
theorem gX7_alike : GWz mX7_alike 4 := ⟨tg_mem 513 (by decide +kernel) rfl, tg_mem 73 (by decide +kernel) rfl, by decide +kernel⟩
abbrev mX7_two : Mz := (yX7_two, cX7_two, 4, some .int, 5)
theorem gX7_two : GWz mX7_two 3 := ⟨tg_mem 529 (by decide +kernel) rfl, tg_mem 73 (by decide +kernel) rfl, by decide +kernel⟩
abbrev mX7_gram : Mz := (yX7_gram, cX7_gram, 5, some .int, 2)
theorem gX7_gram : GWz mX7_gram 2 := ⟨tg_mem 585 (by decide +kernel) rfl, tg_mem 73 (by decide +kernel) rfl, by decide +kernel⟩
abbrev mX7_near : Mz := (yX7_near, cX7_near, 3, some .int, 6)
theorem gX7_near : GWz mX7_near 2 := ⟨tg_mem 596 (by decide +kernel) rfl, tg_mem 73 (by decide +kernel) rfl, by decide +kernel⟩
abbrev mX7_step : Mz := (yX7_step, cX7_step, 5, some .int, 6)
theorem gX7_step : GWz mX7_step 3 := ⟨tg_mem 634 (by decide +kernel) rfl, tg_mem 73 (by decide +kernel) rfl, by decide +kernel⟩
abbrev mX7_rank : Mz := (yX7_rank, cX7_rank, 2, some .int, 6)
theorem gX7_rank : GWz mX7_rank 1 := ⟨tg_mem 643 (by decide +kernel) rfl, tg_mem 73 (by decide +kernel) rfl, by decide +kernel⟩
abbrev mX7_question : Mz := (yX7_question, cX7_question, 2, some .int, 6)
theorem gX7_question : GWz mX7_question 1 := ⟨tg_mem 647 (by decide +kernel) rfl, tg_mem 73 (by decide +kernel) rfl, by decide +kernel⟩
abbrev mX7_covered : Mz := (yX7_covered, cX7_covered, 2, some .int, 6)
theorem gX7_covered : GWz mX7_covered 1 := ⟨tg_mem 663 (by decide +kernel) rfl, tg_mem 73 (by decide +kernel) rfl, by decide +kernel⟩
abbrev mX7_count : Mz := (yX7_count, cX7_count, 2, some .int, 0)
theorem gX7_count : GWz mX7_count 1 := ⟨tg_mem 667 (by decide +kernel) rfl, tg_mem 73 (by decide +kernel) rfl, by decide +kernel⟩
abbrev mX7_digest : Mz := (yX7_digest, cX7_digest, 4, some .long, 6)
theorem gX7_digest : GWz mX7_digest 0 := ⟨tg_mem 671 (by decide +kernel) rfl, tg_mem 73 (by decide +kernel) rfl, by decide +kernel⟩
abbrev mX7_mixSegments : Mz := (yX7_mixSegments, cX7_mixSegments, 7, some .long, 3)
theorem gX7_mixSegments : GWz mX7_mixSegments 1 := ⟨tg_mem 676 (by decide +kernel) rfl, tg_mem 73 (by decide +kernel) rfl, by decide +kernel⟩
abbrev mX7_mixPairs : Mz := (yX7_mixPairs, cX7_mixPairs, 8, some .long, 5)
theorem gX7_mixPairs : GWz mX7_mixPairs 1 := ⟨tg_mem 684 (by decide +kernel) rfl, tg_mem 73 (by decide +kernel) rfl, by decide +kernel⟩
abbrev mX7_mixFindings : Mz := (yX7_mixFindings, cX7_mixFindings, 7, some .long, 4)
theorem gX7_mixFindings : GWz mX7_mixFindings 1 := ⟨tg_mem 688 (by decide +kernel) rfl, tg_mem 73 (by decide +kernel) rfl, by decide +kernel⟩
abbrev mX7_mix : Mz := (yX7_mix, cX7_mix, 3, some .long, 0)
theorem gX7_mix : GWz mX7_mix 2 := ⟨tg_mem 679 (by decide +kernel) rfl, tg_mem 73 (by decide +kernel) rfl, by decide +kernel⟩
abbrev mX7_isKept : Mz := (yX7_isKept, cX7_isKept, 2, some .boolean, 1)
theorem gX7_isKept : GWz mX7_isKept 1 := ⟨tg_mem 463 (by decide +kernel) rfl, tg_mem 73 (by decide +kernel) rfl, by decide +kernel⟩
abbrev mX7_isSignOfKept : Mz := (yX7_isSignOfKept, cX7_isSignOfKept, 3, some .boolean, 2)
theorem gX7_isSignOfKept : GWz mX7_isSignOfKept 2 := ⟨tg_mem 504 (by decide +kernel) rfl, tg_mem 73 (by decide +kernel) rfl, by decide +kernel⟩
abbrev mX7_hasQuestion : Mz := (yX7_hasQuestion, cX7_hasQuestion, 1, some .boolean, 0)
theorem gX7_hasQuestion : GWz mX7_hasQuestion 0 := ⟨tg_mem 600 (by decide +kernel) rfl, tg_mem 73 (by decide +kernel) rfl, by decide +kernel⟩
abbrev mX7_numberOfSame : Mz := (yX7_numberOfSame, cX7_numberOfSame, 3, some .int, 2)
theorem gX7_numberOfSame : GWz mX7_numberOfSame 1 := ⟨tg_mem 436 (by decide +kernel) rfl, tg_mem 73 (by decide +kernel) rfl, by decide +kernel⟩
abbrev mX7_tellQuestion : Mz := (yX7_tellQuestion, cX7_tellQuestion, 2, some .int, 3)
theorem gX7_tellQuestion : GWz mX7_tellQuestion 1 := ⟨tg_mem 651 (by decide +kernel) rfl, tg_mem 73 (by decide +kernel) rfl, by decide +kernel⟩
abbrev mX7_refreshFindings : Mz := (yX7_refreshFindings, cX7_refreshFindings, 3, none, 5)
theorem gX7_refreshFindings : GWz mX7_refreshFindings 0 := ⟨tg_mem 604 (by decide +kernel) rfl, tg_mem 73 (by decide +kernel) rfl, by decide +kernel⟩
abbrev mX7_isWithin : Mz := (yX7_isWithin, cX7_isWithin, 2, some .boolean, 0)
theorem gX7_isWithin : GWz mX7_isWithin 2 := ⟨tg_mem 455 (by decide +kernel) rfl, tg_mem 73 (by decide +kernel) rfl, by decide +kernel⟩
abbrev mX7_isSmallLetter : Mz := (yX7_isSmallLetter, cX7_isSmallLetter, 1, some .boolean, 0)
theorem gX7_isSmallLetter : GWz mX7_isSmallLetter 1 := ⟨tg_mem 384 (by decide +kernel) rfl, tg_mem 73 (by decide +kernel) rfl, by decide +kernel⟩
abbrev mX7_letterNumber : Mz := (yX7_letterNumber, cX7_letterNumber, 1, some .int, 0)
theorem gX7_letterNumber : GWz mX7_letterNumber 1 := ⟨tg_mem 425 (by decide +kernel) rfl, tg_mem 73 (by decide +kernel) rfl, by decide +kernel⟩
abbrev mX7_gramNumber : Mz := (yX7_gramNumber, cX7_gramNumber, 2, some .int, 0)
theorem gX7_gramNumber : GWz mX7_gramNumber 2 := ⟨tg_mem 428 (by decide +kernel) rfl, tg_mem 73 (by decide +kernel) rfl, by decide +kernel⟩
abbrev mX8_init : Mz := (yX8_init, cX8_init, 1, none, 1)
theorem gX8_init : GWz mX8_init 0 := ⟨tg_mem 694 (by decide +kernel) rfl, tg_mem 81 (by decide +kernel) rfl, by decide +kernel⟩
abbrev mX8_within : Mz := (yX8_within, cX8_within, 3, some .boolean, 0)
theorem gX8_within : GWz mX8_within 3 := ⟨tg_mem 796 (by decide +kernel) rfl, tg_mem 81 (by decide +kernel) rfl, by decide +kernel⟩
abbrev mX8_letter : Mz := (yX8_letter, cX8_letter, 2, some .int, 1)
theorem gX8_letter : GWz mX8_letter 1 := ⟨tg_mem 793 (by decide +kernel) rfl, tg_mem 81 (by decide +kernel) rfl, by decide +kernel⟩
abbrev mX8_blank : Mz := (yX8_blank, cX8_blank, 2, some .int, 0)
theorem gX8_blank : GWz mX8_blank 0 := ⟨tg_mem 800 (by decide +kernel) rfl, tg_mem 81 (by decide +kernel) rfl, by decide +kernel⟩
abbrev mX8_begins : Mz := (yX8_begins, cX8_begins, 3, some .boolean, 2)
theorem gX8_begins : GWz mX8_begins 1 := ⟨tg_mem 816 (by decide +kernel) rfl, tg_mem 81 (by decide +kernel) rfl, by decide +kernel⟩
abbrev mX8_takesLetter : Mz := (yX8_takesLetter, cX8_takesLetter, 3, some .boolean, 1)
theorem gX8_takesLetter : GWz mX8_takesLetter 1 := ⟨tg_mem 820 (by decide +kernel) rfl, tg_mem 81 (by decide +kernel) rfl, by decide +kernel⟩
abbrev mX8_takes : Mz := (yX8_takes, cX8_takes, 2, some .boolean, 3)
theorem gX8_takes : GWz mX8_takes 1 := ⟨tg_mem 812 (by decide +kernel) rfl, tg_mem 81 (by decide +kernel) rfl, by decide +kernel⟩
abbrev mX8_readPage : Mz := (yX8_readPage, cX8_readPage, 2, some .int, 4)
theorem gX8_readPage : GWz mX8_readPage 0 := ⟨tg_mem 808 (by decide +kernel) rfl, tg_mem 81 (by decide +kernel) rfl, by decide +kernel⟩
abbrev mX8_fault : Mz := (yX8_fault, cX8_fault, 1, some .int, 5)
theorem gX8_fault : GWz mX8_fault 0 := ⟨tg_mem 804 (by decide +kernel) rfl, tg_mem 81 (by decide +kernel) rfl, by decide +kernel⟩
abbrev mX8_isSegment : Mz := (yX8_isSegment, cX8_isSegment, 2, some .boolean, 5)
theorem gX8_isSegment : GWz mX8_isSegment 0 := ⟨tg_mem 828 (by decide +kernel) rfl, tg_mem 81 (by decide +kernel) rfl, by decide +kernel⟩
abbrev mX8_copy : Mz := (yX8_copy, cX8_copy, 4, none, 0)
theorem gX8_copy : GWz mX8_copy 2 := ⟨tg_mem 840 (by decide +kernel) rfl, tg_mem 81 (by decide +kernel) rfl, by decide +kernel⟩
abbrev mX8_areSame : Mz := (yX8_areSame, cX8_areSame, 5, some .boolean, 1)
theorem gX8_areSame : GWz mX8_areSame 2 := ⟨tg_mem 832 (by decide +kernel) rfl, tg_mem 81 (by decide +kernel) rfl, by decide +kernel⟩
abbrev mX8_isSameSign : Mz := (yX8_isSameSign, cX8_isSameSign, 5, some .boolean, 0)
theorem gX8_isSameSign : GWz mX8_isSameSign 2 := ⟨tg_mem 836 (by decide +kernel) rfl, tg_mem 81 (by decide +kernel) rfl, by decide +kernel⟩
abbrev mX8_keep : Mz := (yX8_keep, cX8_keep, 2, some .int, 6)
theorem gX8_keep : GWz mX8_keep 0 := ⟨tg_mem 824 (by decide +kernel) rfl, tg_mem 81 (by decide +kernel) rfl, by decide +kernel⟩
abbrev mX8_isKept : Mz := (yX8_isKept, cX8_isKept, 2, some .boolean, 1)
theorem gX8_isKept : GWz mX8_isKept 1 := ⟨tg_mem 848 (by decide +kernel) rfl, tg_mem 81 (by decide +kernel) rfl, by decide +kernel⟩
abbrev mX8_drop : Mz := (yX8_drop, cX8_drop, 3, some .int, 2)
theorem gX8_drop : GWz mX8_drop 1 := ⟨tg_mem 844 (by decide +kernel) rfl, tg_mem 81 (by decide +kernel) rfl, by decide +kernel⟩
abbrev mX8_ask : Mz := (yX8_ask, cX8_ask, 1, some .int, 6)
theorem gX8_ask : GWz mX8_ask 0 := ⟨tg_mem 852 (by decide +kernel) rfl, tg_mem 81 (by decide +kernel) rfl, by decide +kernel⟩
abbrev mX8_weight : Mz := (yX8_weight, cX8_weight, 3, some .int, 1)
theorem gX8_weight : GWz mX8_weight 1 := ⟨tg_mem 856 (by decide +kernel) rfl, tg_mem 81 (by decide +kernel) rfl, by decide +kernel⟩
abbrev mX8_bound : Mz := (yX8_bound, cX8_bound, 3, some .int, 1)
theorem gX8_bound : GWz mX8_bound 1 := ⟨tg_mem 860 (by decide +kernel) rfl, tg_mem 81 (by decide +kernel) rfl, by decide +kernel⟩
abbrev mX8_least : Mz := (yX8_least, cX8_least, 2, some .int, 0)
theorem gX8_least : GWz mX8_least 2 := ⟨tg_mem 919 (by decide +kernel) rfl, tg_mem 81 (by decide +kernel) rfl, by decide +kernel⟩
abbrev mX8_changes : Mz := (yX8_changes, cX8_changes, 8, some .int, 1)
theorem gX8_changes : GWz mX8_changes 2 := ⟨tg_mem 916 (by decide +kernel) rfl, tg_mem 81 (by decide +kernel) rfl, by decide +kernel⟩
abbrev mX8_alikeNow : Mz := (yX8_alikeNow, cX8_alikeNow, 4, some .int, 2)
theorem gX8_alikeNow : GWz mX8_alikeNow 2 := ⟨tg_mem 912 (by decide +kernel) rfl, tg_mem 81 (by decide +kernel) rfl, by decide +kernel⟩
abbrev mX8_isWord : Mz := (yX8_isWord, cX8_isWord, 2, some .boolean, 0)
theorem gX8_isWord : GWz mX8_isWord 1 := ⟨tg_mem 876 (by decide +kernel) rfl, tg_mem 81 (by decide +kernel) rfl, by decide +kernel⟩
abbrev mX8_costOf : Mz := (yX8_costOf, cX8_costOf, 2, some .int, 1)
theorem gX8_costOf : GWz mX8_costOf 1 := ⟨tg_mem 892 (by decide +kernel) rfl, tg_mem 81 (by decide +kernel) rfl, by decide +kernel⟩
abbrev mX8_bothCost : Mz := (yX8_bothCost, cX8_bothCost, 3, some .int, 3)
theorem gX8_bothCost : GWz mX8_bothCost 2 := ⟨tg_mem 940 (by decide +kernel) rfl, tg_mem 81 (by decide +kernel) rfl, by decide +kernel⟩
abbrev mX8_layPay : Mz := (yX8_layPay, cX8_layPay, 6, none, 4)
theorem gX8_layPay : GWz mX8_layPay 2 := ⟨tg_mem 935 (by decide +kernel) rfl, tg_mem 81 (by decide +kernel) rfl, by decide +kernel⟩
abbrev mX8_putStep : Mz := (yX8_putStep, cX8_putStep, 5, none, 0)
theorem gX8_putStep : GWz mX8_putStep 4 := ⟨tg_mem 975 (by decide +kernel) rfl, tg_mem 81 (by decide +kernel) rfl, by decide +kernel⟩
abbrev mX8_laySteps : Mz := (yX8_laySteps, cX8_laySteps, 7, none, 5)
theorem gX8_laySteps : GWz mX8_laySteps 2 := ⟨tg_mem 971 (by decide +kernel) rfl, tg_mem 81 (by decide +kernel) rfl, by decide +kernel⟩
abbrev mX8_farOf : Mz := (yX8_farOf, cX8_farOf, 3, some .int, 5)
theorem gX8_farOf : GWz mX8_farOf 2 := ⟨tg_mem 931 (by decide +kernel) rfl, tg_mem 81 (by decide +kernel) rfl, by decide +kernel⟩
abbrev mX8_costAll : Mz := (yX8_costAll, cX8_costAll, 4, some .int, 2)
theorem gX8_costAll : GWz mX8_costAll 1 := ⟨tg_mem 888 (by decide +kernel) rfl, tg_mem 81 (by decide +kernel) rfl, by decide +kernel⟩
abbrev mX8_allOf : Mz := (yX8_allOf, cX8_allOf, 3, some .int, 3)
theorem gX8_allOf : GWz mX8_allOf 2 := ⟨tg_mem 944 (by decide +kernel) rfl, tg_mem 81 (by decide +kernel) rfl, by decide +kernel⟩
abbrev mX8_scoreOf : Mz := (yX8_scoreOf, cX8_scoreOf, 4, some .int, 6)
theorem gX8_scoreOf : GWz mX8_scoreOf 2 := ⟨tg_mem 948 (by decide +kernel) rfl, tg_mem 81 (by decide +kernel) rfl, by decide +kernel⟩
abbrev mX8_gramSign : Mz := (yX8_gramSign, cX8_gramSign, 1, some .int, 0)
theorem gX8_gramSign : GWz mX8_gramSign 1 := ⟨tg_mem 963 (by decide +kernel) rfl, tg_mem 81 (by decide +kernel) rfl, by decide +kernel⟩
abbrev mX8_gramAt : Mz := (yX8_gramAt, cX8_gramAt, 5, some .int, 1)
theorem gX8_gramAt : GWz mX8_gramAt 2 := ⟨tg_mem 960 (by decide +kernel) rfl, tg_mem 81 (by decide +kernel) rfl, by decide +kernel⟩
abbrev mX8_layGrams : Mz := (yX8_layGrams, cX8_layGrams, 4, none, 2)
theorem gX8_layGrams : GWz mX8_layGrams 1 := ⟨tg_mem 956 (by decide +kernel) rfl, tg_mem 81 (by decide +kernel) rfl, by decide +kernel⟩
abbrev mX8_gramsOf : Mz := (yX8_gramsOf, cX8_gramsOf, 4, some .int, 1)
theorem gX8_gramsOf : GWz mX8_gramsOf 1 := ⟨tg_mem 884 (by decide +kernel) rfl, tg_mem 81 (by decide +kernel) rfl, by decide +kernel⟩
abbrev mX8_sharedOf : Mz := (yX8_sharedOf, cX8_sharedOf, 7, some .int, 3)
theorem gX8_sharedOf : GWz mX8_sharedOf 2 := ⟨tg_mem 952 (by decide +kernel) rfl, tg_mem 81 (by decide +kernel) rfl, by decide +kernel⟩
abbrev mX8_wordsOf : Mz := (yX8_wordsOf, cX8_wordsOf, 4, some .int, 1)
theorem gX8_wordsOf : GWz mX8_wordsOf 1 := ⟨tg_mem 872 (by decide +kernel) rfl, tg_mem 81 (by decide +kernel) rfl, by decide +kernel⟩
abbrev mX8_tagsOf : Mz := (yX8_tagsOf, cX8_tagsOf, 2, some .int, 2)
theorem gX8_tagsOf : GWz mX8_tagsOf 1 := ⟨tg_mem 880 (by decide +kernel) rfl, tg_mem 81 (by decide +kernel) rfl, by decide +kernel⟩
abbrev mX8_segmentNow : Mz := (yX8_segmentNow, cX8_segmentNow, 3, some .int, 3)
theorem gX8_segmentNow : GWz mX8_segmentNow 2 := ⟨tg_mem 868 (by decide +kernel) rfl, tg_mem 81 (by decide +kernel) rfl, by decide +kernel⟩
abbrev mX8_segment : Mz := (yX8_segment, cX8_segment, 3, some .int, 4)
theorem gX8_segment : GWz mX8_segment 2 := ⟨tg_mem 864 (by decide +kernel) rfl, tg_mem 81 (by decide +kernel) rfl, by decide +kernel⟩
abbrev mX8_isSign : Mz := (yX8_isSign, cX8_isSign, 3, some .boolean, 2)
theorem gX8_isSign : GWz mX8_isSign 2 := ⟨tg_mem 900 (by decide +kernel) rfl, tg_mem 81 (by decide +kernel) rfl, by decide +kernel⟩
abbrev mX8_signNow : Mz := (yX8_signNow, cX8_signNow, 3, some .int, 1)
theorem gX8_signNow : GWz mX8_signNow 2 := ⟨tg_mem 904 (by decide +kernel) rfl, tg_mem 81 (by decide +kernel) rfl, by decide +kernel⟩
abbrev mX8_sign : Mz := (yX8_sign, cX8_sign, 4, some .int, 3)
theorem gX8_sign : GWz mX8_sign 3 := ⟨tg_mem 896 (by decide +kernel) rfl, tg_mem 81 (by decide +kernel) rfl, by decide +kernel⟩
abbrev mX8_alike : Mz := (yX8_alike, cX8_alike, 6, some .int, 3)
theorem gX8_alike : GWz mX8_alike 4 := ⟨tg_mem 908 (by decide +kernel) rfl, tg_mem 81 (by decide +kernel) rfl, by decide +kernel⟩
abbrev mX8_stepsOf : Mz := (yX8_stepsOf, cX8_stepsOf, 3, some .int, 6)
theorem gX8_stepsOf : GWz mX8_stepsOf 2 := ⟨tg_mem 967 (by decide +kernel) rfl, tg_mem 81 (by decide +kernel) rfl, by decide +kernel⟩
abbrev mX8_twoNow : Mz := (yX8_twoNow, cX8_twoNow, 4, some .int, 7)
theorem gX8_twoNow : GWz mX8_twoNow 3 := ⟨tg_mem 927 (by decide +kernel) rfl, tg_mem 81 (by decide +kernel) rfl, by decide +kernel⟩
abbrev mX8_two : Mz := (yX8_two, cX8_two, 4, some .int, 8)
theorem gX8_two : GWz mX8_two 3 := ⟨tg_mem 923 (by decide +kernel) rfl, tg_mem 81 (by decide +kernel) rfl, by decide +kernel⟩
abbrev mX8_isLetter : Mz := (yX8_isLetter, cX8_isLetter, 1, some .boolean, 1)
theorem gX8_isLetter : GWz mX8_isLetter 1 := ⟨tg_mem 982 (by decide +kernel) rfl, tg_mem 81 (by decide +kernel) rfl, by decide +kernel⟩
abbrev mX8_gram : Mz := (yX8_gram, cX8_gram, 6, some .int, 3)
theorem gX8_gram : GWz mX8_gram 2 := ⟨tg_mem 979 (by decide +kernel) rfl, tg_mem 81 (by decide +kernel) rfl, by decide +kernel⟩
abbrev mX8_roomOf : Mz := (yX8_roomOf, cX8_roomOf, 2, some .int, 4)
theorem gX8_roomOf : GWz mX8_roomOf 1 := ⟨tg_mem 994 (by decide +kernel) rfl, tg_mem 81 (by decide +kernel) rfl, by decide +kernel⟩
abbrev mX8_size : Mz := (yX8_size, cX8_size, 1, some .int, 0)
theorem gX8_size : GWz mX8_size 1 := ⟨tg_mem 1001 (by decide +kernel) rfl, tg_mem 81 (by decide +kernel) rfl, by decide +kernel⟩
abbrev mX8_canByLengths : Mz := (yX8_canByLengths, cX8_canByLengths, 4, some .boolean, 5)
theorem gX8_canByLengths : GWz mX8_canByLengths 1 := ⟨tg_mem 998 (by decide +kernel) rfl, tg_mem 81 (by decide +kernel) rfl, by decide +kernel⟩
abbrev mX8_canByGrams : Mz := (yX8_canByGrams, cX8_canByGrams, 4, some .boolean, 5)
theorem gX8_canByGrams : GWz mX8_canByGrams 1 := ⟨tg_mem 1008 (by decide +kernel) rfl, tg_mem 81 (by decide +kernel) rfl, by decide +kernel⟩
abbrev mX8_isMatch : Mz := (yX8_isMatch, cX8_isMatch, 2, some .boolean, 7)
theorem gX8_isMatch : GWz mX8_isMatch 1 := ⟨tg_mem 1012 (by decide +kernel) rfl, tg_mem 81 (by decide +kernel) rfl, by decide +kernel⟩
abbrev mX8_tagSteps : Mz := (yX8_tagSteps, cX8_tagSteps, 5, some .int, 6)
theorem gX8_tagSteps : GWz mX8_tagSteps 1 := ⟨tg_mem 1016 (by decide +kernel) rfl, tg_mem 81 (by decide +kernel) rfl, by decide +kernel⟩
abbrev mX8_bit : Mz := (yX8_bit, cX8_bit, 1, some .int, 0)
theorem gX8_bit : GWz mX8_bit 1 := ⟨tg_mem 1004 (by decide +kernel) rfl, tg_mem 81 (by decide +kernel) rfl, by decide +kernel⟩
abbrev mX8_nearNow : Mz := (yX8_nearNow, cX8_nearNow, 3, some .int, 8)
theorem gX8_nearNow : GWz mX8_nearNow 2 := ⟨tg_mem 990 (by decide +kernel) rfl, tg_mem 81 (by decide +kernel) rfl, by decide +kernel⟩
abbrev mX8_near : Mz := (yX8_near, cX8_near, 3, some .int, 9)
theorem gX8_near : GWz mX8_near 2 := ⟨tg_mem 986 (by decide +kernel) rfl, tg_mem 81 (by decide +kernel) rfl, by decide +kernel⟩
abbrev mX8_step : Mz := (yX8_step, cX8_step, 4, some .int, 6)
theorem gX8_step : GWz mX8_step 3 := ⟨tg_mem 1020 (by decide +kernel) rfl, tg_mem 81 (by decide +kernel) rfl, by decide +kernel⟩
abbrev mX8_isAhead : Mz := (yX8_isAhead, cX8_isAhead, 3, some .boolean, 0)
theorem gX8_isAhead : GWz mX8_isAhead 2 := ⟨tg_mem 1032 (by decide +kernel) rfl, tg_mem 81 (by decide +kernel) rfl, by decide +kernel⟩
abbrev mX8_layRanks : Mz := (yX8_layRanks, cX8_layRanks, 3, none, 7)
theorem gX8_layRanks : GWz mX8_layRanks 0 := ⟨tg_mem 1028 (by decide +kernel) rfl, tg_mem 81 (by decide +kernel) rfl, by decide +kernel⟩
abbrev mX8_rank : Mz := (yX8_rank, cX8_rank, 2, some .int, 8)
theorem gX8_rank : GWz mX8_rank 1 := ⟨tg_mem 1024 (by decide +kernel) rfl, tg_mem 81 (by decide +kernel) rfl, by decide +kernel⟩
abbrev mX8_layCovered : Mz := (yX8_layCovered, cX8_layCovered, 4, none, 8)
theorem gX8_layCovered : GWz mX8_layCovered 0 := ⟨tg_mem 1056 (by decide +kernel) rfl, tg_mem 81 (by decide +kernel) rfl, by decide +kernel⟩
abbrev mX8_canMany : Mz := (yX8_canMany, cX8_canMany, 5, some .int, 6)
theorem gX8_canMany : GWz mX8_canMany 2 := ⟨tg_mem 1048 (by decide +kernel) rfl, tg_mem 81 (by decide +kernel) rfl, by decide +kernel⟩
abbrev mX8_coveredMany : Mz := (yX8_coveredMany, cX8_coveredMany, 3, some .int, 9)
theorem gX8_coveredMany : GWz mX8_coveredMany 0 := ⟨tg_mem 1052 (by decide +kernel) rfl, tg_mem 81 (by decide +kernel) rfl, by decide +kernel⟩
abbrev mX8_matchesMany : Mz := (yX8_matchesMany, cX8_matchesMany, 1, some .int, 8)
theorem gX8_matchesMany : GWz mX8_matchesMany 0 := ⟨tg_mem 1044 (by decide +kernel) rfl, tg_mem 81 (by decide +kernel) rfl, by decide +kernel⟩
abbrev mX8_questionNow : Mz := (yX8_questionNow, cX8_questionNow, 2, some .int, 10)
theorem gX8_questionNow : GWz mX8_questionNow 1 := ⟨tg_mem 1040 (by decide +kernel) rfl, tg_mem 81 (by decide +kernel) rfl, by decide +kernel⟩
abbrev mX8_question : Mz := (yX8_question, cX8_question, 2, some .int, 11)
theorem gX8_question : GWz mX8_question 1 := ⟨tg_mem 1036 (by decide +kernel) rfl, tg_mem 81 (by decide +kernel) rfl, by decide +kernel⟩
abbrev mX8_covered : Mz := (yX8_covered, cX8_covered, 2, some .int, 9)
theorem gX8_covered : GWz mX8_covered 1 := ⟨tg_mem 1060 (by decide +kernel) rfl, tg_mem 81 (by decide +kernel) rfl, by decide +kernel⟩
abbrev mX8_gramsAll : Mz := (yX8_gramsAll, cX8_gramsAll, 3, some .int, 3)
theorem gX8_gramsAll : GWz mX8_gramsAll 0 := ⟨tg_mem 1072 (by decide +kernel) rfl, tg_mem 81 (by decide +kernel) rfl, by decide +kernel⟩
abbrev mX8_howMany : Mz := (yX8_howMany, cX8_howMany, 2, some .int, 4)
theorem gX8_howMany : GWz mX8_howMany 1 := ⟨tg_mem 1068 (by decide +kernel) rfl, tg_mem 81 (by decide +kernel) rfl, by decide +kernel⟩
abbrev mX8_count : Mz := (yX8_count, cX8_count, 2, some .int, 5)
theorem gX8_count : GWz mX8_count 1 := ⟨tg_mem 1064 (by decide +kernel) rfl, tg_mem 81 (by decide +kernel) rfl, by decide +kernel⟩
abbrev mX8_mix : Mz := (yX8_mix, cX8_mix, 3, none, 0)
theorem gX8_mix : GWz mX8_mix 1 := ⟨tg_mem 1081 (by decide +kernel) rfl, tg_mem 81 (by decide +kernel) rfl, by decide +kernel⟩
abbrev mX8_mixQuestion : Mz := (yX8_mixQuestion, cX8_mixQuestion, 3, none, 11)
theorem gX8_mixQuestion : GWz mX8_mixQuestion 0 := ⟨tg_mem 1086 (by decide +kernel) rfl, tg_mem 81 (by decide +kernel) rfl, by decide +kernel⟩
abbrev mX8_digest : Mz := (yX8_digest, cX8_digest, 4, some .long, 12)
theorem gX8_digest : GWz mX8_digest 0 := ⟨tg_mem 1076 (by decide +kernel) rfl, tg_mem 81 (by decide +kernel) rfl, by decide +kernel⟩
abbrev mX0_init : Mz := (yX0_init, cX0_init, 1, none, 1)
theorem gX0_init : GWz mX0_init 0 := ⟨tg_mem 193 (by decide +kernel) rfl, tg_mem 78 (by decide +kernel) rfl, by decide +kernel⟩
abbrev mX0_compare : Mz := (yX0_compare, cX0_compare, 5, none, 4)
theorem gX0_compare : GWz mX0_compare 4 := ⟨tg_mem 533 (by decide +kernel) rfl, tg_mem 78 (by decide +kernel) rfl, by decide +kernel⟩
abbrev mX0_alikeOfWords : Mz := (yX0_alikeOfWords, cX0_alikeOfWords, 4, some .int, 1)
theorem gX0_alikeOfWords : GWz mX0_alikeOfWords 2 := ⟨tg_mem 518 (by decide +kernel) rfl, tg_mem 78 (by decide +kernel) rfl, by decide +kernel⟩
abbrev mX0_fillBoth : Mz := (yX0_fillBoth, cX0_fillBoth, 6, none, 3)
theorem gX0_fillBoth : GWz mX0_fillBoth 3 := ⟨tg_mem 537 (by decide +kernel) rfl, tg_mem 78 (by decide +kernel) rfl, by decide +kernel⟩
abbrev mX0_costOfBoth : Mz := (yX0_costOfBoth, cX0_costOfBoth, 4, some .int, 2)
theorem gX0_costOfBoth : GWz mX0_costOfBoth 3 := ⟨tg_mem 541 (by decide +kernel) rfl, tg_mem 78 (by decide +kernel) rfl, by decide +kernel⟩
abbrev mX0_fillRest : Mz := (yX0_fillRest, cX0_fillRest, 10, none, 2)
theorem gX0_fillRest : GWz mX0_fillRest 3 := ⟨tg_mem 548 (by decide +kernel) rfl, tg_mem 78 (by decide +kernel) rfl, by decide +kernel⟩
abbrev mX0_walkSteps : Mz := (yX0_walkSteps, cX0_walkSteps, 10, none, 2)
theorem gX0_walkSteps : GWz mX0_walkSteps 4 := ⟨tg_mem 569 (by decide +kernel) rfl, tg_mem 78 (by decide +kernel) rfl, by decide +kernel⟩
abbrev mX0_leastEdits : Mz := (yX0_leastEdits, cX0_leastEdits, 8, some .int, 0)
theorem gX0_leastEdits : GWz mX0_leastEdits 2 := ⟨tg_mem 525 (by decide +kernel) rfl, tg_mem 78 (by decide +kernel) rfl, by decide +kernel⟩
abbrev mX1_init : Mz := (yX1_init, cX1_init, 1, none, 1)
theorem gX1_init : GWz mX1_init 0 := ⟨tg_mem 211 (by decide +kernel) rfl, tg_mem 79 (by decide +kernel) rfl, by decide +kernel⟩
abbrev mX1_clearSteps : Mz := (yX1_clearSteps, cX1_clearSteps, 1, none, 0)
theorem gX1_clearSteps : GWz mX1_clearSteps 0 := ⟨tg_mem 573 (by decide +kernel) rfl, tg_mem 79 (by decide +kernel) rfl, by decide +kernel⟩
abbrev mX1_addStep : Mz := (yX1_addStep, cX1_addStep, 6, none, 0)
theorem gX1_addStep : GWz mX1_addStep 5 := ⟨tg_mem 577 (by decide +kernel) rfl, tg_mem 79 (by decide +kernel) rfl, by decide +kernel⟩
abbrev mX1_setScore : Mz := (yX1_setScore, cX1_setScore, 1, none, 0)
theorem gX1_setScore : GWz mX1_setScore 0 := ⟨tg_mem 565 (by decide +kernel) rfl, tg_mem 79 (by decide +kernel) rfl, by decide +kernel⟩
abbrev mX1_judge : Mz := (yX1_judge, cX1_judge, 8, none, 1)
theorem gX1_judge : GWz mX1_judge 4 := ⟨tg_mem 608 (by decide +kernel) rfl, tg_mem 79 (by decide +kernel) rfl, by decide +kernel⟩
abbrev mX1_ranksAheadOf : Mz := (yX1_ranksAheadOf, cX1_ranksAheadOf, 2, some .boolean, 0)
theorem gX1_ranksAheadOf : GWz mX1_ranksAheadOf 1 := ⟨tg_mem 625 (by decide +kernel) rfl, tg_mem 79 (by decide +kernel) rfl, by decide +kernel⟩
abbrev mX1_tell : Mz := (yX1_tell, cX1_tell, 2, some .int, 0)
theorem gX1_tell : GWz mX1_tell 1 := ⟨tg_mem 581 (by decide +kernel) rfl, tg_mem 79 (by decide +kernel) rfl, by decide +kernel⟩
abbrev mX1_tellStep : Mz := (yX1_tellStep, cX1_tellStep, 3, some .int, 1)
theorem gX1_tellStep : GWz mX1_tellStep 2 := ⟨tg_mem 638 (by decide +kernel) rfl, tg_mem 79 (by decide +kernel) rfl, by decide +kernel⟩
abbrev mX2_init : Mz := (yX2_init, cX2_init, 2, none, 2)
theorem gX2_init : GWz mX2_init 0 := ⟨tg_mem 271 (by decide +kernel) rfl, tg_mem 80 (by decide +kernel) rfl, by decide +kernel⟩
abbrev mX2_gather : Mz := (yX2_gather, cX2_gather, 4, none, 2)
theorem gX2_gather : GWz mX2_gather 1 := ⟨tg_mem 617 (by decide +kernel) rfl, tg_mem 80 (by decide +kernel) rfl, by decide +kernel⟩
abbrev mX2_tell : Mz := (yX2_tell, cX2_tell, 2, some .int, 1)
theorem gX2_tell : GWz mX2_tell 1 := ⟨tg_mem 655 (by decide +kernel) rfl, tg_mem 80 (by decide +kernel) rfl, by decide +kernel⟩
abbrev mX2_insertMatch : Mz := (yX2_insertMatch, cX2_insertMatch, 3, none, 1)
theorem gX2_insertMatch : GWz mX2_insertMatch 1 := ⟨tg_mem 621 (by decide +kernel) rfl, tg_mem 80 (by decide +kernel) rfl, by decide +kernel⟩
abbrev mX2_cover : Mz := (yX2_cover, cX2_cover, 4, none, 1)
theorem gX2_cover : GWz mX2_cover 1 := ⟨tg_mem 629 (by decide +kernel) rfl, tg_mem 80 (by decide +kernel) rfl, by decide +kernel⟩
abbrev mX2_countCovered : Mz := (yX2_countCovered, cX2_countCovered, 3, some .int, 0)
theorem gX2_countCovered : GWz mX2_countCovered 0 := ⟨tg_mem 659 (by decide +kernel) rfl, tg_mem 80 (by decide +kernel) rfl, by decide +kernel⟩
abbrev mX3_init : Mz := (yX3_init, cX3_init, 1, none, 1)
theorem gX3_init : GWz mX3_init 0 := ⟨tg_mem 179 (by decide +kernel) rfl, tg_mem 77 (by decide +kernel) rfl, by decide +kernel⟩
abbrev mX3_holdersOf : Mz := (yX3_holdersOf, cX3_holdersOf, 2, some .int, 1)
theorem gX3_holdersOf : GWz mX3_holdersOf 1 := ⟨tg_mem 592 (by decide +kernel) rfl, tg_mem 77 (by decide +kernel) rfl, by decide +kernel⟩
abbrev mX3_add : Mz := (yX3_add, cX3_add, 4, none, 1)
theorem gX3_add : GWz mX3_add 1 := ⟨tg_mem 448 (by decide +kernel) rfl, tg_mem 77 (by decide +kernel) rfl, by decide +kernel⟩
abbrev mX3_remove : Mz := (yX3_remove, cX3_remove, 4, none, 1)
theorem gX3_remove : GWz mX3_remove 1 := ⟨tg_mem 468 (by decide +kernel) rfl, tg_mem 77 (by decide +kernel) rfl, by decide +kernel⟩
abbrev mX4_init : Mz := (yX4_init, cX4_init, 1, none, 1)
theorem gX4_init : GWz mX4_init 0 := ⟨tg_mem 95 (by decide +kernel) rfl, tg_mem 74 (by decide +kernel) rfl, by decide +kernel⟩
abbrev mX4_isFull : Mz := (yX4_isFull, cX4_isFull, 1, some .boolean, 0)
theorem gX4_isFull : GWz mX4_isFull 0 := ⟨tg_mem 353 (by decide +kernel) rfl, tg_mem 74 (by decide +kernel) rfl, by decide +kernel⟩
abbrev mX4_append : Mz := (yX4_append, cX4_append, 2, none, 0)
theorem gX4_append : GWz mX4_append 1 := ⟨tg_mem 357 (by decide +kernel) rfl, tg_mem 74 (by decide +kernel) rfl, by decide +kernel⟩
abbrev mX4_clear : Mz := (yX4_clear, cX4_clear, 1, none, 0)
theorem gX4_clear : GWz mX4_clear 0 := ⟨tg_mem 365 (by decide +kernel) rfl, tg_mem 74 (by decide +kernel) rfl, by decide +kernel⟩
abbrev mX4_firstFault : Mz := (yX4_firstFault, cX4_firstFault, 2, some .int, 3)
theorem gX4_firstFault : GWz mX4_firstFault 0 := ⟨tg_mem 373 (by decide +kernel) rfl, tg_mem 74 (by decide +kernel) rfl, by decide +kernel⟩
abbrev mX4_isSegment : Mz := (yX4_isSegment, cX4_isSegment, 1, some .boolean, 4)
theorem gX4_isSegment : GWz mX4_isSegment 0 := ⟨tg_mem 400 (by decide +kernel) rfl, tg_mem 74 (by decide +kernel) rfl, by decide +kernel⟩
abbrev mX4_goesOn : Mz := (yX4_goesOn, cX4_goesOn, 2, some .boolean, 2)
theorem gX4_goesOn : GWz mX4_goesOn 1 := ⟨tg_mem 377 (by decide +kernel) rfl, tg_mem 74 (by decide +kernel) rfl, by decide +kernel⟩
abbrev mX4_beginsSign : Mz := (yX4_beginsSign, cX4_beginsSign, 2, some .boolean, 1)
theorem gX4_beginsSign : GWz mX4_beginsSign 1 := ⟨tg_mem 381 (by decide +kernel) rfl, tg_mem 74 (by decide +kernel) rfl, by decide +kernel⟩
abbrev mX4_lengthensWord : Mz := (yX4_lengthensWord, cX4_lengthensWord, 1, some .boolean, 0)
theorem gX4_lengthensWord : GWz mX4_lengthensWord 0 := ⟨tg_mem 388 (by decide +kernel) rfl, tg_mem 74 (by decide +kernel) rfl, by decide +kernel⟩
abbrev mX4_endsSign : Mz := (yX4_endsSign, cX4_endsSign, 2, some .boolean, 0)
theorem gX4_endsSign : GWz mX4_endsSign 1 := ⟨tg_mem 392 (by decide +kernel) rfl, tg_mem 74 (by decide +kernel) rfl, by decide +kernel⟩
abbrev mX5_init : Mz := (yX5_init, cX5_init, 2, none, 2)
theorem gX5_init : GWz mX5_init 0 := ⟨tg_mem 123 (by decide +kernel) rfl, tg_mem 75 (by decide +kernel) rfl, by decide +kernel⟩
abbrev mX5_read : Mz := (yX5_read, cX5_read, 5, none, 2)
theorem gX5_read : GWz mX5_read 1 := ⟨tg_mem 405 (by decide +kernel) rfl, tg_mem 75 (by decide +kernel) rfl, by decide +kernel⟩
abbrev mX5_tags : Mz := (yX5_tags, cX5_tags, 1, some .int, 0)
theorem gX5_tags : GWz mX5_tags 0 := ⟨tg_mem 492 (by decide +kernel) rfl, tg_mem 75 (by decide +kernel) rfl, by decide +kernel⟩
abbrev mX5_cost : Mz := (yX5_cost, cX5_cost, 2, some .int, 1)
theorem gX5_cost : GWz mX5_cost 1 := ⟨tg_mem 496 (by decide +kernel) rfl, tg_mem 75 (by decide +kernel) rfl, by decide +kernel⟩
abbrev mX5_isSameAs : Mz := (yX5_isSameAs, cX5_isSameAs, 3, some .boolean, 1)
theorem gX5_isSameAs : GWz mX5_isSameAs 1 := ⟨tg_mem 440 (by decide +kernel) rfl, tg_mem 75 (by decide +kernel) rfl, by decide +kernel⟩
abbrev mX5_tell : Mz := (yX5_tell, cX5_tell, 3, some .int, 2)
theorem gX5_tell : GWz mX5_tell 2 := ⟨tg_mem 488 (by decide +kernel) rfl, tg_mem 75 (by decide +kernel) rfl, by decide +kernel⟩
abbrev mX5_sharedWith : Mz := (yX5_sharedWith, cX5_sharedWith, 7, some .int, 0)
theorem gX5_sharedWith : GWz mX5_sharedWith 1 := ⟨tg_mem 561 (by decide +kernel) rfl, tg_mem 75 (by decide +kernel) rfl, by decide +kernel⟩
abbrev mX5_isFirstOfItsKind : Mz := (yX5_isFirstOfItsKind, cX5_isFirstOfItsKind, 2, some .boolean, 0)
theorem gX5_isFirstOfItsKind : GWz mX5_isFirstOfItsKind 1 := ⟨tg_mem 452 (by decide +kernel) rfl, tg_mem 75 (by decide +kernel) rfl, by decide +kernel⟩
abbrev mX5_addGramsOf : Mz := (yX5_addGramsOf, cX5_addGramsOf, 5, none, 1)
theorem gX5_addGramsOf : GWz mX5_addGramsOf 1 := ⟨tg_mem 422 (by decide +kernel) rfl, tg_mem 75 (by decide +kernel) rfl, by decide +kernel⟩
abbrev mX5_insertGram : Mz := (yX5_insertGram, cX5_insertGram, 3, none, 0)
theorem gX5_insertGram : GWz mX5_insertGram 1 := ⟨tg_mem 432 (by decide +kernel) rfl, tg_mem 75 (by decide +kernel) rfl, by decide +kernel⟩
abbrev mX6_init : Mz := (yX6_init, cX6_init, 1, none, 1)
theorem gX6_init : GWz mX6_init 0 := ⟨tg_mem 130 (by decide +kernel) rfl, tg_mem 76 (by decide +kernel) rfl, by decide +kernel⟩
abbrev mX6_clear : Mz := (yX6_clear, cX6_clear, 1, none, 0)
theorem gX6_clear : GWz mX6_clear 0 := ⟨tg_mem 409 (by decide +kernel) rfl, tg_mem 76 (by decide +kernel) rfl, by decide +kernel⟩
abbrev mX6_take : Mz := (yX6_take, cX6_take, 2, none, 1)
theorem gX6_take : GWz mX6_take 1 := ⟨tg_mem 413 (by decide +kernel) rfl, tg_mem 76 (by decide +kernel) rfl, by decide +kernel⟩
abbrev mX6_isWord : Mz := (yX6_isWord, cX6_isWord, 1, some .boolean, 0)
theorem gX6_isWord : GWz mX6_isWord 0 := ⟨tg_mem 418 (by decide +kernel) rfl, tg_mem 76 (by decide +kernel) rfl, by decide +kernel⟩
abbrev mX6_cost : Mz := (yX6_cost, cX6_cost, 2, some .int, 1)
theorem gX6_cost : GWz mX6_cost 1 := ⟨tg_mem 552 (by decide +kernel) rfl, tg_mem 76 (by decide +kernel) rfl, by decide +kernel⟩
abbrev mX6_isSameAs : Mz := (yX6_isSameAs, cX6_isSameAs, 3, some .boolean, 0)
theorem gX6_isSameAs : GWz mX6_isSameAs 1 := ⟨tg_mem 444 (by decide +kernel) rfl, tg_mem 76 (by decide +kernel) rfl, by decide +kernel⟩
abbrev mX6_tell : Mz := (yX6_tell, cX6_tell, 2, some .int, 1)
theorem gX6_tell : GWz mX6_tell 1 := ⟨tg_mem 508 (by decide +kernel) rfl, tg_mem 76 (by decide +kernel) rfl, by decide +kernel⟩
theorem lX7_11 : GWz mX4_init 0 ∧ Cond.instanceMethod mX4_init.1 ∈ tg ∧ LKz RX7 11 mX4_init := ⟨gX4_init, tg_mem 94 (by decide +kernel) rfl, Or.inl (tg_mem 93 (by decide +kernel) rfl)⟩
theorem lX7_22 : GWz mX5_init 0 ∧ Cond.instanceMethod mX5_init.1 ∈ tg ∧ LKz RX7 22 mX5_init := ⟨gX5_init, tg_mem 122 (by decide +kernel) rfl, Or.inl (tg_mem 121 (by decide +kernel) rfl)⟩
theorem lX7_29 : GWz mX3_init 0 ∧ Cond.instanceMethod mX3_init.1 ∈ tg ∧ LKz RX7 29 mX3_init := ⟨gX3_init, tg_mem 178 (by decide +kernel) rfl, Or.inl (tg_mem 177 (by decide +kernel) rfl)⟩
theorem lX7_36 : GWz mX0_init 0 ∧ Cond.instanceMethod mX0_init.1 ∈ tg ∧ LKz RX7 36 mX0_init := ⟨gX0_init, tg_mem 192 (by decide +kernel) rfl, Or.inl (tg_mem 191 (by decide +kernel) rfl)⟩
theorem lX7_43 : GWz mX1_init 0 ∧ Cond.instanceMethod mX1_init.1 ∈ tg ∧ LKz RX7 43 mX1_init := ⟨gX1_init, tg_mem 210 (by decide +kernel) rfl, Or.inl (tg_mem 209 (by decide +kernel) rfl)⟩
theorem lX7_50 : GWz mX2_init 0 ∧ Cond.instanceMethod mX2_init.1 ∈ tg ∧ LKz RX7 50 mX2_init := ⟨gX2_init, tg_mem 270 (by decide +kernel) rfl, Or.inl (tg_mem 269 (by decide +kernel) rfl)⟩
theorem lX7_66 : MLv RX7 66 mX4_isFull 4 0 := ⟨⟨_, rfl, rfl⟩, by decide, gX4_isFull, tg_mem 351 (by decide +kernel) rfl, tg_mem 352 (by decide +kernel) rfl, Or.inl (tg_mem 350 (by decide +kernel) rfl)⟩
theorem lX7_70 : MLv RX7 70 mX4_append 4 1 := ⟨⟨_, rfl, rfl⟩, by decide, gX4_append, tg_mem 355 (by decide +kernel) rfl, tg_mem 356 (by decide +kernel) rfl, Or.inl (tg_mem 354 (by decide +kernel) rfl)⟩
theorem lX7_77 : MLv RX7 77 mX4_clear 4 0 := ⟨⟨_, rfl, rfl⟩, by decide, gX4_clear, tg_mem 363 (by decide +kernel) rfl, tg_mem 364 (by decide +kernel) rfl, Or.inl (tg_mem 362 (by decide +kernel) rfl)⟩
theorem lX7_80 : MLv RX7 80 mX4_firstFault 4 0 := ⟨⟨_, rfl, rfl⟩, by decide, gX4_firstFault, tg_mem 371 (by decide +kernel) rfl, tg_mem 372 (by decide +kernel) rfl, Or.inl (tg_mem 370 (by decide +kernel) rfl)⟩
theorem lX7_84 : MLv RX7 84 mX4_isSegment 4 0 := ⟨⟨_, rfl, rfl⟩, by decide, gX4_isSegment, tg_mem 398 (by decide +kernel) rfl, tg_mem 399 (by decide +kernel) rfl, Or.inl (tg_mem 397 (by decide +kernel) rfl)⟩
theorem lX7_90 : MLv RX7 90 mX5_read 5 1 := ⟨⟨_, rfl, rfl⟩, by decide, gX5_read, tg_mem 403 (by decide +kernel) rfl, tg_mem 404 (by decide +kernel) rfl, Or.inl (tg_mem 402 (by decide +kernel) rfl)⟩
theorem lX7_94 : MLv RX7 94 mX7_numberOfSame 7 1 := ⟨⟨_, rfl, rfl⟩, by decide, gX7_numberOfSame, tg_mem 435 (by decide +kernel) rfl, tg_mem 6 (by decide +kernel) rfl, Or.inl (tg_mem 433 (by decide +kernel) rfl)⟩
theorem lX7_98 : MLv RX7 98 mX3_add 3 1 := ⟨⟨_, rfl, rfl⟩, by decide, gX3_add, tg_mem 446 (by decide +kernel) rfl, tg_mem 447 (by decide +kernel) rfl, Or.inl (tg_mem 445 (by decide +kernel) rfl)⟩
theorem lX7_108 : MLv RX7 108 mX7_isKept 7 1 := ⟨⟨_, rfl, rfl⟩, by decide, gX7_isKept, tg_mem 462 (by decide +kernel) rfl, tg_mem 7 (by decide +kernel) rfl, Or.inl (tg_mem 460 (by decide +kernel) rfl)⟩
theorem lX7_112 : MLv RX7 112 mX3_remove 3 1 := ⟨⟨_, rfl, rfl⟩, by decide, gX3_remove, tg_mem 466 (by decide +kernel) rfl, tg_mem 467 (by decide +kernel) rfl, Or.inl (tg_mem 465 (by decide +kernel) rfl)⟩
theorem lX7_124 : MLs RX7 124 mX7_isWithin 2 := ⟨gX7_isWithin, tg_mem 454 (by decide +kernel) rfl, Or.inl (tg_mem 464 (by decide +kernel) rfl)⟩
theorem lX7_128 : MLv RX7 128 mX5_tell 5 2 := ⟨⟨_, rfl, rfl⟩, by decide, gX5_tell, tg_mem 486 (by decide +kernel) rfl, tg_mem 487 (by decide +kernel) rfl, Or.inl (tg_mem 485 (by decide +kernel) rfl)⟩
theorem lX7_132 : MLv RX7 132 mX7_isSignOfKept 7 2 := ⟨⟨_, rfl, rfl⟩, by decide, gX7_isSignOfKept, tg_mem 503 (by decide +kernel) rfl, tg_mem 8 (by decide +kernel) rfl, Or.inl (tg_mem 501 (by decide +kernel) rfl)⟩
theorem lX7_139 : MLv RX7 139 mX6_tell 6 1 := ⟨⟨_, rfl, rfl⟩, by decide, gX6_tell, tg_mem 506 (by decide +kernel) rfl, tg_mem 507 (by decide +kernel) rfl, Or.inl (tg_mem 505 (by decide +kernel) rfl)⟩
theorem lX7_144 : MLv RX7 144 mX6_isWord 6 0 := ⟨⟨_, rfl, rfl⟩, by decide, gX6_isWord, tg_mem 416 (by decide +kernel) rfl, tg_mem 417 (by decide +kernel) rfl, Or.inl (tg_mem 514 (by decide +kernel) rfl)⟩
theorem lX7_147 : MLv RX7 147 mX0_alikeOfWords 0 2 := ⟨⟨_, rfl, rfl⟩, by decide, gX0_alikeOfWords, tg_mem 516 (by decide +kernel) rfl, tg_mem 517 (by decide +kernel) rfl, Or.inl (tg_mem 515 (by decide +kernel) rfl)⟩
theorem lX7_151 : MLv RX7 151 mX0_compare 0 4 := ⟨⟨_, rfl, rfl⟩, by decide, gX0_compare, tg_mem 531 (by decide +kernel) rfl, tg_mem 532 (by decide +kernel) rfl, Or.inl (tg_mem 530 (by decide +kernel) rfl)⟩
theorem lX7_155 : MLv RX7 155 mX1_tell 1 1 := ⟨⟨_, rfl, rfl⟩, by decide, gX1_tell, tg_mem 579 (by decide +kernel) rfl, tg_mem 580 (by decide +kernel) rfl, Or.inl (tg_mem 578 (by decide +kernel) rfl)⟩
theorem lX7_156 : MLs RX7 156 mX7_isSmallLetter 1 := ⟨gX7_isSmallLetter, tg_mem 383 (by decide +kernel) rfl, Or.inl (tg_mem 586 (by decide +kernel) rfl)⟩
theorem lX7_159 : MLs RX7 159 mX7_letterNumber 1 := ⟨gX7_letterNumber, tg_mem 424 (by decide +kernel) rfl, Or.inl (tg_mem 587 (by decide +kernel) rfl)⟩
theorem lX7_162 : MLs RX7 162 mX7_gramNumber 2 := ⟨gX7_gramNumber, tg_mem 427 (by decide +kernel) rfl, Or.inl (tg_mem 588 (by decide +kernel) rfl)⟩
theorem lX7_165 : MLv RX7 165 mX3_holdersOf 3 1 := ⟨⟨_, rfl, rfl⟩, by decide, gX3_holdersOf, tg_mem 590 (by decide +kernel) rfl, tg_mem 591 (by decide +kernel) rfl, Or.inl (tg_mem 589 (by decide +kernel) rfl)⟩
theorem lX7_168 : MLv RX7 168 mX7_hasQuestion 7 0 := ⟨⟨_, rfl, rfl⟩, by decide, gX7_hasQuestion, tg_mem 599 (by decide +kernel) rfl, tg_mem 14 (by decide +kernel) rfl, Or.inl (tg_mem 597 (by decide +kernel) rfl)⟩
theorem lX7_171 : MLv RX7 171 mX7_refreshFindings 7 0 := ⟨⟨_, rfl, rfl⟩, by decide, gX7_refreshFindings, tg_mem 603 (by decide +kernel) rfl, tg_mem 15 (by decide +kernel) rfl, Or.inl (tg_mem 601 (by decide +kernel) rfl)⟩
theorem lX7_181 : MLv RX7 181 mX1_tellStep 1 2 := ⟨⟨_, rfl, rfl⟩, by decide, gX1_tellStep, tg_mem 636 (by decide +kernel) rfl, tg_mem 637 (by decide +kernel) rfl, Or.inl (tg_mem 635 (by decide +kernel) rfl)⟩
theorem lX7_191 : MLv RX7 191 mX7_tellQuestion 7 1 := ⟨⟨_, rfl, rfl⟩, by decide, gX7_tellQuestion, tg_mem 650 (by decide +kernel) rfl, tg_mem 18 (by decide +kernel) rfl, Or.inl (tg_mem 648 (by decide +kernel) rfl)⟩
theorem lX7_203 : MLv RX7 203 mX7_mixSegments 7 1 := ⟨⟨_, rfl, rfl⟩, by decide, gX7_mixSegments, tg_mem 675 (by decide +kernel) rfl, tg_mem 20 (by decide +kernel) rfl, Or.inl (tg_mem 673 (by decide +kernel) rfl)⟩
theorem lX7_207 : MLv RX7 207 mX7_mixPairs 7 1 := ⟨⟨_, rfl, rfl⟩, by decide, gX7_mixPairs, tg_mem 683 (by decide +kernel) rfl, tg_mem 21 (by decide +kernel) rfl, Or.inl (tg_mem 681 (by decide +kernel) rfl)⟩
theorem lX7_210 : MLv RX7 210 mX7_mixFindings 7 1 := ⟨⟨_, rfl, rfl⟩, by decide, gX7_mixFindings, tg_mem 687 (by decide +kernel) rfl, tg_mem 22 (by decide +kernel) rfl, Or.inl (tg_mem 685 (by decide +kernel) rfl)⟩
theorem lX7_216 : MLs RX7 216 mX7_mix 2 := ⟨gX7_mix, tg_mem 678 (by decide +kernel) rfl, Or.inl (tg_mem 677 (by decide +kernel) rfl)⟩
theorem lX7_220 : MLv RX7 220 mX7_count 7 1 := ⟨⟨_, rfl, rfl⟩, by decide, gX7_count, tg_mem 665 (by decide +kernel) rfl, tg_mem 666 (by decide +kernel) rfl, Or.inl (tg_mem 689 (by decide +kernel) rfl)⟩
theorem lX7_225 : MLv RX7 225 mX5_isSameAs 5 1 := ⟨⟨_, rfl, rfl⟩, by decide, gX5_isSameAs, tg_mem 438 (by decide +kernel) rfl, tg_mem 439 (by decide +kernel) rfl, Or.inl (tg_mem 437 (by decide +kernel) rfl)⟩
theorem lX7_229 : MLv RX7 229 mX2_tell 2 1 := ⟨⟨_, rfl, rfl⟩, by decide, gX2_tell, tg_mem 653 (by decide +kernel) rfl, tg_mem 654 (by decide +kernel) rfl, Or.inl (tg_mem 652 (by decide +kernel) rfl)⟩
theorem lX7_230 : MLv RX7 230 mX1_judge 1 4 := ⟨⟨_, rfl, rfl⟩, by decide, gX1_judge, tg_mem 606 (by decide +kernel) rfl, tg_mem 607 (by decide +kernel) rfl, Or.inl (tg_mem 605 (by decide +kernel) rfl)⟩
theorem lX7_234 : MLv RX7 234 mX2_gather 2 1 := ⟨⟨_, rfl, rfl⟩, by decide, gX2_gather, tg_mem 615 (by decide +kernel) rfl, tg_mem 616 (by decide +kernel) rfl, Or.inl (tg_mem 614 (by decide +kernel) rfl)⟩
theorem lX8_75 : MLs RX8 75 mX8_within 3 := ⟨gX8_within, tg_mem 795 (by decide +kernel) rfl, Or.inl (tg_mem 794 (by decide +kernel) rfl)⟩
theorem lX8_85 : MLv RX8 85 mX8_takesLetter 8 1 := ⟨⟨_, rfl, rfl⟩, by decide, gX8_takesLetter, tg_mem 819 (by decide +kernel) rfl, tg_mem 26 (by decide +kernel) rfl, Or.inl (tg_mem 817 (by decide +kernel) rfl)⟩
theorem lX8_89 : MLv RX8 89 mX8_begins 8 1 := ⟨⟨_, rfl, rfl⟩, by decide, gX8_begins, tg_mem 815 (by decide +kernel) rfl, tg_mem 25 (by decide +kernel) rfl, Or.inl (tg_mem 813 (by decide +kernel) rfl)⟩
theorem lX8_92 : MLv RX8 92 mX8_takes 8 1 := ⟨⟨_, rfl, rfl⟩, by decide, gX8_takes, tg_mem 811 (by decide +kernel) rfl, tg_mem 24 (by decide +kernel) rfl, Or.inl (tg_mem 809 (by decide +kernel) rfl)⟩
theorem lX8_95 : MLv RX8 95 mX8_readPage 8 0 := ⟨⟨_, rfl, rfl⟩, by decide, gX8_readPage, tg_mem 807 (by decide +kernel) rfl, tg_mem 23 (by decide +kernel) rfl, Or.inl (tg_mem 805 (by decide +kernel) rfl)⟩
theorem lX8_99 : MLv RX8 99 mX8_isSameSign 8 2 := ⟨⟨_, rfl, rfl⟩, by decide, gX8_isSameSign, tg_mem 835 (by decide +kernel) rfl, tg_mem 29 (by decide +kernel) rfl, Or.inl (tg_mem 833 (by decide +kernel) rfl)⟩
theorem lX8_103 : MLv RX8 103 mX8_isSegment 8 0 := ⟨⟨_, rfl, rfl⟩, by decide, gX8_isSegment, tg_mem 827 (by decide +kernel) rfl, tg_mem 27 (by decide +kernel) rfl, Or.inl (tg_mem 825 (by decide +kernel) rfl)⟩
theorem lX8_110 : MLv RX8 110 mX8_areSame 8 2 := ⟨⟨_, rfl, rfl⟩, by decide, gX8_areSame, tg_mem 831 (by decide +kernel) rfl, tg_mem 28 (by decide +kernel) rfl, Or.inl (tg_mem 829 (by decide +kernel) rfl)⟩
theorem lX8_113 : MLv RX8 113 mX8_copy 8 2 := ⟨⟨_, rfl, rfl⟩, by decide, gX8_copy, tg_mem 839 (by decide +kernel) rfl, tg_mem 30 (by decide +kernel) rfl, Or.inl (tg_mem 837 (by decide +kernel) rfl)⟩
theorem lX8_120 : MLv RX8 120 mX8_isKept 8 1 := ⟨⟨_, rfl, rfl⟩, by decide, gX8_isKept, tg_mem 847 (by decide +kernel) rfl, tg_mem 31 (by decide +kernel) rfl, Or.inl (tg_mem 845 (by decide +kernel) rfl)⟩
theorem lX8_133 : MLs RX8 133 mX8_least 2 := ⟨gX8_least, tg_mem 918 (by decide +kernel) rfl, Or.inl (tg_mem 917 (by decide +kernel) rfl)⟩
theorem lX8_137 : MLv RX8 137 mX8_changes 8 2 := ⟨⟨_, rfl, rfl⟩, by decide, gX8_changes, tg_mem 915 (by decide +kernel) rfl, tg_mem 42 (by decide +kernel) rfl, Or.inl (tg_mem 913 (by decide +kernel) rfl)⟩
theorem lX8_140 : MLv RX8 140 mX8_isWord 8 1 := ⟨⟨_, rfl, rfl⟩, by decide, gX8_isWord, tg_mem 875 (by decide +kernel) rfl, tg_mem 34 (by decide +kernel) rfl, Or.inl (tg_mem 873 (by decide +kernel) rfl)⟩
theorem lX8_144 : MLv RX8 144 mX8_alikeNow 8 2 := ⟨⟨_, rfl, rfl⟩, by decide, gX8_alikeNow, tg_mem 911 (by decide +kernel) rfl, tg_mem 41 (by decide +kernel) rfl, Or.inl (tg_mem 909 (by decide +kernel) rfl)⟩
theorem lX8_147 : MLv RX8 147 mX8_bothCost 8 2 := ⟨⟨_, rfl, rfl⟩, by decide, gX8_bothCost, tg_mem 939 (by decide +kernel) rfl, tg_mem 46 (by decide +kernel) rfl, Or.inl (tg_mem 937 (by decide +kernel) rfl)⟩
theorem lX8_150 : MLv RX8 150 mX8_costOf 8 1 := ⟨⟨_, rfl, rfl⟩, by decide, gX8_costOf, tg_mem 891 (by decide +kernel) rfl, tg_mem 38 (by decide +kernel) rfl, Or.inl (tg_mem 889 (by decide +kernel) rfl)⟩
theorem lX8_157 : MLv RX8 157 mX8_layPay 8 2 := ⟨⟨_, rfl, rfl⟩, by decide, gX8_layPay, tg_mem 934 (by decide +kernel) rfl, tg_mem 45 (by decide +kernel) rfl, Or.inl (tg_mem 932 (by decide +kernel) rfl)⟩
theorem lX8_160 : MLv RX8 160 mX8_putStep 8 4 := ⟨⟨_, rfl, rfl⟩, by decide, gX8_putStep, tg_mem 974 (by decide +kernel) rfl, tg_mem 54 (by decide +kernel) rfl, Or.inl (tg_mem 972 (by decide +kernel) rfl)⟩
theorem lX8_164 : MLv RX8 164 mX8_costAll 8 1 := ⟨⟨_, rfl, rfl⟩, by decide, gX8_costAll, tg_mem 887 (by decide +kernel) rfl, tg_mem 37 (by decide +kernel) rfl, Or.inl (tg_mem 885 (by decide +kernel) rfl)⟩
theorem lX8_167 : MLv RX8 167 mX8_allOf 8 2 := ⟨⟨_, rfl, rfl⟩, by decide, gX8_allOf, tg_mem 943 (by decide +kernel) rfl, tg_mem 47 (by decide +kernel) rfl, Or.inl (tg_mem 941 (by decide +kernel) rfl)⟩
theorem lX8_170 : MLv RX8 170 mX8_farOf 8 2 := ⟨⟨_, rfl, rfl⟩, by decide, gX8_farOf, tg_mem 930 (by decide +kernel) rfl, tg_mem 44 (by decide +kernel) rfl, Or.inl (tg_mem 928 (by decide +kernel) rfl)⟩
theorem lX8_173 : MLs RX8 173 mX8_gramSign 1 := ⟨gX8_gramSign, tg_mem 962 (by decide +kernel) rfl, Or.inl (tg_mem 961 (by decide +kernel) rfl)⟩
theorem lX8_176 : MLv RX8 176 mX8_gramAt 8 2 := ⟨⟨_, rfl, rfl⟩, by decide, gX8_gramAt, tg_mem 959 (by decide +kernel) rfl, tg_mem 51 (by decide +kernel) rfl, Or.inl (tg_mem 957 (by decide +kernel) rfl)⟩
theorem lX8_179 : MLv RX8 179 mX8_layGrams 8 1 := ⟨⟨_, rfl, rfl⟩, by decide, gX8_layGrams, tg_mem 955 (by decide +kernel) rfl, tg_mem 50 (by decide +kernel) rfl, Or.inl (tg_mem 953 (by decide +kernel) rfl)⟩
theorem lX8_183 : MLv RX8 183 mX8_wordsOf 8 1 := ⟨⟨_, rfl, rfl⟩, by decide, gX8_wordsOf, tg_mem 871 (by decide +kernel) rfl, tg_mem 33 (by decide +kernel) rfl, Or.inl (tg_mem 869 (by decide +kernel) rfl)⟩
theorem lX8_186 : MLv RX8 186 mX8_tagsOf 8 1 := ⟨⟨_, rfl, rfl⟩, by decide, gX8_tagsOf, tg_mem 879 (by decide +kernel) rfl, tg_mem 35 (by decide +kernel) rfl, Or.inl (tg_mem 877 (by decide +kernel) rfl)⟩
theorem lX8_189 : MLv RX8 189 mX8_gramsOf 8 1 := ⟨⟨_, rfl, rfl⟩, by decide, gX8_gramsOf, tg_mem 883 (by decide +kernel) rfl, tg_mem 36 (by decide +kernel) rfl, Or.inl (tg_mem 881 (by decide +kernel) rfl)⟩
theorem lX8_192 : MLv RX8 192 mX8_segmentNow 8 2 := ⟨⟨_, rfl, rfl⟩, by decide, gX8_segmentNow, tg_mem 867 (by decide +kernel) rfl, tg_mem 32 (by decide +kernel) rfl, Or.inl (tg_mem 865 (by decide +kernel) rfl)⟩
theorem lX8_195 : MLv RX8 195 mX8_isSign 8 2 := ⟨⟨_, rfl, rfl⟩, by decide, gX8_isSign, tg_mem 899 (by decide +kernel) rfl, tg_mem 39 (by decide +kernel) rfl, Or.inl (tg_mem 897 (by decide +kernel) rfl)⟩
theorem lX8_198 : MLv RX8 198 mX8_signNow 8 2 := ⟨⟨_, rfl, rfl⟩, by decide, gX8_signNow, tg_mem 903 (by decide +kernel) rfl, tg_mem 40 (by decide +kernel) rfl, Or.inl (tg_mem 901 (by decide +kernel) rfl)⟩
theorem lX8_201 : MLv RX8 201 mX8_laySteps 8 2 := ⟨⟨_, rfl, rfl⟩, by decide, gX8_laySteps, tg_mem 970 (by decide +kernel) rfl, tg_mem 53 (by decide +kernel) rfl, Or.inl (tg_mem 968 (by decide +kernel) rfl)⟩
theorem lX8_204 : MLv RX8 204 mX8_scoreOf 8 2 := ⟨⟨_, rfl, rfl⟩, by decide, gX8_scoreOf, tg_mem 947 (by decide +kernel) rfl, tg_mem 48 (by decide +kernel) rfl, Or.inl (tg_mem 945 (by decide +kernel) rfl)⟩
theorem lX8_207 : MLv RX8 207 mX8_sharedOf 8 2 := ⟨⟨_, rfl, rfl⟩, by decide, gX8_sharedOf, tg_mem 951 (by decide +kernel) rfl, tg_mem 49 (by decide +kernel) rfl, Or.inl (tg_mem 949 (by decide +kernel) rfl)⟩
theorem lX8_210 : MLv RX8 210 mX8_stepsOf 8 2 := ⟨⟨_, rfl, rfl⟩, by decide, gX8_stepsOf, tg_mem 966 (by decide +kernel) rfl, tg_mem 52 (by decide +kernel) rfl, Or.inl (tg_mem 964 (by decide +kernel) rfl)⟩
theorem lX8_213 : MLv RX8 213 mX8_twoNow 8 3 := ⟨⟨_, rfl, rfl⟩, by decide, gX8_twoNow, tg_mem 926 (by decide +kernel) rfl, tg_mem 43 (by decide +kernel) rfl, Or.inl (tg_mem 924 (by decide +kernel) rfl)⟩
theorem lX8_217 : MLs RX8 217 mX8_isLetter 1 := ⟨gX8_isLetter, tg_mem 981 (by decide +kernel) rfl, Or.inl (tg_mem 980 (by decide +kernel) rfl)⟩
theorem lX8_220 : MLs RX8 220 mX8_size 1 := ⟨gX8_size, tg_mem 1000 (by decide +kernel) rfl, Or.inl (tg_mem 999 (by decide +kernel) rfl)⟩
theorem lX8_223 : MLv RX8 223 mX8_roomOf 8 1 := ⟨⟨_, rfl, rfl⟩, by decide, gX8_roomOf, tg_mem 993 (by decide +kernel) rfl, tg_mem 56 (by decide +kernel) rfl, Or.inl (tg_mem 991 (by decide +kernel) rfl)⟩
theorem lX8_226 : MLv RX8 226 mX8_canByLengths 8 1 := ⟨⟨_, rfl, rfl⟩, by decide, gX8_canByLengths, tg_mem 997 (by decide +kernel) rfl, tg_mem 57 (by decide +kernel) rfl, Or.inl (tg_mem 995 (by decide +kernel) rfl)⟩
theorem lX8_229 : MLs RX8 229 mX8_bit 1 := ⟨gX8_bit, tg_mem 1003 (by decide +kernel) rfl, Or.inl (tg_mem 1002 (by decide +kernel) rfl)⟩
theorem lX8_233 : MLv RX8 233 mX8_canByGrams 8 1 := ⟨⟨_, rfl, rfl⟩, by decide, gX8_canByGrams, tg_mem 1007 (by decide +kernel) rfl, tg_mem 58 (by decide +kernel) rfl, Or.inl (tg_mem 1005 (by decide +kernel) rfl)⟩
theorem lX8_236 : MLv RX8 236 mX8_isMatch 8 1 := ⟨⟨_, rfl, rfl⟩, by decide, gX8_isMatch, tg_mem 1011 (by decide +kernel) rfl, tg_mem 59 (by decide +kernel) rfl, Or.inl (tg_mem 1009 (by decide +kernel) rfl)⟩
theorem lX8_239 : MLv RX8 239 mX8_tagSteps 8 1 := ⟨⟨_, rfl, rfl⟩, by decide, gX8_tagSteps, tg_mem 1015 (by decide +kernel) rfl, tg_mem 60 (by decide +kernel) rfl, Or.inl (tg_mem 1013 (by decide +kernel) rfl)⟩
theorem lX8_242 : MLv RX8 242 mX8_nearNow 8 2 := ⟨⟨_, rfl, rfl⟩, by decide, gX8_nearNow, tg_mem 989 (by decide +kernel) rfl, tg_mem 55 (by decide +kernel) rfl, Or.inl (tg_mem 987 (by decide +kernel) rfl)⟩
theorem lX8_248 : MLv RX8 248 mX8_isAhead 8 2 := ⟨⟨_, rfl, rfl⟩, by decide, gX8_isAhead, tg_mem 1031 (by decide +kernel) rfl, tg_mem 62 (by decide +kernel) rfl, Or.inl (tg_mem 1029 (by decide +kernel) rfl)⟩
theorem lX8_251 : MLv RX8 251 mX8_layRanks 8 0 := ⟨⟨_, rfl, rfl⟩, by decide, gX8_layRanks, tg_mem 1027 (by decide +kernel) rfl, tg_mem 61 (by decide +kernel) rfl, Or.inl (tg_mem 1025 (by decide +kernel) rfl)⟩
theorem lX8_254 : MLv RX8 254 mX8_layCovered 8 0 := ⟨⟨_, rfl, rfl⟩, by decide, gX8_layCovered, tg_mem 1055 (by decide +kernel) rfl, tg_mem 67 (by decide +kernel) rfl, Or.inl (tg_mem 1053 (by decide +kernel) rfl)⟩
theorem lX8_257 : MLv RX8 257 mX8_matchesMany 8 0 := ⟨⟨_, rfl, rfl⟩, by decide, gX8_matchesMany, tg_mem 1043 (by decide +kernel) rfl, tg_mem 64 (by decide +kernel) rfl, Or.inl (tg_mem 1041 (by decide +kernel) rfl)⟩
theorem lX8_260 : MLv RX8 260 mX8_canMany 8 2 := ⟨⟨_, rfl, rfl⟩, by decide, gX8_canMany, tg_mem 1047 (by decide +kernel) rfl, tg_mem 65 (by decide +kernel) rfl, Or.inl (tg_mem 1045 (by decide +kernel) rfl)⟩
theorem lX8_264 : MLv RX8 264 mX8_coveredMany 8 0 := ⟨⟨_, rfl, rfl⟩, by decide, gX8_coveredMany, tg_mem 1051 (by decide +kernel) rfl, tg_mem 66 (by decide +kernel) rfl, Or.inl (tg_mem 1049 (by decide +kernel) rfl)⟩
theorem lX8_267 : MLv RX8 267 mX8_questionNow 8 1 := ⟨⟨_, rfl, rfl⟩, by decide, gX8_questionNow, tg_mem 1039 (by decide +kernel) rfl, tg_mem 63 (by decide +kernel) rfl, Or.inl (tg_mem 1037 (by decide +kernel) rfl)⟩
theorem lX8_270 : MLv RX8 270 mX8_gramsAll 8 0 := ⟨⟨_, rfl, rfl⟩, by decide, gX8_gramsAll, tg_mem 1071 (by decide +kernel) rfl, tg_mem 69 (by decide +kernel) rfl, Or.inl (tg_mem 1069 (by decide +kernel) rfl)⟩
theorem lX8_273 : MLv RX8 273 mX8_howMany 8 1 := ⟨⟨_, rfl, rfl⟩, by decide, gX8_howMany, tg_mem 1067 (by decide +kernel) rfl, tg_mem 68 (by decide +kernel) rfl, Or.inl (tg_mem 1065 (by decide +kernel) rfl)⟩
theorem lX8_282 : MLv RX8 282 mX8_mix 8 1 := ⟨⟨_, rfl, rfl⟩, by decide, gX8_mix, tg_mem 1080 (by decide +kernel) rfl, tg_mem 70 (by decide +kernel) rfl, Or.inl (tg_mem 1078 (by decide +kernel) rfl)⟩
theorem lX8_288 : MLv RX8 288 mX8_mixQuestion 8 0 := ⟨⟨_, rfl, rfl⟩, by decide, gX8_mixQuestion, tg_mem 1085 (by decide +kernel) rfl, tg_mem 71 (by decide +kernel) rfl, Or.inl (tg_mem 1083 (by decide +kernel) rfl)⟩
theorem lX0_23 : MLv RX0 23 mX0_fillBoth 0 3 := ⟨⟨_, rfl, rfl⟩, by decide, gX0_fillBoth, tg_mem 536 (by decide +kernel) rfl, tg_mem 10 (by decide +kernel) rfl, Or.inl (tg_mem 534 (by decide +kernel) rfl)⟩
theorem lX0_27 : MLv RX0 27 mX0_fillRest 0 3 := ⟨⟨_, rfl, rfl⟩, by decide, gX0_fillRest, tg_mem 547 (by decide +kernel) rfl, tg_mem 12 (by decide +kernel) rfl, Or.inl (tg_mem 545 (by decide +kernel) rfl)⟩
theorem lX0_36 : MLv RX0 36 mX5_cost 5 1 := ⟨⟨_, rfl, rfl⟩, by decide, gX5_cost, tg_mem 494 (by decide +kernel) rfl, tg_mem 495 (by decide +kernel) rfl, Or.inl (tg_mem 557 (by decide +kernel) rfl)⟩
theorem lX0_45 : MLv RX0 45 mX5_sharedWith 5 1 := ⟨⟨_, rfl, rfl⟩, by decide, gX5_sharedWith, tg_mem 559 (by decide +kernel) rfl, tg_mem 560 (by decide +kernel) rfl, Or.inl (tg_mem 558 (by decide +kernel) rfl)⟩
theorem lX0_52 : MLv RX0 52 mX1_setScore 1 0 := ⟨⟨_, rfl, rfl⟩, by decide, gX1_setScore, tg_mem 563 (by decide +kernel) rfl, tg_mem 564 (by decide +kernel) rfl, Or.inl (tg_mem 562 (by decide +kernel) rfl)⟩
theorem lX0_55 : MLv RX0 55 mX0_walkSteps 0 4 := ⟨⟨_, rfl, rfl⟩, by decide, gX0_walkSteps, tg_mem 568 (by decide +kernel) rfl, tg_mem 13 (by decide +kernel) rfl, Or.inl (tg_mem 566 (by decide +kernel) rfl)⟩
theorem lX0_70 : MLv RX0 70 mX0_leastEdits 0 2 := ⟨⟨_, rfl, rfl⟩, by decide, gX0_leastEdits, tg_mem 524 (by decide +kernel) rfl, tg_mem 9 (by decide +kernel) rfl, Or.inl (tg_mem 522 (by decide +kernel) rfl)⟩
theorem lX0_81 : MLv RX0 81 mX0_costOfBoth 0 3 := ⟨⟨_, rfl, rfl⟩, by decide, gX0_costOfBoth, tg_mem 540 (by decide +kernel) rfl, tg_mem 11 (by decide +kernel) rfl, Or.inl (tg_mem 538 (by decide +kernel) rfl)⟩
theorem lX0_85 : MLv RX0 85 mX6_isWord 6 0 := ⟨⟨_, rfl, rfl⟩, by decide, gX6_isWord, tg_mem 416 (by decide +kernel) rfl, tg_mem 417 (by decide +kernel) rfl, Or.inl (tg_mem 542 (by decide +kernel) rfl)⟩
theorem lX0_90 : MLv RX0 90 mX0_alikeOfWords 0 2 := ⟨⟨_, rfl, rfl⟩, by decide, gX0_alikeOfWords, tg_mem 516 (by decide +kernel) rfl, tg_mem 517 (by decide +kernel) rfl, Or.inl (tg_mem 544 (by decide +kernel) rfl)⟩
theorem lX0_96 : MLv RX0 96 mX6_cost 6 1 := ⟨⟨_, rfl, rfl⟩, by decide, gX6_cost, tg_mem 550 (by decide +kernel) rfl, tg_mem 551 (by decide +kernel) rfl, Or.inl (tg_mem 549 (by decide +kernel) rfl)⟩
theorem lX0_100 : MLv RX0 100 mX1_clearSteps 1 0 := ⟨⟨_, rfl, rfl⟩, by decide, gX1_clearSteps, tg_mem 571 (by decide +kernel) rfl, tg_mem 572 (by decide +kernel) rfl, Or.inl (tg_mem 570 (by decide +kernel) rfl)⟩
theorem lX0_103 : MLv RX0 103 mX1_addStep 1 5 := ⟨⟨_, rfl, rfl⟩, by decide, gX1_addStep, tg_mem 575 (by decide +kernel) rfl, tg_mem 576 (by decide +kernel) rfl, Or.inl (tg_mem 574 (by decide +kernel) rfl)⟩
theorem lX1_54 : MLv RX1 54 mX5_tags 5 0 := ⟨⟨_, rfl, rfl⟩, by decide, gX5_tags, tg_mem 490 (by decide +kernel) rfl, tg_mem 491 (by decide +kernel) rfl, Or.inl (tg_mem 612 (by decide +kernel) rfl)⟩
theorem lX1_78 : MLs RX1 78 mX7_isWithin 2 := ⟨gX7_isWithin, tg_mem 454 (by decide +kernel) rfl, Or.inr ⟨"NearPhrases", tn_mem 639 (by decide +kernel) rfl⟩⟩
theorem lX2_17 : GWz mX1_init 0 ∧ Cond.instanceMethod mX1_init.1 ∈ tg ∧ LKz RX2 17 mX1_init := ⟨gX1_init, tg_mem 210 (by decide +kernel) rfl, Or.inl (tg_mem 275 (by decide +kernel) rfl)⟩
theorem lX2_49 : MLv RX2 49 mX2_insertMatch 2 1 := ⟨⟨_, rfl, rfl⟩, by decide, gX2_insertMatch, tg_mem 620 (by decide +kernel) rfl, tg_mem 16 (by decide +kernel) rfl, Or.inl (tg_mem 618 (by decide +kernel) rfl)⟩
theorem lX2_53 : MLv RX2 53 mX2_cover 2 1 := ⟨⟨_, rfl, rfl⟩, by decide, gX2_cover, tg_mem 628 (by decide +kernel) rfl, tg_mem 17 (by decide +kernel) rfl, Or.inl (tg_mem 626 (by decide +kernel) rfl)⟩
theorem lX2_57 : MLv RX2 57 mX2_countCovered 2 0 := ⟨⟨_, rfl, rfl⟩, by decide, gX2_countCovered, tg_mem 658 (by decide +kernel) rfl, tg_mem 19 (by decide +kernel) rfl, Or.inl (tg_mem 656 (by decide +kernel) rfl)⟩
theorem lX2_61 : MLv RX2 61 mX1_ranksAheadOf 1 1 := ⟨⟨_, rfl, rfl⟩, by decide, gX1_ranksAheadOf, tg_mem 623 (by decide +kernel) rfl, tg_mem 624 (by decide +kernel) rfl, Or.inl (tg_mem 622 (by decide +kernel) rfl)⟩
theorem lX2_77 : MLs RX2 77 mX7_isWithin 2 := ⟨gX7_isWithin, tg_mem 454 (by decide +kernel) rfl, Or.inr ⟨"NearPhrases", tn_mem 630 (by decide +kernel) rfl⟩⟩
theorem lX3_15 : MLs RX3 15 mX7_isWithin 2 := ⟨gX7_isWithin, tg_mem 454 (by decide +kernel) rfl, Or.inr ⟨"NearPhrases", tn_mem 453 (by decide +kernel) rfl⟩⟩
theorem lX3_28 : MLv RX3 28 mX5_isFirstOfItsKind 5 1 := ⟨⟨_, rfl, rfl⟩, by decide, gX5_isFirstOfItsKind, tg_mem 450 (by decide +kernel) rfl, tg_mem 451 (by decide +kernel) rfl, Or.inl (tg_mem 449 (by decide +kernel) rfl)⟩
theorem lX4_28 : MLv RX4 28 mX4_goesOn 4 1 := ⟨⟨_, rfl, rfl⟩, by decide, gX4_goesOn, tg_mem 376 (by decide +kernel) rfl, tg_mem 0 (by decide +kernel) rfl, Or.inl (tg_mem 374 (by decide +kernel) rfl)⟩
theorem lX4_32 : MLv RX4 32 mX4_firstFault 4 0 := ⟨⟨_, rfl, rfl⟩, by decide, gX4_firstFault, tg_mem 371 (by decide +kernel) rfl, tg_mem 372 (by decide +kernel) rfl, Or.inl (tg_mem 401 (by decide +kernel) rfl)⟩
theorem lX4_36 : MLv RX4 36 mX4_beginsSign 4 1 := ⟨⟨_, rfl, rfl⟩, by decide, gX4_beginsSign, tg_mem 380 (by decide +kernel) rfl, tg_mem 1 (by decide +kernel) rfl, Or.inl (tg_mem 378 (by decide +kernel) rfl)⟩
theorem lX4_39 : MLs RX4 39 mX7_isSmallLetter 1 := ⟨gX7_isSmallLetter, tg_mem 383 (by decide +kernel) rfl, Or.inr ⟨"NearPhrases", tn_mem 382 (by decide +kernel) rfl⟩⟩
theorem lX4_42 : MLv RX4 42 mX4_lengthensWord 4 0 := ⟨⟨_, rfl, rfl⟩, by decide, gX4_lengthensWord, tg_mem 387 (by decide +kernel) rfl, tg_mem 2 (by decide +kernel) rfl, Or.inl (tg_mem 385 (by decide +kernel) rfl)⟩
theorem lX4_46 : MLv RX4 46 mX4_endsSign 4 1 := ⟨⟨_, rfl, rfl⟩, by decide, gX4_endsSign, tg_mem 391 (by decide +kernel) rfl, tg_mem 3 (by decide +kernel) rfl, Or.inl (tg_mem 389 (by decide +kernel) rfl)⟩
theorem lX5_17 : GWz mX6_init 0 ∧ Cond.instanceMethod mX6_init.1 ∈ tg ∧ LKz RX5 17 mX6_init := ⟨gX6_init, tg_mem 129 (by decide +kernel) rfl, Or.inl (tg_mem 128 (by decide +kernel) rfl)⟩
theorem lX5_22 : MLv RX5 22 mX6_clear 6 0 := ⟨⟨_, rfl, rfl⟩, by decide, gX6_clear, tg_mem 407 (by decide +kernel) rfl, tg_mem 408 (by decide +kernel) rfl, Or.inl (tg_mem 406 (by decide +kernel) rfl)⟩
theorem lX5_34 : MLv RX5 34 mX6_take 6 1 := ⟨⟨_, rfl, rfl⟩, by decide, gX6_take, tg_mem 411 (by decide +kernel) rfl, tg_mem 412 (by decide +kernel) rfl, Or.inl (tg_mem 410 (by decide +kernel) rfl)⟩
theorem lX5_50 : MLv RX5 50 mX6_isWord 6 0 := ⟨⟨_, rfl, rfl⟩, by decide, gX6_isWord, tg_mem 416 (by decide +kernel) rfl, tg_mem 417 (by decide +kernel) rfl, Or.inl (tg_mem 415 (by decide +kernel) rfl)⟩
theorem lX5_54 : MLv RX5 54 mX5_addGramsOf 5 1 := ⟨⟨_, rfl, rfl⟩, by decide, gX5_addGramsOf, tg_mem 421 (by decide +kernel) rfl, tg_mem 4 (by decide +kernel) rfl, Or.inl (tg_mem 419 (by decide +kernel) rfl)⟩
theorem lX5_58 : MLv RX5 58 mX5_tags 5 0 := ⟨⟨_, rfl, rfl⟩, by decide, gX5_tags, tg_mem 490 (by decide +kernel) rfl, tg_mem 491 (by decide +kernel) rfl, Or.inl (tg_mem 489 (by decide +kernel) rfl)⟩
theorem lX5_62 : MLv RX5 62 mX6_isSameAs 6 1 := ⟨⟨_, rfl, rfl⟩, by decide, gX6_isSameAs, tg_mem 442 (by decide +kernel) rfl, tg_mem 443 (by decide +kernel) rfl, Or.inl (tg_mem 441 (by decide +kernel) rfl)⟩
theorem lX5_66 : MLv RX5 66 mX5_cost 5 1 := ⟨⟨_, rfl, rfl⟩, by decide, gX5_cost, tg_mem 494 (by decide +kernel) rfl, tg_mem 495 (by decide +kernel) rfl, Or.inl (tg_mem 493 (by decide +kernel) rfl)⟩
theorem lX5_76 : MLs RX5 76 mX7_letterNumber 1 := ⟨gX7_letterNumber, tg_mem 424 (by decide +kernel) rfl, Or.inr ⟨"NearPhrases", tn_mem 423 (by decide +kernel) rfl⟩⟩
theorem lX5_79 : MLs RX5 79 mX7_gramNumber 2 := ⟨gX7_gramNumber, tg_mem 427 (by decide +kernel) rfl, Or.inr ⟨"NearPhrases", tn_mem 426 (by decide +kernel) rfl⟩⟩
theorem lX5_83 : MLv RX5 83 mX5_insertGram 5 1 := ⟨⟨_, rfl, rfl⟩, by decide, gX5_insertGram, tg_mem 431 (by decide +kernel) rfl, tg_mem 5 (by decide +kernel) rfl, Or.inl (tg_mem 429 (by decide +kernel) rfl)⟩
theorem lX6_22 : MLs RX6 22 mX7_isSmallLetter 1 := ⟨gX7_isSmallLetter, tg_mem 383 (by decide +kernel) rfl, Or.inr ⟨"NearPhrases", tn_mem 414 (by decide +kernel) rfl⟩⟩
theorem lX6_26 : MLv RX6 26 mX6_isWord 6 0 := ⟨⟨_, rfl, rfl⟩, by decide, gX6_isWord, tg_mem 416 (by decide +kernel) rfl, tg_mem 417 (by decide +kernel) rfl, Or.inl (tg_mem 553 (by decide +kernel) rfl)⟩
theorem lX6_30 : MLs RX6 30 mX7_isWithin 2 := ⟨gX7_isWithin, tg_mem 454 (by decide +kernel) rfl, Or.inr ⟨"NearPhrases", tn_mem 509 (by decide +kernel) rfl⟩⟩
theorem lL_9 : GWz mX7_init 0 ∧ Cond.instanceMethod mX7_init.1 ∈ tg ∧ LKz RL 9 mX7_init := ⟨gX7_init, tg_mem 86 (by decide +kernel) rfl, Or.inl (tg_mem 85 (by decide +kernel) rfl)⟩
theorem lL_12 : GWz mX8_init 0 ∧ Cond.instanceMethod mX8_init.1 ∈ tg ∧ LKz RL 12 mX8_init := ⟨gX8_init, tg_mem 693 (by decide +kernel) rfl, Or.inl (tg_mem 692 (by decide +kernel) rfl)⟩
theorem lL_13 : MLv RL 13 mX7_letter 7 1 := ⟨⟨_, rfl, rfl⟩, by decide, gX7_letter, tg_mem 347 (by decide +kernel) rfl, tg_mem 348 (by decide +kernel) rfl, Or.inl (tg_mem 346 (by decide +kernel) rfl)⟩
theorem lL_17 : MLv RL 17 mX8_letter 8 1 := ⟨⟨_, rfl, rfl⟩, by decide, gX8_letter, tg_mem 791 (by decide +kernel) rfl, tg_mem 792 (by decide +kernel) rfl, Or.inl (tg_mem 790 (by decide +kernel) rfl)⟩
theorem lL_18 : MLv RL 18 mX7_blank 7 0 := ⟨⟨_, rfl, rfl⟩, by decide, gX7_blank, tg_mem 359 (by decide +kernel) rfl, tg_mem 360 (by decide +kernel) rfl, Or.inl (tg_mem 358 (by decide +kernel) rfl)⟩
theorem lL_22 : MLv RL 22 mX8_blank 8 0 := ⟨⟨_, rfl, rfl⟩, by decide, gX8_blank, tg_mem 798 (by decide +kernel) rfl, tg_mem 799 (by decide +kernel) rfl, Or.inl (tg_mem 797 (by decide +kernel) rfl)⟩
theorem lL_23 : MLv RL 23 mX7_fault 7 0 := ⟨⟨_, rfl, rfl⟩, by decide, gX7_fault, tg_mem 367 (by decide +kernel) rfl, tg_mem 368 (by decide +kernel) rfl, Or.inl (tg_mem 366 (by decide +kernel) rfl)⟩
theorem lL_26 : MLv RL 26 mX8_fault 8 0 := ⟨⟨_, rfl, rfl⟩, by decide, gX8_fault, tg_mem 802 (by decide +kernel) rfl, tg_mem 803 (by decide +kernel) rfl, Or.inl (tg_mem 801 (by decide +kernel) rfl)⟩
theorem lL_27 : MLv RL 27 mX7_keep 7 0 := ⟨⟨_, rfl, rfl⟩, by decide, gX7_keep, tg_mem 394 (by decide +kernel) rfl, tg_mem 395 (by decide +kernel) rfl, Or.inl (tg_mem 393 (by decide +kernel) rfl)⟩
theorem lL_30 : MLv RL 30 mX8_keep 8 0 := ⟨⟨_, rfl, rfl⟩, by decide, gX8_keep, tg_mem 822 (by decide +kernel) rfl, tg_mem 823 (by decide +kernel) rfl, Or.inl (tg_mem 821 (by decide +kernel) rfl)⟩
theorem lL_31 : MLv RL 31 mX7_drop 7 1 := ⟨⟨_, rfl, rfl⟩, by decide, gX7_drop, tg_mem 457 (by decide +kernel) rfl, tg_mem 458 (by decide +kernel) rfl, Or.inl (tg_mem 456 (by decide +kernel) rfl)⟩
theorem lL_34 : MLv RL 34 mX8_drop 8 1 := ⟨⟨_, rfl, rfl⟩, by decide, gX8_drop, tg_mem 842 (by decide +kernel) rfl, tg_mem 843 (by decide +kernel) rfl, Or.inl (tg_mem 841 (by decide +kernel) rfl)⟩
theorem lL_35 : MLv RL 35 mX7_ask 7 0 := ⟨⟨_, rfl, rfl⟩, by decide, gX7_ask, tg_mem 470 (by decide +kernel) rfl, tg_mem 471 (by decide +kernel) rfl, Or.inl (tg_mem 469 (by decide +kernel) rfl)⟩
theorem lL_38 : MLv RL 38 mX8_ask 8 0 := ⟨⟨_, rfl, rfl⟩, by decide, gX8_ask, tg_mem 850 (by decide +kernel) rfl, tg_mem 851 (by decide +kernel) rfl, Or.inl (tg_mem 849 (by decide +kernel) rfl)⟩
theorem lL_39 : MLv RL 39 mX7_weight 7 1 := ⟨⟨_, rfl, rfl⟩, by decide, gX7_weight, tg_mem 474 (by decide +kernel) rfl, tg_mem 475 (by decide +kernel) rfl, Or.inl (tg_mem 473 (by decide +kernel) rfl)⟩
theorem lL_42 : MLv RL 42 mX8_weight 8 1 := ⟨⟨_, rfl, rfl⟩, by decide, gX8_weight, tg_mem 854 (by decide +kernel) rfl, tg_mem 855 (by decide +kernel) rfl, Or.inl (tg_mem 853 (by decide +kernel) rfl)⟩
theorem lL_43 : MLv RL 43 mX7_bound 7 1 := ⟨⟨_, rfl, rfl⟩, by decide, gX7_bound, tg_mem 478 (by decide +kernel) rfl, tg_mem 479 (by decide +kernel) rfl, Or.inl (tg_mem 477 (by decide +kernel) rfl)⟩
theorem lL_46 : MLv RL 46 mX8_bound 8 1 := ⟨⟨_, rfl, rfl⟩, by decide, gX8_bound, tg_mem 858 (by decide +kernel) rfl, tg_mem 859 (by decide +kernel) rfl, Or.inl (tg_mem 857 (by decide +kernel) rfl)⟩
theorem lL_47 : MLv RL 47 mX7_segment 7 2 := ⟨⟨_, rfl, rfl⟩, by decide, gX7_segment, tg_mem 482 (by decide +kernel) rfl, tg_mem 483 (by decide +kernel) rfl, Or.inl (tg_mem 481 (by decide +kernel) rfl)⟩
theorem lL_51 : MLv RL 51 mX8_segment 8 2 := ⟨⟨_, rfl, rfl⟩, by decide, gX8_segment, tg_mem 862 (by decide +kernel) rfl, tg_mem 863 (by decide +kernel) rfl, Or.inl (tg_mem 861 (by decide +kernel) rfl)⟩
theorem lL_52 : MLv RL 52 mX7_sign 7 3 := ⟨⟨_, rfl, rfl⟩, by decide, gX7_sign, tg_mem 498 (by decide +kernel) rfl, tg_mem 499 (by decide +kernel) rfl, Or.inl (tg_mem 497 (by decide +kernel) rfl)⟩
theorem lL_56 : MLv RL 56 mX8_sign 8 3 := ⟨⟨_, rfl, rfl⟩, by decide, gX8_sign, tg_mem 894 (by decide +kernel) rfl, tg_mem 895 (by decide +kernel) rfl, Or.inl (tg_mem 893 (by decide +kernel) rfl)⟩
theorem lL_57 : MLv RL 57 mX7_alike 7 4 := ⟨⟨_, rfl, rfl⟩, by decide, gX7_alike, tg_mem 511 (by decide +kernel) rfl, tg_mem 512 (by decide +kernel) rfl, Or.inl (tg_mem 510 (by decide +kernel) rfl)⟩
theorem lL_61 : MLv RL 61 mX8_alike 8 4 := ⟨⟨_, rfl, rfl⟩, by decide, gX8_alike, tg_mem 906 (by decide +kernel) rfl, tg_mem 907 (by decide +kernel) rfl, Or.inl (tg_mem 905 (by decide +kernel) rfl)⟩
theorem lL_62 : MLv RL 62 mX7_two 7 3 := ⟨⟨_, rfl, rfl⟩, by decide, gX7_two, tg_mem 527 (by decide +kernel) rfl, tg_mem 528 (by decide +kernel) rfl, Or.inl (tg_mem 526 (by decide +kernel) rfl)⟩
theorem lL_65 : MLv RL 65 mX8_two 8 3 := ⟨⟨_, rfl, rfl⟩, by decide, gX8_two, tg_mem 921 (by decide +kernel) rfl, tg_mem 922 (by decide +kernel) rfl, Or.inl (tg_mem 920 (by decide +kernel) rfl)⟩
theorem lL_66 : MLv RL 66 mX7_gram 7 2 := ⟨⟨_, rfl, rfl⟩, by decide, gX7_gram, tg_mem 583 (by decide +kernel) rfl, tg_mem 584 (by decide +kernel) rfl, Or.inl (tg_mem 582 (by decide +kernel) rfl)⟩
theorem lL_69 : MLv RL 69 mX8_gram 8 2 := ⟨⟨_, rfl, rfl⟩, by decide, gX8_gram, tg_mem 977 (by decide +kernel) rfl, tg_mem 978 (by decide +kernel) rfl, Or.inl (tg_mem 976 (by decide +kernel) rfl)⟩
theorem lL_70 : MLv RL 70 mX7_near 7 2 := ⟨⟨_, rfl, rfl⟩, by decide, gX7_near, tg_mem 594 (by decide +kernel) rfl, tg_mem 595 (by decide +kernel) rfl, Or.inl (tg_mem 593 (by decide +kernel) rfl)⟩
theorem lL_73 : MLv RL 73 mX8_near 8 2 := ⟨⟨_, rfl, rfl⟩, by decide, gX8_near, tg_mem 984 (by decide +kernel) rfl, tg_mem 985 (by decide +kernel) rfl, Or.inl (tg_mem 983 (by decide +kernel) rfl)⟩
theorem lL_74 : MLv RL 74 mX7_step 7 3 := ⟨⟨_, rfl, rfl⟩, by decide, gX7_step, tg_mem 632 (by decide +kernel) rfl, tg_mem 633 (by decide +kernel) rfl, Or.inl (tg_mem 631 (by decide +kernel) rfl)⟩
theorem lL_77 : MLv RL 77 mX8_step 8 3 := ⟨⟨_, rfl, rfl⟩, by decide, gX8_step, tg_mem 1018 (by decide +kernel) rfl, tg_mem 1019 (by decide +kernel) rfl, Or.inl (tg_mem 1017 (by decide +kernel) rfl)⟩
theorem lL_78 : MLv RL 78 mX7_rank 7 1 := ⟨⟨_, rfl, rfl⟩, by decide, gX7_rank, tg_mem 641 (by decide +kernel) rfl, tg_mem 642 (by decide +kernel) rfl, Or.inl (tg_mem 640 (by decide +kernel) rfl)⟩
theorem lL_81 : MLv RL 81 mX8_rank 8 1 := ⟨⟨_, rfl, rfl⟩, by decide, gX8_rank, tg_mem 1022 (by decide +kernel) rfl, tg_mem 1023 (by decide +kernel) rfl, Or.inl (tg_mem 1021 (by decide +kernel) rfl)⟩
theorem lL_82 : MLv RL 82 mX7_question 7 1 := ⟨⟨_, rfl, rfl⟩, by decide, gX7_question, tg_mem 645 (by decide +kernel) rfl, tg_mem 646 (by decide +kernel) rfl, Or.inl (tg_mem 644 (by decide +kernel) rfl)⟩
theorem lL_85 : MLv RL 85 mX8_question 8 1 := ⟨⟨_, rfl, rfl⟩, by decide, gX8_question, tg_mem 1034 (by decide +kernel) rfl, tg_mem 1035 (by decide +kernel) rfl, Or.inl (tg_mem 1033 (by decide +kernel) rfl)⟩
theorem lL_86 : MLv RL 86 mX7_covered 7 1 := ⟨⟨_, rfl, rfl⟩, by decide, gX7_covered, tg_mem 661 (by decide +kernel) rfl, tg_mem 662 (by decide +kernel) rfl, Or.inl (tg_mem 660 (by decide +kernel) rfl)⟩
theorem lL_89 : MLv RL 89 mX8_covered 8 1 := ⟨⟨_, rfl, rfl⟩, by decide, gX8_covered, tg_mem 1058 (by decide +kernel) rfl, tg_mem 1059 (by decide +kernel) rfl, Or.inl (tg_mem 1057 (by decide +kernel) rfl)⟩
theorem lL_90 : MLv RL 90 mX7_count 7 1 := ⟨⟨_, rfl, rfl⟩, by decide, gX7_count, tg_mem 665 (by decide +kernel) rfl, tg_mem 666 (by decide +kernel) rfl, Or.inl (tg_mem 664 (by decide +kernel) rfl)⟩
theorem lL_93 : MLv RL 93 mX8_count 8 1 := ⟨⟨_, rfl, rfl⟩, by decide, gX8_count, tg_mem 1062 (by decide +kernel) rfl, tg_mem 1063 (by decide +kernel) rfl, Or.inl (tg_mem 1061 (by decide +kernel) rfl)⟩
theorem lL_94 : MLv RL 94 mX7_digest 7 0 := ⟨⟨_, rfl, rfl⟩, by decide, gX7_digest, tg_mem 669 (by decide +kernel) rfl, tg_mem 670 (by decide +kernel) rfl, Or.inl (tg_mem 668 (by decide +kernel) rfl)⟩
theorem lL_98 : MLv RL 98 mX8_digest 8 0 := ⟨⟨_, rfl, rfl⟩, by decide, gX8_digest, tg_mem 1074 (by decide +kernel) rfl, tg_mem 1075 (by decide +kernel) rfl, Or.inl (tg_mem 1073 (by decide +kernel) rfl)⟩
end
section
/-! ===== the rows over natural numbers ===== -/
def bz (p : Prop) [Decidable p] : Int32 := if p then 1 else 0
theorem bz_t {p : Prop} [Decidable p] (h : p) : bz p = 1 := if_pos h
theorem bz_f {p : Prop} [Decidable p] (h : ¬ p) : bz p = 0 := if_neg h
theorem bz_01 {p : Prop} [Decidable p] : bz p = 0 ∨ bz p = 1 := by
  by_cases h : p
  · exact Or.inr (bz_t h)
  · exact Or.inl (bz_f h)
theorem bz_eq0 {p : Prop} [Decidable p] : bz p = 0 ↔ ¬ p := by
  by_cases h : p
  · rw [bz_t h]; simp [h]
  · rw [bz_f h]; simp [h]
theorem nI_zero_iff {a : Nat} (h : a < 2147483648) : nI a = 0 ↔ a = 0 := by
  have := nI_eq (a := a) (b := 0) h (by decide)
  rw [nI_0] at this
  exact this
theorem nI_zero_le {a : Nat} (h : a < 2147483648) : nI a ≤ 0 ↔ a ≤ 0 := by
  have := nI_leI (a := a) (b := 0) h (by decide)
  rw [nI_0] at this
  exact this
theorem nI_zero_lt {a : Nat} (h : a < 2147483648) : 0 < nI a ↔ 0 < a := by
  have := nI_ltI (a := 0) (b := a) (by decide) h
  rw [nI_0] at this
  exact this
section VN
variable {z : Zz} {cc : ByteArray} {own : String} {nL d k n pc : Nat} {lv : List (Nat × Value)} {st : List Value} {κ : Kz} {I : Iz} {R : Rz} {J : Jz}
theorem v_iaddN (hz : Am z cc own nL d) {a b : Nat} (dd : decode cc pc = .ok (.iadd, 1)) (h : V z nL k n (pc + 1) lv (.int (nI (a + b)) :: st) κ I R J) : V z nL k n pc lv (.int (nI b) :: .int (nI a) :: st) κ I R J :=
  v_iadd hz dd (by rw [nI_add]; exact h)
theorem v_isubN (hz : Am z cc own nL d) {a b : Nat} (hb : b ≤ a) (dd : decode cc pc = .ok (.isub, 1)) (h : V z nL k n (pc + 1) lv (.int (nI (a - b)) :: st) κ I R J) : V z nL k n pc lv (.int (nI b) :: .int (nI a) :: st) κ I R J :=
  v_isub hz dd (by rw [pk_sub hb]; exact h)
theorem v_imulN (hz : Am z cc own nL d) {a b : Nat} (dd : decode cc pc = .ok (.imul, 1)) (h : V z nL k n (pc + 1) lv (.int (nI (a * b)) :: st) κ I R J) : V z nL k n pc lv (.int (nI b) :: .int (nI a) :: st) κ I R J :=
  v_imul hz dd (by rw [pk_mul]; exact h)
theorem v_idivN (hz : Am z cc own nL d) {a b : Nat} (ha : a < 2147483648) (h0 : 0 < b) (hb : b < 2147483648) (dd : decode cc pc = .ok (.idiv, 1)) (h : V z nL k n (pc + 1) lv (.int (nI (a / b)) :: st) κ I R J) : V z nL k n pc lv (.int (nI b) :: .int (nI a) :: st) κ I R J :=
  v_idiv hz dd (nI_ne0 h0 hb) (by rw [pk_div ha h0 hb]; exact h)
theorem v_iremN (hz : Am z cc own nL d) {a b : Nat} (ha : a < 2147483648) (h0 : 0 < b) (hb : b < 2147483648) (dd : decode cc pc = .ok (.irem, 1)) (h : V z nL k n (pc + 1) lv (.int (nI (a % b)) :: st) κ I R J) : V z nL k n pc lv (.int (nI b) :: .int (nI a) :: st) κ I R J :=
  v_irem hz dd (nI_ne0 h0 hb) (by rw [pk_rem ha h0 hb]; exact h)
theorem v_iincN (hz : Am z cc own nL d) {i a : Nat} (m : Nat) {c : Int} (dd : decode cc pc = .ok (.iinc i c, 3)) (hc : Int32.ofInt c = nI m) (hx : lv.lookup i = some (.int (nI a))) (hn : i < nL) (hcl : clr lv i = true)
    (h : V z nL k n (pc + 3) ((i, .int (nI (a + m))) :: lv) st κ I R J) : V z nL k n pc lv st κ I R J :=
  v_iinc hz dd hx hn hcl (by rw [hc, nI_add]; exact h)
theorem v_idecN (hz : Am z cc own nL d) {i a : Nat} (m : Nat) {c : Int} (hm : m ≤ a) (dd : decode cc pc = .ok (.iinc i c, 3)) (hc : Int32.ofInt c = - nI m) (hx : lv.lookup i = some (.int (nI a))) (hn : i < nL) (hcl : clr lv i = true)
    (h : V z nL k n (pc + 3) ((i, .int (nI (a - m))) :: lv) st κ I R J) : V z nL k n pc lv st κ I R J :=
  v_iinc hz dd hx hn hcl (by rw [hc, ← Int32.sub_eq_add_neg, pk_sub hm]; exact h)
theorem v_ialdN (hz : Am z cc own nL d) {a j N : Nat} (hK : κ.1 a = 9) (hN : κ.2.1 a = N) (hj : j < N) (hb : N < 2147483648) (dd : decode cc pc = .ok (.iaload, 1))
    (h : V z nL k n (pc + 1) lv (.int (I a j) :: st) κ I R J) : V z nL k n pc lv (.int (nI j) :: .ref a :: st) κ I R J :=
  v_iald hz hK (by rw [hN]; exact vp_in_nI hj hb) dd (by rw [nI_clamp (by omega)]; exact h)
theorem v_zaldN (hz : Am z cc own nL d) {a j N : Nat} (hK : κ.1 a = 10) (hN : κ.2.1 a = N) (hj : j < N) (hb : N < 2147483648) (dd : decode cc pc = .ok (.baload, 1))
    (h : V z nL k n (pc + 1) lv (.int (I a j) :: st) κ I R J) : V z nL k n pc lv (.int (nI j) :: .ref a :: st) κ I R J :=
  v_zald hz hK (by rw [hN]; exact vp_in_nI hj hb) dd (by rw [nI_clamp (by omega)]; exact h)
theorem v_iastN (hz : Am z cc own nL d) {a j N : Nat} {x : Int32} (hK : κ.1 a = 9) (hN : κ.2.1 a = N) (hj : j < N) (hb : N < 2147483648) (dd : decode cc pc = .ok (.iastore, 1))
    (h : V z nL k n (pc + 1) lv st κ (u2 I a j x) R J) : V z nL k n pc lv (.int x :: .int (nI j) :: .ref a :: st) κ I R J :=
  v_iast hz hK (by rw [hN]; exact vp_in_nI hj hb) dd (by rw [nI_clamp (by omega)]; exact h)
theorem v_zastN (hz : Am z cc own nL d) {a j N : Nat} {x : Int32} (hK : κ.1 a = 10) (hN : κ.2.1 a = N) (hj : j < N) (hb : N < 2147483648) (hx : x = 0 ∨ x = 1) (dd : decode cc pc = .ok (.bastore, 1))
    (h : V z nL k n (pc + 1) lv st κ (u2 I a j x) R J) : V z nL k n pc lv (.int x :: .int (nI j) :: .ref a :: st) κ I R J :=
  v_zast hz hK hx (by rw [hN]; exact vp_in_nI hj hb) dd (by rw [nI_clamp (by omega)]; exact h)
theorem v_aaldN (hz : Am z cc own nL d) {a b j N : Nat} (hK : 11 ≤ κ.1 a ∧ κ.1 a < 15) (hN : κ.2.1 a = N) (hj : j < N) (hb : N < 2147483648) (hR : R a j = some b) (dd : decode cc pc = .ok (.aaload, 1))
    (h : V z nL k n (pc + 1) lv (.ref b :: st) κ I R J) : V z nL k n pc lv (.int (nI j) :: .ref a :: st) κ I R J :=
  v_aald hz hK (by rw [hN]; exact vp_in_nI hj hb) (by rw [nI_clamp (by omega)]; exact hR) dd h
theorem v_alenN (hz : Am z cc own nL d) {a N : Nat} (hK : 9 ≤ κ.1 a ∧ κ.1 a < 15) (hN : κ.2.1 a = N) (dd : decode cc pc = .ok (.arraylength, 1))
    (h : V z nL k n (pc + 1) lv (.int (nI N) :: st) κ I R J) : V z nL k n pc lv (.ref a :: st) κ I R J := v_alen hz hK dd (by rw [hN]; exact h)
/-- the top of the stack under another name -/
theorem v_top {x y : Int32} (e : x = y) (h : V z nL k n pc lv (.int y :: st) κ I R J) : V z nL k n pc lv (.int x :: st) κ I R J := e ▸ h
theorem v_top2 {x y x' y' : Int32} (e : x = x') (e2 : y = y') (h : V z nL k n pc lv (.int x' :: .int y' :: st) κ I R J) : V z nL k n pc lv (.int x :: .int y :: st) κ I R J := e ▸ e2 ▸ h
theorem v_mem {I' : Iz} (e : I = I') (h : V z nL k n pc lv st κ I' R J) : V z nL k n pc lv st κ I R J := e ▸ h
theorem v_if_eqB (hz : Am z cc own nL d) (tgt : Nat) {p : Prop} [Decidable p] {off : Int} (dd : decode cc pc = .ok (.ifCond .eq off, 3)) (ht : (pc : Int) + off = (tgt : Int))
    (kt : ¬ p → V z nL k n tgt lv st κ I R J) (kf : p → V z nL k n (pc + 3) lv st κ I R J) : V z nL k n pc lv (.int (bz p) :: st) κ I R J :=
  v_if_eq hz tgt dd ht (fun q => kt (bz_eq0.mp q)) (fun q => kf (Classical.not_not.mp fun q2 => q (bz_eq0.mpr q2)))
theorem v_if_neB (hz : Am z cc own nL d) (tgt : Nat) {p : Prop} [Decidable p] {off : Int} (dd : decode cc pc = .ok (.ifCond .ne off, 3)) (ht : (pc : Int) + off = (tgt : Int))
    (kt : p → V z nL k n tgt lv st κ I R J) (kf : ¬ p → V z nL k n (pc + 3) lv st κ I R J) : V z nL k n pc lv (.int (bz p) :: st) κ I R J :=
  v_if_ne hz tgt dd ht (fun q => kt (Classical.not_not.mp fun q2 => q (bz_eq0.mpr q2))) (fun q => kf (bz_eq0.mp (Classical.not_not.mp q)))
theorem v_if_eqN (hz : Am z cc own nL d) (tgt : Nat) {a : Nat} {off : Int} (ha : a < 2147483648) (dd : decode cc pc = .ok (.ifCond .eq off, 3)) (ht : (pc : Int) + off = (tgt : Int))
    (kt : a = 0 → V z nL k n tgt lv st κ I R J) (kf : ¬ (a = 0) → V z nL k n (pc + 3) lv st κ I R J) : V z nL k n pc lv (.int (nI a) :: st) κ I R J :=
  v_if_eq hz tgt dd ht (fun q => kt ((nI_zero_iff ha).mp q)) (fun q => kf (fun e => q ((nI_zero_iff ha).mpr e)))
theorem v_if_neN (hz : Am z cc own nL d) (tgt : Nat) {a : Nat} {off : Int} (ha : a < 2147483648) (dd : decode cc pc = .ok (.ifCond .ne off, 3)) (ht : (pc : Int) + off = (tgt : Int))
    (kt : a ≠ 0 → V z nL k n tgt lv st κ I R J) (kf : ¬ (a ≠ 0) → V z nL k n (pc + 3) lv st κ I R J) : V z nL k n pc lv (.int (nI a) :: st) κ I R J :=
  v_if_ne hz tgt dd ht (fun q => kt (fun e => q ((nI_zero_iff ha).mpr e))) (fun q => kf (fun e => q (fun e2 => e ((nI_zero_iff ha).mp e2))))
theorem v_if_gtN (hz : Am z cc own nL d) (tgt : Nat) {a : Nat} {off : Int} (ha : a < 2147483648) (dd : decode cc pc = .ok (.ifCond .gt off, 3)) (ht : (pc : Int) + off = (tgt : Int))
    (kt : 0 < a → V z nL k n tgt lv st κ I R J) (kf : ¬ (0 < a) → V z nL k n (pc + 3) lv st κ I R J) : V z nL k n pc lv (.int (nI a) :: st) κ I R J :=
  v_if_gt hz tgt dd ht (fun q => kt ((nI_zero_lt ha).mp q)) (fun q => kf (fun e => q ((nI_zero_lt ha).mpr e)))
theorem v_if_leN (hz : Am z cc own nL d) (tgt : Nat) {a : Nat} {off : Int} (ha : a < 2147483648) (dd : decode cc pc = .ok (.ifCond .le off, 3)) (ht : (pc : Int) + off = (tgt : Int))
    (kt : a ≤ 0 → V z nL k n tgt lv st κ I R J) (kf : ¬ (a ≤ 0) → V z nL k n (pc + 3) lv st κ I R J) : V z nL k n pc lv (.int (nI a) :: st) κ I R J :=
  v_if_le hz tgt dd ht (fun q => kt ((nI_zero_le ha).mp q)) (fun q => kf (fun e => q ((nI_zero_le ha).mpr e)))
theorem v_icmp_eqN (hz : Am z cc own nL d) (tgt : Nat) {a b : Nat} {off : Int} (ha : a < 2147483648) (hb : b < 2147483648) (dd : decode cc pc = .ok (.if_icmp .eq off, 3)) (ht : (pc : Int) + off = (tgt : Int))
    (kt : a = b → V z nL k n tgt lv st κ I R J) (kf : ¬ (a = b) → V z nL k n (pc + 3) lv st κ I R J) : V z nL k n pc lv (.int (nI b) :: .int (nI a) :: st) κ I R J :=
  v_icmp_eq hz tgt dd ht (fun q => kt ((nI_eq ha hb).mp q)) (fun q => kf (fun e => q ((nI_eq ha hb).mpr e)))
theorem v_icmp_neN (hz : Am z cc own nL d) (tgt : Nat) {a b : Nat} {off : Int} (ha : a < 2147483648) (hb : b < 2147483648) (dd : decode cc pc = .ok (.if_icmp .ne off, 3)) (ht : (pc : Int) + off = (tgt : Int))
    (kt : a ≠ b → V z nL k n tgt lv st κ I R J) (kf : ¬ (a ≠ b) → V z nL k n (pc + 3) lv st κ I R J) : V z nL k n pc lv (.int (nI b) :: .int (nI a) :: st) κ I R J :=
  v_icmp_ne hz tgt dd ht (fun q => kt (fun e => q ((nI_eq ha hb).mpr e))) (fun q => kf (fun e => q (fun e2 => e ((nI_eq ha hb).mp e2))))
theorem v_icmp_ltN (hz : Am z cc own nL d) (tgt : Nat) {a b : Nat} {off : Int} (ha : a < 2147483648) (hb : b < 2147483648) (dd : decode cc pc = .ok (.if_icmp .lt off, 3)) (ht : (pc : Int) + off = (tgt : Int))
    (kt : a < b → V z nL k n tgt lv st κ I R J) (kf : ¬ (a < b) → V z nL k n (pc + 3) lv st κ I R J) : V z nL k n pc lv (.int (nI b) :: .int (nI a) :: st) κ I R J :=
  v_icmp_lt hz tgt dd ht (fun q => kt ((nI_ltI ha hb).mp q)) (fun q => kf (fun e => q ((nI_ltI ha hb).mpr e)))
theorem v_icmp_geN (hz : Am z cc own nL d) (tgt : Nat) {a b : Nat} {off : Int} (ha : a < 2147483648) (hb : b < 2147483648) (dd : decode cc pc = .ok (.if_icmp .ge off, 3)) (ht : (pc : Int) + off = (tgt : Int))
    (kt : b ≤ a → V z nL k n tgt lv st κ I R J) (kf : ¬ (b ≤ a) → V z nL k n (pc + 3) lv st κ I R J) : V z nL k n pc lv (.int (nI b) :: .int (nI a) :: st) κ I R J :=
  v_icmp_ge hz tgt dd ht (fun q => kt ((nI_leI hb ha).mp q)) (fun q => kf (fun e => q ((nI_leI hb ha).mpr e)))
theorem v_icmp_gtN (hz : Am z cc own nL d) (tgt : Nat) {a b : Nat} {off : Int} (ha : a < 2147483648) (hb : b < 2147483648) (dd : decode cc pc = .ok (.if_icmp .gt off, 3)) (ht : (pc : Int) + off = (tgt : Int))
    (kt : b < a → V z nL k n tgt lv st κ I R J) (kf : ¬ (b < a) → V z nL k n (pc + 3) lv st κ I R J) : V z nL k n pc lv (.int (nI b) :: .int (nI a) :: st) κ I R J :=
  v_icmp_gt hz tgt dd ht (fun q => kt ((nI_ltI hb ha).mp q)) (fun q => kf (fun e => q ((nI_ltI hb ha).mpr e)))
theorem v_icmp_leN (hz : Am z cc own nL d) (tgt : Nat) {a b : Nat} {off : Int} (ha : a < 2147483648) (hb : b < 2147483648) (dd : decode cc pc = .ok (.if_icmp .le off, 3)) (ht : (pc : Int) + off = (tgt : Int))
    (kt : a ≤ b → V z nL k n tgt lv st κ I R J) (kf : ¬ (a ≤ b) → V z nL k n (pc + 3) lv st κ I R J) : V z nL k n pc lv (.int (nI b) :: .int (nI a) :: st) κ I R J :=
  v_icmp_le hz tgt dd ht (fun q => kt ((nI_leI ha hb).mp q)) (fun q => kf (fun e => q ((nI_leI ha hb).mpr e)))
end VN
section VT
variable {z : Zz} {cc : ByteArray} {own : String} {nL d k n pc : Nat} {lv : List (Nat × Value)} {st : List Value} {κ : Kz} {I : Iz} {R : Rz} {J : Jz}
/-- a switch over lo .. hi: where each number goes, and where every other one -/
theorem v_tsw (hz : Am z cc own nL d) (lo hi : Nat) (tl : List Nat) (td : Nat) {dflt lo' hi' : Int} {offs : Array Int} {len : Nat} {x : Int32} (dd : decode cc pc = .ok (.tableswitch dflt lo' hi' offs, len)) (hl : lo' = (lo : Int) ∧ hi' = (hi : Int)) (hhi : hi < 2147483648) (hd : (pc : Int) + dflt = (td : Int))
    (ho : ∀ j, j < hi + 1 - lo → (offs[j]?).map (fun o => (pc : Int) + o) = some ((tl.getD j 0 : Nat) : Int))
    (kin : ∀ j : Nat, lo ≤ j → j ≤ hi → x = nI j → V z nL k n (tl.getD (j - lo) 0) lv st κ I R J) (kout : ¬ (∃ j : Nat, lo ≤ j ∧ j ≤ hi ∧ x = nI j) → V z nL k n td lv st κ I R J) : V z nL k n pc lv (.int x :: st) κ I R J := by
  obtain ⟨rfl, rfl⟩ := hl
  intro ls H locs hls hM hS
  by_cases h1 : x.toInt < (lo : Int)
  · refine lv_tableOut hz.1.1 hz.1.2.1 dd (Or.inl h1) hd (kout ?_ ls H locs hls hM hS)
    rintro ⟨j, ha, hb, rfl⟩
    rw [nI_toInt (by omega)] at h1
    omega
  · by_cases h2 : (hi : Int) < x.toInt
    · refine lv_tableOut hz.1.1 hz.1.2.1 dd (Or.inr h2) hd (kout ?_ ls H locs hls hM hS)
      rintro ⟨j, ha, hb, rfl⟩
      rw [nI_toInt (by omega)] at h2
      omega
    · have hx0 : ¬ x < 0 := by
        intro h
        have := Int32.lt_iff_toInt_lt.mp h
        rw [show (0 : Int32).toInt = 0 from rfl] at this
        omega
      obtain ⟨j, hj, rfl⟩ := nI_of hx0
      have e : (nI j).toInt = (j : Int) := nI_toInt (by omega)
      rw [e] at h1 h2
      obtain ⟨off, h3, h4⟩ := Option.map_eq_some_iff.mp (ho (j - lo) (by omega))
      refine lv_tableIn hz.1.1 hz.1.2.1 dd (by rw [e]; exact h1) (by rw [e]; exact h2) (off := off) ?_ h4 (kin j (by omega) (by omega) rfl ls H locs hls hM hS)
      rw [e, show ((j : Int) - (lo : Int)).toNat = j - lo by omega]
      exact h3
theorem v_mmin (hz : Am z cc own nL d) {idx : Nat} (h1 : Cond.methodLink own idx Lib.Math.min.name ∈ tg) (h2 : Cond.static Lib.Math.min.name ∈ tg) (h3 : Cond.initialized "java/lang/Math" ∈ tg) (h4 : Cond.code Lib.Math.min.name Lib.Math.min.code 2 (some .int) ∈ tg) (hd : 1 ≤ d) (hrs : (st.map fun v => v.category).sum ≤ 8) (hroom : k ≤ (zR z).cells ∧ n ≤ (zR z).slots) {x y : Int32} (dd : decode cc pc = .ok (.invokestatic idx, 3))
    (h : V z nL k n (pc + 3) lv (.int (if y < x then y else x) :: st) κ I R J) : V z nL k n pc lv (.int y :: .int x :: st) κ I R J := by
  obtain ⟨⟨hexec, hb, hml, hown, hts⟩, hKK, hlo, hd1, hd2⟩ := hz
  intro ls H locs hl hM hS
  exact va_mmin hexec hb (hml.trans hl.1.symm) hown (hts _ h1) (hts _ h2) (hts _ h3) (hts _ h4) (by omega) (by omega) hroom.1 hroom.2 dd (h ls H locs hl hM hS)
theorem v_mabs (hz : Am z cc own nL d) {idx : Nat} (h1 : Cond.methodLink own idx Lib.Math.abs.name ∈ tg) (h2 : Cond.static Lib.Math.abs.name ∈ tg) (h3 : Cond.initialized "java/lang/Math" ∈ tg) (h4 : Cond.code Lib.Math.abs.name Lib.Math.abs.code 1 (some .int) ∈ tg) (hd : 1 ≤ d) (hrs : (st.map fun v => v.category).sum ≤ 8) (hroom : k ≤ (zR z).cells ∧ n ≤ (zR z).slots) {x : Int32} (dd : decode cc pc = .ok (.invokestatic idx, 3))
    (h : V z nL k n (pc + 3) lv (.int (if 0 ≤ x then x else 0 - x) :: st) κ I R J) : V z nL k n pc lv (.int x :: st) κ I R J := by
  obtain ⟨⟨hexec, hb, hml, hown, hts⟩, hKK, hlo, hd1, hd2⟩ := hz
  intro ls H locs hl hM hS
  exact va_mabs hexec hb (hml.trans hl.1.symm) hown (hts _ h1) (hts _ h2) (hts _ h3) (hts _ h4) (by omega) (by omega) hroom.1 hroom.2 dd (h ls H locs hl hM hS)
end VT
theorem v_sub {z : Zz} {nL k n pc : Nat} {lv lv' : List (Nat × Value)} {st : List Value} {κ : Kz} {I : Iz} {R : Rz} {J : Jz} (h : V z nL k n pc lv' st κ I R J) (hs : subl lv' lv) : V z nL k n pc lv st κ I R J := v_loc hs h
theorem v_iincE {z : Zz} {cc : ByteArray} {own : String} {nL d k n pc : Nat} {lv : List (Nat × Value)} {st : List Value} {κ : Kz} {I : Iz} {R : Rz} {J : Jz} (hz : Am z cc own nL d) {i : Nat} {c : Int} {x v : Int32} (dd : decode cc pc = .ok (.iinc i c, 3)) (hx : lv.lookup i = some (.int x)) (e : x + Int32.ofInt c = v) (hn : i < nL) (hcl : clr lv i = true)
    (h : V z nL k n (pc + 3) ((i, .int v) :: lv) st κ I R J) : V z nL k n pc lv st κ I R J := v_iinc hz dd hx hn hcl (e ▸ h)
/-- a number that goes down to -1: one more than it is -/
def ip : Nat → Int32
  | 0 => -1
  | p + 1 => nI p
theorem ip_dec (p : Nat) : nI p + Int32.ofInt (-1) = ip p := by
  cases p with
  | zero => rfl
  | succ p => exact pk_m1 p
/-- all but the rows of these tags is as it was -/
def Fm (ts : List Nat) (A : Nat → Nat) (I I1 : Iz) : Prop := ∀ b, (∀ t ∈ ts, b ≠ A t) → I1 b = I b
theorem Fm.rf {ts : List Nat} {A : Nat → Nat} {I : Iz} : Fm ts A I I := fun _ _ => rfl
theorem Fm.tr {ts us vs : List Nat} {A : Nat → Nat} {I I1 I2 : Iz} (h : Fm ts A I I1) (h' : Fm us A I1 I2) (h1 : ∀ t ∈ ts, t ∈ vs) (h2 : ∀ t ∈ us, t ∈ vs) : Fm vs A I I2 := fun b hb => (h' b (fun t ht => hb t (h2 t ht))).trans (h b (fun t ht => hb t (h1 t ht)))
theorem Fm.put {ts : List Nat} {A : Nat → Nat} {I I1 : Iz} {t k : Nat} {x : Int32} (h : Fm ts A I I1) (ht : t ∈ ts) : Fm ts A I (u2 I1 (A t) k x) := fun b hb => (u2_ne (hb t ht)).trans (h b hb)
theorem Fm.wid {ts vs : List Nat} {A : Nat → Nat} {I I1 : Iz} (h : Fm ts A I I1) (h1 : ∀ t ∈ ts, t ∈ vs) : Fm vs A I I1 := fun b hb => h b (fun t ht => hb t (h1 t ht))
end
section
/-! ===== the static helpers of both classes ===== -/
theorem i32_le {x y : Int32} : x ≤ y ↔ x.toInt ≤ y.toInt := Int32.le_iff_toInt_le
theorem i32_lt {x y : Int32} : x < y ↔ x.toInt < y.toInt := Int32.lt_iff_toInt_lt
set_option maxHeartbeats 4000000 in
set_option maxRecDepth 100000 in
theorem cX7_isWithin_ok (l : Launch) (g : Gz) (κ : Kz) (I : Iz) (R : Rz) (J : Jz) (x y : Int32) : Ct l mX7_isWithin 0 0 g [.int x, .int y] κ I R J (Si κ R J (fun r I1 => r = bz (0 ≤ x ∧ x < y) ∧ I1 = I)) := by
  refine ct_of (by decide) (Nat.le_of_ble_eq_true rfl) ?_
  intro z hz hr hrc hrs
  have hz : Am z cX7_isWithin RX7 2 0 := hz
  have hr : Rt z yX7_isWithin (some .boolean) 0 0 _ := hr
  show V z 2 0 0 0 [(0, .int x), (1, .int y)] [] κ I R J
  refine v_iload_n hz dX7_isWithin_0 rfl ?_
  refine v_if_lt hz 13 dX7_isWithin_1 (by decide) (fun c1 => ?_) (fun c1 => ?_)
  · refine v_ic (v := nI 0) hz dX7_isWithin_13 (by decide) ?_
    exact v_zret hz hr dX7_isWithin_14 (by first | exact Or.inl rfl | exact Or.inr rfl | exact bz_01) ⟨(by first | exact (bz_t (by simp only [i32_le, i32_lt] at *; omega)).symm | exact (bz_f (by simp only [i32_le, i32_lt] at *; omega)).symm), rfl⟩
  · refine v_iload_n hz dX7_isWithin_4 rfl ?_
    refine v_iload_n hz dX7_isWithin_5 rfl ?_
    first | with_reducible refine v_icmp_geN hz 13 (by omega) (by omega) dX7_isWithin_6 (by decide) (fun c6 => ?_) (fun c6 => ?_) | refine v_icmp_ge hz 13 dX7_isWithin_6 (by decide) (fun c6 => ?_) (fun c6 => ?_)
    · refine v_ic (v := nI 0) hz dX7_isWithin_13 (by decide) ?_
      exact v_zret hz hr dX7_isWithin_14 (by first | exact Or.inl rfl | exact Or.inr rfl | exact bz_01) ⟨(by first | exact (bz_t (by simp only [i32_le, i32_lt] at *; omega)).symm | exact (bz_f (by simp only [i32_le, i32_lt] at *; omega)).symm), rfl⟩
    · refine v_ic (v := nI 1) hz dX7_isWithin_9 (by decide) ?_
      refine v_goto hz 14 dX7_isWithin_10 (by decide) ?_
      exact v_zret hz hr dX7_isWithin_14 (by first | exact Or.inl rfl | exact Or.inr rfl | exact bz_01) ⟨(by first | exact (bz_t (by simp only [i32_le, i32_lt] at *; omega)).symm | exact (bz_f (by simp only [i32_le, i32_lt] at *; omega)).symm), rfl⟩
set_option maxHeartbeats 4000000 in
set_option maxRecDepth 100000 in
theorem cX7_isSmallLetter_ok (l : Launch) (g : Gz) (κ : Kz) (I : Iz) (R : Rz) (J : Jz) (x : Int32) : Ct l mX7_isSmallLetter 0 0 g [.int x] κ I R J (Si κ R J (fun r I1 => r = bz (nI 97 ≤ x ∧ x ≤ nI 122) ∧ I1 = I)) := by
  refine ct_of (by decide) (Nat.le_of_ble_eq_true rfl) ?_
  intro z hz hr hrc hrs
  have hz : Am z cX7_isSmallLetter RX7 1 0 := hz
  have hr : Rt z yX7_isSmallLetter (some .boolean) 0 0 _ := hr
  show V z 1 0 0 0 [(0, .int x)] [] κ I R J
  refine v_iload_n hz dX7_isSmallLetter_0 rfl ?_
  refine v_bi (v := nI 97) hz dX7_isSmallLetter_1 (by decide) ?_
  first | with_reducible refine v_icmp_ltN hz 16 (by omega) (by omega) dX7_isSmallLetter_3 (by decide) (fun c3 => ?_) (fun c3 => ?_) | refine v_icmp_lt hz 16 dX7_isSmallLetter_3 (by decide) (fun c3 => ?_) (fun c3 => ?_)
  · refine v_ic (v := nI 0) hz dX7_isSmallLetter_16 (by decide) ?_
    exact v_zret hz hr dX7_isSmallLetter_17 (by first | exact Or.inl rfl | exact Or.inr rfl | exact bz_01) ⟨(by first | exact (bz_t (by simp only [i32_le, i32_lt] at *; omega)).symm | exact (bz_f (by simp only [i32_le, i32_lt] at *; omega)).symm), rfl⟩
  · refine v_iload_n hz dX7_isSmallLetter_6 rfl ?_
    refine v_bi (v := nI 122) hz dX7_isSmallLetter_7 (by decide) ?_
    first | with_reducible refine v_icmp_gtN hz 16 (by omega) (by omega) dX7_isSmallLetter_9 (by decide) (fun c9 => ?_) (fun c9 => ?_) | refine v_icmp_gt hz 16 dX7_isSmallLetter_9 (by decide) (fun c9 => ?_) (fun c9 => ?_)
    · refine v_ic (v := nI 0) hz dX7_isSmallLetter_16 (by decide) ?_
      exact v_zret hz hr dX7_isSmallLetter_17 (by first | exact Or.inl rfl | exact Or.inr rfl | exact bz_01) ⟨(by first | exact (bz_t (by simp only [i32_le, i32_lt] at *; omega)).symm | exact (bz_f (by simp only [i32_le, i32_lt] at *; omega)).symm), rfl⟩
    · refine v_ic (v := nI 1) hz dX7_isSmallLetter_12 (by decide) ?_
      refine v_goto hz 17 dX7_isSmallLetter_13 (by decide) ?_
      exact v_zret hz hr dX7_isSmallLetter_17 (by first | exact Or.inl rfl | exact Or.inr rfl | exact bz_01) ⟨(by first | exact (bz_t (by simp only [i32_le, i32_lt] at *; omega)).symm | exact (bz_f (by simp only [i32_le, i32_lt] at *; omega)).symm), rfl⟩
set_option maxHeartbeats 4000000 in
set_option maxRecDepth 100000 in
theorem cX7_letterNumber_ok (l : Launch) (g : Gz) (κ : Kz) (I : Iz) (R : Rz) (J : Jz) (x : Int32) : Ct l mX7_letterNumber 0 0 g [.int x] κ I R J (Si κ R J (fun r I1 => r = x - nI 97 + nI 1 ∧ I1 = I)) := by
  refine ct_of (by decide) (Nat.le_of_ble_eq_true rfl) ?_
  intro z hz hr hrc hrs
  have hz : Am z cX7_letterNumber RX7 1 0 := hz
  have hr : Rt z yX7_letterNumber (some .int) 0 0 _ := hr
  show V z 1 0 0 0 [(0, .int x)] [] κ I R J
  refine v_iload_n hz dX7_letterNumber_0 rfl ?_
  refine v_bi (v := nI 97) hz dX7_letterNumber_1 (by decide) ?_
  first | with_reducible refine v_isubN hz (by omega) dX7_letterNumber_3 ?_ | refine v_isub hz dX7_letterNumber_3 ?_
  refine v_ic (v := nI 1) hz dX7_letterNumber_4 (by decide) ?_
  first | with_reducible refine v_iaddN hz dX7_letterNumber_5 ?_ | refine v_iadd hz dX7_letterNumber_5 ?_
  exact v_iret hz hr dX7_letterNumber_6 ⟨rfl, rfl⟩
set_option maxHeartbeats 4000000 in
set_option maxRecDepth 100000 in
theorem cX7_gramNumber_ok (l : Launch) (g : Gz) (κ : Kz) (I : Iz) (R : Rz) (J : Jz) (x y : Int32) : Ct l mX7_gramNumber 0 0 g [.int x, .int y] κ I R J (Si κ R J (fun r I1 => r = x * nI 27 + y ∧ I1 = I)) := by
  refine ct_of (by decide) (Nat.le_of_ble_eq_true rfl) ?_
  intro z hz hr hrc hrs
  have hz : Am z cX7_gramNumber RX7 2 0 := hz
  have hr : Rt z yX7_gramNumber (some .int) 0 0 _ := hr
  show V z 2 0 0 0 [(0, .int x), (1, .int y)] [] κ I R J
  refine v_iload_n hz dX7_gramNumber_0 rfl ?_
  refine v_bi (v := nI 27) hz dX7_gramNumber_1 (by decide) ?_
  first | with_reducible refine v_imulN hz dX7_gramNumber_3 ?_ | refine v_imul hz dX7_gramNumber_3 ?_
  refine v_iload_n hz dX7_gramNumber_4 rfl ?_
  first | with_reducible refine v_iaddN hz dX7_gramNumber_5 ?_ | refine v_iadd hz dX7_gramNumber_5 ?_
  exact v_iret hz hr dX7_gramNumber_6 ⟨rfl, rfl⟩
set_option maxHeartbeats 4000000 in
set_option maxRecDepth 100000 in
theorem cX7_mix_ok (l : Launch) (g : Gz) (κ : Kz) (I : Iz) (R : Rz) (J : Jz) (h : Int64) (x : Int32) : Ct l mX7_mix 0 0 g [.long h, .int x] κ I R J (Sl κ R J (fun r I1 => r = 31 * h + x.toInt64 ∧ I1 = I)) := by
  refine ct_of (by decide) (Nat.le_of_ble_eq_true rfl) ?_
  intro z hz hr hrc hrs
  have hz : Am z cX7_mix RX7 3 0 := hz
  have hr : Rt z yX7_mix (some .long) 0 0 _ := hr
  show V z 3 0 0 0 [(0, .long h), (2, .int x)] [] κ I R J
  refine v_ldc2 (v := 31) hz (tg_mem 680 (by decide +kernel) rfl) dX7_mix_0 ?_
  refine v_lload_n hz dX7_mix_3 rfl ?_
  refine v_lmul hz dX7_mix_4 ?_
  refine v_iload_n hz dX7_mix_5 rfl ?_
  refine v_i2l hz dX7_mix_6 ?_
  refine v_ladd hz dX7_mix_7 ?_
  exact v_lret hz hr dX7_mix_8 ⟨rfl, rfl⟩
set_option maxHeartbeats 4000000 in
set_option maxRecDepth 100000 in
theorem cX8_within_ok (l : Launch) (g : Gz) (κ : Kz) (I : Iz) (R : Rz) (J : Jz) (x a b : Int32) : Ct l mX8_within 0 0 g [.int x, .int a, .int b] κ I R J (Si κ R J (fun r I1 => r = bz (a ≤ x ∧ x ≤ b) ∧ I1 = I)) := by
  refine ct_of (by decide) (Nat.le_of_ble_eq_true rfl) ?_
  intro z hz hr hrc hrs
  have hz : Am z cX8_within RX8 3 0 := hz
  have hr : Rt z yX8_within (some .boolean) 0 0 _ := hr
  show V z 3 0 0 0 [(0, .int x), (1, .int a), (2, .int b)] [] κ I R J
  refine v_iload_n hz dX8_within_0 rfl ?_
  refine v_iload_n hz dX8_within_1 rfl ?_
  first | with_reducible refine v_icmp_ltN hz 14 (by omega) (by omega) dX8_within_2 (by decide) (fun c2 => ?_) (fun c2 => ?_) | refine v_icmp_lt hz 14 dX8_within_2 (by decide) (fun c2 => ?_) (fun c2 => ?_)
  · refine v_ic (v := nI 0) hz dX8_within_14 (by decide) ?_
    exact v_zret hz hr dX8_within_15 (by first | exact Or.inl rfl | exact Or.inr rfl | exact bz_01) ⟨(by first | exact (bz_t (by simp only [i32_le, i32_lt] at *; omega)).symm | exact (bz_f (by simp only [i32_le, i32_lt] at *; omega)).symm), rfl⟩
  · refine v_iload_n hz dX8_within_5 rfl ?_
    refine v_iload_n hz dX8_within_6 rfl ?_
    first | with_reducible refine v_icmp_gtN hz 14 (by omega) (by omega) dX8_within_7 (by decide) (fun c7 => ?_) (fun c7 => ?_) | refine v_icmp_gt hz 14 dX8_within_7 (by decide) (fun c7 => ?_) (fun c7 => ?_)
    · refine v_ic (v := nI 0) hz dX8_within_14 (by decide) ?_
      exact v_zret hz hr dX8_within_15 (by first | exact Or.inl rfl | exact Or.inr rfl | exact bz_01) ⟨(by first | exact (bz_t (by simp only [i32_le, i32_lt] at *; omega)).symm | exact (bz_f (by simp only [i32_le, i32_lt] at *; omega)).symm), rfl⟩
    · refine v_ic (v := nI 1) hz dX8_within_10 (by decide) ?_
      refine v_goto hz 15 dX8_within_11 (by decide) ?_
      exact v_zret hz hr dX8_within_15 (by first | exact Or.inl rfl | exact Or.inr rfl | exact bz_01) ⟨(by first | exact (bz_t (by simp only [i32_le, i32_lt] at *; omega)).symm | exact (bz_f (by simp only [i32_le, i32_lt] at *; omega)).symm), rfl⟩
set_option maxHeartbeats 4000000 in
set_option maxRecDepth 100000 in
theorem cX8_least_ok (l : Launch) (g : Gz) (κ : Kz) (I : Iz) (R : Rz) (J : Jz) (x y : Int32) : Ct l mX8_least 0 0 g [.int x, .int y] κ I R J (Si κ R J (fun r I1 => r = (if x < y then x else y) ∧ I1 = I)) := by
  refine ct_of (by decide) (Nat.le_of_ble_eq_true rfl) ?_
  intro z hz hr hrc hrs
  have hz : Am z cX8_least RX8 2 0 := hz
  have hr : Rt z yX8_least (some .int) 0 0 _ := hr
  show V z 2 0 0 0 [(0, .int x), (1, .int y)] [] κ I R J
  refine v_iload_n hz dX8_least_0 rfl ?_
  refine v_iload_n hz dX8_least_1 rfl ?_
  first | with_reducible refine v_icmp_geN hz 9 (by omega) (by omega) dX8_least_2 (by decide) (fun c2 => ?_) (fun c2 => ?_) | refine v_icmp_ge hz 9 dX8_least_2 (by decide) (fun c2 => ?_) (fun c2 => ?_)
  · refine v_iload_n hz dX8_least_9 rfl ?_
    exact v_iret hz hr dX8_least_10 ⟨by simp only [i32_le, i32_lt] at *; split <;> first | rfl | omega, rfl⟩
  · refine v_iload_n hz dX8_least_5 rfl ?_
    refine v_goto hz 10 dX8_least_6 (by decide) ?_
    exact v_iret hz hr dX8_least_10 ⟨by simp only [i32_le, i32_lt] at *; split <;> first | rfl | omega, rfl⟩
set_option maxHeartbeats 4000000 in
set_option maxRecDepth 100000 in
theorem cX8_gramSign_ok (l : Launch) (g : Gz) (κ : Kz) (I : Iz) (R : Rz) (J : Jz) (x : Int32) : Ct l mX8_gramSign 0 0 g [.int x] κ I R J (Si κ R J (fun r I1 => r = (if x = nI 94 then nI 0 else if x = nI 36 then nI 27 else x - nI 97 + nI 1) ∧ I1 = I)) := by
  refine ct_of (by decide) (Nat.le_of_ble_eq_true rfl) ?_
  intro z hz hr hrc hrs
  have hz : Am z cX8_gramSign RX8 1 0 := hz
  have hr : Rt z yX8_gramSign (some .int) 0 0 _ := hr
  show V z 1 0 0 0 [(0, .int x)] [] κ I R J
  refine v_iload_n hz dX8_gramSign_0 rfl ?_
  refine v_bi (v := nI 94) hz dX8_gramSign_1 (by decide) ?_
  first | with_reducible refine v_icmp_neN hz 10 (by omega) (by omega) dX8_gramSign_3 (by decide) (fun c3 => ?_) (fun c3 => ?_) | refine v_icmp_ne hz 10 dX8_gramSign_3 (by decide) (fun c3 => ?_) (fun c3 => ?_)
  · refine v_iload_n hz dX8_gramSign_10 rfl ?_
    refine v_bi (v := nI 36) hz dX8_gramSign_11 (by decide) ?_
    first | with_reducible refine v_icmp_neN hz 21 (by omega) (by omega) dX8_gramSign_13 (by decide) (fun c13 => ?_) (fun c13 => ?_) | refine v_icmp_ne hz 21 dX8_gramSign_13 (by decide) (fun c13 => ?_) (fun c13 => ?_)
    · refine v_iload_n hz dX8_gramSign_21 rfl ?_
      refine v_bi (v := nI 97) hz dX8_gramSign_22 (by decide) ?_
      first | with_reducible refine v_isubN hz (by omega) dX8_gramSign_24 ?_ | refine v_isub hz dX8_gramSign_24 ?_
      refine v_ic (v := nI 1) hz dX8_gramSign_25 (by decide) ?_
      first | with_reducible refine v_iaddN hz dX8_gramSign_26 ?_ | refine v_iadd hz dX8_gramSign_26 ?_
      exact v_iret hz hr dX8_gramSign_27 ⟨by simp_all, rfl⟩
    · refine v_bi (v := nI 27) hz dX8_gramSign_16 (by decide) ?_
      refine v_goto hz 27 dX8_gramSign_18 (by decide) ?_
      exact v_iret hz hr dX8_gramSign_27 ⟨by simp_all, rfl⟩
  · refine v_ic (v := nI 0) hz dX8_gramSign_6 (by decide) ?_
    refine v_goto hz 27 dX8_gramSign_7 (by decide) ?_
    exact v_iret hz hr dX8_gramSign_27 ⟨by simp_all, rfl⟩
set_option maxHeartbeats 4000000 in
set_option maxRecDepth 100000 in
theorem cX8_isLetter_ok (l : Launch) (g : Gz) (κ : Kz) (I : Iz) (R : Rz) (J : Jz) (x : Int32) : Ct l mX8_isLetter 0 0 g [.int x] κ I R J (Si κ R J (fun r I1 => r = bz (nI 97 ≤ x ∧ x ≤ nI 122) ∧ I1 = I)) := by
  refine ct_of (by decide) (Nat.le_of_ble_eq_true rfl) ?_
  intro z hz hr hrc hrs
  have hz : Am z cX8_isLetter RX8 1 1 := hz
  have hr : Rt z yX8_isLetter (some .boolean) 0 0 _ := hr
  show V z 1 0 0 0 [(0, .int x)] [] κ I R J
  refine v_iload_n hz dX8_isLetter_0 rfl ?_
  refine v_bi (v := nI 97) hz dX8_isLetter_1 (by decide) ?_
  refine v_bi (v := nI 122) hz dX8_isLetter_3 (by decide) ?_
  refine v_callSi hz lX8_75 (cX8_within_ok _ _ _ _ _ _ _ _ _) rfl rfl (Nat.le_of_ble_eq_true rfl) (by decide) ⟨Nat.zero_le _, Nat.zero_le _⟩ dX8_isLetter_5 (fun r I1 h5 => ?_)
  obtain ⟨rfl, rfl⟩ := h5
  exact v_zret hz hr dX8_isLetter_8 (by first | exact Or.inl rfl | exact Or.inr rfl | exact bz_01) ⟨rfl, rfl⟩
set_option maxHeartbeats 4000000 in
set_option maxRecDepth 100000 in
theorem cX8_size_ok (l : Launch) (g : Gz) (κ : Kz) (I : Iz) (R : Rz) (J : Jz) (x : Int32) : Ct l mX8_size 0 0 g [.int x] κ I R J (Si κ R J (fun r I1 => r = (if x < 0 then -x else x) ∧ I1 = I)) := by
  refine ct_of (by decide) (Nat.le_of_ble_eq_true rfl) ?_
  intro z hz hr hrc hrs
  have hz : Am z cX8_size RX8 1 0 := hz
  have hr : Rt z yX8_size (some .int) 0 0 _ := hr
  show V z 1 0 0 0 [(0, .int x)] [] κ I R J
  refine v_iload_n hz dX8_size_0 rfl ?_
  refine v_if_ge hz 9 dX8_size_1 (by decide) (fun c1 => ?_) (fun c1 => ?_)
  · refine v_iload_n hz dX8_size_9 rfl ?_
    exact v_iret hz hr dX8_size_10 ⟨by simp only [i32_le, i32_lt] at *; split <;> first | rfl | omega, rfl⟩
  · refine v_iload_n hz dX8_size_4 rfl ?_
    refine v_ineg hz dX8_size_5 ?_
    refine v_goto hz 10 dX8_size_6 (by decide) ?_
    exact v_iret hz hr dX8_size_10 ⟨by simp only [i32_le, i32_lt] at *; split <;> first | rfl | omega, rfl⟩
set_option maxHeartbeats 4000000 in
set_option maxRecDepth 100000 in
theorem cX8_bit_ok (l : Launch) (g : Gz) (κ : Kz) (I : Iz) (R : Rz) (J : Jz) (q : Prop) [Decidable q] : Ct l mX8_bit 0 0 g [.int (bz q)] κ I R J (Si κ R J (fun r I1 => r = bz q ∧ I1 = I)) := by
  refine ct_of (by decide) (Nat.le_of_ble_eq_true rfl) ?_
  intro z hz hr hrc hrs
  have hz : Am z cX8_bit RX8 1 0 := hz
  have hr : Rt z yX8_bit (some .int) 0 0 _ := hr
  show V z 1 0 0 0 [(0, .int (bz q))] [] κ I R J
  refine v_iload_n hz dX8_bit_0 rfl ?_
  first | with_reducible refine v_if_eqB hz 8 dX8_bit_1 (by decide) (fun c1 => ?_) (fun c1 => ?_) | with_reducible refine v_if_eqN hz 8 (by omega) dX8_bit_1 (by decide) (fun c1 => ?_) (fun c1 => ?_) | refine v_if_eq hz 8 dX8_bit_1 (by decide) (fun c1 => ?_) (fun c1 => ?_)
  · refine v_ic (v := nI 0) hz dX8_bit_8 (by decide) ?_
    exact v_iret hz hr dX8_bit_9 ⟨by first | exact (bz_t (by assumption)).symm | exact (bz_f (by assumption)).symm, rfl⟩
  · refine v_ic (v := nI 1) hz dX8_bit_4 (by decide) ?_
    refine v_goto hz 9 dX8_bit_5 (by decide) ?_
    exact v_iret hz hr dX8_bit_9 ⟨by first | exact (bz_t (by assumption)).symm | exact (bz_f (by assumption)).symm, rfl⟩
end
section
/-! ===== the reference: its cells by their tags (130 the object, 130 + f the row of the field f) ===== -/
theorem tag_ne {κ : Kz} {x y s t : Nat} (h1 : κ.2.2 x = s) (h2 : κ.2.2 y = t) (h : s ≠ t) : x ≠ y := fun e => h (by rw [← h1, ← h2, e])
def mArr : List (Nat × Nat × Nat) := [(1, 9, 48), (4, 9, 14), (5, 9, 14), (6, 9, 112), (7, 9, 112), (8, 9, 1344), (15, 9, 169), (16, 9, 81), (17, 9, 64), (19, 9, 16), (20, 9, 16), (21, 9, 16), (22, 9, 16), (23, 9, 784), (25, 9, 12), (26, 9, 12), (27, 9, 12), (28, 10, 8), (29, 10, 784)]
def LM (κ : Kz) (R : Rz) (A : Nat → Nat) : Prop := κ.1 (A 130) = 8 ∧ κ.2.2 (A 130) = 130 ∧ ∀ f t n, (f, t, n) ∈ mArr → R (A 130) f = some (A (130 + f)) ∧ κ.1 (A (130 + f)) = t ∧ κ.2.1 (A (130 + f)) = n ∧ κ.2.2 (A (130 + f)) = 130 + f
theorem LM.k {κ : Kz} {R : Rz} {A : Nat → Nat} (h : LM κ R A) : κ.1 (A 130) = 8 := h.1
theorem LM.o {κ : Kz} {R : Rz} {A : Nat → Nat} (h : LM κ R A) : κ.2.2 (A 130) = 130 := h.2.1
theorem LM.r1 {κ : Kz} {R : Rz} {A : Nat → Nat} (h : LM κ R A) : R (A 130) 1 = some (A 131) := (h.2.2 1 9 48 (by decide)).1
theorem LM.k1 {κ : Kz} {R : Rz} {A : Nat → Nat} (h : LM κ R A) : κ.1 (A 131) = 9 := (h.2.2 1 9 48 (by decide)).2.1
theorem LM.n1 {κ : Kz} {R : Rz} {A : Nat → Nat} (h : LM κ R A) : κ.2.1 (A 131) = 48 := (h.2.2 1 9 48 (by decide)).2.2.1
theorem LM.o1 {κ : Kz} {R : Rz} {A : Nat → Nat} (h : LM κ R A) : κ.2.2 (A 131) = 131 := (h.2.2 1 9 48 (by decide)).2.2.2
theorem LM.r4 {κ : Kz} {R : Rz} {A : Nat → Nat} (h : LM κ R A) : R (A 130) 4 = some (A 134) := (h.2.2 4 9 14 (by decide)).1
theorem LM.k4 {κ : Kz} {R : Rz} {A : Nat → Nat} (h : LM κ R A) : κ.1 (A 134) = 9 := (h.2.2 4 9 14 (by decide)).2.1
theorem LM.n4 {κ : Kz} {R : Rz} {A : Nat → Nat} (h : LM κ R A) : κ.2.1 (A 134) = 14 := (h.2.2 4 9 14 (by decide)).2.2.1
theorem LM.o4 {κ : Kz} {R : Rz} {A : Nat → Nat} (h : LM κ R A) : κ.2.2 (A 134) = 134 := (h.2.2 4 9 14 (by decide)).2.2.2
theorem LM.r5 {κ : Kz} {R : Rz} {A : Nat → Nat} (h : LM κ R A) : R (A 130) 5 = some (A 135) := (h.2.2 5 9 14 (by decide)).1
theorem LM.k5 {κ : Kz} {R : Rz} {A : Nat → Nat} (h : LM κ R A) : κ.1 (A 135) = 9 := (h.2.2 5 9 14 (by decide)).2.1
theorem LM.n5 {κ : Kz} {R : Rz} {A : Nat → Nat} (h : LM κ R A) : κ.2.1 (A 135) = 14 := (h.2.2 5 9 14 (by decide)).2.2.1
theorem LM.o5 {κ : Kz} {R : Rz} {A : Nat → Nat} (h : LM κ R A) : κ.2.2 (A 135) = 135 := (h.2.2 5 9 14 (by decide)).2.2.2
theorem LM.r6 {κ : Kz} {R : Rz} {A : Nat → Nat} (h : LM κ R A) : R (A 130) 6 = some (A 136) := (h.2.2 6 9 112 (by decide)).1
theorem LM.k6 {κ : Kz} {R : Rz} {A : Nat → Nat} (h : LM κ R A) : κ.1 (A 136) = 9 := (h.2.2 6 9 112 (by decide)).2.1
theorem LM.n6 {κ : Kz} {R : Rz} {A : Nat → Nat} (h : LM κ R A) : κ.2.1 (A 136) = 112 := (h.2.2 6 9 112 (by decide)).2.2.1
theorem LM.o6 {κ : Kz} {R : Rz} {A : Nat → Nat} (h : LM κ R A) : κ.2.2 (A 136) = 136 := (h.2.2 6 9 112 (by decide)).2.2.2
theorem LM.r7 {κ : Kz} {R : Rz} {A : Nat → Nat} (h : LM κ R A) : R (A 130) 7 = some (A 137) := (h.2.2 7 9 112 (by decide)).1
theorem LM.k7 {κ : Kz} {R : Rz} {A : Nat → Nat} (h : LM κ R A) : κ.1 (A 137) = 9 := (h.2.2 7 9 112 (by decide)).2.1
theorem LM.n7 {κ : Kz} {R : Rz} {A : Nat → Nat} (h : LM κ R A) : κ.2.1 (A 137) = 112 := (h.2.2 7 9 112 (by decide)).2.2.1
theorem LM.o7 {κ : Kz} {R : Rz} {A : Nat → Nat} (h : LM κ R A) : κ.2.2 (A 137) = 137 := (h.2.2 7 9 112 (by decide)).2.2.2
theorem LM.r8 {κ : Kz} {R : Rz} {A : Nat → Nat} (h : LM κ R A) : R (A 130) 8 = some (A 138) := (h.2.2 8 9 1344 (by decide)).1
theorem LM.k8 {κ : Kz} {R : Rz} {A : Nat → Nat} (h : LM κ R A) : κ.1 (A 138) = 9 := (h.2.2 8 9 1344 (by decide)).2.1
theorem LM.n8 {κ : Kz} {R : Rz} {A : Nat → Nat} (h : LM κ R A) : κ.2.1 (A 138) = 1344 := (h.2.2 8 9 1344 (by decide)).2.2.1
theorem LM.o8 {κ : Kz} {R : Rz} {A : Nat → Nat} (h : LM κ R A) : κ.2.2 (A 138) = 138 := (h.2.2 8 9 1344 (by decide)).2.2.2
theorem LM.r15 {κ : Kz} {R : Rz} {A : Nat → Nat} (h : LM κ R A) : R (A 130) 15 = some (A 145) := (h.2.2 15 9 169 (by decide)).1
theorem LM.k15 {κ : Kz} {R : Rz} {A : Nat → Nat} (h : LM κ R A) : κ.1 (A 145) = 9 := (h.2.2 15 9 169 (by decide)).2.1
theorem LM.n15 {κ : Kz} {R : Rz} {A : Nat → Nat} (h : LM κ R A) : κ.2.1 (A 145) = 169 := (h.2.2 15 9 169 (by decide)).2.2.1
theorem LM.o15 {κ : Kz} {R : Rz} {A : Nat → Nat} (h : LM κ R A) : κ.2.2 (A 145) = 145 := (h.2.2 15 9 169 (by decide)).2.2.2
theorem LM.r16 {κ : Kz} {R : Rz} {A : Nat → Nat} (h : LM κ R A) : R (A 130) 16 = some (A 146) := (h.2.2 16 9 81 (by decide)).1
theorem LM.k16 {κ : Kz} {R : Rz} {A : Nat → Nat} (h : LM κ R A) : κ.1 (A 146) = 9 := (h.2.2 16 9 81 (by decide)).2.1
theorem LM.n16 {κ : Kz} {R : Rz} {A : Nat → Nat} (h : LM κ R A) : κ.2.1 (A 146) = 81 := (h.2.2 16 9 81 (by decide)).2.2.1
theorem LM.o16 {κ : Kz} {R : Rz} {A : Nat → Nat} (h : LM κ R A) : κ.2.2 (A 146) = 146 := (h.2.2 16 9 81 (by decide)).2.2.2
theorem LM.r17 {κ : Kz} {R : Rz} {A : Nat → Nat} (h : LM κ R A) : R (A 130) 17 = some (A 147) := (h.2.2 17 9 64 (by decide)).1
theorem LM.k17 {κ : Kz} {R : Rz} {A : Nat → Nat} (h : LM κ R A) : κ.1 (A 147) = 9 := (h.2.2 17 9 64 (by decide)).2.1
theorem LM.n17 {κ : Kz} {R : Rz} {A : Nat → Nat} (h : LM κ R A) : κ.2.1 (A 147) = 64 := (h.2.2 17 9 64 (by decide)).2.2.1
theorem LM.o17 {κ : Kz} {R : Rz} {A : Nat → Nat} (h : LM κ R A) : κ.2.2 (A 147) = 147 := (h.2.2 17 9 64 (by decide)).2.2.2
theorem LM.r19 {κ : Kz} {R : Rz} {A : Nat → Nat} (h : LM κ R A) : R (A 130) 19 = some (A 149) := (h.2.2 19 9 16 (by decide)).1
theorem LM.k19 {κ : Kz} {R : Rz} {A : Nat → Nat} (h : LM κ R A) : κ.1 (A 149) = 9 := (h.2.2 19 9 16 (by decide)).2.1
theorem LM.n19 {κ : Kz} {R : Rz} {A : Nat → Nat} (h : LM κ R A) : κ.2.1 (A 149) = 16 := (h.2.2 19 9 16 (by decide)).2.2.1
theorem LM.o19 {κ : Kz} {R : Rz} {A : Nat → Nat} (h : LM κ R A) : κ.2.2 (A 149) = 149 := (h.2.2 19 9 16 (by decide)).2.2.2
theorem LM.r20 {κ : Kz} {R : Rz} {A : Nat → Nat} (h : LM κ R A) : R (A 130) 20 = some (A 150) := (h.2.2 20 9 16 (by decide)).1
theorem LM.k20 {κ : Kz} {R : Rz} {A : Nat → Nat} (h : LM κ R A) : κ.1 (A 150) = 9 := (h.2.2 20 9 16 (by decide)).2.1
theorem LM.n20 {κ : Kz} {R : Rz} {A : Nat → Nat} (h : LM κ R A) : κ.2.1 (A 150) = 16 := (h.2.2 20 9 16 (by decide)).2.2.1
theorem LM.o20 {κ : Kz} {R : Rz} {A : Nat → Nat} (h : LM κ R A) : κ.2.2 (A 150) = 150 := (h.2.2 20 9 16 (by decide)).2.2.2
theorem LM.r21 {κ : Kz} {R : Rz} {A : Nat → Nat} (h : LM κ R A) : R (A 130) 21 = some (A 151) := (h.2.2 21 9 16 (by decide)).1
theorem LM.k21 {κ : Kz} {R : Rz} {A : Nat → Nat} (h : LM κ R A) : κ.1 (A 151) = 9 := (h.2.2 21 9 16 (by decide)).2.1
theorem LM.n21 {κ : Kz} {R : Rz} {A : Nat → Nat} (h : LM κ R A) : κ.2.1 (A 151) = 16 := (h.2.2 21 9 16 (by decide)).2.2.1
theorem LM.o21 {κ : Kz} {R : Rz} {A : Nat → Nat} (h : LM κ R A) : κ.2.2 (A 151) = 151 := (h.2.2 21 9 16 (by decide)).2.2.2
theorem LM.r22 {κ : Kz} {R : Rz} {A : Nat → Nat} (h : LM κ R A) : R (A 130) 22 = some (A 152) := (h.2.2 22 9 16 (by decide)).1
theorem LM.k22 {κ : Kz} {R : Rz} {A : Nat → Nat} (h : LM κ R A) : κ.1 (A 152) = 9 := (h.2.2 22 9 16 (by decide)).2.1
theorem LM.n22 {κ : Kz} {R : Rz} {A : Nat → Nat} (h : LM κ R A) : κ.2.1 (A 152) = 16 := (h.2.2 22 9 16 (by decide)).2.2.1
theorem LM.o22 {κ : Kz} {R : Rz} {A : Nat → Nat} (h : LM κ R A) : κ.2.2 (A 152) = 152 := (h.2.2 22 9 16 (by decide)).2.2.2
theorem LM.r23 {κ : Kz} {R : Rz} {A : Nat → Nat} (h : LM κ R A) : R (A 130) 23 = some (A 153) := (h.2.2 23 9 784 (by decide)).1
theorem LM.k23 {κ : Kz} {R : Rz} {A : Nat → Nat} (h : LM κ R A) : κ.1 (A 153) = 9 := (h.2.2 23 9 784 (by decide)).2.1
theorem LM.n23 {κ : Kz} {R : Rz} {A : Nat → Nat} (h : LM κ R A) : κ.2.1 (A 153) = 784 := (h.2.2 23 9 784 (by decide)).2.2.1
theorem LM.o23 {κ : Kz} {R : Rz} {A : Nat → Nat} (h : LM κ R A) : κ.2.2 (A 153) = 153 := (h.2.2 23 9 784 (by decide)).2.2.2
theorem LM.r25 {κ : Kz} {R : Rz} {A : Nat → Nat} (h : LM κ R A) : R (A 130) 25 = some (A 155) := (h.2.2 25 9 12 (by decide)).1
theorem LM.k25 {κ : Kz} {R : Rz} {A : Nat → Nat} (h : LM κ R A) : κ.1 (A 155) = 9 := (h.2.2 25 9 12 (by decide)).2.1
theorem LM.n25 {κ : Kz} {R : Rz} {A : Nat → Nat} (h : LM κ R A) : κ.2.1 (A 155) = 12 := (h.2.2 25 9 12 (by decide)).2.2.1
theorem LM.o25 {κ : Kz} {R : Rz} {A : Nat → Nat} (h : LM κ R A) : κ.2.2 (A 155) = 155 := (h.2.2 25 9 12 (by decide)).2.2.2
theorem LM.r26 {κ : Kz} {R : Rz} {A : Nat → Nat} (h : LM κ R A) : R (A 130) 26 = some (A 156) := (h.2.2 26 9 12 (by decide)).1
theorem LM.k26 {κ : Kz} {R : Rz} {A : Nat → Nat} (h : LM κ R A) : κ.1 (A 156) = 9 := (h.2.2 26 9 12 (by decide)).2.1
theorem LM.n26 {κ : Kz} {R : Rz} {A : Nat → Nat} (h : LM κ R A) : κ.2.1 (A 156) = 12 := (h.2.2 26 9 12 (by decide)).2.2.1
theorem LM.o26 {κ : Kz} {R : Rz} {A : Nat → Nat} (h : LM κ R A) : κ.2.2 (A 156) = 156 := (h.2.2 26 9 12 (by decide)).2.2.2
theorem LM.r27 {κ : Kz} {R : Rz} {A : Nat → Nat} (h : LM κ R A) : R (A 130) 27 = some (A 157) := (h.2.2 27 9 12 (by decide)).1
theorem LM.k27 {κ : Kz} {R : Rz} {A : Nat → Nat} (h : LM κ R A) : κ.1 (A 157) = 9 := (h.2.2 27 9 12 (by decide)).2.1
theorem LM.n27 {κ : Kz} {R : Rz} {A : Nat → Nat} (h : LM κ R A) : κ.2.1 (A 157) = 12 := (h.2.2 27 9 12 (by decide)).2.2.1
theorem LM.o27 {κ : Kz} {R : Rz} {A : Nat → Nat} (h : LM κ R A) : κ.2.2 (A 157) = 157 := (h.2.2 27 9 12 (by decide)).2.2.2
theorem LM.r28 {κ : Kz} {R : Rz} {A : Nat → Nat} (h : LM κ R A) : R (A 130) 28 = some (A 158) := (h.2.2 28 10 8 (by decide)).1
theorem LM.k28 {κ : Kz} {R : Rz} {A : Nat → Nat} (h : LM κ R A) : κ.1 (A 158) = 10 := (h.2.2 28 10 8 (by decide)).2.1
theorem LM.n28 {κ : Kz} {R : Rz} {A : Nat → Nat} (h : LM κ R A) : κ.2.1 (A 158) = 8 := (h.2.2 28 10 8 (by decide)).2.2.1
theorem LM.o28 {κ : Kz} {R : Rz} {A : Nat → Nat} (h : LM κ R A) : κ.2.2 (A 158) = 158 := (h.2.2 28 10 8 (by decide)).2.2.2
theorem LM.r29 {κ : Kz} {R : Rz} {A : Nat → Nat} (h : LM κ R A) : R (A 130) 29 = some (A 159) := (h.2.2 29 10 784 (by decide)).1
theorem LM.k29 {κ : Kz} {R : Rz} {A : Nat → Nat} (h : LM κ R A) : κ.1 (A 159) = 10 := (h.2.2 29 10 784 (by decide)).2.1
theorem LM.n29 {κ : Kz} {R : Rz} {A : Nat → Nat} (h : LM κ R A) : κ.2.1 (A 159) = 784 := (h.2.2 29 10 784 (by decide)).2.2.1
theorem LM.o29 {κ : Kz} {R : Rz} {A : Nat → Nat} (h : LM κ R A) : κ.2.2 (A 159) = 159 := (h.2.2 29 10 784 (by decide)).2.2.2
end
section
/-! ===== the least number of letters to alter ===== -/
def lev (x y : Nat → Nat) : Nat → Nat → Nat
  | 0, b => b
  | a + 1, 0 => a + 1
  | a + 1, b + 1 => min (lev x y a b + (if x a = y b then 0 else 1)) (1 + min (lev x y a (b + 1)) (lev x y (a + 1) b))
termination_by a b => a + b
theorem lev_0 (x y : Nat → Nat) (b : Nat) : lev x y 0 b = b := by rw [lev]
theorem lev_s0 (x y : Nat → Nat) (a : Nat) : lev x y (a + 1) 0 = a + 1 := by rw [lev]
theorem lev_a0 (x y : Nat → Nat) (a : Nat) : lev x y a 0 = a := by
  cases a with
  | zero => rw [lev_0]
  | succ a => rw [lev_s0]
theorem lev_ss (x y : Nat → Nat) (a b : Nat) : lev x y (a + 1) (b + 1) = min (lev x y a b + (if x a = y b then 0 else 1)) (1 + min (lev x y a (b + 1)) (lev x y (a + 1) b)) := by rw [lev]
theorem lev_le (x y : Nat → Nat) : ∀ a b : Nat, lev x y a b ≤ a + b
  | 0, b => by rw [lev_0]; omega
  | a + 1, 0 => by rw [lev_s0]; omega
  | a + 1, b + 1 => by
    rw [lev_ss]
    have := lev_le x y a (b + 1)
    omega
theorem lev_p1 {x y : Nat → Nat} {a b : Nat} (h : ¬ a ≠ 0) : b = lev x y a b := by
  have e : a = 0 := by omega
  rw [e, lev_0]
theorem lev_p2 {x y : Nat → Nat} {a b : Nat} (h : ¬ b ≠ 0) : a = lev x y a b := by
  have e : b = 0 := by omega
  rw [e, lev_a0]
theorem lev_p3 {x y : Nat → Nat} {a b : Nat} (ha : a ≠ 0) (hb : b ≠ 0) (hc : x (a - 1) ≠ y (b - 1)) : min (lev x y (a - 1) (b - 1) + 1) (1 + min (lev x y (a - 1) b) (lev x y a (b - 1))) = lev x y a b := by
  obtain ⟨a, rfl⟩ : ∃ q, a = q + 1 := ⟨a - 1, by omega⟩
  obtain ⟨b, rfl⟩ : ∃ q, b = q + 1 := ⟨b - 1, by omega⟩
  simp only [Nat.add_sub_cancel] at hc ⊢
  rw [lev_ss, if_neg hc]
theorem lev_p4 {x y : Nat → Nat} {a b : Nat} (ha : a ≠ 0) (hb : b ≠ 0) (hc : ¬ x (a - 1) ≠ y (b - 1)) : min (lev x y (a - 1) (b - 1) + 0) (1 + min (lev x y (a - 1) b) (lev x y a (b - 1))) = lev x y a b := by
  obtain ⟨a, rfl⟩ : ∃ q, a = q + 1 := ⟨a - 1, by omega⟩
  obtain ⟨b, rfl⟩ : ∃ q, b = q + 1 := ⟨b - 1, by omega⟩
  simp only [Nat.add_sub_cancel] at hc ⊢
  rw [lev_ss, if_pos (Classical.not_not.mp hc)]
/-- a sign of the reference, at its place q: its letters -/
def msn (I : Iz) (A : Nat → Nat) (q L : Nat) (T : Nat → Nat) : Prop := q < 112 ∧ L ≤ 12 ∧ I (A 136) q = nI L ∧ ∀ j, j < L → I (A 138) (12 * q + j) = nI (T j) ∧ T j < 128
theorem msn.keep {I I1 : Iz} {A : Nat → Nat} {q L : Nat} {T : Nat → Nat} (h : msn I A q L T) (h6 : I1 (A 136) = I (A 136)) (h8 : I1 (A 138) = I (A 138)) : msn I1 A q L T := by
  unfold msn
  rw [h6, h8]
  exact h
theorem nI_min {a b : Nat} (ha : a < 2147483648) (hb : b < 2147483648) : (if nI a < nI b then nI a else nI b) = nI (min a b) := by
  by_cases h : a < b
  · rw [if_pos ((nI_ltI ha hb).mpr h), Nat.min_eq_left (by omega)]
  · rw [if_neg (fun q => h ((nI_ltI ha hb).mp q)), Nat.min_eq_right (by omega)]
def levF (I : Iz) (A : Nat → Nat) (T1 T2 : Nat → Nat) (L1 L2 a b : Nat) : Prop := ∀ a' b', a' ≤ L1 → b' ≤ L2 → (a' < a ∨ (a' = a ∧ b' < b)) → I (A 145) (13 * a' + b') = nI (lev T1 T2 a' b')
theorem levF.put {I : Iz} {A : Nat → Nat} {T1 T2 : Nat → Nat} {L1 L2 a b x : Nat} (h : levF I A T1 T2 L1 L2 a b) (hL : L2 ≤ 12) (ha : a ≤ L1) (hb : b ≤ L2) (hx : x = lev T1 T2 a b) : levF (u2 I (A 145) (13 * a + b) (nI x)) A T1 T2 L1 L2 a (b + 1) := by
  intro a' b' h1 h2 h3
  by_cases e : a' = a ∧ b' = b
  · obtain ⟨rfl, rfl⟩ := e
    rw [u2_eq, hx]
  · rw [u2_at (by omega)]
    exact h a' b' h1 h2 (by omega)
set_option maxHeartbeats 4000000 in
set_option maxRecDepth 100000 in
theorem lp_changes_in {z : Zz} {κ : Kz} {R : Rz} {J : Jz} {A : Nat → Nat} (hz : Am z cX8_changes RX8 8 1) (hm : LM κ R A) {I0 : Iz} {q1 q2 L1 L2 : Nat} {T1 T2 : Nat → Nat} (h1 : msn I0 A q1 L1 T1) (h2 : msn I0 A q2 L2 T2) (a : Nat) (ha : a ≤ L1) (K : ∀ I1, (∀ b, b ≠ A 145 → I1 b = I0 b) → levF I1 A T1 T2 L1 L2 a (L2 + 1) → V z 8 0 0 187 [(0, .ref (A 130)), (1, .int (nI q1)), (2, .int (nI q2)), (3, .int (nI L1)), (4, .int (nI L2)), (5, .int (nI a))] [] κ I1 R J) :
    ∀ (n b : Nat) (I : Iz), b ≤ L2 + 1 → L2 + 2 ≤ b + n → (∀ b, b ≠ A 145 → I b = I0 b) → levF I A T1 T2 L1 L2 a b → V z 8 0 0 27 [(0, .ref (A 130)), (1, .int (nI q1)), (2, .int (nI q2)), (3, .int (nI L1)), (4, .int (nI L2)), (5, .int (nI a)), (6, .int (nI b))] [] κ I R J := by
  have hk := hm.k
  have ho := hm.o
  have hR6 := hm.r6
  have hK6 := hm.k6
  have hN6 := hm.n6
  have hO6 := hm.o6
  have hR8 := hm.r8
  have hK8 := hm.k8
  have hN8 := hm.n8
  have hO8 := hm.o8
  have hR15 := hm.r15
  have hK15 := hm.k15
  have hN15 := hm.n15
  have hO15 := hm.o15
  obtain ⟨hq1, hL1, hs1, ht1⟩ := h1
  obtain ⟨hq2, hL2, hs2, ht2⟩ := h2
  intro n
  induction n with
  | zero => intro b I hb hn; exact absurd hn (by omega)
  | succ n ih =>
  intro b I hb hn hC hF
  have e6 : I (A 136) = I0 (A 136) := hC _ (tag_ne hO6 hO15 (by decide))
  have e8 : I (A 138) = I0 (A 138) := hC _ (tag_ne hO8 hO15 (by decide))
  refine v_iload hz dX8_changes_27 rfl ?_
  refine v_iload hz dX8_changes_29 rfl ?_
  first | with_reducible refine v_icmp_gtN hz 187 (by omega) (by omega) dX8_changes_31 (by decide) (fun c31 => ?_) (fun c31 => ?_) | refine v_icmp_gt hz 187 dX8_changes_31 (by decide) (fun c31 => ?_) (fun c31 => ?_)
  · exact v_sub (K I hC (by intro a2 b2 g1 g2 g3; exact hF a2 b2 g1 g2 (by omega))) ⟨rfl, rfl, rfl, rfl, rfl, rfl, trivial⟩
  · refine v_iload hz dX8_changes_34 rfl ?_
    first | with_reducible refine v_if_neB hz 44 dX8_changes_36 (by decide) (fun c36 => ?_) (fun c36 => ?_) | with_reducible refine v_if_neN hz 44 (by omega) dX8_changes_36 (by decide) (fun c36 => ?_) (fun c36 => ?_) | refine v_if_ne hz 44 dX8_changes_36 (by decide) (fun c36 => ?_) (fun c36 => ?_)
    · first
      | (exfalso; omega)
      | (refine v_iload hz dX8_changes_44 rfl ?_
         first | with_reducible refine v_if_neB hz 54 dX8_changes_46 (by decide) (fun c46 => ?_) (fun c46 => ?_) | with_reducible refine v_if_neN hz 54 (by omega) dX8_changes_46 (by decide) (fun c46 => ?_) (fun c46 => ?_) | refine v_if_ne hz 54 dX8_changes_46 (by decide) (fun c46 => ?_) (fun c46 => ?_)
         · first
           | (exfalso; omega)
           | (refine v_aload_n hz dX8_changes_54 rfl ?_
              refine v_getR hz fX8_35 (by assumption) (by assumption) dX8_changes_55 ?_
              refine v_bi (v := nI 13) hz dX8_changes_58 (by decide) ?_
              refine v_iload hz dX8_changes_60 rfl ?_
              refine v_ic (v := nI 1) hz dX8_changes_62 (by decide) ?_
              refine v_isubN hz (by omega) dX8_changes_63 ?_
              first | with_reducible refine v_imulN hz dX8_changes_64 ?_ | refine v_imul hz dX8_changes_64 ?_
              refine v_iload hz dX8_changes_65 rfl ?_
              first | with_reducible refine v_iaddN hz dX8_changes_67 ?_ | refine v_iadd hz dX8_changes_67 ?_
              refine v_ic (v := nI 1) hz dX8_changes_68 (by decide) ?_
              refine v_isubN hz (by omega) dX8_changes_69 ?_
              refine v_ialdN hz (by assumption) (by assumption) (by omega) (by decide) dX8_changes_70 ?_
              refine v_top (y := nI (lev T1 T2 (a - 1) (b - 1))) (by rw [show 13 * (a - 1) + b - 1 = 13 * (a - 1) + (b - 1) by omega]; exact hF (a - 1) (b - 1) (by omega) (by omega) (by omega)) ?_
              refine v_istore hz dX8_changes_71 (by decide) rfl ?_
              refine v_iload hz dX8_changes_73 rfl ?_
              first | with_reducible refine v_if_leN hz 166 (by omega) dX8_changes_75 (by decide) (fun c75 => ?_) (fun c75 => ?_) | refine v_if_le hz 166 dX8_changes_75 (by decide) (fun c75 => ?_) (fun c75 => ?_)
              · first
                | (exfalso; omega)
                | (refine v_aload_n hz dX8_changes_166 rfl ?_
                   refine v_getR hz fX8_35 (by assumption) (by assumption) dX8_changes_167 ?_
                   refine v_bi (v := nI 13) hz dX8_changes_170 (by decide) ?_
                   refine v_iload hz dX8_changes_172 rfl ?_
                   first | with_reducible refine v_imulN hz dX8_changes_174 ?_ | refine v_imul hz dX8_changes_174 ?_
                   refine v_iload hz dX8_changes_175 rfl ?_
                   first | with_reducible refine v_iaddN hz dX8_changes_177 ?_ | refine v_iadd hz dX8_changes_177 ?_
                   refine v_iload hz dX8_changes_178 rfl ?_
                   refine v_iastN hz (by assumption) (by assumption) (by omega) (by decide) dX8_changes_180 ?_
                   first | refine v_iincN hz 1 dX8_changes_181 (by decide) rfl (by decide) rfl ?_ | refine v_iinc hz dX8_changes_181 rfl (by decide) rfl ?_
                   refine v_goto hz 27 dX8_changes_184 (by decide) ?_
                   exact v_sub (ih (b + 1) _ (by omega) (by omega) (fun b2 hb2 => by rw [u2_ne hb2]; exact hC b2 hb2) (hF.put (by omega) (by omega) (by omega) (by first | exact lev_p1 c36 | exact lev_p2 c46 | exact lev_p3 c36 c46 c113 | exact lev_p4 c36 c46 c113))) ⟨rfl, rfl, rfl, rfl, rfl, rfl, rfl, trivial⟩)
              · first
                | (exfalso; omega)
                | (refine v_iload hz dX8_changes_78 rfl ?_
                   first | with_reducible refine v_if_leN hz 166 (by omega) dX8_changes_80 (by decide) (fun c80 => ?_) (fun c80 => ?_) | refine v_if_le hz 166 dX8_changes_80 (by decide) (fun c80 => ?_) (fun c80 => ?_)
                   · first
                     | (exfalso; omega)
                     | (refine v_aload_n hz dX8_changes_166 rfl ?_
                        refine v_getR hz fX8_35 (by assumption) (by assumption) dX8_changes_167 ?_
                        refine v_bi (v := nI 13) hz dX8_changes_170 (by decide) ?_
                        refine v_iload hz dX8_changes_172 rfl ?_
                        first | with_reducible refine v_imulN hz dX8_changes_174 ?_ | refine v_imul hz dX8_changes_174 ?_
                        refine v_iload hz dX8_changes_175 rfl ?_
                        first | with_reducible refine v_iaddN hz dX8_changes_177 ?_ | refine v_iadd hz dX8_changes_177 ?_
                        refine v_iload hz dX8_changes_178 rfl ?_
                        refine v_iastN hz (by assumption) (by assumption) (by omega) (by decide) dX8_changes_180 ?_
                        first | refine v_iincN hz 1 dX8_changes_181 (by decide) rfl (by decide) rfl ?_ | refine v_iinc hz dX8_changes_181 rfl (by decide) rfl ?_
                        refine v_goto hz 27 dX8_changes_184 (by decide) ?_
                        exact v_sub (ih (b + 1) _ (by omega) (by omega) (fun b2 hb2 => by rw [u2_ne hb2]; exact hC b2 hb2) (hF.put (by omega) (by omega) (by omega) (by first | exact lev_p1 c36 | exact lev_p2 c46 | exact lev_p3 c36 c46 c113 | exact lev_p4 c36 c46 c113))) ⟨rfl, rfl, rfl, rfl, rfl, rfl, rfl, trivial⟩)
                   · first
                     | (exfalso; omega)
                     | (refine v_iload hz dX8_changes_83 rfl ?_
                        refine v_aload_n hz dX8_changes_85 rfl ?_
                        refine v_getR hz fX8_25 (by assumption) (by assumption) dX8_changes_86 ?_
                        refine v_bi (v := nI 12) hz dX8_changes_89 (by decide) ?_
                        refine v_iload_n hz dX8_changes_91 rfl ?_
                        first | with_reducible refine v_imulN hz dX8_changes_92 ?_ | refine v_imul hz dX8_changes_92 ?_
                        refine v_iload hz dX8_changes_93 rfl ?_
                        first | with_reducible refine v_iaddN hz dX8_changes_95 ?_ | refine v_iadd hz dX8_changes_95 ?_
                        refine v_ic (v := nI 1) hz dX8_changes_96 (by decide) ?_
                        refine v_isubN hz (by omega) dX8_changes_97 ?_
                        refine v_ialdN hz (by assumption) (by assumption) (by omega) (by decide) dX8_changes_98 ?_
                        refine v_top (y := nI (T1 (a - 1))) (by rw [e8, show 12 * q1 + a - 1 = 12 * q1 + (a - 1) by omega]; exact (ht1 (a - 1) (by omega)).1) ?_
                        refine v_aload_n hz dX8_changes_99 rfl ?_
                        refine v_getR hz fX8_25 (by assumption) (by assumption) dX8_changes_100 ?_
                        refine v_bi (v := nI 12) hz dX8_changes_103 (by decide) ?_
                        refine v_iload_n hz dX8_changes_105 rfl ?_
                        first | with_reducible refine v_imulN hz dX8_changes_106 ?_ | refine v_imul hz dX8_changes_106 ?_
                        refine v_iload hz dX8_changes_107 rfl ?_
                        first | with_reducible refine v_iaddN hz dX8_changes_109 ?_ | refine v_iadd hz dX8_changes_109 ?_
                        refine v_ic (v := nI 1) hz dX8_changes_110 (by decide) ?_
                        refine v_isubN hz (by omega) dX8_changes_111 ?_
                        refine v_ialdN hz (by assumption) (by assumption) (by omega) (by decide) dX8_changes_112 ?_
                        refine v_top (y := nI (T2 (b - 1))) (by rw [e8, show 12 * q2 + b - 1 = 12 * q2 + (b - 1) by omega]; exact (ht2 (b - 1) (by omega)).1) ?_
                        have b1 := (ht1 (a - 1) (by omega)).2
                        have b2 := (ht2 (b - 1) (by omega)).2
                        first | with_reducible refine v_icmp_neN hz 120 (by omega) (by omega) dX8_changes_113 (by decide) (fun c113 => ?_) (fun c113 => ?_) | refine v_icmp_ne hz 120 dX8_changes_113 (by decide) (fun c113 => ?_) (fun c113 => ?_)
                        · refine v_ic (v := nI 1) hz dX8_changes_120 (by decide) ?_
                          first | with_reducible refine v_iaddN hz dX8_changes_121 ?_ | refine v_iadd hz dX8_changes_121 ?_
                          refine v_istore hz dX8_changes_122 (by decide) rfl ?_
                          refine v_iload hz dX8_changes_124 rfl ?_
                          refine v_ic (v := nI 1) hz dX8_changes_126 (by decide) ?_
                          refine v_aload_n hz dX8_changes_127 rfl ?_
                          refine v_getR hz fX8_35 (by assumption) (by assumption) dX8_changes_128 ?_
                          refine v_bi (v := nI 13) hz dX8_changes_131 (by decide) ?_
                          refine v_iload hz dX8_changes_133 rfl ?_
                          refine v_ic (v := nI 1) hz dX8_changes_135 (by decide) ?_
                          refine v_isubN hz (by omega) dX8_changes_136 ?_
                          first | with_reducible refine v_imulN hz dX8_changes_137 ?_ | refine v_imul hz dX8_changes_137 ?_
                          refine v_iload hz dX8_changes_138 rfl ?_
                          first | with_reducible refine v_iaddN hz dX8_changes_140 ?_ | refine v_iadd hz dX8_changes_140 ?_
                          refine v_ialdN hz (by assumption) (by assumption) (by omega) (by decide) dX8_changes_141 ?_
                          refine v_top (y := nI (lev T1 T2 (a - 1) b)) (by exact hF (a - 1) b (by omega) (by omega) (by omega)) ?_
                          refine v_aload_n hz dX8_changes_142 rfl ?_
                          refine v_getR hz fX8_35 (by assumption) (by assumption) dX8_changes_143 ?_
                          refine v_bi (v := nI 13) hz dX8_changes_146 (by decide) ?_
                          refine v_iload hz dX8_changes_148 rfl ?_
                          first | with_reducible refine v_imulN hz dX8_changes_150 ?_ | refine v_imul hz dX8_changes_150 ?_
                          refine v_iload hz dX8_changes_151 rfl ?_
                          first | with_reducible refine v_iaddN hz dX8_changes_153 ?_ | refine v_iadd hz dX8_changes_153 ?_
                          refine v_ic (v := nI 1) hz dX8_changes_154 (by decide) ?_
                          refine v_isubN hz (by omega) dX8_changes_155 ?_
                          refine v_ialdN hz (by assumption) (by assumption) (by omega) (by decide) dX8_changes_156 ?_
                          refine v_top (y := nI (lev T1 T2 a (b - 1))) (by rw [show 13 * a + b - 1 = 13 * a + (b - 1) by omega]; exact hF a (b - 1) (by omega) (by omega) (by omega)) ?_
                          refine v_callSi hz lX8_133 (cX8_least_ok _ _ _ _ _ _ _ _) rfl rfl (Nat.le_of_ble_eq_true rfl) (by decide) ⟨Nat.zero_le _, Nat.zero_le _⟩ dX8_changes_157 (fun r I1 h157 => ?_)
                          obtain ⟨rfl, rfl⟩ := h157
                          have l1 := lev_le T1 T2 (a - 1) (b - 1)
                          have l2 := lev_le T1 T2 (a - 1) b
                          have l3 := lev_le T1 T2 a (b - 1)
                          refine v_top (nI_min (by omega) (by omega)) ?_
                          first | with_reducible refine v_iaddN hz dX8_changes_160 ?_ | refine v_iadd hz dX8_changes_160 ?_
                          refine v_callSi hz lX8_133 (cX8_least_ok _ _ _ _ _ _ _ _) rfl rfl (Nat.le_of_ble_eq_true rfl) (by decide) ⟨Nat.zero_le _, Nat.zero_le _⟩ dX8_changes_161 (fun r I1 h161 => ?_)
                          obtain ⟨rfl, rfl⟩ := h161
                          refine v_top (nI_min (by omega) (by omega)) ?_
                          refine v_istore hz dX8_changes_164 (by decide) rfl ?_
                          refine v_aload_n hz dX8_changes_166 rfl ?_
                          refine v_getR hz fX8_35 (by assumption) (by assumption) dX8_changes_167 ?_
                          refine v_bi (v := nI 13) hz dX8_changes_170 (by decide) ?_
                          refine v_iload hz dX8_changes_172 rfl ?_
                          first | with_reducible refine v_imulN hz dX8_changes_174 ?_ | refine v_imul hz dX8_changes_174 ?_
                          refine v_iload hz dX8_changes_175 rfl ?_
                          first | with_reducible refine v_iaddN hz dX8_changes_177 ?_ | refine v_iadd hz dX8_changes_177 ?_
                          refine v_iload hz dX8_changes_178 rfl ?_
                          refine v_iastN hz (by assumption) (by assumption) (by omega) (by decide) dX8_changes_180 ?_
                          first | refine v_iincN hz 1 dX8_changes_181 (by decide) rfl (by decide) rfl ?_ | refine v_iinc hz dX8_changes_181 rfl (by decide) rfl ?_
                          refine v_goto hz 27 dX8_changes_184 (by decide) ?_
                          exact v_sub (ih (b + 1) _ (by omega) (by omega) (fun b2 hb2 => by rw [u2_ne hb2]; exact hC b2 hb2) (hF.put (by omega) (by omega) (by omega) (by first | exact lev_p1 c36 | exact lev_p2 c46 | exact lev_p3 c36 c46 c113 | exact lev_p4 c36 c46 c113))) ⟨rfl, rfl, rfl, rfl, rfl, rfl, rfl, trivial⟩
                        · refine v_ic (v := nI 0) hz dX8_changes_116 (by decide) ?_
                          refine v_goto hz 121 dX8_changes_117 (by decide) ?_
                          first | with_reducible refine v_iaddN hz dX8_changes_121 ?_ | refine v_iadd hz dX8_changes_121 ?_
                          refine v_istore hz dX8_changes_122 (by decide) rfl ?_
                          refine v_iload hz dX8_changes_124 rfl ?_
                          refine v_ic (v := nI 1) hz dX8_changes_126 (by decide) ?_
                          refine v_aload_n hz dX8_changes_127 rfl ?_
                          refine v_getR hz fX8_35 (by assumption) (by assumption) dX8_changes_128 ?_
                          refine v_bi (v := nI 13) hz dX8_changes_131 (by decide) ?_
                          refine v_iload hz dX8_changes_133 rfl ?_
                          refine v_ic (v := nI 1) hz dX8_changes_135 (by decide) ?_
                          refine v_isubN hz (by omega) dX8_changes_136 ?_
                          first | with_reducible refine v_imulN hz dX8_changes_137 ?_ | refine v_imul hz dX8_changes_137 ?_
                          refine v_iload hz dX8_changes_138 rfl ?_
                          first | with_reducible refine v_iaddN hz dX8_changes_140 ?_ | refine v_iadd hz dX8_changes_140 ?_
                          refine v_ialdN hz (by assumption) (by assumption) (by omega) (by decide) dX8_changes_141 ?_
                          refine v_top (y := nI (lev T1 T2 (a - 1) b)) (by exact hF (a - 1) b (by omega) (by omega) (by omega)) ?_
                          refine v_aload_n hz dX8_changes_142 rfl ?_
                          refine v_getR hz fX8_35 (by assumption) (by assumption) dX8_changes_143 ?_
                          refine v_bi (v := nI 13) hz dX8_changes_146 (by decide) ?_
                          refine v_iload hz dX8_changes_148 rfl ?_
                          first | with_reducible refine v_imulN hz dX8_changes_150 ?_ | refine v_imul hz dX8_changes_150 ?_
                          refine v_iload hz dX8_changes_151 rfl ?_
                          first | with_reducible refine v_iaddN hz dX8_changes_153 ?_ | refine v_iadd hz dX8_changes_153 ?_
                          refine v_ic (v := nI 1) hz dX8_changes_154 (by decide) ?_
                          refine v_isubN hz (by omega) dX8_changes_155 ?_
                          refine v_ialdN hz (by assumption) (by assumption) (by omega) (by decide) dX8_changes_156 ?_
                          refine v_top (y := nI (lev T1 T2 a (b - 1))) (by rw [show 13 * a + b - 1 = 13 * a + (b - 1) by omega]; exact hF a (b - 1) (by omega) (by omega) (by omega)) ?_
                          refine v_callSi hz lX8_133 (cX8_least_ok _ _ _ _ _ _ _ _) rfl rfl (Nat.le_of_ble_eq_true rfl) (by decide) ⟨Nat.zero_le _, Nat.zero_le _⟩ dX8_changes_157 (fun r I1 h157 => ?_)
                          obtain ⟨rfl, rfl⟩ := h157
                          have l1 := lev_le T1 T2 (a - 1) (b - 1)
                          have l2 := lev_le T1 T2 (a - 1) b
                          have l3 := lev_le T1 T2 a (b - 1)
                          refine v_top (nI_min (by omega) (by omega)) ?_
                          first | with_reducible refine v_iaddN hz dX8_changes_160 ?_ | refine v_iadd hz dX8_changes_160 ?_
                          refine v_callSi hz lX8_133 (cX8_least_ok _ _ _ _ _ _ _ _) rfl rfl (Nat.le_of_ble_eq_true rfl) (by decide) ⟨Nat.zero_le _, Nat.zero_le _⟩ dX8_changes_161 (fun r I1 h161 => ?_)
                          obtain ⟨rfl, rfl⟩ := h161
                          refine v_top (nI_min (by omega) (by omega)) ?_
                          refine v_istore hz dX8_changes_164 (by decide) rfl ?_
                          refine v_aload_n hz dX8_changes_166 rfl ?_
                          refine v_getR hz fX8_35 (by assumption) (by assumption) dX8_changes_167 ?_
                          refine v_bi (v := nI 13) hz dX8_changes_170 (by decide) ?_
                          refine v_iload hz dX8_changes_172 rfl ?_
                          first | with_reducible refine v_imulN hz dX8_changes_174 ?_ | refine v_imul hz dX8_changes_174 ?_
                          refine v_iload hz dX8_changes_175 rfl ?_
                          first | with_reducible refine v_iaddN hz dX8_changes_177 ?_ | refine v_iadd hz dX8_changes_177 ?_
                          refine v_iload hz dX8_changes_178 rfl ?_
                          refine v_iastN hz (by assumption) (by assumption) (by omega) (by decide) dX8_changes_180 ?_
                          first | refine v_iincN hz 1 dX8_changes_181 (by decide) rfl (by decide) rfl ?_ | refine v_iinc hz dX8_changes_181 rfl (by decide) rfl ?_
                          refine v_goto hz 27 dX8_changes_184 (by decide) ?_
                          exact v_sub (ih (b + 1) _ (by omega) (by omega) (fun b2 hb2 => by rw [u2_ne hb2]; exact hC b2 hb2) (hF.put (by omega) (by omega) (by omega) (by first | exact lev_p1 c36 | exact lev_p2 c46 | exact lev_p3 c36 c46 c113 | exact lev_p4 c36 c46 c113))) ⟨rfl, rfl, rfl, rfl, rfl, rfl, rfl, trivial⟩)))
         · first
           | (exfalso; omega)
           | (refine v_iload hz dX8_changes_49 rfl ?_
              refine v_goto hz 71 dX8_changes_51 (by decide) ?_
              refine v_istore hz dX8_changes_71 (by decide) rfl ?_
              refine v_iload hz dX8_changes_73 rfl ?_
              first | with_reducible refine v_if_leN hz 166 (by omega) dX8_changes_75 (by decide) (fun c75 => ?_) (fun c75 => ?_) | refine v_if_le hz 166 dX8_changes_75 (by decide) (fun c75 => ?_) (fun c75 => ?_)
              · first
                | (exfalso; omega)
                | (refine v_aload_n hz dX8_changes_166 rfl ?_
                   refine v_getR hz fX8_35 (by assumption) (by assumption) dX8_changes_167 ?_
                   refine v_bi (v := nI 13) hz dX8_changes_170 (by decide) ?_
                   refine v_iload hz dX8_changes_172 rfl ?_
                   first | with_reducible refine v_imulN hz dX8_changes_174 ?_ | refine v_imul hz dX8_changes_174 ?_
                   refine v_iload hz dX8_changes_175 rfl ?_
                   first | with_reducible refine v_iaddN hz dX8_changes_177 ?_ | refine v_iadd hz dX8_changes_177 ?_
                   refine v_iload hz dX8_changes_178 rfl ?_
                   refine v_iastN hz (by assumption) (by assumption) (by omega) (by decide) dX8_changes_180 ?_
                   first | refine v_iincN hz 1 dX8_changes_181 (by decide) rfl (by decide) rfl ?_ | refine v_iinc hz dX8_changes_181 rfl (by decide) rfl ?_
                   refine v_goto hz 27 dX8_changes_184 (by decide) ?_
                   exact v_sub (ih (b + 1) _ (by omega) (by omega) (fun b2 hb2 => by rw [u2_ne hb2]; exact hC b2 hb2) (hF.put (by omega) (by omega) (by omega) (by first | exact lev_p1 c36 | exact lev_p2 c46 | exact lev_p3 c36 c46 c113 | exact lev_p4 c36 c46 c113))) ⟨rfl, rfl, rfl, rfl, rfl, rfl, rfl, trivial⟩)
              · first
                | (exfalso; omega)
                | (refine v_iload hz dX8_changes_78 rfl ?_
                   first | with_reducible refine v_if_leN hz 166 (by omega) dX8_changes_80 (by decide) (fun c80 => ?_) (fun c80 => ?_) | refine v_if_le hz 166 dX8_changes_80 (by decide) (fun c80 => ?_) (fun c80 => ?_)
                   · first
                     | (exfalso; omega)
                     | (refine v_aload_n hz dX8_changes_166 rfl ?_
                        refine v_getR hz fX8_35 (by assumption) (by assumption) dX8_changes_167 ?_
                        refine v_bi (v := nI 13) hz dX8_changes_170 (by decide) ?_
                        refine v_iload hz dX8_changes_172 rfl ?_
                        first | with_reducible refine v_imulN hz dX8_changes_174 ?_ | refine v_imul hz dX8_changes_174 ?_
                        refine v_iload hz dX8_changes_175 rfl ?_
                        first | with_reducible refine v_iaddN hz dX8_changes_177 ?_ | refine v_iadd hz dX8_changes_177 ?_
                        refine v_iload hz dX8_changes_178 rfl ?_
                        refine v_iastN hz (by assumption) (by assumption) (by omega) (by decide) dX8_changes_180 ?_
                        first | refine v_iincN hz 1 dX8_changes_181 (by decide) rfl (by decide) rfl ?_ | refine v_iinc hz dX8_changes_181 rfl (by decide) rfl ?_
                        refine v_goto hz 27 dX8_changes_184 (by decide) ?_
                        exact v_sub (ih (b + 1) _ (by omega) (by omega) (fun b2 hb2 => by rw [u2_ne hb2]; exact hC b2 hb2) (hF.put (by omega) (by omega) (by omega) (by first | exact lev_p1 c36 | exact lev_p2 c46 | exact lev_p3 c36 c46 c113 | exact lev_p4 c36 c46 c113))) ⟨rfl, rfl, rfl, rfl, rfl, rfl, rfl, trivial⟩)
                   · first
                     | (exfalso; omega)
                     | (refine v_iload hz dX8_changes_83 rfl ?_
                        refine v_aload_n hz dX8_changes_85 rfl ?_
                        refine v_getR hz fX8_25 (by assumption) (by assumption) dX8_changes_86 ?_
                        refine v_bi (v := nI 12) hz dX8_changes_89 (by decide) ?_
                        refine v_iload_n hz dX8_changes_91 rfl ?_
                        first | with_reducible refine v_imulN hz dX8_changes_92 ?_ | refine v_imul hz dX8_changes_92 ?_
                        refine v_iload hz dX8_changes_93 rfl ?_
                        first | with_reducible refine v_iaddN hz dX8_changes_95 ?_ | refine v_iadd hz dX8_changes_95 ?_
                        refine v_ic (v := nI 1) hz dX8_changes_96 (by decide) ?_
                        refine v_isubN hz (by omega) dX8_changes_97 ?_
                        refine v_ialdN hz (by assumption) (by assumption) (by omega) (by decide) dX8_changes_98 ?_
                        refine v_top (y := nI (T1 (a - 1))) (by rw [e8, show 12 * q1 + a - 1 = 12 * q1 + (a - 1) by omega]; exact (ht1 (a - 1) (by omega)).1) ?_
                        refine v_aload_n hz dX8_changes_99 rfl ?_
                        refine v_getR hz fX8_25 (by assumption) (by assumption) dX8_changes_100 ?_
                        refine v_bi (v := nI 12) hz dX8_changes_103 (by decide) ?_
                        refine v_iload_n hz dX8_changes_105 rfl ?_
                        first | with_reducible refine v_imulN hz dX8_changes_106 ?_ | refine v_imul hz dX8_changes_106 ?_
                        refine v_iload hz dX8_changes_107 rfl ?_
                        first | with_reducible refine v_iaddN hz dX8_changes_109 ?_ | refine v_iadd hz dX8_changes_109 ?_
                        refine v_ic (v := nI 1) hz dX8_changes_110 (by decide) ?_
                        refine v_isubN hz (by omega) dX8_changes_111 ?_
                        refine v_ialdN hz (by assumption) (by assumption) (by omega) (by decide) dX8_changes_112 ?_
                        refine v_top (y := nI (T2 (b - 1))) (by rw [e8, show 12 * q2 + b - 1 = 12 * q2 + (b - 1) by omega]; exact (ht2 (b - 1) (by omega)).1) ?_
                        have b1 := (ht1 (a - 1) (by omega)).2
                        have b2 := (ht2 (b - 1) (by omega)).2
                        first | with_reducible refine v_icmp_neN hz 120 (by omega) (by omega) dX8_changes_113 (by decide) (fun c113 => ?_) (fun c113 => ?_) | refine v_icmp_ne hz 120 dX8_changes_113 (by decide) (fun c113 => ?_) (fun c113 => ?_)
                        · refine v_ic (v := nI 1) hz dX8_changes_120 (by decide) ?_
                          first | with_reducible refine v_iaddN hz dX8_changes_121 ?_ | refine v_iadd hz dX8_changes_121 ?_
                          refine v_istore hz dX8_changes_122 (by decide) rfl ?_
                          refine v_iload hz dX8_changes_124 rfl ?_
                          refine v_ic (v := nI 1) hz dX8_changes_126 (by decide) ?_
                          refine v_aload_n hz dX8_changes_127 rfl ?_
                          refine v_getR hz fX8_35 (by assumption) (by assumption) dX8_changes_128 ?_
                          refine v_bi (v := nI 13) hz dX8_changes_131 (by decide) ?_
                          refine v_iload hz dX8_changes_133 rfl ?_
                          refine v_ic (v := nI 1) hz dX8_changes_135 (by decide) ?_
                          refine v_isubN hz (by omega) dX8_changes_136 ?_
                          first | with_reducible refine v_imulN hz dX8_changes_137 ?_ | refine v_imul hz dX8_changes_137 ?_
                          refine v_iload hz dX8_changes_138 rfl ?_
                          first | with_reducible refine v_iaddN hz dX8_changes_140 ?_ | refine v_iadd hz dX8_changes_140 ?_
                          refine v_ialdN hz (by assumption) (by assumption) (by omega) (by decide) dX8_changes_141 ?_
                          refine v_top (y := nI (lev T1 T2 (a - 1) b)) (by exact hF (a - 1) b (by omega) (by omega) (by omega)) ?_
                          refine v_aload_n hz dX8_changes_142 rfl ?_
                          refine v_getR hz fX8_35 (by assumption) (by assumption) dX8_changes_143 ?_
                          refine v_bi (v := nI 13) hz dX8_changes_146 (by decide) ?_
                          refine v_iload hz dX8_changes_148 rfl ?_
                          first | with_reducible refine v_imulN hz dX8_changes_150 ?_ | refine v_imul hz dX8_changes_150 ?_
                          refine v_iload hz dX8_changes_151 rfl ?_
                          first | with_reducible refine v_iaddN hz dX8_changes_153 ?_ | refine v_iadd hz dX8_changes_153 ?_
                          refine v_ic (v := nI 1) hz dX8_changes_154 (by decide) ?_
                          refine v_isubN hz (by omega) dX8_changes_155 ?_
                          refine v_ialdN hz (by assumption) (by assumption) (by omega) (by decide) dX8_changes_156 ?_
                          refine v_top (y := nI (lev T1 T2 a (b - 1))) (by rw [show 13 * a + b - 1 = 13 * a + (b - 1) by omega]; exact hF a (b - 1) (by omega) (by omega) (by omega)) ?_
                          refine v_callSi hz lX8_133 (cX8_least_ok _ _ _ _ _ _ _ _) rfl rfl (Nat.le_of_ble_eq_true rfl) (by decide) ⟨Nat.zero_le _, Nat.zero_le _⟩ dX8_changes_157 (fun r I1 h157 => ?_)
                          obtain ⟨rfl, rfl⟩ := h157
                          have l1 := lev_le T1 T2 (a - 1) (b - 1)
                          have l2 := lev_le T1 T2 (a - 1) b
                          have l3 := lev_le T1 T2 a (b - 1)
                          refine v_top (nI_min (by omega) (by omega)) ?_
                          first | with_reducible refine v_iaddN hz dX8_changes_160 ?_ | refine v_iadd hz dX8_changes_160 ?_
                          refine v_callSi hz lX8_133 (cX8_least_ok _ _ _ _ _ _ _ _) rfl rfl (Nat.le_of_ble_eq_true rfl) (by decide) ⟨Nat.zero_le _, Nat.zero_le _⟩ dX8_changes_161 (fun r I1 h161 => ?_)
                          obtain ⟨rfl, rfl⟩ := h161
                          refine v_top (nI_min (by omega) (by omega)) ?_
                          refine v_istore hz dX8_changes_164 (by decide) rfl ?_
                          refine v_aload_n hz dX8_changes_166 rfl ?_
                          refine v_getR hz fX8_35 (by assumption) (by assumption) dX8_changes_167 ?_
                          refine v_bi (v := nI 13) hz dX8_changes_170 (by decide) ?_
                          refine v_iload hz dX8_changes_172 rfl ?_
                          first | with_reducible refine v_imulN hz dX8_changes_174 ?_ | refine v_imul hz dX8_changes_174 ?_
                          refine v_iload hz dX8_changes_175 rfl ?_
                          first | with_reducible refine v_iaddN hz dX8_changes_177 ?_ | refine v_iadd hz dX8_changes_177 ?_
                          refine v_iload hz dX8_changes_178 rfl ?_
                          refine v_iastN hz (by assumption) (by assumption) (by omega) (by decide) dX8_changes_180 ?_
                          first | refine v_iincN hz 1 dX8_changes_181 (by decide) rfl (by decide) rfl ?_ | refine v_iinc hz dX8_changes_181 rfl (by decide) rfl ?_
                          refine v_goto hz 27 dX8_changes_184 (by decide) ?_
                          exact v_sub (ih (b + 1) _ (by omega) (by omega) (fun b2 hb2 => by rw [u2_ne hb2]; exact hC b2 hb2) (hF.put (by omega) (by omega) (by omega) (by first | exact lev_p1 c36 | exact lev_p2 c46 | exact lev_p3 c36 c46 c113 | exact lev_p4 c36 c46 c113))) ⟨rfl, rfl, rfl, rfl, rfl, rfl, rfl, trivial⟩
                        · refine v_ic (v := nI 0) hz dX8_changes_116 (by decide) ?_
                          refine v_goto hz 121 dX8_changes_117 (by decide) ?_
                          first | with_reducible refine v_iaddN hz dX8_changes_121 ?_ | refine v_iadd hz dX8_changes_121 ?_
                          refine v_istore hz dX8_changes_122 (by decide) rfl ?_
                          refine v_iload hz dX8_changes_124 rfl ?_
                          refine v_ic (v := nI 1) hz dX8_changes_126 (by decide) ?_
                          refine v_aload_n hz dX8_changes_127 rfl ?_
                          refine v_getR hz fX8_35 (by assumption) (by assumption) dX8_changes_128 ?_
                          refine v_bi (v := nI 13) hz dX8_changes_131 (by decide) ?_
                          refine v_iload hz dX8_changes_133 rfl ?_
                          refine v_ic (v := nI 1) hz dX8_changes_135 (by decide) ?_
                          refine v_isubN hz (by omega) dX8_changes_136 ?_
                          first | with_reducible refine v_imulN hz dX8_changes_137 ?_ | refine v_imul hz dX8_changes_137 ?_
                          refine v_iload hz dX8_changes_138 rfl ?_
                          first | with_reducible refine v_iaddN hz dX8_changes_140 ?_ | refine v_iadd hz dX8_changes_140 ?_
                          refine v_ialdN hz (by assumption) (by assumption) (by omega) (by decide) dX8_changes_141 ?_
                          refine v_top (y := nI (lev T1 T2 (a - 1) b)) (by exact hF (a - 1) b (by omega) (by omega) (by omega)) ?_
                          refine v_aload_n hz dX8_changes_142 rfl ?_
                          refine v_getR hz fX8_35 (by assumption) (by assumption) dX8_changes_143 ?_
                          refine v_bi (v := nI 13) hz dX8_changes_146 (by decide) ?_
                          refine v_iload hz dX8_changes_148 rfl ?_
                          first | with_reducible refine v_imulN hz dX8_changes_150 ?_ | refine v_imul hz dX8_changes_150 ?_
                          refine v_iload hz dX8_changes_151 rfl ?_
                          first | with_reducible refine v_iaddN hz dX8_changes_153 ?_ | refine v_iadd hz dX8_changes_153 ?_
                          refine v_ic (v := nI 1) hz dX8_changes_154 (by decide) ?_
                          refine v_isubN hz (by omega) dX8_changes_155 ?_
                          refine v_ialdN hz (by assumption) (by assumption) (by omega) (by decide) dX8_changes_156 ?_
                          refine v_top (y := nI (lev T1 T2 a (b - 1))) (by rw [show 13 * a + b - 1 = 13 * a + (b - 1) by omega]; exact hF a (b - 1) (by omega) (by omega) (by omega)) ?_
                          refine v_callSi hz lX8_133 (cX8_least_ok _ _ _ _ _ _ _ _) rfl rfl (Nat.le_of_ble_eq_true rfl) (by decide) ⟨Nat.zero_le _, Nat.zero_le _⟩ dX8_changes_157 (fun r I1 h157 => ?_)
                          obtain ⟨rfl, rfl⟩ := h157
                          have l1 := lev_le T1 T2 (a - 1) (b - 1)
                          have l2 := lev_le T1 T2 (a - 1) b
                          have l3 := lev_le T1 T2 a (b - 1)
                          refine v_top (nI_min (by omega) (by omega)) ?_
                          first | with_reducible refine v_iaddN hz dX8_changes_160 ?_ | refine v_iadd hz dX8_changes_160 ?_
                          refine v_callSi hz lX8_133 (cX8_least_ok _ _ _ _ _ _ _ _) rfl rfl (Nat.le_of_ble_eq_true rfl) (by decide) ⟨Nat.zero_le _, Nat.zero_le _⟩ dX8_changes_161 (fun r I1 h161 => ?_)
                          obtain ⟨rfl, rfl⟩ := h161
                          refine v_top (nI_min (by omega) (by omega)) ?_
                          refine v_istore hz dX8_changes_164 (by decide) rfl ?_
                          refine v_aload_n hz dX8_changes_166 rfl ?_
                          refine v_getR hz fX8_35 (by assumption) (by assumption) dX8_changes_167 ?_
                          refine v_bi (v := nI 13) hz dX8_changes_170 (by decide) ?_
                          refine v_iload hz dX8_changes_172 rfl ?_
                          first | with_reducible refine v_imulN hz dX8_changes_174 ?_ | refine v_imul hz dX8_changes_174 ?_
                          refine v_iload hz dX8_changes_175 rfl ?_
                          first | with_reducible refine v_iaddN hz dX8_changes_177 ?_ | refine v_iadd hz dX8_changes_177 ?_
                          refine v_iload hz dX8_changes_178 rfl ?_
                          refine v_iastN hz (by assumption) (by assumption) (by omega) (by decide) dX8_changes_180 ?_
                          first | refine v_iincN hz 1 dX8_changes_181 (by decide) rfl (by decide) rfl ?_ | refine v_iinc hz dX8_changes_181 rfl (by decide) rfl ?_
                          refine v_goto hz 27 dX8_changes_184 (by decide) ?_
                          exact v_sub (ih (b + 1) _ (by omega) (by omega) (fun b2 hb2 => by rw [u2_ne hb2]; exact hC b2 hb2) (hF.put (by omega) (by omega) (by omega) (by first | exact lev_p1 c36 | exact lev_p2 c46 | exact lev_p3 c36 c46 c113 | exact lev_p4 c36 c46 c113))) ⟨rfl, rfl, rfl, rfl, rfl, rfl, rfl, trivial⟩))))
    · first
      | (exfalso; omega)
      | (refine v_iload hz dX8_changes_39 rfl ?_
         refine v_goto hz 71 dX8_changes_41 (by decide) ?_
         refine v_istore hz dX8_changes_71 (by decide) rfl ?_
         refine v_iload hz dX8_changes_73 rfl ?_
         first | with_reducible refine v_if_leN hz 166 (by omega) dX8_changes_75 (by decide) (fun c75 => ?_) (fun c75 => ?_) | refine v_if_le hz 166 dX8_changes_75 (by decide) (fun c75 => ?_) (fun c75 => ?_)
         · first
           | (exfalso; omega)
           | (refine v_aload_n hz dX8_changes_166 rfl ?_
              refine v_getR hz fX8_35 (by assumption) (by assumption) dX8_changes_167 ?_
              refine v_bi (v := nI 13) hz dX8_changes_170 (by decide) ?_
              refine v_iload hz dX8_changes_172 rfl ?_
              first | with_reducible refine v_imulN hz dX8_changes_174 ?_ | refine v_imul hz dX8_changes_174 ?_
              refine v_iload hz dX8_changes_175 rfl ?_
              first | with_reducible refine v_iaddN hz dX8_changes_177 ?_ | refine v_iadd hz dX8_changes_177 ?_
              refine v_iload hz dX8_changes_178 rfl ?_
              refine v_iastN hz (by assumption) (by assumption) (by omega) (by decide) dX8_changes_180 ?_
              first | refine v_iincN hz 1 dX8_changes_181 (by decide) rfl (by decide) rfl ?_ | refine v_iinc hz dX8_changes_181 rfl (by decide) rfl ?_
              refine v_goto hz 27 dX8_changes_184 (by decide) ?_
              exact v_sub (ih (b + 1) _ (by omega) (by omega) (fun b2 hb2 => by rw [u2_ne hb2]; exact hC b2 hb2) (hF.put (by omega) (by omega) (by omega) (by first | exact lev_p1 c36 | exact lev_p2 c46 | exact lev_p3 c36 c46 c113 | exact lev_p4 c36 c46 c113))) ⟨rfl, rfl, rfl, rfl, rfl, rfl, rfl, trivial⟩)
         · first
           | (exfalso; omega)
           | (refine v_iload hz dX8_changes_78 rfl ?_
              first | with_reducible refine v_if_leN hz 166 (by omega) dX8_changes_80 (by decide) (fun c80 => ?_) (fun c80 => ?_) | refine v_if_le hz 166 dX8_changes_80 (by decide) (fun c80 => ?_) (fun c80 => ?_)
              · first
                | (exfalso; omega)
                | (refine v_aload_n hz dX8_changes_166 rfl ?_
                   refine v_getR hz fX8_35 (by assumption) (by assumption) dX8_changes_167 ?_
                   refine v_bi (v := nI 13) hz dX8_changes_170 (by decide) ?_
                   refine v_iload hz dX8_changes_172 rfl ?_
                   first | with_reducible refine v_imulN hz dX8_changes_174 ?_ | refine v_imul hz dX8_changes_174 ?_
                   refine v_iload hz dX8_changes_175 rfl ?_
                   first | with_reducible refine v_iaddN hz dX8_changes_177 ?_ | refine v_iadd hz dX8_changes_177 ?_
                   refine v_iload hz dX8_changes_178 rfl ?_
                   refine v_iastN hz (by assumption) (by assumption) (by omega) (by decide) dX8_changes_180 ?_
                   first | refine v_iincN hz 1 dX8_changes_181 (by decide) rfl (by decide) rfl ?_ | refine v_iinc hz dX8_changes_181 rfl (by decide) rfl ?_
                   refine v_goto hz 27 dX8_changes_184 (by decide) ?_
                   exact v_sub (ih (b + 1) _ (by omega) (by omega) (fun b2 hb2 => by rw [u2_ne hb2]; exact hC b2 hb2) (hF.put (by omega) (by omega) (by omega) (by first | exact lev_p1 c36 | exact lev_p2 c46 | exact lev_p3 c36 c46 c113 | exact lev_p4 c36 c46 c113))) ⟨rfl, rfl, rfl, rfl, rfl, rfl, rfl, trivial⟩)
              · first
                | (exfalso; omega)
                | (refine v_iload hz dX8_changes_83 rfl ?_
                   refine v_aload_n hz dX8_changes_85 rfl ?_
                   refine v_getR hz fX8_25 (by assumption) (by assumption) dX8_changes_86 ?_
                   refine v_bi (v := nI 12) hz dX8_changes_89 (by decide) ?_
                   refine v_iload_n hz dX8_changes_91 rfl ?_
                   first | with_reducible refine v_imulN hz dX8_changes_92 ?_ | refine v_imul hz dX8_changes_92 ?_
                   refine v_iload hz dX8_changes_93 rfl ?_
                   first | with_reducible refine v_iaddN hz dX8_changes_95 ?_ | refine v_iadd hz dX8_changes_95 ?_
                   refine v_ic (v := nI 1) hz dX8_changes_96 (by decide) ?_
                   refine v_isubN hz (by omega) dX8_changes_97 ?_
                   refine v_ialdN hz (by assumption) (by assumption) (by omega) (by decide) dX8_changes_98 ?_
                   refine v_top (y := nI (T1 (a - 1))) (by rw [e8, show 12 * q1 + a - 1 = 12 * q1 + (a - 1) by omega]; exact (ht1 (a - 1) (by omega)).1) ?_
                   refine v_aload_n hz dX8_changes_99 rfl ?_
                   refine v_getR hz fX8_25 (by assumption) (by assumption) dX8_changes_100 ?_
                   refine v_bi (v := nI 12) hz dX8_changes_103 (by decide) ?_
                   refine v_iload_n hz dX8_changes_105 rfl ?_
                   first | with_reducible refine v_imulN hz dX8_changes_106 ?_ | refine v_imul hz dX8_changes_106 ?_
                   refine v_iload hz dX8_changes_107 rfl ?_
                   first | with_reducible refine v_iaddN hz dX8_changes_109 ?_ | refine v_iadd hz dX8_changes_109 ?_
                   refine v_ic (v := nI 1) hz dX8_changes_110 (by decide) ?_
                   refine v_isubN hz (by omega) dX8_changes_111 ?_
                   refine v_ialdN hz (by assumption) (by assumption) (by omega) (by decide) dX8_changes_112 ?_
                   refine v_top (y := nI (T2 (b - 1))) (by rw [e8, show 12 * q2 + b - 1 = 12 * q2 + (b - 1) by omega]; exact (ht2 (b - 1) (by omega)).1) ?_
                   have b1 := (ht1 (a - 1) (by omega)).2
                   have b2 := (ht2 (b - 1) (by omega)).2
                   first | with_reducible refine v_icmp_neN hz 120 (by omega) (by omega) dX8_changes_113 (by decide) (fun c113 => ?_) (fun c113 => ?_) | refine v_icmp_ne hz 120 dX8_changes_113 (by decide) (fun c113 => ?_) (fun c113 => ?_)
                   · refine v_ic (v := nI 1) hz dX8_changes_120 (by decide) ?_
                     first | with_reducible refine v_iaddN hz dX8_changes_121 ?_ | refine v_iadd hz dX8_changes_121 ?_
                     refine v_istore hz dX8_changes_122 (by decide) rfl ?_
                     refine v_iload hz dX8_changes_124 rfl ?_
                     refine v_ic (v := nI 1) hz dX8_changes_126 (by decide) ?_
                     refine v_aload_n hz dX8_changes_127 rfl ?_
                     refine v_getR hz fX8_35 (by assumption) (by assumption) dX8_changes_128 ?_
                     refine v_bi (v := nI 13) hz dX8_changes_131 (by decide) ?_
                     refine v_iload hz dX8_changes_133 rfl ?_
                     refine v_ic (v := nI 1) hz dX8_changes_135 (by decide) ?_
                     refine v_isubN hz (by omega) dX8_changes_136 ?_
                     first | with_reducible refine v_imulN hz dX8_changes_137 ?_ | refine v_imul hz dX8_changes_137 ?_
                     refine v_iload hz dX8_changes_138 rfl ?_
                     first | with_reducible refine v_iaddN hz dX8_changes_140 ?_ | refine v_iadd hz dX8_changes_140 ?_
                     refine v_ialdN hz (by assumption) (by assumption) (by omega) (by decide) dX8_changes_141 ?_
                     refine v_top (y := nI (lev T1 T2 (a - 1) b)) (by exact hF (a - 1) b (by omega) (by omega) (by omega)) ?_
                     refine v_aload_n hz dX8_changes_142 rfl ?_
                     refine v_getR hz fX8_35 (by assumption) (by assumption) dX8_changes_143 ?_
                     refine v_bi (v := nI 13) hz dX8_changes_146 (by decide) ?_
                     refine v_iload hz dX8_changes_148 rfl ?_
                     first | with_reducible refine v_imulN hz dX8_changes_150 ?_ | refine v_imul hz dX8_changes_150 ?_
                     refine v_iload hz dX8_changes_151 rfl ?_
                     first | with_reducible refine v_iaddN hz dX8_changes_153 ?_ | refine v_iadd hz dX8_changes_153 ?_
                     refine v_ic (v := nI 1) hz dX8_changes_154 (by decide) ?_
                     refine v_isubN hz (by omega) dX8_changes_155 ?_
                     refine v_ialdN hz (by assumption) (by assumption) (by omega) (by decide) dX8_changes_156 ?_
                     refine v_top (y := nI (lev T1 T2 a (b - 1))) (by rw [show 13 * a + b - 1 = 13 * a + (b - 1) by omega]; exact hF a (b - 1) (by omega) (by omega) (by omega)) ?_
                     refine v_callSi hz lX8_133 (cX8_least_ok _ _ _ _ _ _ _ _) rfl rfl (Nat.le_of_ble_eq_true rfl) (by decide) ⟨Nat.zero_le _, Nat.zero_le _⟩ dX8_changes_157 (fun r I1 h157 => ?_)
                     obtain ⟨rfl, rfl⟩ := h157
                     have l1 := lev_le T1 T2 (a - 1) (b - 1)
                     have l2 := lev_le T1 T2 (a - 1) b
                     have l3 := lev_le T1 T2 a (b - 1)
                     refine v_top (nI_min (by omega) (by omega)) ?_
                     first | with_reducible refine v_iaddN hz dX8_changes_160 ?_ | refine v_iadd hz dX8_changes_160 ?_
                     refine v_callSi hz lX8_133 (cX8_least_ok _ _ _ _ _ _ _ _) rfl rfl (Nat.le_of_ble_eq_true rfl) (by decide) ⟨Nat.zero_le _, Nat.zero_le _⟩ dX8_changes_161 (fun r I1 h161 => ?_)
                     obtain ⟨rfl, rfl⟩ := h161
                     refine v_top (nI_min (by omega) (by omega)) ?_
                     refine v_istore hz dX8_changes_164 (by decide) rfl ?_
                     refine v_aload_n hz dX8_changes_166 rfl ?_
                     refine v_getR hz fX8_35 (by assumption) (by assumption) dX8_changes_167 ?_
                     refine v_bi (v := nI 13) hz dX8_changes_170 (by decide) ?_
                     refine v_iload hz dX8_changes_172 rfl ?_
                     first | with_reducible refine v_imulN hz dX8_changes_174 ?_ | refine v_imul hz dX8_changes_174 ?_
                     refine v_iload hz dX8_changes_175 rfl ?_
                     first | with_reducible refine v_iaddN hz dX8_changes_177 ?_ | refine v_iadd hz dX8_changes_177 ?_
                     refine v_iload hz dX8_changes_178 rfl ?_
                     refine v_iastN hz (by assumption) (by assumption) (by omega) (by decide) dX8_changes_180 ?_
                     first | refine v_iincN hz 1 dX8_changes_181 (by decide) rfl (by decide) rfl ?_ | refine v_iinc hz dX8_changes_181 rfl (by decide) rfl ?_
                     refine v_goto hz 27 dX8_changes_184 (by decide) ?_
                     exact v_sub (ih (b + 1) _ (by omega) (by omega) (fun b2 hb2 => by rw [u2_ne hb2]; exact hC b2 hb2) (hF.put (by omega) (by omega) (by omega) (by first | exact lev_p1 c36 | exact lev_p2 c46 | exact lev_p3 c36 c46 c113 | exact lev_p4 c36 c46 c113))) ⟨rfl, rfl, rfl, rfl, rfl, rfl, rfl, trivial⟩
                   · refine v_ic (v := nI 0) hz dX8_changes_116 (by decide) ?_
                     refine v_goto hz 121 dX8_changes_117 (by decide) ?_
                     first | with_reducible refine v_iaddN hz dX8_changes_121 ?_ | refine v_iadd hz dX8_changes_121 ?_
                     refine v_istore hz dX8_changes_122 (by decide) rfl ?_
                     refine v_iload hz dX8_changes_124 rfl ?_
                     refine v_ic (v := nI 1) hz dX8_changes_126 (by decide) ?_
                     refine v_aload_n hz dX8_changes_127 rfl ?_
                     refine v_getR hz fX8_35 (by assumption) (by assumption) dX8_changes_128 ?_
                     refine v_bi (v := nI 13) hz dX8_changes_131 (by decide) ?_
                     refine v_iload hz dX8_changes_133 rfl ?_
                     refine v_ic (v := nI 1) hz dX8_changes_135 (by decide) ?_
                     refine v_isubN hz (by omega) dX8_changes_136 ?_
                     first | with_reducible refine v_imulN hz dX8_changes_137 ?_ | refine v_imul hz dX8_changes_137 ?_
                     refine v_iload hz dX8_changes_138 rfl ?_
                     first | with_reducible refine v_iaddN hz dX8_changes_140 ?_ | refine v_iadd hz dX8_changes_140 ?_
                     refine v_ialdN hz (by assumption) (by assumption) (by omega) (by decide) dX8_changes_141 ?_
                     refine v_top (y := nI (lev T1 T2 (a - 1) b)) (by exact hF (a - 1) b (by omega) (by omega) (by omega)) ?_
                     refine v_aload_n hz dX8_changes_142 rfl ?_
                     refine v_getR hz fX8_35 (by assumption) (by assumption) dX8_changes_143 ?_
                     refine v_bi (v := nI 13) hz dX8_changes_146 (by decide) ?_
                     refine v_iload hz dX8_changes_148 rfl ?_
                     first | with_reducible refine v_imulN hz dX8_changes_150 ?_ | refine v_imul hz dX8_changes_150 ?_
                     refine v_iload hz dX8_changes_151 rfl ?_
                     first | with_reducible refine v_iaddN hz dX8_changes_153 ?_ | refine v_iadd hz dX8_changes_153 ?_
                     refine v_ic (v := nI 1) hz dX8_changes_154 (by decide) ?_
                     refine v_isubN hz (by omega) dX8_changes_155 ?_
                     refine v_ialdN hz (by assumption) (by assumption) (by omega) (by decide) dX8_changes_156 ?_
                     refine v_top (y := nI (lev T1 T2 a (b - 1))) (by rw [show 13 * a + b - 1 = 13 * a + (b - 1) by omega]; exact hF a (b - 1) (by omega) (by omega) (by omega)) ?_
                     refine v_callSi hz lX8_133 (cX8_least_ok _ _ _ _ _ _ _ _) rfl rfl (Nat.le_of_ble_eq_true rfl) (by decide) ⟨Nat.zero_le _, Nat.zero_le _⟩ dX8_changes_157 (fun r I1 h157 => ?_)
                     obtain ⟨rfl, rfl⟩ := h157
                     have l1 := lev_le T1 T2 (a - 1) (b - 1)
                     have l2 := lev_le T1 T2 (a - 1) b
                     have l3 := lev_le T1 T2 a (b - 1)
                     refine v_top (nI_min (by omega) (by omega)) ?_
                     first | with_reducible refine v_iaddN hz dX8_changes_160 ?_ | refine v_iadd hz dX8_changes_160 ?_
                     refine v_callSi hz lX8_133 (cX8_least_ok _ _ _ _ _ _ _ _) rfl rfl (Nat.le_of_ble_eq_true rfl) (by decide) ⟨Nat.zero_le _, Nat.zero_le _⟩ dX8_changes_161 (fun r I1 h161 => ?_)
                     obtain ⟨rfl, rfl⟩ := h161
                     refine v_top (nI_min (by omega) (by omega)) ?_
                     refine v_istore hz dX8_changes_164 (by decide) rfl ?_
                     refine v_aload_n hz dX8_changes_166 rfl ?_
                     refine v_getR hz fX8_35 (by assumption) (by assumption) dX8_changes_167 ?_
                     refine v_bi (v := nI 13) hz dX8_changes_170 (by decide) ?_
                     refine v_iload hz dX8_changes_172 rfl ?_
                     first | with_reducible refine v_imulN hz dX8_changes_174 ?_ | refine v_imul hz dX8_changes_174 ?_
                     refine v_iload hz dX8_changes_175 rfl ?_
                     first | with_reducible refine v_iaddN hz dX8_changes_177 ?_ | refine v_iadd hz dX8_changes_177 ?_
                     refine v_iload hz dX8_changes_178 rfl ?_
                     refine v_iastN hz (by assumption) (by assumption) (by omega) (by decide) dX8_changes_180 ?_
                     first | refine v_iincN hz 1 dX8_changes_181 (by decide) rfl (by decide) rfl ?_ | refine v_iinc hz dX8_changes_181 rfl (by decide) rfl ?_
                     refine v_goto hz 27 dX8_changes_184 (by decide) ?_
                     exact v_sub (ih (b + 1) _ (by omega) (by omega) (fun b2 hb2 => by rw [u2_ne hb2]; exact hC b2 hb2) (hF.put (by omega) (by omega) (by omega) (by first | exact lev_p1 c36 | exact lev_p2 c46 | exact lev_p3 c36 c46 c113 | exact lev_p4 c36 c46 c113))) ⟨rfl, rfl, rfl, rfl, rfl, rfl, rfl, trivial⟩)))
set_option maxHeartbeats 4000000 in
set_option maxRecDepth 100000 in
theorem lp_changes_out {z : Zz} {κ : Kz} {R : Rz} {J : Jz} {A : Nat → Nat} (hz : Am z cX8_changes RX8 8 1) (hm : LM κ R A) {I0 : Iz} {q1 q2 L1 L2 : Nat} {T1 T2 : Nat → Nat} (h1 : msn I0 A q1 L1 T1) (h2 : msn I0 A q2 L2 T2) (K : ∀ I1, (∀ b, b ≠ A 145 → I1 b = I0 b) → levF I1 A T1 T2 L1 L2 (L1 + 1) 0 → V z 8 0 0 193 [(0, .ref (A 130)), (1, .int (nI q1)), (2, .int (nI q2)), (3, .int (nI L1)), (4, .int (nI L2))] [] κ I1 R J) :
    ∀ (n a : Nat) (I : Iz), a ≤ L1 + 1 → L1 + 2 ≤ a + n → (∀ b, b ≠ A 145 → I b = I0 b) → levF I A T1 T2 L1 L2 a 0 → V z 8 0 0 18 [(0, .ref (A 130)), (1, .int (nI q1)), (2, .int (nI q2)), (3, .int (nI L1)), (4, .int (nI L2)), (5, .int (nI a))] [] κ I R J := by
  have hL1 := h1.2.1
  have hL2 := h2.2.1
  intro n
  induction n with
  | zero => intro a I ha hn; exact absurd hn (by omega)
  | succ n ih =>
  intro a I ha hn hC hF
  refine v_iload hz dX8_changes_18 rfl ?_
  refine v_iload_n hz dX8_changes_20 rfl ?_
  first | with_reducible refine v_icmp_gtN hz 193 (by omega) (by omega) dX8_changes_21 (by decide) (fun c21 => ?_) (fun c21 => ?_) | refine v_icmp_gt hz 193 dX8_changes_21 (by decide) (fun c21 => ?_) (fun c21 => ?_)
  · exact v_sub (K I hC (by intro a2 b2 g1 g2 g3; exact hF a2 b2 g1 g2 (by omega))) ⟨rfl, rfl, rfl, rfl, rfl, trivial⟩
  · refine v_ic (v := nI 0) hz dX8_changes_24 (by decide) ?_
    refine v_istore hz dX8_changes_25 (by decide) rfl ?_
    refine v_sub (lp_changes_in hz hm h1 h2 a (by omega) (fun I1 hC1 hF1 => ?_) (L2 + 2) 0 I (by omega) (by omega) hC hF) ⟨rfl, rfl, rfl, rfl, rfl, rfl, rfl, trivial⟩
    refine v_iincN hz 1 dX8_changes_187 (by decide) rfl (by decide) rfl ?_
    refine v_goto hz 18 dX8_changes_190 (by decide) ?_
    exact v_sub (ih (a + 1) I1 (by omega) (by omega) hC1 (by intro a2 b2 g1 g2 g3; exact hF1 a2 b2 g1 g2 (by omega))) ⟨rfl, rfl, rfl, rfl, rfl, rfl, trivial⟩
set_option maxHeartbeats 4000000 in
set_option maxRecDepth 100000 in
theorem cX8_changes_ok (l : Launch) (g : Gz) (κ : Kz) (I : Iz) (R : Rz) (J : Jz) (A : Nat → Nat) (hm : LM κ R A) (q1 q2 L1 L2 : Nat) (T1 T2 : Nat → Nat) (h1 : msn I A q1 L1 T1) (h2 : msn I A q2 L2 T2) :
    Ct l mX8_changes 0 0 g [.ref (A 130), .int (nI q1), .int (nI q2)] κ I R J (Si κ R J (fun r I1 => r = nI (lev T1 T2 L1 L2) ∧ ∀ b, b ≠ A 145 → I1 b = I b)) := by
  refine ct_of (by decide) (Nat.le_of_ble_eq_true rfl) ?_
  intro z hz hr hrc hrs
  have hz : Am z cX8_changes RX8 8 1 := hz
  have hr : Rt z yX8_changes (some .int) 0 0 _ := hr
  show V z 8 0 0 0 [(0, .ref (A 130)), (1, .int (nI q1)), (2, .int (nI q2))] [] κ I R J
  have hk := hm.k
  have ho := hm.o
  have hR6 := hm.r6
  have hK6 := hm.k6
  have hN6 := hm.n6
  have hO6 := hm.o6
  have hR8 := hm.r8
  have hK8 := hm.k8
  have hN8 := hm.n8
  have hO8 := hm.o8
  have hR15 := hm.r15
  have hK15 := hm.k15
  have hN15 := hm.n15
  have hO15 := hm.o15
  have hq1 := h1.1
  have hq2 := h2.1
  have hL1 := h1.2.1
  have hL2 := h2.2.1
  refine v_aload_n hz dX8_changes_0 rfl ?_
  refine v_getR hz fX8_19 (by assumption) (by assumption) dX8_changes_1 ?_
  refine v_iload_n hz dX8_changes_4 rfl ?_
  refine v_ialdN hz (by assumption) (by assumption) (by omega) (by decide) dX8_changes_5 ?_
  refine v_top h1.2.2.1 ?_
  refine v_istore_n hz dX8_changes_6 (by decide) rfl ?_
  refine v_aload_n hz dX8_changes_7 rfl ?_
  refine v_getR hz fX8_19 (by assumption) (by assumption) dX8_changes_8 ?_
  refine v_iload_n hz dX8_changes_11 rfl ?_
  refine v_ialdN hz (by assumption) (by assumption) (by omega) (by decide) dX8_changes_12 ?_
  refine v_top h2.2.2.1 ?_
  refine v_istore hz dX8_changes_13 (by decide) rfl ?_
  refine v_ic (v := nI 0) hz dX8_changes_15 (by decide) ?_
  refine v_istore hz dX8_changes_16 (by decide) rfl ?_
  refine v_sub (lp_changes_out hz hm h1 h2 (fun I1 hC1 hF1 => ?_) (L1 + 2) 0 I (by omega) (by omega) (fun _ _ => rfl) (by intro a2 b2 g1 g2 g3; exact absurd g3 (by omega))) ⟨rfl, rfl, rfl, rfl, rfl, rfl, trivial⟩
  refine v_aload_n hz dX8_changes_193 rfl ?_
  refine v_getR hz fX8_35 (by assumption) (by assumption) dX8_changes_194 ?_
  refine v_bi (v := nI 13) hz dX8_changes_197 (by decide) ?_
  refine v_iload_n hz dX8_changes_199 rfl ?_
  first | with_reducible refine v_imulN hz dX8_changes_200 ?_ | refine v_imul hz dX8_changes_200 ?_
  refine v_iload hz dX8_changes_201 rfl ?_
  first | with_reducible refine v_iaddN hz dX8_changes_203 ?_ | refine v_iadd hz dX8_changes_203 ?_
  refine v_ialdN hz (by assumption) (by assumption) (by omega) (by decide) dX8_changes_204 ?_
  refine v_top (hF1 L1 L2 (by omega) (by omega) (by omega)) ?_
  exact v_iret hz hr dX8_changes_205 ⟨rfl, hC1⟩
end
section
/-! ===== segments and what they cost ===== -/
/-- how many signs; of each: its letters' number, its digit, its letters -/
abbrev Sg : Type := Nat × (Nat → Nat) × (Nat → Nat) × (Nat → Nat → Nat)
def cst (w L : Nat) : Nat := if 0 < L then 10 else w
def alk (L1 : Nat) (T1 : Nat → Nat) (L2 : Nat) (T2 : Nat → Nat) : Nat := (10 * lev T1 T2 L1 L2 + max L1 L2 - 1) / max L1 L2
/-- what BOTH costs, N where a word faces a tag -/
def bcq (N w L1 D1 : Nat) (T1 : Nat → Nat) (L2 D2 : Nat) (T2 : Nat → Nat) : Nat := if 0 < L1 then (if 0 < L2 then alk L1 T1 L2 T2 else N) else (if 0 < L2 then N else if D1 = D2 then 0 else w)
def bcn (N w : Nat) (S T : Sg) (i j : Nat) : Nat := bcq N w (S.2.1 i) (S.2.2.1 i) (S.2.2.2 i) (T.2.1 j) (T.2.2.1 j) (T.2.2.2 j)
def rst (w : Nat) (S T : Sg) : Nat → Nat → Nat
  | 0, 0 => 0
  | p + 1, 0 => rst w S T p 0 + cst w (S.2.1 (S.1 - (p + 1)))
  | 0, q + 1 => rst w S T 0 q + cst w (T.2.1 (T.1 - (q + 1)))
  | p + 1, q + 1 => min (bcn 1000000 w S T (S.1 - (p + 1)) (T.1 - (q + 1)) + rst w S T p q) (min (cst w (S.2.1 (S.1 - (p + 1))) + rst w S T p (q + 1)) (cst w (T.2.1 (T.1 - (q + 1))) + rst w S T (p + 1) q))
termination_by p q => p + q
/-- the least cost from the sign i of the one and the sign j of the other on -/
def pay (w : Nat) (S T : Sg) (i j : Nat) : Nat := rst w S T (S.1 - i) (T.1 - j)
theorem pay_nm (w : Nat) (S T : Sg) : pay w S T S.1 T.1 = 0 := by
  unfold pay
  rw [Nat.sub_self, Nat.sub_self, rst]
theorem pay_im {w : Nat} {S T : Sg} {i : Nat} (h : i < S.1) : pay w S T i T.1 = pay w S T (i + 1) T.1 + cst w (S.2.1 i) := by
  unfold pay
  rw [Nat.sub_self, show S.1 - i = (S.1 - (i + 1)) + 1 by omega, rst, show S.1 - (S.1 - (i + 1) + 1) = i by omega]
theorem pay_nj {w : Nat} {S T : Sg} {j : Nat} (h : j < T.1) : pay w S T S.1 j = pay w S T S.1 (j + 1) + cst w (T.2.1 j) := by
  unfold pay
  rw [Nat.sub_self, show T.1 - j = (T.1 - (j + 1)) + 1 by omega, rst, show T.1 - (T.1 - (j + 1) + 1) = j by omega]
theorem pay_ij {w : Nat} {S T : Sg} {i j : Nat} (hi : i < S.1) (hj : j < T.1) : pay w S T i j = min (bcn 1000000 w S T i j + pay w S T (i + 1) (j + 1)) (min (cst w (S.2.1 i) + pay w S T (i + 1) j) (cst w (T.2.1 j) + pay w S T i (j + 1))) := by
  unfold pay
  have e1 : S.1 - i = (S.1 - (i + 1)) + 1 := by omega
  have e2 : T.1 - j = (T.1 - (j + 1)) + 1 := by omega
  rw [e1, e2, rst, show S.1 - (S.1 - (i + 1) + 1) = i by omega, show T.1 - (T.1 - (j + 1) + 1) = j by omega]
theorem cst_le {w L : Nat} (h : w ≤ 20) : cst w L ≤ 20 := by
  unfold cst
  split <;> omega
theorem rst_le {w : Nat} {S T : Sg} (h : w ≤ 20) : ∀ p q : Nat, rst w S T p q ≤ 20 * (p + q)
  | 0, 0 => by rw [rst]; omega
  | p + 1, 0 => by
    rw [rst]
    have := rst_le (S := S) (T := T) h p 0
    have := cst_le (L := S.2.1 (S.1 - (p + 1))) h
    omega
  | 0, q + 1 => by
    rw [rst]
    have := rst_le (S := S) (T := T) h 0 q
    have := cst_le (L := T.2.1 (T.1 - (q + 1))) h
    omega
  | p + 1, q + 1 => by
    rw [rst]
    have := rst_le (S := S) (T := T) h p (q + 1)
    have := cst_le (L := S.2.1 (S.1 - (p + 1))) h
    omega
theorem pay_le {w : Nat} {S T : Sg} (h : w ≤ 20) (hS : S.1 ≤ 8) (hT : T.1 ≤ 8) (i j : Nat) : pay w S T i j ≤ 320 := by
  have := rst_le (S := S) (T := T) h (S.1 - i) (T.1 - j)
  unfold pay
  omega
theorem alk_le {L1 L2 : Nat} {T1 T2 : Nat → Nat} (h1 : L1 ≤ 12) (h2 : L2 ≤ 12) : alk L1 T1 L2 T2 ≤ 400 := by
  unfold alk
  have := lev_le T1 T2 L1 L2
  have := Nat.div_le_self (10 * lev T1 T2 L1 L2 + max L1 L2 - 1) (max L1 L2)
  omega
theorem bcq_cases (N w L1 D1 : Nat) (T1 : Nat → Nat) (L2 D2 : Nat) (T2 : Nat → Nat) (h1 : L1 ≤ 12) (h2 : L2 ≤ 12) (hw : w ≤ 20) : bcq N w L1 D1 T1 L2 D2 T2 ≤ 400 ∨ ∀ N', bcq N' w L1 D1 T1 L2 D2 T2 = N' := by
  unfold bcq
  have := alk_le (T1 := T1) (T2 := T2) h1 h2
  by_cases a : 0 < L1 <;> by_cases b : 0 < L2 <;> simp only [a, b, if_true, if_false]
  · exact Or.inl this
  · exact Or.inr (fun _ => by first | rfl | trivial)
  · exact Or.inr (fun _ => by first | rfl | trivial)
  · refine Or.inl ?_
    split <;> omega
/-- the great number doesn't matter -/
theorem bcq_N {N w L1 D1 : Nat} {T1 : Nat → Nat} {L2 D2 : Nat} {T2 : Nat → Nat} (h1 : L1 ≤ 12) (h2 : L2 ≤ 12) (hw : w ≤ 20) : bcq N w L1 D1 T1 L2 D2 T2 = bcq 1000000 w L1 D1 T1 L2 D2 T2 ∨ (bcq N w L1 D1 T1 L2 D2 T2 = N ∧ bcq 1000000 w L1 D1 T1 L2 D2 T2 = 1000000) := by
  unfold bcq
  by_cases a : 0 < L1 <;> by_cases b : 0 < L2 <;> simp [a, b]
/-! ===== the steps ===== -/
/-- which step stands at (i, j): 0 both, 1 out, 2 in -/
def knd (w : Nat) (S T : Sg) (i j : Nat) : Nat :=
  if i < S.1 ∧ j < T.1 ∧ bcn 1000000 w S T i j + pay w S T (i + 1) (j + 1) = pay w S T i j then 0
  else if i < S.1 ∧ cst w (S.2.1 i) + pay w S T (i + 1) j = pay w S T i j then 1 else 2
def nxt (w : Nat) (S T : Sg) (q : Nat × Nat) : Nat × Nat := if knd w S T q.1 q.2 = 0 then (q.1 + 1, q.2 + 1) else if knd w S T q.1 q.2 = 1 then (q.1 + 1, q.2) else (q.1, q.2 + 1)
/-- where the steps stand behind k of them -/
def pos (w : Nat) (S T : Sg) : Nat → Nat × Nat
  | 0 => (0, 0)
  | k + 1 => nxt w S T (pos w S T k)
/-- how many steps there are -/
def isNs (w : Nat) (S T : Sg) (k : Nat) : Prop := pos w S T k = (S.1, T.1) ∧ ∀ k', k' < k → pos w S T k' ≠ (S.1, T.1)
theorem isNs.one {w : Nat} {S T : Sg} {k k' : Nat} (h : isNs w S T k) (h' : isNs w S T k') : k = k' := by
  rcases Nat.lt_trichotomy k k' with e | e | e
  · exact absurd h.1 (h'.2 k e)
  · exact e
  · exact absurd h'.1 (h.2 k' e)
def stc (w : Nat) (S T : Sg) (k : Nat) : Nat :=
  if knd w S T (pos w S T k).1 (pos w S T k).2 = 0 then bcn 1000000 w S T (pos w S T k).1 (pos w S T k).2
  else if knd w S T (pos w S T k).1 (pos w S T k).2 = 1 then cst w (S.2.1 (pos w S T k).1) else cst w (T.2.1 (pos w S T k).2)
def st0 (w : Nat) (S T : Sg) (k : Nat) : Int32 := nI (knd w S T (pos w S T k).1 (pos w S T k).2)
def st1 (w : Nat) (S T : Sg) (k : Nat) : Int32 := nI (stc w S T k)
def st2 (w : Nat) (S T : Sg) (k : Nat) : Int32 := if knd w S T (pos w S T k).1 (pos w S T k).2 = 2 then -1 else nI (pos w S T k).1
def st3 (w : Nat) (S T : Sg) (k : Nat) : Int32 := if knd w S T (pos w S T k).1 (pos w S T k).2 = 1 then -1 else nI (pos w S T k).2
/-- whether the step k is one of a tag that costs something -/
def stt (w : Nat) (S T : Sg) (k : Nat) : Prop := 0 < stc w S T k ∧ (if knd w S T (pos w S T k).1 (pos w S T k).2 = 2 then T.2.1 (pos w S T k).2 = 0 else S.2.1 (pos w S T k).1 = 0)
/-! ===== sums ===== -/
def sm (f : Nat → Nat) : Nat → Nat
  | 0 => 0
  | n + 1 => sm f n + f n
theorem sm_le {f : Nat → Nat} {c : Nat} (h : ∀ i, f i ≤ c) : ∀ n, sm f n ≤ c * n
  | 0 => by simp [sm]
  | n + 1 => by
    have := sm_le h n
    have := h n
    rw [sm, Nat.mul_succ]
    omega
theorem sm_congr {f g : Nat → Nat} : ∀ {n : Nat}, (∀ i, i < n → f i = g i) → sm f n = sm g n
  | 0, _ => rfl
  | n + 1, h => by
    rw [sm, sm, sm_congr (fun i hi => h i (by omega)), h n (by omega)]
/-- what all signs cost -/
def cal (w : Nat) (S : Sg) : Nat := sm (fun i => cst w (S.2.1 i)) S.1
def wds (S : Sg) : Nat := sm (fun i => if 0 < S.2.1 i then 1 else 0) S.1
def grn (S : Sg) : Nat := sm (fun i => if 0 < S.2.1 i then S.2.1 i + 1 else 0) S.1
def sco (w : Nat) (S T : Sg) : Nat := 1000 - (1000 * pay w S T 0 0 + (cal w S + cal w T) - 1) / (cal w S + cal w T)
theorem rst_all {w : Nat} {S T : Sg} : ∀ p q : Nat, p ≤ S.1 → q ≤ T.1 → rst w S T p q + sm (fun i => cst w (S.2.1 i)) (S.1 - p) + sm (fun i => cst w (T.2.1 i)) (T.1 - q) ≤ cal w S + cal w T
  | 0, 0, _, _ => by rw [rst]; simp [cal]
  | p + 1, 0, hp, hq => by
    rw [rst]
    have := rst_all (w := w) (S := S) (T := T) p 0 (by omega) hq
    rw [show S.1 - p = (S.1 - (p + 1)) + 1 by omega, sm] at this
    omega
  | 0, q + 1, hp, hq => by
    rw [rst]
    have := rst_all (w := w) (S := S) (T := T) 0 q hp (by omega)
    rw [show T.1 - q = (T.1 - (q + 1)) + 1 by omega, sm] at this
    omega
  | p + 1, q + 1, hp, hq => by
    rw [rst]
    have := rst_all (w := w) (S := S) (T := T) p (q + 1) (by omega) hq
    rw [show S.1 - p = (S.1 - (p + 1)) + 1 by omega, sm] at this
    omega
theorem pay_all (w : Nat) (S T : Sg) : pay w S T 0 0 ≤ cal w S + cal w T := by
  have := rst_all (w := w) (S := S) (T := T) S.1 T.1 (Nat.le_refl _) (Nat.le_refl _)
  unfold pay
  simp only [Nat.sub_zero]
  omega
theorem quo_le {f a : Nat} (h : f ≤ a) (ha : 0 < a) : (1000 * f + a - 1) / a ≤ 1000 := by
  have h2 : (1000 * f + a - 1) / a < 1001 := by
    rw [Nat.div_lt_iff_lt_mul ha]
    omega
  omega
theorem cst_pos {w L : Nat} (h : 1 ≤ w) : 1 ≤ cst w L := by
  unfold cst
  split <;> omega
theorem sm_pos {f : Nat → Nat} (h : ∀ i, 1 ≤ f i) : ∀ n, n ≤ sm f n
  | 0 => by simp [sm]
  | n + 1 => by
    have := sm_pos h n
    have := h n
    rw [sm]
    omega
theorem cal_le {w : Nat} {S : Sg} (h : w ≤ 20) (hS : S.1 ≤ 8) : cal w S ≤ 160 := by
  have := sm_le (f := fun i => cst w (S.2.1 i)) (fun i => cst_le h) S.1
  unfold cal
  omega
theorem cal_pos {w : Nat} {S : Sg} (h : 1 ≤ w) (hS : 1 ≤ S.1) : 1 ≤ cal w S := by
  have := sm_pos (f := fun i => cst w (S.2.1 i)) (fun i => cst_pos h) S.1
  unfold cal
  omega
end
section
/-! ===== the reference: costs and steps ===== -/
/-- one of the reference's rows isn't another -/
def mT : List Nat := [0, 1, 4, 5, 6, 7, 8, 15, 16, 17, 19, 20, 21, 22, 23, 25, 26, 27, 28, 29]
theorem LM.tag {κ : Kz} {R : Rz} {A : Nat → Nat} (h : LM κ R A) {f : Nat} (hf : f ∈ mT) : κ.2.2 (A (130 + f)) = 130 + f := by
  simp only [mT, List.mem_cons, List.not_mem_nil, or_false] at hf
  rcases hf with rfl | rfl | rfl | rfl | rfl | rfl | rfl | rfl | rfl | rfl | rfl | rfl | rfl | rfl | rfl | rfl | rfl | rfl | rfl | rfl
  · exact h.o
  · exact h.o1
  · exact h.o4
  · exact h.o5
  · exact h.o6
  · exact h.o7
  · exact h.o8
  · exact h.o15
  · exact h.o16
  · exact h.o17
  · exact h.o19
  · exact h.o20
  · exact h.o21
  · exact h.o22
  · exact h.o23
  · exact h.o25
  · exact h.o26
  · exact h.o27
  · exact h.o28
  · exact h.o29
theorem LM.ne {κ : Kz} {R : Rz} {A : Nat → Nat} (h : LM κ R A) (f g : Nat) (hf : f ∈ mT) (hg : g ∈ mT) (e : f ≠ g) : A (130 + f) ≠ A (130 + g) := tag_ne (h.tag hf) (h.tag hg) (by omega)
/-- a row of the reference is as it was -/
theorem LM.fm {κ : Kz} {R : Rz} {A : Nat → Nat} (h : LM κ R A) {ts : List Nat} {I I1 : Iz} (hF : Fm ts A I I1) (f : Nat) (hf : f ∈ mT) (hts : ∀ t ∈ ts, 130 ≤ t ∧ t - 130 ∈ mT ∧ t - 130 ≠ f) : I1 (A (130 + f)) = I (A (130 + f)) := hF _ (fun t ht => by
  obtain ⟨h1, h2, h3⟩ := hts t ht
  have := h.ne f (t - 130) hf h2 (Ne.symm h3)
  rw [show 130 + (t - 130) = t by omega] at this
  exact this)
def wt (I : Iz) (A : Nat → Nat) (w : Nat) : Prop := I (A 130) 9 = nI w ∧ 1 ≤ w ∧ w ≤ 20
def dgt (I : Iz) (A : Nat → Nat) (q D : Nat) : Prop := I (A 137) q = nI D ∧ D < 10
/-- a segment of the reference, at its place s -/
def msg (I : Iz) (A : Nat → Nat) (s : Nat) (S : Sg) : Prop := s < 14 ∧ S.1 ≤ 8 ∧ I (A 134) s = nI S.1 ∧ ∀ i, i < S.1 → msn I A (8 * s + i) (S.2.1 i) (S.2.2.2 i) ∧ dgt I A (8 * s + i) (S.2.2.1 i)
theorem msg.keep {I I1 : Iz} {A : Nat → Nat} {s : Nat} {S : Sg} (h : msg I A s S) (h4 : I1 (A 134) = I (A 134)) (h6 : I1 (A 136) = I (A 136)) (h7 : I1 (A 137) = I (A 137)) (h8 : I1 (A 138) = I (A 138)) : msg I1 A s S := by
  unfold msg msn dgt
  rw [h4, h6, h7, h8]
  exact h
theorem bcq_ne {N w L1 D1 : Nat} {T1 : Nat → Nat} {L2 D2 : Nat} {T2 : Nat → Nat} (h : ¬ bz (0 < L1) = bz (0 < L2)) : N = bcq N w L1 D1 T1 L2 D2 T2 := by
  unfold bcq
  by_cases a : 0 < L1 <;> by_cases b : 0 < L2
  · exact absurd (by rw [bz_t a, bz_t b]) h
  · simp [a, b]
  · simp [a, b]
  · exact absurd (by rw [bz_f a, bz_f b]) h
theorem bz_iff {p q : Prop} [Decidable p] [Decidable q] (h : bz p = bz q) : p ↔ q := by
  by_cases a : p <;> by_cases b : q
  · simp [a, b]
  · rw [bz_t a, bz_f b] at h; exact absurd h (by decide)
  · rw [bz_f a, bz_t b] at h; exact absurd h (by decide)
  · simp [a, b]
theorem bcq_w {N w L1 D1 : Nat} {T1 : Nat → Nat} {L2 D2 : Nat} {T2 : Nat → Nat} (h : bz (0 < L1) = bz (0 < L2)) (h1 : 0 < L1) : alk L1 T1 L2 T2 = bcq N w L1 D1 T1 L2 D2 T2 := by
  unfold bcq
  rw [if_pos h1, if_pos ((bz_iff h).mp h1)]
theorem bcq_t {N w L1 D1 : Nat} {T1 : Nat → Nat} {L2 D2 : Nat} {T2 : Nat → Nat} (h : bz (0 < L1) = bz (0 < L2)) (h1 : ¬ 0 < L1) (e : D1 = D2) : 0 = bcq N w L1 D1 T1 L2 D2 T2 := by
  unfold bcq
  rw [if_neg h1, if_neg (fun q => h1 ((bz_iff h).mpr q)), if_pos e]
theorem bcq_u {N w L1 D1 : Nat} {T1 : Nat → Nat} {L2 D2 : Nat} {T2 : Nat → Nat} (h : bz (0 < L1) = bz (0 < L2)) (h1 : ¬ 0 < L1) (e : D1 ≠ D2) : w = bcq N w L1 D1 T1 L2 D2 T2 := by
  unfold bcq
  rw [if_neg h1, if_neg (fun q => h1 ((bz_iff h).mpr q)), if_neg e]
set_option maxHeartbeats 4000000 in
set_option maxRecDepth 100000 in
theorem cX8_isWord_ok (l : Launch) (g : Gz) (κ : Kz) (I : Iz) (R : Rz) (J : Jz) (A : Nat → Nat) (hm : LM κ R A) (q L : Nat) (hq : q < 112) (hL : L ≤ 12) (hs : I (A 136) q = nI L) : Ct l mX8_isWord 0 0 g [.ref (A 130), .int (nI q)] κ I R J (Si κ R J (fun r I1 => r = bz (0 < L) ∧ I1 = I)) := by
  refine ct_of (by decide) (Nat.le_of_ble_eq_true rfl) ?_
  intro z hz hr hrc hrs
  have hz : Am z cX8_isWord RX8 2 0 := hz
  have hr : Rt z yX8_isWord (some .boolean) 0 0 _ := hr
  show V z 2 0 0 0 [(0, .ref (A 130)), (1, .int (nI q))] [] κ I R J
  have hk := hm.k
  have ho := hm.o
  have hR6 := hm.r6
  have hK6 := hm.k6
  have hN6 := hm.n6
  have hO6 := hm.o6
  refine v_aload_n hz dX8_isWord_0 rfl ?_
  refine v_getR hz fX8_19 (by assumption) (by assumption) dX8_isWord_1 ?_
  refine v_iload_n hz dX8_isWord_4 rfl ?_
  refine v_ialdN hz (by assumption) (by assumption) (by omega) (by decide) dX8_isWord_5 ?_
  refine v_top hs ?_
  first | with_reducible refine v_if_leN hz 13 (by omega) dX8_isWord_6 (by decide) (fun c6 => ?_) (fun c6 => ?_) | refine v_if_le hz 13 dX8_isWord_6 (by decide) (fun c6 => ?_) (fun c6 => ?_)
  · refine v_ic (v := nI 0) hz dX8_isWord_13 (by decide) ?_
    exact v_zret hz hr dX8_isWord_14 (by first | exact Or.inl rfl | exact Or.inr rfl | exact bz_01) ⟨by first | exact (bz_t (by omega)).symm | exact (bz_f (by omega)).symm, rfl⟩
  · refine v_ic (v := nI 1) hz dX8_isWord_9 (by decide) ?_
    refine v_goto hz 14 dX8_isWord_10 (by decide) ?_
    exact v_zret hz hr dX8_isWord_14 (by first | exact Or.inl rfl | exact Or.inr rfl | exact bz_01) ⟨by first | exact (bz_t (by omega)).symm | exact (bz_f (by omega)).symm, rfl⟩
set_option maxHeartbeats 4000000 in
set_option maxRecDepth 100000 in
theorem cX8_costOf_ok (l : Launch) (g : Gz) (κ : Kz) (I : Iz) (R : Rz) (J : Jz) (A : Nat → Nat) (hm : LM κ R A) (q L w : Nat) (hq : q < 112) (hL : L ≤ 12) (hs : I (A 136) q = nI L) (hw : I (A 130) 9 = nI w) : Ct l mX8_costOf 0 0 g [.ref (A 130), .int (nI q)] κ I R J (Si κ R J (fun r I1 => r = nI (cst w L) ∧ I1 = I)) := by
  refine ct_of (by decide) (Nat.le_of_ble_eq_true rfl) ?_
  intro z hz hr hrc hrs
  have hz : Am z cX8_costOf RX8 2 1 := hz
  have hr : Rt z yX8_costOf (some .int) 0 0 _ := hr
  show V z 2 0 0 0 [(0, .ref (A 130)), (1, .int (nI q))] [] κ I R J
  have hk := hm.k
  have ho := hm.o
  refine v_aload_n hz dX8_costOf_0 rfl ?_
  refine v_iload_n hz dX8_costOf_1 rfl ?_
  refine v_callVi hz lX8_140 (cX8_isWord_ok _ _ _ _ _ _ A hm q L hq hL hs) (by assumption) rfl rfl (Nat.le_of_ble_eq_true rfl) (by decide) ⟨Nat.zero_le _, Nat.zero_le _⟩ dX8_costOf_2 (fun r I1 h2 => ?_)
  obtain ⟨rfl, rfl⟩ := h2
  first | with_reducible refine v_if_eqB hz 13 dX8_costOf_5 (by decide) (fun c5 => ?_) (fun c5 => ?_) | with_reducible refine v_if_eqN hz 13 (by omega) dX8_costOf_5 (by decide) (fun c5 => ?_) (fun c5 => ?_) | refine v_if_eq hz 13 dX8_costOf_5 (by decide) (fun c5 => ?_) (fun c5 => ?_)
  · refine v_aload_n hz dX8_costOf_13 rfl ?_
    refine v_getI hz fX8_28 (by assumption) dX8_costOf_14 ?_
    refine v_top hw ?_
    exact v_iret hz hr dX8_costOf_17 ⟨by first | rw [cst, if_pos c5] | rw [cst, if_neg c5], rfl⟩
  · refine v_bi (v := nI 10) hz dX8_costOf_8 (by decide) ?_
    refine v_goto hz 17 dX8_costOf_10 (by decide) ?_
    exact v_iret hz hr dX8_costOf_17 ⟨by first | rw [cst, if_pos c5] | rw [cst, if_neg c5], rfl⟩
set_option maxHeartbeats 4000000 in
set_option maxRecDepth 100000 in
theorem cX8_alikeNow_ok (l : Launch) (g : Gz) (κ : Kz) (I : Iz) (R : Rz) (J : Jz) (A : Nat → Nat) (hm : LM κ R A) (q1 q2 L1 L2 : Nat) (T1 T2 : Nat → Nat) (h1 : msn I A q1 L1 T1) (h2 : msn I A q2 L2 T2) (hp : 0 < max L1 L2) : Ct l mX8_alikeNow 0 0 g [.ref (A 130), .int (nI q1), .int (nI q2)] κ I R J (Si κ R J (fun r I1 => r = nI (alk L1 T1 L2 T2) ∧ Fm [145] A I I1)) := by
  refine ct_of (by decide) (Nat.le_of_ble_eq_true rfl) ?_
  intro z hz hr hrc hrs
  have hz : Am z cX8_alikeNow RX8 4 2 := hz
  have hr : Rt z yX8_alikeNow (some .int) 0 0 _ := hr
  show V z 4 0 0 0 [(0, .ref (A 130)), (1, .int (nI q1)), (2, .int (nI q2))] [] κ I R J
  have hk := hm.k
  have ho := hm.o
  have hR6 := hm.r6
  have hK6 := hm.k6
  have hN6 := hm.n6
  have hO6 := hm.o6
  have hq1 := h1.1
  have hq2 := h2.1
  have hL1 := h1.2.1
  have hL2 := h2.2.1
  have s1 := h1.2.2.1
  have s2 := h2.2.2.1
  have lv := lev_le T1 T2 L1 L2
  refine v_aload_n hz dX8_alikeNow_0 rfl ?_
  refine v_getR hz fX8_19 (by assumption) (by assumption) dX8_alikeNow_1 ?_
  refine v_iload_n hz dX8_alikeNow_4 rfl ?_
  refine v_ialdN hz (by assumption) (by assumption) (by omega) (by decide) dX8_alikeNow_5 ?_
  refine v_top s1 ?_
  refine v_aload_n hz dX8_alikeNow_6 rfl ?_
  refine v_getR hz fX8_19 (by assumption) (by assumption) dX8_alikeNow_7 ?_
  refine v_iload_n hz dX8_alikeNow_10 rfl ?_
  refine v_ialdN hz (by assumption) (by assumption) (by omega) (by decide) dX8_alikeNow_11 ?_
  refine v_top s2 ?_
  first | with_reducible refine v_icmp_leN hz 24 (by omega) (by omega) dX8_alikeNow_12 (by decide) (fun c12 => ?_) (fun c12 => ?_) | refine v_icmp_le hz 24 dX8_alikeNow_12 (by decide) (fun c12 => ?_) (fun c12 => ?_)
  · refine v_aload_n hz dX8_alikeNow_24 rfl ?_
    refine v_getR hz fX8_19 (by assumption) (by assumption) dX8_alikeNow_25 ?_
    refine v_iload_n hz dX8_alikeNow_28 rfl ?_
    refine v_ialdN hz (by assumption) (by assumption) (by omega) (by decide) dX8_alikeNow_29 ?_
    refine v_top s2 ?_
    refine v_istore_n hz dX8_alikeNow_30 (by decide) rfl ?_
    refine v_bi (v := nI 10) hz dX8_alikeNow_31 (by decide) ?_
    refine v_aload_n hz dX8_alikeNow_33 rfl ?_
    refine v_iload_n hz dX8_alikeNow_34 rfl ?_
    refine v_iload_n hz dX8_alikeNow_35 rfl ?_
    refine v_callVi hz lX8_137 (cX8_changes_ok _ _ _ _ _ _ A hm q1 q2 L1 L2 T1 T2 h1 h2) (by assumption) rfl rfl (Nat.le_of_ble_eq_true rfl) (by decide) ⟨Nat.zero_le _, Nat.zero_le _⟩ dX8_alikeNow_36 (fun r I1 h36 => ?_)
    obtain ⟨rfl, hF⟩ := h36
    first | with_reducible refine v_imulN hz dX8_alikeNow_39 ?_ | refine v_imul hz dX8_alikeNow_39 ?_
    refine v_iload_n hz dX8_alikeNow_40 rfl ?_
    first | with_reducible refine v_iaddN hz dX8_alikeNow_41 ?_ | refine v_iadd hz dX8_alikeNow_41 ?_
    refine v_ic (v := nI 1) hz dX8_alikeNow_42 (by decide) ?_
    refine v_isubN hz (by omega) dX8_alikeNow_43 ?_
    refine v_iload_n hz dX8_alikeNow_44 rfl ?_
    refine v_idivN hz (by omega) (by omega) (by omega) dX8_alikeNow_45 ?_
    exact v_iret hz hr dX8_alikeNow_46 ⟨by unfold alk; first | rw [Nat.max_eq_right c12] | rw [Nat.max_eq_left (by omega)], fun b hb => hF b (hb 145 (by simp))⟩
  · refine v_aload_n hz dX8_alikeNow_15 rfl ?_
    refine v_getR hz fX8_19 (by assumption) (by assumption) dX8_alikeNow_16 ?_
    refine v_iload_n hz dX8_alikeNow_19 rfl ?_
    refine v_ialdN hz (by assumption) (by assumption) (by omega) (by decide) dX8_alikeNow_20 ?_
    refine v_top s1 ?_
    refine v_goto hz 30 dX8_alikeNow_21 (by decide) ?_
    refine v_istore_n hz dX8_alikeNow_30 (by decide) rfl ?_
    refine v_bi (v := nI 10) hz dX8_alikeNow_31 (by decide) ?_
    refine v_aload_n hz dX8_alikeNow_33 rfl ?_
    refine v_iload_n hz dX8_alikeNow_34 rfl ?_
    refine v_iload_n hz dX8_alikeNow_35 rfl ?_
    refine v_callVi hz lX8_137 (cX8_changes_ok _ _ _ _ _ _ A hm q1 q2 L1 L2 T1 T2 h1 h2) (by assumption) rfl rfl (Nat.le_of_ble_eq_true rfl) (by decide) ⟨Nat.zero_le _, Nat.zero_le _⟩ dX8_alikeNow_36 (fun r I1 h36 => ?_)
    obtain ⟨rfl, hF⟩ := h36
    first | with_reducible refine v_imulN hz dX8_alikeNow_39 ?_ | refine v_imul hz dX8_alikeNow_39 ?_
    refine v_iload_n hz dX8_alikeNow_40 rfl ?_
    first | with_reducible refine v_iaddN hz dX8_alikeNow_41 ?_ | refine v_iadd hz dX8_alikeNow_41 ?_
    refine v_ic (v := nI 1) hz dX8_alikeNow_42 (by decide) ?_
    refine v_isubN hz (by omega) dX8_alikeNow_43 ?_
    refine v_iload_n hz dX8_alikeNow_44 rfl ?_
    refine v_idivN hz (by omega) (by omega) (by omega) dX8_alikeNow_45 ?_
    exact v_iret hz hr dX8_alikeNow_46 ⟨by unfold alk; first | rw [Nat.max_eq_right c12] | rw [Nat.max_eq_left (by omega)], fun b hb => hF b (hb 145 (by simp))⟩
set_option maxHeartbeats 4000000 in
set_option maxRecDepth 100000 in
theorem cX8_bothCost_ok (l : Launch) (g : Gz) (κ : Kz) (I : Iz) (R : Rz) (J : Jz) (A : Nat → Nat) (hm : LM κ R A) (w q1 q2 L1 L2 D1 D2 : Nat) (T1 T2 : Nat → Nat) (hw : I (A 130) 9 = nI w) (h1 : msn I A q1 L1 T1) (h2 : msn I A q2 L2 T2) (d1 : dgt I A q1 D1) (d2 : dgt I A q2 D2) : Ct l mX8_bothCost 0 0 g [.ref (A 130), .int (nI q1), .int (nI q2)] κ I R J (Si κ R J (fun r I1 => r = nI (bcq 1048576 w L1 D1 T1 L2 D2 T2) ∧ Fm [145] A I I1)) := by
  refine ct_of (by decide) (Nat.le_of_ble_eq_true rfl) ?_
  intro z hz hr hrc hrs
  have hz : Am z cX8_bothCost RX8 3 3 := hz
  have hr : Rt z yX8_bothCost (some .int) 0 0 _ := hr
  show V z 3 0 0 0 [(0, .ref (A 130)), (1, .int (nI q1)), (2, .int (nI q2))] [] κ I R J
  have hk := hm.k
  have ho := hm.o
  have hR7 := hm.r7
  have hK7 := hm.k7
  have hN7 := hm.n7
  have hO7 := hm.o7
  have hq1 := h1.1
  have hq2 := h2.1
  have hL1 := h1.2.1
  have hL2 := h2.2.1
  have s1 := h1.2.2.1
  have s2 := h2.2.2.1
  have e1 := d1.2
  have e2 := d2.2
  refine v_aload_n hz dX8_bothCost_0 rfl ?_
  refine v_iload_n hz dX8_bothCost_1 rfl ?_
  refine v_callVi hz lX8_140 (cX8_isWord_ok _ _ _ _ _ _ A hm q1 L1 hq1 hL1 s1) (by assumption) rfl rfl (Nat.le_of_ble_eq_true rfl) (by decide) ⟨Nat.zero_le _, Nat.zero_le _⟩ dX8_bothCost_2 (fun r I1 h2w => ?_)
  obtain ⟨rfl, rfl⟩ := h2w
  refine v_aload_n hz dX8_bothCost_5 rfl ?_
  refine v_iload_n hz dX8_bothCost_6 rfl ?_
  refine v_callVi hz lX8_140 (cX8_isWord_ok _ _ _ _ _ _ A hm q2 L2 hq2 hL2 s2) (by assumption) rfl rfl (Nat.le_of_ble_eq_true rfl) (by decide) ⟨Nat.zero_le _, Nat.zero_le _⟩ dX8_bothCost_7 (fun r I1 h7 => ?_)
  obtain ⟨rfl, rfl⟩ := h7
  refine v_icmp_eq hz 16 dX8_bothCost_10 (by decide) (fun c10 => ?_) (fun c10 => ?_)
  · refine v_aload_n hz dX8_bothCost_16 rfl ?_
    refine v_iload_n hz dX8_bothCost_17 rfl ?_
    refine v_callVi hz lX8_140 (cX8_isWord_ok _ _ _ _ _ _ A hm q1 L1 hq1 hL1 s1) (by assumption) rfl rfl (Nat.le_of_ble_eq_true rfl) (by decide) ⟨Nat.zero_le _, Nat.zero_le _⟩ dX8_bothCost_18 (fun r I1 h18 => ?_)
    obtain ⟨rfl, rfl⟩ := h18
    first | with_reducible refine v_if_eqB hz 33 dX8_bothCost_21 (by decide) (fun c21 => ?_) (fun c21 => ?_) | with_reducible refine v_if_eqN hz 33 (by omega) dX8_bothCost_21 (by decide) (fun c21 => ?_) (fun c21 => ?_) | refine v_if_eq hz 33 dX8_bothCost_21 (by decide) (fun c21 => ?_) (fun c21 => ?_)
    · refine v_aload_n hz dX8_bothCost_33 rfl ?_
      refine v_getR hz fX8_22 (by assumption) (by assumption) dX8_bothCost_34 ?_
      refine v_iload_n hz dX8_bothCost_37 rfl ?_
      refine v_ialdN hz (by assumption) (by assumption) (by omega) (by decide) dX8_bothCost_38 ?_
      refine v_top d1.1 ?_
      refine v_aload_n hz dX8_bothCost_39 rfl ?_
      refine v_getR hz fX8_22 (by assumption) (by assumption) dX8_bothCost_40 ?_
      refine v_iload_n hz dX8_bothCost_43 rfl ?_
      refine v_ialdN hz (by assumption) (by assumption) (by omega) (by decide) dX8_bothCost_44 ?_
      refine v_top d2.1 ?_
      first | with_reducible refine v_icmp_neN hz 52 (by omega) (by omega) dX8_bothCost_45 (by decide) (fun c45 => ?_) (fun c45 => ?_) | refine v_icmp_ne hz 52 dX8_bothCost_45 (by decide) (fun c45 => ?_) (fun c45 => ?_)
      · refine v_aload_n hz dX8_bothCost_52 rfl ?_
        refine v_getI hz fX8_28 (by assumption) dX8_bothCost_53 ?_
        refine v_top hw ?_
        exact v_iret hz hr dX8_bothCost_56 (by first | exact ⟨congrArg nI (bcq_w c10 c21), hF⟩ | exact ⟨congrArg nI (bcq_t c10 c21 (by omega)), Fm.rf⟩ | exact ⟨congrArg nI (bcq_u c10 c21 (by omega)), Fm.rf⟩)
      · refine v_ic (v := nI 0) hz dX8_bothCost_48 (by decide) ?_
        refine v_goto hz 56 dX8_bothCost_49 (by decide) ?_
        exact v_iret hz hr dX8_bothCost_56 (by first | exact ⟨congrArg nI (bcq_w c10 c21), hF⟩ | exact ⟨congrArg nI (bcq_t c10 c21 (by omega)), Fm.rf⟩ | exact ⟨congrArg nI (bcq_u c10 c21 (by omega)), Fm.rf⟩)
    · refine v_aload_n hz dX8_bothCost_24 rfl ?_
      refine v_iload_n hz dX8_bothCost_25 rfl ?_
      refine v_iload_n hz dX8_bothCost_26 rfl ?_
      refine v_callVi hz lX8_144 (cX8_alikeNow_ok _ _ _ _ _ _ A hm q1 q2 L1 L2 T1 T2 h1 h2 (by omega)) (by assumption) rfl rfl (Nat.le_of_ble_eq_true rfl) (by decide) ⟨Nat.zero_le _, Nat.zero_le _⟩ dX8_bothCost_27 (fun r I1 h27 => ?_)
      obtain ⟨rfl, hF⟩ := h27
      refine v_goto hz 56 dX8_bothCost_30 (by decide) ?_
      exact v_iret hz hr dX8_bothCost_56 (by first | exact ⟨congrArg nI (bcq_w c10 c21), hF⟩ | exact ⟨congrArg nI (bcq_t c10 c21 (by omega)), Fm.rf⟩ | exact ⟨congrArg nI (bcq_u c10 c21 (by omega)), Fm.rf⟩)
  · refine v_ldc (v := 1048576) hz (tg_mem 936 (by decide +kernel) rfl) dX8_bothCost_13 ?_
    refine v_top (y := nI 1048576) rfl ?_
    exact v_iret hz hr dX8_bothCost_15 ⟨congrArg nI (bcq_ne c10), Fm.rf⟩
end
