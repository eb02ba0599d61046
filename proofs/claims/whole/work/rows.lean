section
-- ===== PART A: goes FIRST, ahead of the names: the tables' words, and 'selects' of the private methods out of them =====
/-- a private method of a class that the tables say can be made, by its rows of tables_1 -/
def lw_okq (q : MethodName × Nat) : Prop := (q.1.cls ≠ "java/lang/invoke/MethodHandle" ∧ q.1.cls ≠ "java/lang/invoke/VarHandle") ∧ Cond.instantiable q.1.cls q.2 ∈ tables_1 ∧ Cond.privateMethod q.1 ∈ tables_1 ∧ Cond.instanceMethod q.1 ∈ tables_1
theorem lw_p0 : lw_okq (⟨"NearPhrases$Page", "goesOn", "(I)Z"⟩, 5) := ⟨⟨by decide +kernel, by decide +kernel⟩, List.mem_of_getElem? (i := 20) (by decide +kernel), List.mem_of_getElem? (i := 303) (by decide +kernel), List.mem_of_getElem? (i := 304) (by decide +kernel)⟩
theorem lw_p1 : lw_okq (⟨"NearPhrases$Page", "beginsSign", "(I)Z"⟩, 5) := ⟨⟨by decide +kernel, by decide +kernel⟩, List.mem_of_getElem? (i := 20) (by decide +kernel), List.mem_of_getElem? (i := 307) (by decide +kernel), List.mem_of_getElem? (i := 308) (by decide +kernel)⟩
theorem lw_p2 : lw_okq (⟨"NearPhrases$Page", "lengthensWord", "()Z"⟩, 5) := ⟨⟨by decide +kernel, by decide +kernel⟩, List.mem_of_getElem? (i := 20) (by decide +kernel), List.mem_of_getElem? (i := 314) (by decide +kernel), List.mem_of_getElem? (i := 315) (by decide +kernel)⟩
theorem lw_p3 : lw_okq (⟨"NearPhrases$Page", "endsSign", "(I)Z"⟩, 5) := ⟨⟨by decide +kernel, by decide +kernel⟩, List.mem_of_getElem? (i := 20) (by decide +kernel), List.mem_of_getElem? (i := 318) (by decide +kernel), List.mem_of_getElem? (i := 319) (by decide +kernel)⟩
theorem lw_p4 : lw_okq (⟨"NearPhrases$Segment", "addGramsOf", "(LNearPhrases$Sign;)V"⟩, 6) := ⟨⟨by decide +kernel, by decide +kernel⟩, List.mem_of_getElem? (i := 48) (by decide +kernel), List.mem_of_getElem? (i := 348) (by decide +kernel), List.mem_of_getElem? (i := 349) (by decide +kernel)⟩
theorem lw_p5 : lw_okq (⟨"NearPhrases$Segment", "insertGram", "(I)V"⟩, 6) := ⟨⟨by decide +kernel, by decide +kernel⟩, List.mem_of_getElem? (i := 48) (by decide +kernel), List.mem_of_getElem? (i := 358) (by decide +kernel), List.mem_of_getElem? (i := 359) (by decide +kernel)⟩
theorem lw_p6 : lw_okq (⟨"NearPhrases", "numberOfSame", "(LNearPhrases$Segment;)I"⟩, 14) := ⟨⟨by decide +kernel, by decide +kernel⟩, List.mem_of_getElem? (i := 12) (by decide +kernel), List.mem_of_getElem? (i := 362) (by decide +kernel), List.mem_of_getElem? (i := 363) (by decide +kernel)⟩
theorem lw_p7 : lw_okq (⟨"NearPhrases", "isKept", "(I)Z"⟩, 14) := ⟨⟨by decide +kernel, by decide +kernel⟩, List.mem_of_getElem? (i := 12) (by decide +kernel), List.mem_of_getElem? (i := 389) (by decide +kernel), List.mem_of_getElem? (i := 390) (by decide +kernel)⟩
theorem lw_p8 : lw_okq (⟨"NearPhrases", "isSignOfKept", "(II)Z"⟩, 14) := ⟨⟨by decide +kernel, by decide +kernel⟩, List.mem_of_getElem? (i := 12) (by decide +kernel), List.mem_of_getElem? (i := 430) (by decide +kernel), List.mem_of_getElem? (i := 431) (by decide +kernel)⟩
theorem lw_p9 : lw_okq (⟨"NearPhrases$Aligner", "leastEdits", "(LNearPhrases$Sign;LNearPhrases$Sign;)I"⟩, 3) := ⟨⟨by decide +kernel, by decide +kernel⟩, List.mem_of_getElem? (i := 118) (by decide +kernel), List.mem_of_getElem? (i := 451) (by decide +kernel), List.mem_of_getElem? (i := 452) (by decide +kernel)⟩
theorem lw_p10 : lw_okq (⟨"NearPhrases$Aligner", "fillBoth", "(LNearPhrases$Segment;LNearPhrases$Segment;I)V"⟩, 3) := ⟨⟨by decide +kernel, by decide +kernel⟩, List.mem_of_getElem? (i := 118) (by decide +kernel), List.mem_of_getElem? (i := 463) (by decide +kernel), List.mem_of_getElem? (i := 464) (by decide +kernel)⟩
theorem lw_p11 : lw_okq (⟨"NearPhrases$Aligner", "costOfBoth", "(LNearPhrases$Sign;LNearPhrases$Sign;I)I"⟩, 3) := ⟨⟨by decide +kernel, by decide +kernel⟩, List.mem_of_getElem? (i := 118) (by decide +kernel), List.mem_of_getElem? (i := 467) (by decide +kernel), List.mem_of_getElem? (i := 468) (by decide +kernel)⟩
theorem lw_p12 : lw_okq (⟨"NearPhrases$Aligner", "fillRest", "(LNearPhrases$Segment;LNearPhrases$Segment;I)V"⟩, 3) := ⟨⟨by decide +kernel, by decide +kernel⟩, List.mem_of_getElem? (i := 118) (by decide +kernel), List.mem_of_getElem? (i := 474) (by decide +kernel), List.mem_of_getElem? (i := 475) (by decide +kernel)⟩
theorem lw_p13 : lw_okq (⟨"NearPhrases$Aligner", "walkSteps", "(LNearPhrases$Segment;LNearPhrases$Segment;ILNearPhrases$Comparison;)V"⟩, 3) := ⟨⟨by decide +kernel, by decide +kernel⟩, List.mem_of_getElem? (i := 118) (by decide +kernel), List.mem_of_getElem? (i := 495) (by decide +kernel), List.mem_of_getElem? (i := 496) (by decide +kernel)⟩
theorem lw_p14 : lw_okq (⟨"NearPhrases", "hasQuestion", "()Z"⟩, 14) := ⟨⟨by decide +kernel, by decide +kernel⟩, List.mem_of_getElem? (i := 12) (by decide +kernel), List.mem_of_getElem? (i := 526) (by decide +kernel), List.mem_of_getElem? (i := 527) (by decide +kernel)⟩
theorem lw_p15 : lw_okq (⟨"NearPhrases", "refreshFindings", "()V"⟩, 14) := ⟨⟨by decide +kernel, by decide +kernel⟩, List.mem_of_getElem? (i := 12) (by decide +kernel), List.mem_of_getElem? (i := 530) (by decide +kernel), List.mem_of_getElem? (i := 531) (by decide +kernel)⟩
def lw_privs_1 : List (MethodName × Nat) := [(⟨"NearPhrases$Page", "goesOn", "(I)Z"⟩, 5), (⟨"NearPhrases$Page", "beginsSign", "(I)Z"⟩, 5), (⟨"NearPhrases$Page", "lengthensWord", "()Z"⟩, 5), (⟨"NearPhrases$Page", "endsSign", "(I)Z"⟩, 5), (⟨"NearPhrases$Segment", "addGramsOf", "(LNearPhrases$Sign;)V"⟩, 6), (⟨"NearPhrases$Segment", "insertGram", "(I)V"⟩, 6), (⟨"NearPhrases", "numberOfSame", "(LNearPhrases$Segment;)I"⟩, 14), (⟨"NearPhrases", "isKept", "(I)Z"⟩, 14), (⟨"NearPhrases", "isSignOfKept", "(II)Z"⟩, 14), (⟨"NearPhrases$Aligner", "leastEdits", "(LNearPhrases$Sign;LNearPhrases$Sign;)I"⟩, 3), (⟨"NearPhrases$Aligner", "fillBoth", "(LNearPhrases$Segment;LNearPhrases$Segment;I)V"⟩, 3), (⟨"NearPhrases$Aligner", "costOfBoth", "(LNearPhrases$Sign;LNearPhrases$Sign;I)I"⟩, 3), (⟨"NearPhrases$Aligner", "fillRest", "(LNearPhrases$Segment;LNearPhrases$Segment;I)V"⟩, 3), (⟨"NearPhrases$Aligner", "walkSteps", "(LNearPhrases$Segment;LNearPhrases$Segment;ILNearPhrases$Comparison;)V"⟩, 3), (⟨"NearPhrases", "hasQuestion", "()Z"⟩, 14), (⟨"NearPhrases", "refreshFindings", "()V"⟩, 14)]
theorem lw_r1 : ∀ q ∈ lw_privs_1, lw_okq q := List.forall_mem_cons.mpr ⟨lw_p0, List.forall_mem_cons.mpr ⟨lw_p1, List.forall_mem_cons.mpr ⟨lw_p2, List.forall_mem_cons.mpr ⟨lw_p3, List.forall_mem_cons.mpr ⟨lw_p4, List.forall_mem_cons.mpr ⟨lw_p5, List.forall_mem_cons.mpr ⟨lw_p6, List.forall_mem_cons.mpr ⟨lw_p7, List.forall_mem_cons.mpr ⟨lw_p8, List.forall_mem_cons.mpr ⟨lw_p9, List.forall_mem_cons.mpr ⟨lw_p10, List.forall_mem_cons.mpr ⟨lw_p11, List.forall_mem_cons.mpr ⟨lw_p12, List.forall_mem_cons.mpr ⟨lw_p13, List.forall_mem_cons.mpr ⟨lw_p14, List.forall_mem_cons.mpr ⟨lw_p15, fun _ h => absurd h List.not_mem_nil⟩⟩⟩⟩⟩⟩⟩⟩⟩⟩⟩⟩⟩⟩⟩⟩
theorem lw_p16 : lw_okq (⟨"NearPhrases$Findings", "insertMatch", "(I)V"⟩, 7) := ⟨⟨by decide +kernel, by decide +kernel⟩, List.mem_of_getElem? (i := 196) (by decide +kernel), List.mem_of_getElem? (i := 547) (by decide +kernel), List.mem_of_getElem? (i := 548) (by decide +kernel)⟩
theorem lw_p17 : lw_okq (⟨"NearPhrases$Findings", "cover", "(LNearPhrases$Comparison;)V"⟩, 7) := ⟨⟨by decide +kernel, by decide +kernel⟩, List.mem_of_getElem? (i := 196) (by decide +kernel), List.mem_of_getElem? (i := 555) (by decide +kernel), List.mem_of_getElem? (i := 556) (by decide +kernel)⟩
theorem lw_p18 : lw_okq (⟨"NearPhrases", "tellQuestion", "(I)I"⟩, 14) := ⟨⟨by decide +kernel, by decide +kernel⟩, List.mem_of_getElem? (i := 12) (by decide +kernel), List.mem_of_getElem? (i := 577) (by decide +kernel), List.mem_of_getElem? (i := 578) (by decide +kernel)⟩
theorem lw_p19 : lw_okq (⟨"NearPhrases$Findings", "countCovered", "()I"⟩, 7) := ⟨⟨by decide +kernel, by decide +kernel⟩, List.mem_of_getElem? (i := 196) (by decide +kernel), List.mem_of_getElem? (i := 585) (by decide +kernel), List.mem_of_getElem? (i := 586) (by decide +kernel)⟩
theorem lw_p20 : lw_okq (⟨"NearPhrases", "mixSegments", "(J)J"⟩, 14) := ⟨⟨by decide +kernel, by decide +kernel⟩, List.mem_of_getElem? (i := 12) (by decide +kernel), List.mem_of_getElem? (i := 602) (by decide +kernel), List.mem_of_getElem? (i := 603) (by decide +kernel)⟩
theorem lw_p21 : lw_okq (⟨"NearPhrases", "mixPairs", "(J)J"⟩, 14) := ⟨⟨by decide +kernel, by decide +kernel⟩, List.mem_of_getElem? (i := 12) (by decide +kernel), List.mem_of_getElem? (i := 610) (by decide +kernel), List.mem_of_getElem? (i := 611) (by decide +kernel)⟩
theorem lw_p22 : lw_okq (⟨"NearPhrases", "mixFindings", "(J)J"⟩, 14) := ⟨⟨by decide +kernel, by decide +kernel⟩, List.mem_of_getElem? (i := 12) (by decide +kernel), List.mem_of_getElem? (i := 614) (by decide +kernel), List.mem_of_getElem? (i := 615) (by decide +kernel)⟩
theorem lw_p23 : lw_okq (⟨"NearPhrasesModel", "readPage", "()I"⟩, 31) := ⟨⟨by decide +kernel, by decide +kernel⟩, List.mem_of_getElem? (i := 619) (by decide +kernel), List.mem_of_getElem? (i := 734) (by decide +kernel), List.mem_of_getElem? (i := 735) (by decide +kernel)⟩
theorem lw_p24 : lw_okq (⟨"NearPhrasesModel", "takes", "(I)Z"⟩, 31) := ⟨⟨by decide +kernel, by decide +kernel⟩, List.mem_of_getElem? (i := 619) (by decide +kernel), List.mem_of_getElem? (i := 738) (by decide +kernel), List.mem_of_getElem? (i := 739) (by decide +kernel)⟩
theorem lw_p25 : lw_okq (⟨"NearPhrasesModel", "begins", "(I)Z"⟩, 31) := ⟨⟨by decide +kernel, by decide +kernel⟩, List.mem_of_getElem? (i := 619) (by decide +kernel), List.mem_of_getElem? (i := 742) (by decide +kernel), List.mem_of_getElem? (i := 743) (by decide +kernel)⟩
theorem lw_p26 : lw_okq (⟨"NearPhrasesModel", "takesLetter", "(I)Z"⟩, 31) := ⟨⟨by decide +kernel, by decide +kernel⟩, List.mem_of_getElem? (i := 619) (by decide +kernel), List.mem_of_getElem? (i := 746) (by decide +kernel), List.mem_of_getElem? (i := 747) (by decide +kernel)⟩
theorem lw_p27 : lw_okq (⟨"NearPhrasesModel", "isSegment", "()Z"⟩, 31) := ⟨⟨by decide +kernel, by decide +kernel⟩, List.mem_of_getElem? (i := 619) (by decide +kernel), List.mem_of_getElem? (i := 754) (by decide +kernel), List.mem_of_getElem? (i := 755) (by decide +kernel)⟩
theorem lw_p28 : lw_okq (⟨"NearPhrasesModel", "areSame", "(II)Z"⟩, 31) := ⟨⟨by decide +kernel, by decide +kernel⟩, List.mem_of_getElem? (i := 619) (by decide +kernel), List.mem_of_getElem? (i := 758) (by decide +kernel), List.mem_of_getElem? (i := 759) (by decide +kernel)⟩
theorem lw_p29 : lw_okq (⟨"NearPhrasesModel", "isSameSign", "(II)Z"⟩, 31) := ⟨⟨by decide +kernel, by decide +kernel⟩, List.mem_of_getElem? (i := 619) (by decide +kernel), List.mem_of_getElem? (i := 762) (by decide +kernel), List.mem_of_getElem? (i := 763) (by decide +kernel)⟩
theorem lw_p30 : lw_okq (⟨"NearPhrasesModel", "copy", "(II)V"⟩, 31) := ⟨⟨by decide +kernel, by decide +kernel⟩, List.mem_of_getElem? (i := 619) (by decide +kernel), List.mem_of_getElem? (i := 766) (by decide +kernel), List.mem_of_getElem? (i := 767) (by decide +kernel)⟩
theorem lw_p31 : lw_okq (⟨"NearPhrasesModel", "isKept", "(I)Z"⟩, 31) := ⟨⟨by decide +kernel, by decide +kernel⟩, List.mem_of_getElem? (i := 619) (by decide +kernel), List.mem_of_getElem? (i := 774) (by decide +kernel), List.mem_of_getElem? (i := 775) (by decide +kernel)⟩
def lw_privs_2 : List (MethodName × Nat) := [(⟨"NearPhrases$Findings", "insertMatch", "(I)V"⟩, 7), (⟨"NearPhrases$Findings", "cover", "(LNearPhrases$Comparison;)V"⟩, 7), (⟨"NearPhrases", "tellQuestion", "(I)I"⟩, 14), (⟨"NearPhrases$Findings", "countCovered", "()I"⟩, 7), (⟨"NearPhrases", "mixSegments", "(J)J"⟩, 14), (⟨"NearPhrases", "mixPairs", "(J)J"⟩, 14), (⟨"NearPhrases", "mixFindings", "(J)J"⟩, 14), (⟨"NearPhrasesModel", "readPage", "()I"⟩, 31), (⟨"NearPhrasesModel", "takes", "(I)Z"⟩, 31), (⟨"NearPhrasesModel", "begins", "(I)Z"⟩, 31), (⟨"NearPhrasesModel", "takesLetter", "(I)Z"⟩, 31), (⟨"NearPhrasesModel", "isSegment", "()Z"⟩, 31), (⟨"NearPhrasesModel", "areSame", "(II)Z"⟩, 31), (⟨"NearPhrasesModel", "isSameSign", "(II)Z"⟩, 31), (⟨"NearPhrasesModel", "copy", "(II)V"⟩, 31), (⟨"NearPhrasesModel", "isKept", "(I)Z"⟩, 31)]
theorem lw_r2 : ∀ q ∈ lw_privs_2, lw_okq q := List.forall_mem_cons.mpr ⟨lw_p16, List.forall_mem_cons.mpr ⟨lw_p17, List.forall_mem_cons.mpr ⟨lw_p18, List.forall_mem_cons.mpr ⟨lw_p19, List.forall_mem_cons.mpr ⟨lw_p20, List.forall_mem_cons.mpr ⟨lw_p21, List.forall_mem_cons.mpr ⟨lw_p22, List.forall_mem_cons.mpr ⟨lw_p23, List.forall_mem_cons.mpr ⟨lw_p24, List.forall_mem_cons.mpr ⟨lw_p25, List.forall_mem_cons.mpr ⟨lw_p26, List.forall_mem_cons.mpr ⟨lw_p27, List.forall_mem_cons.mpr ⟨lw_p28, List.forall_mem_cons.mpr ⟨lw_p29, List.forall_mem_cons.mpr ⟨lw_p30, List.forall_mem_cons.mpr ⟨lw_p31, fun _ h => absurd h List.not_mem_nil⟩⟩⟩⟩⟩⟩⟩⟩⟩⟩⟩⟩⟩⟩⟩⟩
theorem lw_p32 : lw_okq (⟨"NearPhrasesModel", "segmentNow", "(II)I"⟩, 31) := ⟨⟨by decide +kernel, by decide +kernel⟩, List.mem_of_getElem? (i := 619) (by decide +kernel), List.mem_of_getElem? (i := 794) (by decide +kernel), List.mem_of_getElem? (i := 795) (by decide +kernel)⟩
theorem lw_p33 : lw_okq (⟨"NearPhrasesModel", "wordsOf", "(I)I"⟩, 31) := ⟨⟨by decide +kernel, by decide +kernel⟩, List.mem_of_getElem? (i := 619) (by decide +kernel), List.mem_of_getElem? (i := 798) (by decide +kernel), List.mem_of_getElem? (i := 799) (by decide +kernel)⟩
theorem lw_p34 : lw_okq (⟨"NearPhrasesModel", "isWord", "(I)Z"⟩, 31) := ⟨⟨by decide +kernel, by decide +kernel⟩, List.mem_of_getElem? (i := 619) (by decide +kernel), List.mem_of_getElem? (i := 802) (by decide +kernel), List.mem_of_getElem? (i := 803) (by decide +kernel)⟩
theorem lw_p35 : lw_okq (⟨"NearPhrasesModel", "tagsOf", "(I)I"⟩, 31) := ⟨⟨by decide +kernel, by decide +kernel⟩, List.mem_of_getElem? (i := 619) (by decide +kernel), List.mem_of_getElem? (i := 806) (by decide +kernel), List.mem_of_getElem? (i := 807) (by decide +kernel)⟩
theorem lw_p36 : lw_okq (⟨"NearPhrasesModel", "gramsOf", "(I)I"⟩, 31) := ⟨⟨by decide +kernel, by decide +kernel⟩, List.mem_of_getElem? (i := 619) (by decide +kernel), List.mem_of_getElem? (i := 810) (by decide +kernel), List.mem_of_getElem? (i := 811) (by decide +kernel)⟩
theorem lw_p37 : lw_okq (⟨"NearPhrasesModel", "costAll", "(I)I"⟩, 31) := ⟨⟨by decide +kernel, by decide +kernel⟩, List.mem_of_getElem? (i := 619) (by decide +kernel), List.mem_of_getElem? (i := 814) (by decide +kernel), List.mem_of_getElem? (i := 815) (by decide +kernel)⟩
theorem lw_p38 : lw_okq (⟨"NearPhrasesModel", "costOf", "(I)I"⟩, 31) := ⟨⟨by decide +kernel, by decide +kernel⟩, List.mem_of_getElem? (i := 619) (by decide +kernel), List.mem_of_getElem? (i := 818) (by decide +kernel), List.mem_of_getElem? (i := 819) (by decide +kernel)⟩
theorem lw_p39 : lw_okq (⟨"NearPhrasesModel", "isSign", "(II)Z"⟩, 31) := ⟨⟨by decide +kernel, by decide +kernel⟩, List.mem_of_getElem? (i := 619) (by decide +kernel), List.mem_of_getElem? (i := 826) (by decide +kernel), List.mem_of_getElem? (i := 827) (by decide +kernel)⟩
theorem lw_p40 : lw_okq (⟨"NearPhrasesModel", "signNow", "(II)I"⟩, 31) := ⟨⟨by decide +kernel, by decide +kernel⟩, List.mem_of_getElem? (i := 619) (by decide +kernel), List.mem_of_getElem? (i := 830) (by decide +kernel), List.mem_of_getElem? (i := 831) (by decide +kernel)⟩
theorem lw_p41 : lw_okq (⟨"NearPhrasesModel", "alikeNow", "(II)I"⟩, 31) := ⟨⟨by decide +kernel, by decide +kernel⟩, List.mem_of_getElem? (i := 619) (by decide +kernel), List.mem_of_getElem? (i := 838) (by decide +kernel), List.mem_of_getElem? (i := 839) (by decide +kernel)⟩
theorem lw_p42 : lw_okq (⟨"NearPhrasesModel", "changes", "(II)I"⟩, 31) := ⟨⟨by decide +kernel, by decide +kernel⟩, List.mem_of_getElem? (i := 619) (by decide +kernel), List.mem_of_getElem? (i := 842) (by decide +kernel), List.mem_of_getElem? (i := 843) (by decide +kernel)⟩
theorem lw_p43 : lw_okq (⟨"NearPhrasesModel", "twoNow", "(III)I"⟩, 31) := ⟨⟨by decide +kernel, by decide +kernel⟩, List.mem_of_getElem? (i := 619) (by decide +kernel), List.mem_of_getElem? (i := 853) (by decide +kernel), List.mem_of_getElem? (i := 854) (by decide +kernel)⟩
theorem lw_p44 : lw_okq (⟨"NearPhrasesModel", "farOf", "(II)I"⟩, 31) := ⟨⟨by decide +kernel, by decide +kernel⟩, List.mem_of_getElem? (i := 619) (by decide +kernel), List.mem_of_getElem? (i := 857) (by decide +kernel), List.mem_of_getElem? (i := 858) (by decide +kernel)⟩
theorem lw_p45 : lw_okq (⟨"NearPhrasesModel", "layPay", "(II)V"⟩, 31) := ⟨⟨by decide +kernel, by decide +kernel⟩, List.mem_of_getElem? (i := 619) (by decide +kernel), List.mem_of_getElem? (i := 861) (by decide +kernel), List.mem_of_getElem? (i := 862) (by decide +kernel)⟩
theorem lw_p46 : lw_okq (⟨"NearPhrasesModel", "bothCost", "(II)I"⟩, 31) := ⟨⟨by decide +kernel, by decide +kernel⟩, List.mem_of_getElem? (i := 619) (by decide +kernel), List.mem_of_getElem? (i := 866) (by decide +kernel), List.mem_of_getElem? (i := 867) (by decide +kernel)⟩
theorem lw_p47 : lw_okq (⟨"NearPhrasesModel", "allOf", "(II)I"⟩, 31) := ⟨⟨by decide +kernel, by decide +kernel⟩, List.mem_of_getElem? (i := 619) (by decide +kernel), List.mem_of_getElem? (i := 870) (by decide +kernel), List.mem_of_getElem? (i := 871) (by decide +kernel)⟩
def lw_privs_3 : List (MethodName × Nat) := [(⟨"NearPhrasesModel", "segmentNow", "(II)I"⟩, 31), (⟨"NearPhrasesModel", "wordsOf", "(I)I"⟩, 31), (⟨"NearPhrasesModel", "isWord", "(I)Z"⟩, 31), (⟨"NearPhrasesModel", "tagsOf", "(I)I"⟩, 31), (⟨"NearPhrasesModel", "gramsOf", "(I)I"⟩, 31), (⟨"NearPhrasesModel", "costAll", "(I)I"⟩, 31), (⟨"NearPhrasesModel", "costOf", "(I)I"⟩, 31), (⟨"NearPhrasesModel", "isSign", "(II)Z"⟩, 31), (⟨"NearPhrasesModel", "signNow", "(II)I"⟩, 31), (⟨"NearPhrasesModel", "alikeNow", "(II)I"⟩, 31), (⟨"NearPhrasesModel", "changes", "(II)I"⟩, 31), (⟨"NearPhrasesModel", "twoNow", "(III)I"⟩, 31), (⟨"NearPhrasesModel", "farOf", "(II)I"⟩, 31), (⟨"NearPhrasesModel", "layPay", "(II)V"⟩, 31), (⟨"NearPhrasesModel", "bothCost", "(II)I"⟩, 31), (⟨"NearPhrasesModel", "allOf", "(II)I"⟩, 31)]
theorem lw_r3 : ∀ q ∈ lw_privs_3, lw_okq q := List.forall_mem_cons.mpr ⟨lw_p32, List.forall_mem_cons.mpr ⟨lw_p33, List.forall_mem_cons.mpr ⟨lw_p34, List.forall_mem_cons.mpr ⟨lw_p35, List.forall_mem_cons.mpr ⟨lw_p36, List.forall_mem_cons.mpr ⟨lw_p37, List.forall_mem_cons.mpr ⟨lw_p38, List.forall_mem_cons.mpr ⟨lw_p39, List.forall_mem_cons.mpr ⟨lw_p40, List.forall_mem_cons.mpr ⟨lw_p41, List.forall_mem_cons.mpr ⟨lw_p42, List.forall_mem_cons.mpr ⟨lw_p43, List.forall_mem_cons.mpr ⟨lw_p44, List.forall_mem_cons.mpr ⟨lw_p45, List.forall_mem_cons.mpr ⟨lw_p46, List.forall_mem_cons.mpr ⟨lw_p47, fun _ h => absurd h List.not_mem_nil⟩⟩⟩⟩⟩⟩⟩⟩⟩⟩⟩⟩⟩⟩⟩⟩
theorem lw_p48 : lw_okq (⟨"NearPhrasesModel", "scoreOf", "(II)I"⟩, 31) := ⟨⟨by decide +kernel, by decide +kernel⟩, List.mem_of_getElem? (i := 619) (by decide +kernel), List.mem_of_getElem? (i := 874) (by decide +kernel), List.mem_of_getElem? (i := 875) (by decide +kernel)⟩
theorem lw_p49 : lw_okq (⟨"NearPhrasesModel", "sharedOf", "(II)I"⟩, 31) := ⟨⟨by decide +kernel, by decide +kernel⟩, List.mem_of_getElem? (i := 619) (by decide +kernel), List.mem_of_getElem? (i := 878) (by decide +kernel), List.mem_of_getElem? (i := 879) (by decide +kernel)⟩
theorem lw_p50 : lw_okq (⟨"NearPhrasesModel", "layGrams", "(I)V"⟩, 31) := ⟨⟨by decide +kernel, by decide +kernel⟩, List.mem_of_getElem? (i := 619) (by decide +kernel), List.mem_of_getElem? (i := 882) (by decide +kernel), List.mem_of_getElem? (i := 883) (by decide +kernel)⟩
theorem lw_p51 : lw_okq (⟨"NearPhrasesModel", "gramAt", "(II)I"⟩, 31) := ⟨⟨by decide +kernel, by decide +kernel⟩, List.mem_of_getElem? (i := 619) (by decide +kernel), List.mem_of_getElem? (i := 886) (by decide +kernel), List.mem_of_getElem? (i := 887) (by decide +kernel)⟩
theorem lw_p52 : lw_okq (⟨"NearPhrasesModel", "stepsOf", "(II)I"⟩, 31) := ⟨⟨by decide +kernel, by decide +kernel⟩, List.mem_of_getElem? (i := 619) (by decide +kernel), List.mem_of_getElem? (i := 893) (by decide +kernel), List.mem_of_getElem? (i := 894) (by decide +kernel)⟩
theorem lw_p53 : lw_okq (⟨"NearPhrasesModel", "laySteps", "(II)V"⟩, 31) := ⟨⟨by decide +kernel, by decide +kernel⟩, List.mem_of_getElem? (i := 619) (by decide +kernel), List.mem_of_getElem? (i := 897) (by decide +kernel), List.mem_of_getElem? (i := 898) (by decide +kernel)⟩
theorem lw_p54 : lw_okq (⟨"NearPhrasesModel", "putStep", "(IIII)V"⟩, 31) := ⟨⟨by decide +kernel, by decide +kernel⟩, List.mem_of_getElem? (i := 619) (by decide +kernel), List.mem_of_getElem? (i := 901) (by decide +kernel), List.mem_of_getElem? (i := 902) (by decide +kernel)⟩
theorem lw_p55 : lw_okq (⟨"NearPhrasesModel", "nearNow", "(II)I"⟩, 31) := ⟨⟨by decide +kernel, by decide +kernel⟩, List.mem_of_getElem? (i := 619) (by decide +kernel), List.mem_of_getElem? (i := 916) (by decide +kernel), List.mem_of_getElem? (i := 917) (by decide +kernel)⟩
theorem lw_p56 : lw_okq (⟨"NearPhrasesModel", "roomOf", "(I)I"⟩, 31) := ⟨⟨by decide +kernel, by decide +kernel⟩, List.mem_of_getElem? (i := 619) (by decide +kernel), List.mem_of_getElem? (i := 920) (by decide +kernel), List.mem_of_getElem? (i := 921) (by decide +kernel)⟩
theorem lw_p57 : lw_okq (⟨"NearPhrasesModel", "canByLengths", "(I)Z"⟩, 31) := ⟨⟨by decide +kernel, by decide +kernel⟩, List.mem_of_getElem? (i := 619) (by decide +kernel), List.mem_of_getElem? (i := 924) (by decide +kernel), List.mem_of_getElem? (i := 925) (by decide +kernel)⟩
theorem lw_p58 : lw_okq (⟨"NearPhrasesModel", "canByGrams", "(I)Z"⟩, 31) := ⟨⟨by decide +kernel, by decide +kernel⟩, List.mem_of_getElem? (i := 619) (by decide +kernel), List.mem_of_getElem? (i := 934) (by decide +kernel), List.mem_of_getElem? (i := 935) (by decide +kernel)⟩
theorem lw_p59 : lw_okq (⟨"NearPhrasesModel", "isMatch", "(I)Z"⟩, 31) := ⟨⟨by decide +kernel, by decide +kernel⟩, List.mem_of_getElem? (i := 619) (by decide +kernel), List.mem_of_getElem? (i := 938) (by decide +kernel), List.mem_of_getElem? (i := 939) (by decide +kernel)⟩
theorem lw_p60 : lw_okq (⟨"NearPhrasesModel", "tagSteps", "(I)I"⟩, 31) := ⟨⟨by decide +kernel, by decide +kernel⟩, List.mem_of_getElem? (i := 619) (by decide +kernel), List.mem_of_getElem? (i := 942) (by decide +kernel), List.mem_of_getElem? (i := 943) (by decide +kernel)⟩
theorem lw_p61 : lw_okq (⟨"NearPhrasesModel", "layRanks", "()V"⟩, 31) := ⟨⟨by decide +kernel, by decide +kernel⟩, List.mem_of_getElem? (i := 619) (by decide +kernel), List.mem_of_getElem? (i := 954) (by decide +kernel), List.mem_of_getElem? (i := 955) (by decide +kernel)⟩
theorem lw_p62 : lw_okq (⟨"NearPhrasesModel", "isAhead", "(II)Z"⟩, 31) := ⟨⟨by decide +kernel, by decide +kernel⟩, List.mem_of_getElem? (i := 619) (by decide +kernel), List.mem_of_getElem? (i := 958) (by decide +kernel), List.mem_of_getElem? (i := 959) (by decide +kernel)⟩
theorem lw_p63 : lw_okq (⟨"NearPhrasesModel", "questionNow", "(I)I"⟩, 31) := ⟨⟨by decide +kernel, by decide +kernel⟩, List.mem_of_getElem? (i := 619) (by decide +kernel), List.mem_of_getElem? (i := 966) (by decide +kernel), List.mem_of_getElem? (i := 967) (by decide +kernel)⟩
def lw_privs_4 : List (MethodName × Nat) := [(⟨"NearPhrasesModel", "scoreOf", "(II)I"⟩, 31), (⟨"NearPhrasesModel", "sharedOf", "(II)I"⟩, 31), (⟨"NearPhrasesModel", "layGrams", "(I)V"⟩, 31), (⟨"NearPhrasesModel", "gramAt", "(II)I"⟩, 31), (⟨"NearPhrasesModel", "stepsOf", "(II)I"⟩, 31), (⟨"NearPhrasesModel", "laySteps", "(II)V"⟩, 31), (⟨"NearPhrasesModel", "putStep", "(IIII)V"⟩, 31), (⟨"NearPhrasesModel", "nearNow", "(II)I"⟩, 31), (⟨"NearPhrasesModel", "roomOf", "(I)I"⟩, 31), (⟨"NearPhrasesModel", "canByLengths", "(I)Z"⟩, 31), (⟨"NearPhrasesModel", "canByGrams", "(I)Z"⟩, 31), (⟨"NearPhrasesModel", "isMatch", "(I)Z"⟩, 31), (⟨"NearPhrasesModel", "tagSteps", "(I)I"⟩, 31), (⟨"NearPhrasesModel", "layRanks", "()V"⟩, 31), (⟨"NearPhrasesModel", "isAhead", "(II)Z"⟩, 31), (⟨"NearPhrasesModel", "questionNow", "(I)I"⟩, 31)]
theorem lw_r4 : ∀ q ∈ lw_privs_4, lw_okq q := List.forall_mem_cons.mpr ⟨lw_p48, List.forall_mem_cons.mpr ⟨lw_p49, List.forall_mem_cons.mpr ⟨lw_p50, List.forall_mem_cons.mpr ⟨lw_p51, List.forall_mem_cons.mpr ⟨lw_p52, List.forall_mem_cons.mpr ⟨lw_p53, List.forall_mem_cons.mpr ⟨lw_p54, List.forall_mem_cons.mpr ⟨lw_p55, List.forall_mem_cons.mpr ⟨lw_p56, List.forall_mem_cons.mpr ⟨lw_p57, List.forall_mem_cons.mpr ⟨lw_p58, List.forall_mem_cons.mpr ⟨lw_p59, List.forall_mem_cons.mpr ⟨lw_p60, List.forall_mem_cons.mpr ⟨lw_p61, List.forall_mem_cons.mpr ⟨lw_p62, List.forall_mem_cons.mpr ⟨lw_p63, fun _ h => absurd h List.not_mem_nil⟩⟩⟩⟩⟩⟩⟩⟩⟩⟩⟩⟩⟩⟩⟩⟩
theorem lw_p64 : lw_okq (⟨"NearPhrasesModel", "matchesMany", "()I"⟩, 31) := ⟨⟨by decide +kernel, by decide +kernel⟩, List.mem_of_getElem? (i := 619) (by decide +kernel), List.mem_of_getElem? (i := 970) (by decide +kernel), List.mem_of_getElem? (i := 971) (by decide +kernel)⟩
theorem lw_p65 : lw_okq (⟨"NearPhrasesModel", "canMany", "(ZZ)I"⟩, 31) := ⟨⟨by decide +kernel, by decide +kernel⟩, List.mem_of_getElem? (i := 619) (by decide +kernel), List.mem_of_getElem? (i := 974) (by decide +kernel), List.mem_of_getElem? (i := 975) (by decide +kernel)⟩
theorem lw_p66 : lw_okq (⟨"NearPhrasesModel", "coveredMany", "()I"⟩, 31) := ⟨⟨by decide +kernel, by decide +kernel⟩, List.mem_of_getElem? (i := 619) (by decide +kernel), List.mem_of_getElem? (i := 978) (by decide +kernel), List.mem_of_getElem? (i := 979) (by decide +kernel)⟩
theorem lw_p67 : lw_okq (⟨"NearPhrasesModel", "layCovered", "()V"⟩, 31) := ⟨⟨by decide +kernel, by decide +kernel⟩, List.mem_of_getElem? (i := 619) (by decide +kernel), List.mem_of_getElem? (i := 982) (by decide +kernel), List.mem_of_getElem? (i := 983) (by decide +kernel)⟩
theorem lw_p68 : lw_okq (⟨"NearPhrasesModel", "howMany", "(I)I"⟩, 31) := ⟨⟨by decide +kernel, by decide +kernel⟩, List.mem_of_getElem? (i := 619) (by decide +kernel), List.mem_of_getElem? (i := 994) (by decide +kernel), List.mem_of_getElem? (i := 995) (by decide +kernel)⟩
theorem lw_p69 : lw_okq (⟨"NearPhrasesModel", "gramsAll", "()I"⟩, 31) := ⟨⟨by decide +kernel, by decide +kernel⟩, List.mem_of_getElem? (i := 619) (by decide +kernel), List.mem_of_getElem? (i := 998) (by decide +kernel), List.mem_of_getElem? (i := 999) (by decide +kernel)⟩
theorem lw_p70 : lw_okq (⟨"NearPhrasesModel", "mix", "(J)V"⟩, 31) := ⟨⟨by decide +kernel, by decide +kernel⟩, List.mem_of_getElem? (i := 619) (by decide +kernel), List.mem_of_getElem? (i := 1007) (by decide +kernel), List.mem_of_getElem? (i := 1008) (by decide +kernel)⟩
theorem lw_p71 : lw_okq (⟨"NearPhrasesModel", "mixQuestion", "()V"⟩, 31) := ⟨⟨by decide +kernel, by decide +kernel⟩, List.mem_of_getElem? (i := 619) (by decide +kernel), List.mem_of_getElem? (i := 1012) (by decide +kernel), List.mem_of_getElem? (i := 1013) (by decide +kernel)⟩
def lw_privs_5 : List (MethodName × Nat) := [(⟨"NearPhrasesModel", "matchesMany", "()I"⟩, 31), (⟨"NearPhrasesModel", "canMany", "(ZZ)I"⟩, 31), (⟨"NearPhrasesModel", "coveredMany", "()I"⟩, 31), (⟨"NearPhrasesModel", "layCovered", "()V"⟩, 31), (⟨"NearPhrasesModel", "howMany", "(I)I"⟩, 31), (⟨"NearPhrasesModel", "gramsAll", "()I"⟩, 31), (⟨"NearPhrasesModel", "mix", "(J)V"⟩, 31), (⟨"NearPhrasesModel", "mixQuestion", "()V"⟩, 31)]
theorem lw_r5 : ∀ q ∈ lw_privs_5, lw_okq q := List.forall_mem_cons.mpr ⟨lw_p64, List.forall_mem_cons.mpr ⟨lw_p65, List.forall_mem_cons.mpr ⟨lw_p66, List.forall_mem_cons.mpr ⟨lw_p67, List.forall_mem_cons.mpr ⟨lw_p68, List.forall_mem_cons.mpr ⟨lw_p69, List.forall_mem_cons.mpr ⟨lw_p70, List.forall_mem_cons.mpr ⟨lw_p71, fun _ h => absurd h List.not_mem_nil⟩⟩⟩⟩⟩⟩⟩⟩
def lw_privs : List (MethodName × Nat) := lw_privs_1 ++ (lw_privs_2 ++ (lw_privs_3 ++ (lw_privs_4 ++ (lw_privs_5))))
def lw_tbl : List Cond := k2_sels lw_privs ++ tables_1
theorem lw_privs_ok : ∀ q ∈ lw_privs, lw_okq q := by
  show ∀ q ∈ lw_privs_1 ++ (lw_privs_2 ++ (lw_privs_3 ++ (lw_privs_4 ++ (lw_privs_5)))), lw_okq q
  exact List.forall_mem_append.mpr ⟨lw_r1, List.forall_mem_append.mpr ⟨lw_r2, List.forall_mem_append.mpr ⟨lw_r3, List.forall_mem_append.mpr ⟨lw_r4, lw_r5⟩⟩⟩⟩
end
section
def RX0 : String := "NearPhrases$Aligner"
def TX0 : u_T := fun k => match k with
  | 0 => ("NearPhrases$Aligner", "both", "[[I", true)
  | 1 => ("NearPhrases$Aligner", "rest", "[[I", true)
  | _ => ("NearPhrases$Aligner", "edits", "[I", true)
def tyX0 : Nat → FieldType := fun k => match k with
  | 0 => .array (.array .int)
  | 1 => .array (.array .int)
  | _ => .array .int
abbrev wsX00 : List Cond := u_ws RX0 TX0 3
theorem nmX0 : ∀ a, a < 3 → ∀ b, b < 3 → a ≠ b → (TX0 a).2.1 ≠ (TX0 b).2.1 := by decide +kernel
theorem tyX0_ok : ∀ k, k < 3 → parseFieldDescriptor (TX0 k).2.2.1 = some (tyX0 k) := by decide +kernel
abbrev cX0_init : ByteArray := prog_2_method_1_code
def yX0_init : MethodName := ⟨RX0, "<init>", "()V"⟩
abbrev cX0_compare : ByteArray := prog_2_method_2_code
def yX0_compare : MethodName := ⟨RX0, "compare", "(LNearPhrases$Segment;LNearPhrases$Segment;ILNearPhrases$Comparison;)V"⟩
abbrev cX0_alikeOfWords : ByteArray := prog_2_method_3_code
def yX0_alikeOfWords : MethodName := ⟨RX0, "alikeOfWords", "(LNearPhrases$Sign;LNearPhrases$Sign;)I"⟩
abbrev cX0_fillBoth : ByteArray := prog_2_method_4_code
def yX0_fillBoth : MethodName := ⟨RX0, "fillBoth", "(LNearPhrases$Segment;LNearPhrases$Segment;I)V"⟩
abbrev cX0_costOfBoth : ByteArray := prog_2_method_5_code
def yX0_costOfBoth : MethodName := ⟨RX0, "costOfBoth", "(LNearPhrases$Sign;LNearPhrases$Sign;I)I"⟩
abbrev cX0_fillRest : ByteArray := prog_2_method_6_code
def yX0_fillRest : MethodName := ⟨RX0, "fillRest", "(LNearPhrases$Segment;LNearPhrases$Segment;I)V"⟩
abbrev cX0_walkSteps : ByteArray := prog_2_method_7_code
def yX0_walkSteps : MethodName := ⟨RX0, "walkSteps", "(LNearPhrases$Segment;LNearPhrases$Segment;ILNearPhrases$Comparison;)V"⟩
abbrev cX0_leastEdits : ByteArray := prog_2_method_8_code
def yX0_leastEdits : MethodName := ⟨RX0, "leastEdits", "(LNearPhrases$Sign;LNearPhrases$Sign;)I"⟩
def RX1 : String := "NearPhrases$Comparison"
def TX1 : u_T := fun k => match k with
  | 0 => ("NearPhrases$Comparison", "kindOf", "[I", true)
  | 1 => ("NearPhrases$Comparison", "costOf", "[I", true)
  | 2 => ("NearPhrases$Comparison", "oneOf", "[I", true)
  | 3 => ("NearPhrases$Comparison", "otherOf", "[I", true)
  | 4 => ("NearPhrases$Comparison", "far", "I", false)
  | 5 => ("NearPhrases$Comparison", "all", "I", false)
  | 6 => ("NearPhrases$Comparison", "shared", "I", false)
  | 7 => ("NearPhrases$Comparison", "steps", "I", false)
  | 8 => ("NearPhrases$Comparison", "tagSteps", "I", false)
  | 9 => ("NearPhrases$Comparison", "score", "I", false)
  | 10 => ("NearPhrases$Comparison", "room", "I", false)
  | 11 => ("NearPhrases$Comparison", "canByLengths", "Z", false)
  | 12 => ("NearPhrases$Comparison", "canByGrams", "Z", false)
  | _ => ("NearPhrases$Comparison", "isMatch", "Z", false)
def tyX1 : Nat → FieldType := fun k => match k with
  | 0 => .array .int
  | 1 => .array .int
  | 2 => .array .int
  | 3 => .array .int
  | 4 => .int
  | 5 => .int
  | 6 => .int
  | 7 => .int
  | 8 => .int
  | 9 => .int
  | 10 => .int
  | 11 => .boolean
  | 12 => .boolean
  | _ => .boolean
abbrev wsX10 : List Cond := u_ws RX1 TX1 14
theorem nmX1 : ∀ a, a < 14 → ∀ b, b < 14 → a ≠ b → (TX1 a).2.1 ≠ (TX1 b).2.1 := by decide +kernel
theorem tyX1_ok : ∀ k, k < 14 → parseFieldDescriptor (TX1 k).2.2.1 = some (tyX1 k) := by decide +kernel
abbrev cX1_init : ByteArray := prog_3_method_1_code
def yX1_init : MethodName := ⟨RX1, "<init>", "()V"⟩
abbrev cX1_clearSteps : ByteArray := prog_3_method_2_code
def yX1_clearSteps : MethodName := ⟨RX1, "clearSteps", "()V"⟩
abbrev cX1_addStep : ByteArray := prog_3_method_3_code
def yX1_addStep : MethodName := ⟨RX1, "addStep", "(IIIIZ)V"⟩
abbrev cX1_setScore : ByteArray := prog_3_method_4_code
def yX1_setScore : MethodName := ⟨RX1, "setScore", "()V"⟩
abbrev cX1_judge : ByteArray := prog_3_method_5_code
def yX1_judge : MethodName := ⟨RX1, "judge", "(LNearPhrases$Segment;LNearPhrases$Segment;II)V"⟩
abbrev cX1_ranksAheadOf : ByteArray := prog_3_method_6_code
def yX1_ranksAheadOf : MethodName := ⟨RX1, "ranksAheadOf", "(LNearPhrases$Comparison;)Z"⟩
abbrev cX1_tell : ByteArray := prog_3_method_7_code
def yX1_tell : MethodName := ⟨RX1, "tell", "(I)I"⟩
abbrev cX1_tellStep : ByteArray := prog_3_method_8_code
def yX1_tellStep : MethodName := ⟨RX1, "tellStep", "(II)I"⟩
def RX2 : String := "NearPhrases$Findings"
def TX2 : u_T := fun k => match k with
  | 0 => ("NearPhrases$Findings", "rows", "[LNearPhrases$Comparison;", true)
  | 1 => ("NearPhrases$Findings", "ranks", "[I", true)
  | 2 => ("NearPhrases$Findings", "covers", "[Z", true)
  | 3 => ("NearPhrases$Findings", "matches", "I", false)
  | 4 => ("NearPhrases$Findings", "byLengths", "I", false)
  | 5 => ("NearPhrases$Findings", "byGrams", "I", false)
  | _ => ("NearPhrases$Findings", "byBoth", "I", false)
def tyX2 : Nat → FieldType := fun k => match k with
  | 0 => .array (.object "NearPhrases$Comparison")
  | 1 => .array .int
  | 2 => .array .boolean
  | 3 => .int
  | 4 => .int
  | 5 => .int
  | _ => .int
abbrev wsX20 : List Cond := u_ws RX2 TX2 7
theorem nmX2 : ∀ a, a < 7 → ∀ b, b < 7 → a ≠ b → (TX2 a).2.1 ≠ (TX2 b).2.1 := by decide +kernel
theorem tyX2_ok : ∀ k, k < 7 → parseFieldDescriptor (TX2 k).2.2.1 = some (tyX2 k) := by decide +kernel
abbrev cX2_init : ByteArray := prog_4_method_1_code
def yX2_init : MethodName := ⟨RX2, "<init>", "()V"⟩
abbrev cX2_gather : ByteArray := prog_4_method_2_code
def yX2_gather : MethodName := ⟨RX2, "gather", "(I)V"⟩
abbrev cX2_tell : ByteArray := prog_4_method_3_code
def yX2_tell : MethodName := ⟨RX2, "tell", "(I)I"⟩
abbrev cX2_insertMatch : ByteArray := prog_4_method_4_code
def yX2_insertMatch : MethodName := ⟨RX2, "insertMatch", "(I)V"⟩
abbrev cX2_cover : ByteArray := prog_4_method_5_code
def yX2_cover : MethodName := ⟨RX2, "cover", "(LNearPhrases$Comparison;)V"⟩
abbrev cX2_countCovered : ByteArray := prog_4_method_6_code
def yX2_countCovered : MethodName := ⟨RX2, "countCovered", "()I"⟩
def RX3 : String := "NearPhrases$GramIndex"
def TX3 : u_T := fun k => match k with
  | 0 => ("NearPhrases$GramIndex", "holders", "[I", true)
  | _ => ("NearPhrases$GramIndex", "kinds", "I", false)
def tyX3 : Nat → FieldType := fun k => match k with
  | 0 => .array .int
  | _ => .int
abbrev wsX30 : List Cond := u_ws RX3 TX3 2
theorem nmX3 : ∀ a, a < 2 → ∀ b, b < 2 → a ≠ b → (TX3 a).2.1 ≠ (TX3 b).2.1 := by decide +kernel
theorem tyX3_ok : ∀ k, k < 2 → parseFieldDescriptor (TX3 k).2.2.1 = some (tyX3 k) := by decide +kernel
abbrev cX3_init : ByteArray := prog_5_method_1_code
def yX3_init : MethodName := ⟨RX3, "<init>", "()V"⟩
abbrev cX3_holdersOf : ByteArray := prog_5_method_2_code
def yX3_holdersOf : MethodName := ⟨RX3, "holdersOf", "(I)I"⟩
abbrev cX3_add : ByteArray := prog_5_method_3_code
def yX3_add : MethodName := ⟨RX3, "add", "(LNearPhrases$Segment;)V"⟩
abbrev cX3_remove : ByteArray := prog_5_method_4_code
def yX3_remove : MethodName := ⟨RX3, "remove", "(LNearPhrases$Segment;)V"⟩
def RX4 : String := "NearPhrases$Page"
def TX4 : u_T := fun k => match k with
  | 0 => ("NearPhrases$Page", "codes", "[I", true)
  | 1 => ("NearPhrases$Page", "size", "I", false)
  | 2 => ("NearPhrases$Page", "stage", "I", false)
  | 3 => ("NearPhrases$Page", "signsBegun", "I", false)
  | _ => ("NearPhrases$Page", "lettersOfWord", "I", false)
def tyX4 : Nat → FieldType := fun k => match k with
  | 0 => .array .int
  | 1 => .int
  | 2 => .int
  | 3 => .int
  | _ => .int
abbrev wsX40 : List Cond := u_ws RX4 TX4 5
theorem nmX4 : ∀ a, a < 5 → ∀ b, b < 5 → a ≠ b → (TX4 a).2.1 ≠ (TX4 b).2.1 := by decide +kernel
theorem tyX4_ok : ∀ k, k < 5 → parseFieldDescriptor (TX4 k).2.2.1 = some (tyX4 k) := by decide +kernel
abbrev cX4_init : ByteArray := prog_6_method_1_code
def yX4_init : MethodName := ⟨RX4, "<init>", "()V"⟩
abbrev cX4_isFull : ByteArray := prog_6_method_2_code
def yX4_isFull : MethodName := ⟨RX4, "isFull", "()Z"⟩
abbrev cX4_append : ByteArray := prog_6_method_3_code
def yX4_append : MethodName := ⟨RX4, "append", "(I)V"⟩
abbrev cX4_clear : ByteArray := prog_6_method_4_code
def yX4_clear : MethodName := ⟨RX4, "clear", "()V"⟩
abbrev cX4_firstFault : ByteArray := prog_6_method_5_code
def yX4_firstFault : MethodName := ⟨RX4, "firstFault", "()I"⟩
abbrev cX4_isSegment : ByteArray := prog_6_method_6_code
def yX4_isSegment : MethodName := ⟨RX4, "isSegment", "()Z"⟩
abbrev cX4_goesOn : ByteArray := prog_6_method_7_code
def yX4_goesOn : MethodName := ⟨RX4, "goesOn", "(I)Z"⟩
abbrev cX4_beginsSign : ByteArray := prog_6_method_8_code
def yX4_beginsSign : MethodName := ⟨RX4, "beginsSign", "(I)Z"⟩
abbrev cX4_lengthensWord : ByteArray := prog_6_method_9_code
def yX4_lengthensWord : MethodName := ⟨RX4, "lengthensWord", "()Z"⟩
abbrev cX4_endsSign : ByteArray := prog_6_method_10_code
def yX4_endsSign : MethodName := ⟨RX4, "endsSign", "(I)Z"⟩
def RX5 : String := "NearPhrases$Segment"
def TX5 : u_T := fun k => match k with
  | 0 => ("NearPhrases$Segment", "row", "[LNearPhrases$Sign;", true)
  | 1 => ("NearPhrases$Segment", "grams", "[I", true)
  | 2 => ("NearPhrases$Segment", "signs", "I", false)
  | 3 => ("NearPhrases$Segment", "words", "I", false)
  | 4 => ("NearPhrases$Segment", "gramCount", "I", false)
  | _ => ("NearPhrases$Segment", "timesTold", "I", false)
def tyX5 : Nat → FieldType := fun k => match k with
  | 0 => .array (.object "NearPhrases$Sign")
  | 1 => .array .int
  | 2 => .int
  | 3 => .int
  | 4 => .int
  | _ => .int
abbrev wsX50 : List Cond := u_ws RX5 TX5 6
theorem nmX5 : ∀ a, a < 6 → ∀ b, b < 6 → a ≠ b → (TX5 a).2.1 ≠ (TX5 b).2.1 := by decide +kernel
theorem tyX5_ok : ∀ k, k < 6 → parseFieldDescriptor (TX5 k).2.2.1 = some (tyX5 k) := by decide +kernel
abbrev cX5_init : ByteArray := prog_7_method_1_code
def yX5_init : MethodName := ⟨RX5, "<init>", "()V"⟩
abbrev cX5_read : ByteArray := prog_7_method_2_code
def yX5_read : MethodName := ⟨RX5, "read", "(LNearPhrases$Page;)V"⟩
abbrev cX5_tags : ByteArray := prog_7_method_3_code
def yX5_tags : MethodName := ⟨RX5, "tags", "()I"⟩
abbrev cX5_cost : ByteArray := prog_7_method_4_code
def yX5_cost : MethodName := ⟨RX5, "cost", "(I)I"⟩
abbrev cX5_isSameAs : ByteArray := prog_7_method_5_code
def yX5_isSameAs : MethodName := ⟨RX5, "isSameAs", "(LNearPhrases$Segment;)Z"⟩
abbrev cX5_tell : ByteArray := prog_7_method_6_code
def yX5_tell : MethodName := ⟨RX5, "tell", "(II)I"⟩
abbrev cX5_sharedWith : ByteArray := prog_7_method_7_code
def yX5_sharedWith : MethodName := ⟨RX5, "sharedWith", "(LNearPhrases$Segment;)I"⟩
abbrev cX5_isFirstOfItsKind : ByteArray := prog_7_method_8_code
def yX5_isFirstOfItsKind : MethodName := ⟨RX5, "isFirstOfItsKind", "(I)Z"⟩
abbrev cX5_addGramsOf : ByteArray := prog_7_method_9_code
def yX5_addGramsOf : MethodName := ⟨RX5, "addGramsOf", "(LNearPhrases$Sign;)V"⟩
abbrev cX5_insertGram : ByteArray := prog_7_method_10_code
def yX5_insertGram : MethodName := ⟨RX5, "insertGram", "(I)V"⟩
def RX6 : String := "NearPhrases$Sign"
def TX6 : u_T := fun k => match k with
  | 0 => ("NearPhrases$Sign", "letters", "[I", true)
  | 1 => ("NearPhrases$Sign", "length", "I", false)
  | _ => ("NearPhrases$Sign", "digit", "I", false)
def tyX6 : Nat → FieldType := fun k => match k with
  | 0 => .array .int
  | 1 => .int
  | _ => .int
abbrev wsX60 : List Cond := u_ws RX6 TX6 3
theorem nmX6 : ∀ a, a < 3 → ∀ b, b < 3 → a ≠ b → (TX6 a).2.1 ≠ (TX6 b).2.1 := by decide +kernel
theorem tyX6_ok : ∀ k, k < 3 → parseFieldDescriptor (TX6 k).2.2.1 = some (tyX6 k) := by decide +kernel
abbrev cX6_init : ByteArray := prog_8_method_1_code
def yX6_init : MethodName := ⟨RX6, "<init>", "()V"⟩
abbrev cX6_clear : ByteArray := prog_8_method_2_code
def yX6_clear : MethodName := ⟨RX6, "clear", "()V"⟩
abbrev cX6_take : ByteArray := prog_8_method_3_code
def yX6_take : MethodName := ⟨RX6, "take", "(I)V"⟩
abbrev cX6_isWord : ByteArray := prog_8_method_4_code
def yX6_isWord : MethodName := ⟨RX6, "isWord", "()Z"⟩
abbrev cX6_cost : ByteArray := prog_8_method_5_code
def yX6_cost : MethodName := ⟨RX6, "cost", "(I)I"⟩
abbrev cX6_isSameAs : ByteArray := prog_8_method_6_code
def yX6_isSameAs : MethodName := ⟨RX6, "isSameAs", "(LNearPhrases$Sign;)Z"⟩
abbrev cX6_tell : ByteArray := prog_8_method_7_code
def yX6_tell : MethodName := ⟨RX6, "tell", "(I)I"⟩
def RX7 : String := "NearPhrases"
def TX7 : u_T := fun k => match k with
  | 0 => ("NearPhrases", "page", "LNearPhrases$Page;", true)
  | 1 => ("NearPhrases", "shelf", "[LNearPhrases$Segment;", true)
  | 2 => ("NearPhrases", "asked", "LNearPhrases$Segment;", true)
  | 3 => ("NearPhrases", "index", "LNearPhrases$GramIndex;", true)
  | 4 => ("NearPhrases", "aligner", "LNearPhrases$Aligner;", true)
  | 5 => ("NearPhrases", "pair", "LNearPhrases$Comparison;", true)
  | 6 => ("NearPhrases", "findings", "LNearPhrases$Findings;", true)
  | 7 => ("NearPhrases", "keptNow", "I", false)
  | 8 => ("NearPhrases", "tagCost", "I", false)
  | 9 => ("NearPhrases", "leastScore", "I", false)
  | 10 => ("NearPhrases", "keptEver", "I", false)
  | 11 => ("NearPhrases", "droppedEver", "I", false)
  | 12 => ("NearPhrases", "askedEver", "I", false)
  | _ => ("NearPhrases", "findingsAreStale", "Z", false)
def tyX7 : Nat → FieldType := fun k => match k with
  | 0 => .object "NearPhrases$Page"
  | 1 => .array (.object "NearPhrases$Segment")
  | 2 => .object "NearPhrases$Segment"
  | 3 => .object "NearPhrases$GramIndex"
  | 4 => .object "NearPhrases$Aligner"
  | 5 => .object "NearPhrases$Comparison"
  | 6 => .object "NearPhrases$Findings"
  | 7 => .int
  | 8 => .int
  | 9 => .int
  | 10 => .int
  | 11 => .int
  | 12 => .int
  | _ => .boolean
abbrev wsX70 : List Cond := u_ws RX7 TX7 14
theorem nmX7 : ∀ a, a < 14 → ∀ b, b < 14 → a ≠ b → (TX7 a).2.1 ≠ (TX7 b).2.1 := by decide +kernel
theorem tyX7_ok : ∀ k, k < 14 → parseFieldDescriptor (TX7 k).2.2.1 = some (tyX7 k) := by decide +kernel
abbrev cX7_init : ByteArray := prog_1_method_1_code
def yX7_init : MethodName := ⟨RX7, "<init>", "()V"⟩
abbrev cX7_letter : ByteArray := prog_1_method_2_code
def yX7_letter : MethodName := ⟨RX7, "letter", "(I)I"⟩
abbrev cX7_blank : ByteArray := prog_1_method_3_code
def yX7_blank : MethodName := ⟨RX7, "blank", "()I"⟩
abbrev cX7_fault : ByteArray := prog_1_method_4_code
def yX7_fault : MethodName := ⟨RX7, "fault", "()I"⟩
abbrev cX7_keep : ByteArray := prog_1_method_5_code
def yX7_keep : MethodName := ⟨RX7, "keep", "()I"⟩
abbrev cX7_drop : ByteArray := prog_1_method_6_code
def yX7_drop : MethodName := ⟨RX7, "drop", "(I)I"⟩
abbrev cX7_ask : ByteArray := prog_1_method_7_code
def yX7_ask : MethodName := ⟨RX7, "ask", "()I"⟩
abbrev cX7_weight : ByteArray := prog_1_method_8_code
def yX7_weight : MethodName := ⟨RX7, "weight", "(I)I"⟩
abbrev cX7_bound : ByteArray := prog_1_method_9_code
def yX7_bound : MethodName := ⟨RX7, "bound", "(I)I"⟩
abbrev cX7_segment : ByteArray := prog_1_method_10_code
def yX7_segment : MethodName := ⟨RX7, "segment", "(II)I"⟩
abbrev cX7_sign : ByteArray := prog_1_method_11_code
def yX7_sign : MethodName := ⟨RX7, "sign", "(III)I"⟩
abbrev cX7_alike : ByteArray := prog_1_method_12_code
def yX7_alike : MethodName := ⟨RX7, "alike", "(IIII)I"⟩
abbrev cX7_two : ByteArray := prog_1_method_13_code
def yX7_two : MethodName := ⟨RX7, "two", "(III)I"⟩
abbrev cX7_gram : ByteArray := prog_1_method_14_code
def yX7_gram : MethodName := ⟨RX7, "gram", "(II)I"⟩
abbrev cX7_near : ByteArray := prog_1_method_15_code
def yX7_near : MethodName := ⟨RX7, "near", "(II)I"⟩
abbrev cX7_step : ByteArray := prog_1_method_16_code
def yX7_step : MethodName := ⟨RX7, "step", "(III)I"⟩
abbrev cX7_rank : ByteArray := prog_1_method_17_code
def yX7_rank : MethodName := ⟨RX7, "rank", "(I)I"⟩
abbrev cX7_question : ByteArray := prog_1_method_18_code
def yX7_question : MethodName := ⟨RX7, "question", "(I)I"⟩
abbrev cX7_covered : ByteArray := prog_1_method_19_code
def yX7_covered : MethodName := ⟨RX7, "covered", "(I)I"⟩
abbrev cX7_count : ByteArray := prog_1_method_20_code
def yX7_count : MethodName := ⟨RX7, "count", "(I)I"⟩
abbrev cX7_digest : ByteArray := prog_1_method_21_code
def yX7_digest : MethodName := ⟨RX7, "digest", "()J"⟩
abbrev cX7_mixSegments : ByteArray := prog_1_method_22_code
def yX7_mixSegments : MethodName := ⟨RX7, "mixSegments", "(J)J"⟩
abbrev cX7_mixPairs : ByteArray := prog_1_method_23_code
def yX7_mixPairs : MethodName := ⟨RX7, "mixPairs", "(J)J"⟩
abbrev cX7_mixFindings : ByteArray := prog_1_method_24_code
def yX7_mixFindings : MethodName := ⟨RX7, "mixFindings", "(J)J"⟩
abbrev cX7_mix : ByteArray := prog_1_method_25_code
def yX7_mix : MethodName := ⟨RX7, "mix", "(JI)J"⟩
abbrev cX7_isKept : ByteArray := prog_1_method_26_code
def yX7_isKept : MethodName := ⟨RX7, "isKept", "(I)Z"⟩
abbrev cX7_isSignOfKept : ByteArray := prog_1_method_27_code
def yX7_isSignOfKept : MethodName := ⟨RX7, "isSignOfKept", "(II)Z"⟩
abbrev cX7_hasQuestion : ByteArray := prog_1_method_28_code
def yX7_hasQuestion : MethodName := ⟨RX7, "hasQuestion", "()Z"⟩
abbrev cX7_numberOfSame : ByteArray := prog_1_method_29_code
def yX7_numberOfSame : MethodName := ⟨RX7, "numberOfSame", "(LNearPhrases$Segment;)I"⟩
abbrev cX7_tellQuestion : ByteArray := prog_1_method_30_code
def yX7_tellQuestion : MethodName := ⟨RX7, "tellQuestion", "(I)I"⟩
abbrev cX7_refreshFindings : ByteArray := prog_1_method_31_code
def yX7_refreshFindings : MethodName := ⟨RX7, "refreshFindings", "()V"⟩
abbrev cX7_isWithin : ByteArray := prog_1_method_32_code
def yX7_isWithin : MethodName := ⟨RX7, "isWithin", "(II)Z"⟩
abbrev cX7_isSmallLetter : ByteArray := prog_1_method_33_code
def yX7_isSmallLetter : MethodName := ⟨RX7, "isSmallLetter", "(I)Z"⟩
abbrev cX7_letterNumber : ByteArray := prog_1_method_34_code
def yX7_letterNumber : MethodName := ⟨RX7, "letterNumber", "(I)I"⟩
abbrev cX7_gramNumber : ByteArray := prog_1_method_35_code
def yX7_gramNumber : MethodName := ⟨RX7, "gramNumber", "(II)I"⟩
def RX8 : String := "NearPhrasesModel"
def TX8 : u_T := fun k => match k with
  | 0 => ("NearPhrasesModel", "pageLength", "I", false)
  | 1 => ("NearPhrasesModel", "page", "[I", true)
  | 2 => ("NearPhrasesModel", "kept", "I", false)
  | 3 => ("NearPhrasesModel", "isAsked", "Z", false)
  | 4 => ("NearPhrasesModel", "signs", "[I", true)
  | 5 => ("NearPhrasesModel", "times", "[I", true)
  | 6 => ("NearPhrasesModel", "sizes", "[I", true)
  | 7 => ("NearPhrasesModel", "digits", "[I", true)
  | 8 => ("NearPhrasesModel", "codes", "[I", true)
  | 9 => ("NearPhrasesModel", "weight", "I", false)
  | 10 => ("NearPhrasesModel", "bound", "I", false)
  | 11 => ("NearPhrasesModel", "toldMany", "I", false)
  | 12 => ("NearPhrasesModel", "dropped", "I", false)
  | 13 => ("NearPhrasesModel", "asked", "I", false)
  | 14 => ("NearPhrasesModel", "stage", "I", false)
  | 15 => ("NearPhrasesModel", "letterCosts", "[I", true)
  | 16 => ("NearPhrasesModel", "toPay", "[I", true)
  | 17 => ("NearPhrasesModel", "bothCosts", "[I", true)
  | 18 => ("NearPhrasesModel", "steps", "I", false)
  | 19 => ("NearPhrasesModel", "stepSort", "[I", true)
  | 20 => ("NearPhrasesModel", "stepCost", "[I", true)
  | 21 => ("NearPhrasesModel", "stepOne", "[I", true)
  | 22 => ("NearPhrasesModel", "stepOther", "[I", true)
  | 23 => ("NearPhrasesModel", "grams", "[I", true)
  | 24 => ("NearPhrasesModel", "matches", "I", false)
  | 25 => ("NearPhrasesModel", "ranked", "[I", true)
  | 26 => ("NearPhrasesModel", "scores", "[I", true)
  | 27 => ("NearPhrasesModel", "tagged", "[I", true)
  | 28 => ("NearPhrasesModel", "isCovered", "[Z", true)
  | 29 => ("NearPhrasesModel", "isThere", "[Z", true)
  | _ => ("NearPhrasesModel", "h", "J", false)
def tyX8 : Nat → FieldType := fun k => match k with
  | 0 => .int
  | 1 => .array .int
  | 2 => .int
  | 3 => .boolean
  | 4 => .array .int
  | 5 => .array .int
  | 6 => .array .int
  | 7 => .array .int
  | 8 => .array .int
  | 9 => .int
  | 10 => .int
  | 11 => .int
  | 12 => .int
  | 13 => .int
  | 14 => .int
  | 15 => .array .int
  | 16 => .array .int
  | 17 => .array .int
  | 18 => .int
  | 19 => .array .int
  | 20 => .array .int
  | 21 => .array .int
  | 22 => .array .int
  | 23 => .array .int
  | 24 => .int
  | 25 => .array .int
  | 26 => .array .int
  | 27 => .array .int
  | 28 => .array .boolean
  | 29 => .array .boolean
  | _ => .long
abbrev wsX80 : List Cond := u_ws RX8 TX8 31
theorem nmX8 : ∀ a, a < 31 → ∀ b, b < 31 → a ≠ b → (TX8 a).2.1 ≠ (TX8 b).2.1 := by decide +kernel
theorem tyX8_ok : ∀ k, k < 31 → parseFieldDescriptor (TX8 k).2.2.1 = some (tyX8 k) := by decide +kernel
abbrev cX8_init : ByteArray := prog_10_method_1_code
def yX8_init : MethodName := ⟨RX8, "<init>", "()V"⟩
abbrev cX8_within : ByteArray := prog_10_method_3_code
def yX8_within : MethodName := ⟨RX8, "within", "(III)Z"⟩
abbrev cX8_letter : ByteArray := prog_10_method_4_code
def yX8_letter : MethodName := ⟨RX8, "letter", "(I)I"⟩
abbrev cX8_blank : ByteArray := prog_10_method_5_code
def yX8_blank : MethodName := ⟨RX8, "blank", "()I"⟩
abbrev cX8_begins : ByteArray := prog_10_method_6_code
def yX8_begins : MethodName := ⟨RX8, "begins", "(I)Z"⟩
abbrev cX8_takesLetter : ByteArray := prog_10_method_7_code
def yX8_takesLetter : MethodName := ⟨RX8, "takesLetter", "(I)Z"⟩
abbrev cX8_takes : ByteArray := prog_10_method_8_code
def yX8_takes : MethodName := ⟨RX8, "takes", "(I)Z"⟩
abbrev cX8_readPage : ByteArray := prog_10_method_9_code
def yX8_readPage : MethodName := ⟨RX8, "readPage", "()I"⟩
abbrev cX8_fault : ByteArray := prog_10_method_10_code
def yX8_fault : MethodName := ⟨RX8, "fault", "()I"⟩
abbrev cX8_isSegment : ByteArray := prog_10_method_11_code
def yX8_isSegment : MethodName := ⟨RX8, "isSegment", "()Z"⟩
abbrev cX8_copy : ByteArray := prog_10_method_12_code
def yX8_copy : MethodName := ⟨RX8, "copy", "(II)V"⟩
abbrev cX8_areSame : ByteArray := prog_10_method_13_code
def yX8_areSame : MethodName := ⟨RX8, "areSame", "(II)Z"⟩
abbrev cX8_isSameSign : ByteArray := prog_10_method_14_code
def yX8_isSameSign : MethodName := ⟨RX8, "isSameSign", "(II)Z"⟩
abbrev cX8_keep : ByteArray := prog_10_method_15_code
def yX8_keep : MethodName := ⟨RX8, "keep", "()I"⟩
abbrev cX8_isKept : ByteArray := prog_10_method_16_code
def yX8_isKept : MethodName := ⟨RX8, "isKept", "(I)Z"⟩
abbrev cX8_drop : ByteArray := prog_10_method_17_code
def yX8_drop : MethodName := ⟨RX8, "drop", "(I)I"⟩
abbrev cX8_ask : ByteArray := prog_10_method_18_code
def yX8_ask : MethodName := ⟨RX8, "ask", "()I"⟩
abbrev cX8_weight : ByteArray := prog_10_method_19_code
def yX8_weight : MethodName := ⟨RX8, "weight", "(I)I"⟩
abbrev cX8_bound : ByteArray := prog_10_method_20_code
def yX8_bound : MethodName := ⟨RX8, "bound", "(I)I"⟩
abbrev cX8_least : ByteArray := prog_10_method_21_code
def yX8_least : MethodName := ⟨RX8, "least", "(II)I"⟩
abbrev cX8_changes : ByteArray := prog_10_method_22_code
def yX8_changes : MethodName := ⟨RX8, "changes", "(II)I"⟩
abbrev cX8_alikeNow : ByteArray := prog_10_method_23_code
def yX8_alikeNow : MethodName := ⟨RX8, "alikeNow", "(II)I"⟩
abbrev cX8_isWord : ByteArray := prog_10_method_24_code
def yX8_isWord : MethodName := ⟨RX8, "isWord", "(I)Z"⟩
abbrev cX8_costOf : ByteArray := prog_10_method_25_code
def yX8_costOf : MethodName := ⟨RX8, "costOf", "(I)I"⟩
abbrev cX8_bothCost : ByteArray := prog_10_method_26_code
def yX8_bothCost : MethodName := ⟨RX8, "bothCost", "(II)I"⟩
abbrev cX8_layPay : ByteArray := prog_10_method_27_code
def yX8_layPay : MethodName := ⟨RX8, "layPay", "(II)V"⟩
abbrev cX8_putStep : ByteArray := prog_10_method_28_code
def yX8_putStep : MethodName := ⟨RX8, "putStep", "(IIII)V"⟩
abbrev cX8_laySteps : ByteArray := prog_10_method_29_code
def yX8_laySteps : MethodName := ⟨RX8, "laySteps", "(II)V"⟩
abbrev cX8_farOf : ByteArray := prog_10_method_30_code
def yX8_farOf : MethodName := ⟨RX8, "farOf", "(II)I"⟩
abbrev cX8_costAll : ByteArray := prog_10_method_31_code
def yX8_costAll : MethodName := ⟨RX8, "costAll", "(I)I"⟩
abbrev cX8_allOf : ByteArray := prog_10_method_32_code
def yX8_allOf : MethodName := ⟨RX8, "allOf", "(II)I"⟩
abbrev cX8_scoreOf : ByteArray := prog_10_method_33_code
def yX8_scoreOf : MethodName := ⟨RX8, "scoreOf", "(II)I"⟩
abbrev cX8_gramSign : ByteArray := prog_10_method_34_code
def yX8_gramSign : MethodName := ⟨RX8, "gramSign", "(I)I"⟩
abbrev cX8_gramAt : ByteArray := prog_10_method_35_code
def yX8_gramAt : MethodName := ⟨RX8, "gramAt", "(II)I"⟩
abbrev cX8_layGrams : ByteArray := prog_10_method_36_code
def yX8_layGrams : MethodName := ⟨RX8, "layGrams", "(I)V"⟩
abbrev cX8_gramsOf : ByteArray := prog_10_method_37_code
def yX8_gramsOf : MethodName := ⟨RX8, "gramsOf", "(I)I"⟩
abbrev cX8_sharedOf : ByteArray := prog_10_method_38_code
def yX8_sharedOf : MethodName := ⟨RX8, "sharedOf", "(II)I"⟩
abbrev cX8_wordsOf : ByteArray := prog_10_method_39_code
def yX8_wordsOf : MethodName := ⟨RX8, "wordsOf", "(I)I"⟩
abbrev cX8_tagsOf : ByteArray := prog_10_method_40_code
def yX8_tagsOf : MethodName := ⟨RX8, "tagsOf", "(I)I"⟩
abbrev cX8_segmentNow : ByteArray := prog_10_method_41_code
def yX8_segmentNow : MethodName := ⟨RX8, "segmentNow", "(II)I"⟩
abbrev cX8_segment : ByteArray := prog_10_method_42_code
def yX8_segment : MethodName := ⟨RX8, "segment", "(II)I"⟩
abbrev cX8_isSign : ByteArray := prog_10_method_43_code
def yX8_isSign : MethodName := ⟨RX8, "isSign", "(II)Z"⟩
abbrev cX8_signNow : ByteArray := prog_10_method_44_code
def yX8_signNow : MethodName := ⟨RX8, "signNow", "(II)I"⟩
abbrev cX8_sign : ByteArray := prog_10_method_45_code
def yX8_sign : MethodName := ⟨RX8, "sign", "(III)I"⟩
abbrev cX8_alike : ByteArray := prog_10_method_46_code
def yX8_alike : MethodName := ⟨RX8, "alike", "(IIII)I"⟩
abbrev cX8_stepsOf : ByteArray := prog_10_method_47_code
def yX8_stepsOf : MethodName := ⟨RX8, "stepsOf", "(II)I"⟩
abbrev cX8_twoNow : ByteArray := prog_10_method_48_code
def yX8_twoNow : MethodName := ⟨RX8, "twoNow", "(III)I"⟩
abbrev cX8_two : ByteArray := prog_10_method_49_code
def yX8_two : MethodName := ⟨RX8, "two", "(III)I"⟩
abbrev cX8_isLetter : ByteArray := prog_10_method_50_code
def yX8_isLetter : MethodName := ⟨RX8, "isLetter", "(I)Z"⟩
abbrev cX8_gram : ByteArray := prog_10_method_51_code
def yX8_gram : MethodName := ⟨RX8, "gram", "(II)I"⟩
abbrev cX8_roomOf : ByteArray := prog_10_method_52_code
def yX8_roomOf : MethodName := ⟨RX8, "roomOf", "(I)I"⟩
abbrev cX8_size : ByteArray := prog_10_method_53_code
def yX8_size : MethodName := ⟨RX8, "size", "(I)I"⟩
abbrev cX8_canByLengths : ByteArray := prog_10_method_54_code
def yX8_canByLengths : MethodName := ⟨RX8, "canByLengths", "(I)Z"⟩
abbrev cX8_canByGrams : ByteArray := prog_10_method_55_code
def yX8_canByGrams : MethodName := ⟨RX8, "canByGrams", "(I)Z"⟩
abbrev cX8_isMatch : ByteArray := prog_10_method_56_code
def yX8_isMatch : MethodName := ⟨RX8, "isMatch", "(I)Z"⟩
abbrev cX8_tagSteps : ByteArray := prog_10_method_57_code
def yX8_tagSteps : MethodName := ⟨RX8, "tagSteps", "(I)I"⟩
abbrev cX8_bit : ByteArray := prog_10_method_58_code
def yX8_bit : MethodName := ⟨RX8, "bit", "(Z)I"⟩
abbrev cX8_nearNow : ByteArray := prog_10_method_59_code
def yX8_nearNow : MethodName := ⟨RX8, "nearNow", "(II)I"⟩
abbrev cX8_near : ByteArray := prog_10_method_60_code
def yX8_near : MethodName := ⟨RX8, "near", "(II)I"⟩
abbrev cX8_step : ByteArray := prog_10_method_61_code
def yX8_step : MethodName := ⟨RX8, "step", "(III)I"⟩
abbrev cX8_isAhead : ByteArray := prog_10_method_62_code
def yX8_isAhead : MethodName := ⟨RX8, "isAhead", "(II)Z"⟩
abbrev cX8_layRanks : ByteArray := prog_10_method_63_code
def yX8_layRanks : MethodName := ⟨RX8, "layRanks", "()V"⟩
abbrev cX8_rank : ByteArray := prog_10_method_64_code
def yX8_rank : MethodName := ⟨RX8, "rank", "(I)I"⟩
abbrev cX8_layCovered : ByteArray := prog_10_method_65_code
def yX8_layCovered : MethodName := ⟨RX8, "layCovered", "()V"⟩
abbrev cX8_canMany : ByteArray := prog_10_method_66_code
def yX8_canMany : MethodName := ⟨RX8, "canMany", "(ZZ)I"⟩
abbrev cX8_coveredMany : ByteArray := prog_10_method_67_code
def yX8_coveredMany : MethodName := ⟨RX8, "coveredMany", "()I"⟩
abbrev cX8_matchesMany : ByteArray := prog_10_method_68_code
def yX8_matchesMany : MethodName := ⟨RX8, "matchesMany", "()I"⟩
abbrev cX8_questionNow : ByteArray := prog_10_method_69_code
def yX8_questionNow : MethodName := ⟨RX8, "questionNow", "(I)I"⟩
abbrev cX8_question : ByteArray := prog_10_method_70_code
def yX8_question : MethodName := ⟨RX8, "question", "(I)I"⟩
abbrev cX8_covered : ByteArray := prog_10_method_71_code
def yX8_covered : MethodName := ⟨RX8, "covered", "(I)I"⟩
abbrev cX8_gramsAll : ByteArray := prog_10_method_72_code
def yX8_gramsAll : MethodName := ⟨RX8, "gramsAll", "()I"⟩
abbrev cX8_howMany : ByteArray := prog_10_method_73_code
def yX8_howMany : MethodName := ⟨RX8, "howMany", "(I)I"⟩
abbrev cX8_count : ByteArray := prog_10_method_74_code
def yX8_count : MethodName := ⟨RX8, "count", "(I)I"⟩
abbrev cX8_mix : ByteArray := prog_10_method_75_code
def yX8_mix : MethodName := ⟨RX8, "mix", "(J)V"⟩
abbrev cX8_mixQuestion : ByteArray := prog_10_method_76_code
def yX8_mixQuestion : MethodName := ⟨RX8, "mixQuestion", "()V"⟩
abbrev cX8_digest : ByteArray := prog_10_method_77_code
def yX8_digest : MethodName := ⟨RX8, "digest", "()J"⟩
def RJ9 : String := "java/lang/Math"
def TJ9 : u_T := fun k => match k with
  | _ => ("", "", "", false)
def tyJ9 : Nat → FieldType := fun k => match k with
  | _ => .int
theorem nmJ9 : ∀ a, a < 0 → ∀ b, b < 0 → a ≠ b → (TJ9 a).2.1 ≠ (TJ9 b).2.1 := by decide +kernel
theorem tyJ9_ok : ∀ k, k < 0 → parseFieldDescriptor (TJ9 k).2.2.1 = some (tyJ9 k) := by decide +kernel
abbrev cJ9_abs_0f7a4 : ByteArray := prog_11_method_59_code
def yJ9_abs_0f7a4 : MethodName := ⟨RJ9, "abs", "(I)I"⟩
abbrev cJ9_max_7cf53 : ByteArray := prog_11_method_65_code
def yJ9_max_7cf53 : MethodName := ⟨RJ9, "max", "(II)I"⟩
abbrev cJ9_min_7cf53 : ByteArray := prog_11_method_69_code
def yJ9_min_7cf53 : MethodName := ⟨RJ9, "min", "(II)I"⟩
def RL : String := "NearPhrasesLaw"
abbrev cL_law : ByteArray := code
def yL_law : MethodName := ⟨RL, "law", "([I)Z"⟩
abbrev vwCl : List vw_C := [(RX0, TX0, 3), (RX1, TX1, 14), (RX2, TX2, 7), (RX3, TX3, 2), (RX4, TX4, 5), (RX5, TX5, 6), (RX6, TX6, 3), (RX7, TX7, 14), (RX8, TX8, 31)]
end
section
/-! ===== the memory: kinds, lengths and owners of the cells; ints, references and longs by address and place ===== -/
abbrev Gz : Type := va_G × (Nat → ClassId) × Nat
abbrev Kz : Type := (Nat → Nat) × (Nat → Nat) × (Nat → Nat)
abbrev Iz : Type := Nat → Nat → Int32
abbrev Rz : Type := Nat → Nat → Option Nat
abbrev Jz : Type := Nat → Nat → Int64
def nfz (c : Nat) : Nat := ([3, 14, 7, 2, 5, 6, 3, 14, 31] : List Nat).getD c 0
def ftz (c k : Nat) : Nat := (([[1, 1, 1], [1, 1, 1, 1, 0, 0, 0, 0, 0, 0, 0, 0, 0, 0], [1, 1, 1, 0, 0, 0, 0], [1, 0], [1, 0, 0, 0, 0], [1, 1, 0, 0, 0, 0], [1, 0, 0], [1, 1, 1, 1, 1, 1, 1, 0, 0, 0, 0, 0, 0, 0], [0, 1, 0, 0, 1, 1, 1, 1, 1, 0, 0, 0, 0, 0, 0, 1, 1, 1, 0, 1, 1, 1, 1, 1, 0, 1, 1, 1, 1, 1, 2]] : List (List Nat)).getD c []).getD k 0
def fvz (t : Nat) (I : Iz) (R : Rz) (J : Jz) (a k : Nat) : Value := match t with
  | 0 => .int (I a k)
  | 1 => va_rf (R a k)
  | _ => .long (J a k)
/-- a row of a two-place function, altered at one place -/
def u2 {α : Type} (f : Nat → Nat → α) (a k : Nat) (x : α) : Nat → Nat → α := fun b => if b = a then (fun j => if j = k then x else f a j) else f b
theorem u2_ne {α : Type} {f : Nat → Nat → α} {a b k : Nat} {x : α} (h : b ≠ a) : u2 f a k x b = f b := if_neg h
theorem u2_eq {α : Type} {f : Nat → Nat → α} {a k : Nat} {x : α} : u2 f a k x a k = x := by simp [u2]
theorem u2_at {α : Type} {f : Nat → Nat → α} {a j k : Nat} {x : α} (h : j ≠ k) : u2 f a k x a j = f a j := by simp [u2, h]
theorem u2_row {α : Type} {f : Nat → Nat → α} {a k : Nat} {x : α} : u2 f a k x a = fun j => if j = k then x else f a j := by simp [u2]
def atM (g : Gz) (κ : Kz) (I : Iz) (R : Rz) (J : Jz) (H : Heap) (a : Nat) : Prop :=
  (κ.1 a < 9 → t_OB a (g.1.1 (κ.1 a)) (nfz (κ.1 a)) (g.1.2 (κ.1 a)) H (fun k => fvz (ftz (κ.1 a) k) I R J a k)) ∧
  ((κ.1 a = 9 ∨ κ.1 a = 10) → H[a]? = some (vp_cell (g.2.1 (κ.1 a)) (κ.2.1 a, .inl (I a)))) ∧
  ((11 ≤ κ.1 a ∧ κ.1 a < 15) → H[a]? = some (vp_cell (g.2.1 (κ.1 a)) (κ.2.1 a, .inr (.inr (.inr (.inr (R a)))))))
def MM (g : Gz) (κ : Kz) (I : Iz) (R : Rz) (J : Jz) (H : Heap) : Prop := ∀ a, (κ.1 a < 15 → g.2.2 ≤ a) ∧ atM g κ I R J H a
theorem atM.keep {g : Gz} {κ κ1 : Kz} {I I1 : Iz} {R R1 : Rz} {J J1 : Jz} {H H1 : Heap} {b : Nat} (h : atM g κ I R J H b) (hH : H1[b]? = H[b]?) (hI : I1 b = I b) (hR : R1 b = R b) (hJ : J1 b = J b) (hK : κ1.1 b = κ.1 b) (hN : κ1.2.1 b = κ.2.1 b) : atM g κ1 I1 R1 J1 H1 b := by
  obtain ⟨h1, h2, h3⟩ := h
  unfold atM
  rw [hK, hN, hH, hI, hR]
  refine ⟨fun q => ((h1 q).kept hH).to (fun k _ => ?_), h2, h3⟩
  unfold fvz
  rw [hI, hR, hJ]
/-- one cell is altered -/
theorem MM.one {g : Gz} {κ : Kz} {I I1 : Iz} {R R1 : Rz} {J J1 : Jz} {H H1 : Heap} {a : Nat} (h : MM g κ I R J H) (hI : ∀ b, b ≠ a → I1 b = I b) (hR : ∀ b, b ≠ a → R1 b = R b) (hJ : ∀ b, b ≠ a → J1 b = J b) (hH : ∀ b, b ≠ a → H1[b]? = H[b]?) (ha : atM g κ I1 R1 J1 H1 a) : MM g κ I1 R1 J1 H1 := by
  intro b
  refine ⟨(h b).1, ?_⟩
  by_cases e : b = a
  · subst e
    exact ha
  · exact (h b).2.keep (hH b e) (hI b e) (hR b e) (hJ b e) rfl rfl
abbrev tyz (g : Gz) : List (ClassId × FieldType) := [(g.2.1 9, .int), (g.2.1 10, .boolean), (g.2.1 11, .object RX1), (g.2.1 12, .object RX5), (g.2.1 13, .object RX6), (g.2.1 14, .array .int)]
/-- the words that stay true as the tables warm, and those of nest mates, which ride in the world -/
def isNest : Cond → Bool
  | .fieldLinkNest .. => true
  | .methodLinkNest .. => true
  | _ => false
def tg : List Cond := lw_tbl.filter goodWord
def tn : List Cond := lw_tbl.filter isNest
theorem tg_mem {w : Cond} (i : Nat) (h : lw_tbl[i]? = some w) (hg : goodWord w = true) : w ∈ tg := List.mem_filter.mpr ⟨List.mem_of_getElem? h, hg⟩
theorem tn_mem {w : Cond} (i : Nat) (h : lw_tbl[i]? = some w) (hg : isNest w = true) : w ∈ tn := List.mem_filter.mpr ⟨List.mem_of_getElem? h, hg⟩
theorem tg_good {w : Cond} (h : w ∈ tg) : (w.onTables && w.keeps) = true ∨ ∃ ty, w = .arrayClass ty := good_of_word (List.mem_filter.mp h).2
theorem nest_warm {w : Cond} (hn : isNest w = true) {s U : State} (hW : s.WarmedH U.vm) (h : va_Nw w s) : va_Nw w U := by
  cases w <;> first | exact va_Nw.warmF hW h | exact va_Nw.warmM hW h | cases hn
theorem nest_same {w : Cond} (hn : isNest w = true) {s U : State} (hW : s.vm = U.vm) (h : va_Nw w s) : va_Nw w U := by
  cases w <;> first | exact va_Nw.same rfl hW h | cases hn
theorem nest_use {w : Cond} (hn : isNest w = true) {A : Array Value} {U : State} (h : va_Nw w U) : w.before A U = true := by
  cases w <;> first | exact va_Nw.use rfl h | cases hn
def AOi (U : State) : Prop := (Cond.arrayOver (.array .int)).before #[] U = true
theorem AOi.moved {u U : State} (hvm : u.vm.Alike U.vm) (h : AOi u) : AOi U := by
  unfold AOi Cond.before Cond.holds at h ⊢
  simp only [Cond.value, beq_iff_eq] at h ⊢
  cases hc : u.vm.findClass (FieldType.array .int).toString with
  | none => simp [hc] at h
  | some comp =>
    simp only [hc, Option.bind_some, Option.bind_eq_some_iff, Option.map_eq_some_iff] at h
    obtain ⟨c, hi, k, hk, hb⟩ := h
    obtain ⟨k', hk', he⟩ := hvm.2.2 _ _ hk
    have hi2 : (U.vm.classes.findIdx? fun (x : Class) => match x.kind with | .array component _ => component == comp | _ => false) = some c := by
      have e3 : u.vm.bare = U.vm.bare := by first | exact hvm.bare_eq | exact hvm.bare_eq.symm
      have e1 := va_idx_bare U.vm comp
      have e2 := va_idx_bare u.vm comp
      rw [e3] at e2
      exact e1.symm.trans (e2.trans hi)
    have f1 : U.vm.findClass (FieldType.array .int).toString = some comp := by rw [hvm.findClass]; exact hc
    simp only [f1, Option.bind_some, Option.bind_eq_some_iff, Option.map_eq_some_iff]
    refine ⟨c, hi2, k', hk', ?_⟩
    rw [he, hvm.findClass]
    exact hb
def KKz (g : Gz) (U : State) : Prop := va_K g.1 vwCl (tyz g) U ∧ (∀ w ∈ tn, va_Nw w U) ∧ va_AO RX1 U ∧ va_AO RX5 U ∧ va_AO RX6 U ∧ AOi U
theorem KKz.warm {g : Gz} {s U : State} (hW : s.WarmedH U.vm) (h : KKz g s) : KKz g U := ⟨va_K.moved hW.alike h.1, fun w hw => nest_warm (List.mem_filter.mp hw).2 hW (h.2.1 w hw), va_AO.moved hW.alike h.2.2.1, va_AO.moved hW.alike h.2.2.2.1, va_AO.moved hW.alike h.2.2.2.2.1, AOi.moved hW.alike h.2.2.2.2.2⟩
theorem KKz.same {g : Gz} {s U : State} (hW : s.vm = U.vm) (h : KKz g s) : KKz g U := by
  have ha : s.vm.Alike U.vm := by rw [hW]; exact Vm.Alike.refl U.vm
  exact ⟨va_K.moved ha h.1, fun w hw => nest_same (List.mem_filter.mp hw).2 hW (h.2.1 w hw), va_AO.moved ha h.2.2.1, va_AO.moved ha h.2.2.2.1, va_AO.moved ha h.2.2.2.2.1, AOi.moved ha h.2.2.2.2.2⟩
/-! ===== the walk: everything that stands still in one tuple ===== -/
abbrev Zz : Type := Program × Launch × Env × Room × State × MethodId × Array Value × List Frame × Method × Code × (State → Prop) × Gz
abbrev zp (z : Zz) := z.1
abbrev zl (z : Zz) := z.2.1
abbrev ze (z : Zz) := z.2.2.1
abbrev zR (z : Zz) := z.2.2.2.1
abbrev zs (z : Zz) := z.2.2.2.2.1
abbrev zm (z : Zz) := z.2.2.2.2.2.1
abbrev za (z : Zz) := z.2.2.2.2.2.2.1
abbrev zb (z : Zz) := z.2.2.2.2.2.2.2.1
abbrev zt (z : Zz) := z.2.2.2.2.2.2.2.2.1
abbrev zc (z : Zz) := z.2.2.2.2.2.2.2.2.2.1
abbrev zq (z : Zz) := z.2.2.2.2.2.2.2.2.2.2.1
abbrev zg (z : Zz) := z.2.2.2.2.2.2.2.2.2.2.2
def lvh (ls : Array Slot) (nL : Nat) (l : List (Nat × Value)) : Prop := ls.size = nL ∧ lv_wf ls ∧ ∀ k v, l.lookup k = some v → ls[k]? = some (.val v)
def V (z : Zz) (nL k n pc : Nat) (lv : List (Nat × Value)) (st : List Value) (κ : Kz) (I : Iz) (R : Rz) (J : Jz) : Prop :=
  ∀ (ls : Array Slot) (H : Heap) (locs : List Loc), lvh ls nL lv → MM (zg z) κ I R J H → va_S (fun q => (zg z).2.2 ≤ q) (zs z).heap H locs →
    W (zp z) (zl z) (ze z) (zR z) (zs z) (zm z) (za z) (zb z) (zt z) (zc z) H locs k n (zq z) (F0 (zm z) pc ls st)
/-- what stands still in a method's walk: its code, class, locals, its room's depth -/
def Am (z : Zz) (cc : ByteArray) (own : String) (nL d : Nat) : Prop :=
  CallFix (zp z) (zm z) (zc z) cc nL (zs z) (za z) tg own ∧ KKz (zg z) (zs z) ∧ (zg z).2.2 ≤ (zs z).heap.size ∧ d ≤ (zR z).frames ∧ 40 * d ≤ (zR z).locals
theorem lookup_mem {l : List (Nat × Value)} {k : Nat} {v : Value} (h : l.lookup k = some v) : (k, v) ∈ l := by
  induction l with
  | nil => simp at h
  | cons q t ih =>
    obtain ⟨a, b⟩ := q
    by_cases e : k = a
    · subst e
      simp at h
      subst h
      exact List.mem_cons_self
    · have h2 : (k == a) = false := by simpa using e
      rw [List.lookup_cons, h2] at h
      exact List.mem_cons_of_mem _ (ih h)
theorem lvh.of {ls : Array Slot} {nL : Nat} {l : List (Nat × Value)} (h : lv_has ls nL l) : lvh ls nL l := ⟨h.1, h.2.1, fun _ _ hk => h.2.2 _ (lookup_mem hk)⟩
theorem lvh.one {ls : Array Slot} {nL : Nat} {l : List (Nat × Value)} (h : lvh ls nL l) {k : Nat} {v : Value} (hk : l.lookup k = some v) : lv_has ls nL [(k, v)] :=
  ⟨h.1, h.2.1, fun q hq => by
    have e : q = (k, v) := by simpa using hq
    subst e
    exact h.2.2 k v hk⟩
/-- the local at i is no second half -/
def clr (l : List (Nat × Value)) (i : Nat) : Bool := match i with
  | 0 => true
  | j + 1 => match l.lookup j with
    | some w => w.category != 2
    | none => true
theorem lvh.store1 {ls : Array Slot} {nL : Nat} {l : List (Nat × Value)} {i : Nat} {v : Value} (h : lvh ls nL l) (hi : i < nL) (hc : v.category = 1) (hcl : clr l i = true) : ∃ ls', storeLocals ls i v = some ls' ∧ lvh ls' nL ((i, v) :: l) := by
  obtain ⟨ls', e, h'⟩ := lv_store1 (l := []) (v := v) ⟨h.1, h.2.1, fun q hq => by simp at hq⟩ hi hc
  refine ⟨ls', e, h'.1, h'.2.1, fun k w hk => ?_⟩
  by_cases e2 : k = i
  · subst e2
    have hw : v = w := by simpa using hk
    subst hw
    exact h'.2.2 _ List.mem_cons_self
  · have h2 : (k == i) = false := by simpa using e2
    rw [List.lookup_cons, h2] at hk
    obtain ⟨ls2, e3, h3⟩ := lv_store1 (v := v) (h.one hk) hi hc
    have e4 : ls2 = ls' := Option.some.inj (e3.symm.trans e)
    subst e4
    refine h3.2.2 (k, w) (List.mem_cons_of_mem _ (List.mem_filter.mpr ⟨List.mem_cons_self, ?_⟩))
    by_cases e5 : k + 1 = i
    · subst e5
      simp only [clr, hk] at hcl
      simp [h2]
      intro h6
      simp [h6] at hcl
    · simp [h2, e5]
theorem lvh.store2 {ls : Array Slot} {nL : Nat} {l : List (Nat × Value)} {i : Nat} {v : Value} (h : lvh ls nL l) (hi : i + 1 < nL) (hc : v.category = 2) (hcl : clr l i = true) : ∃ ls', storeLocals ls i v = some ls' ∧ lvh ls' nL ((i, v) :: l.filter (fun q => !(q.1 == i + 1))) := by
  obtain ⟨ls', e, h'⟩ := lv_store2 (l := []) (v := v) ⟨h.1, h.2.1, fun q hq => by simp at hq⟩ hi hc
  refine ⟨ls', e, h'.1, h'.2.1, fun k w hk => ?_⟩
  by_cases e2 : k = i
  · subst e2
    have hw : v = w := by simpa using hk
    subst hw
    exact h'.2.2 _ List.mem_cons_self
  · have h2 : (k == i) = false := by simpa using e2
    rw [List.lookup_cons, h2] at hk
    have hm := lookup_mem hk
    have h7 : ¬ k = i + 1 := by
      have := (List.mem_filter.mp hm).2
      simpa using this
    have hk2 : l.lookup k = some w := by
      clear hcl hm h e h' hi
      induction l with
      | nil => simp at hk
      | cons q t ih =>
        obtain ⟨a, b⟩ := q
        by_cases e8 : k = a
        · subst e8
          have h9 : (!(k == i + 1)) = true := by simpa using h7
          rw [List.filter_cons_of_pos (by simpa using h7)] at hk
          simpa using hk
        · have h9 : (k == a) = false := by simpa using e8
          rw [List.lookup_cons, h9]
          apply ih
          by_cases h10 : a = i + 1
          · rw [List.filter_cons_of_neg (by simpa using h10)] at hk
            exact hk
          · rw [List.filter_cons_of_pos (by simpa using h10), List.lookup_cons, h9] at hk
            exact hk
    obtain ⟨ls2, e3, h3⟩ := lv_store2 (v := v) (h.one hk2) hi hc
    have e4 : ls2 = ls' := Option.some.inj (e3.symm.trans e)
    subst e4
    refine h3.2.2 (k, w) (List.mem_cons_of_mem _ (List.mem_filter.mpr ⟨List.mem_cons_self, ?_⟩))
    by_cases e5 : k + 1 = i
    · subst e5
      simp only [clr, hk2] at hcl
      simp [h2]
      refine ⟨h7, fun h6 => ?_⟩
      simp [h6] at hcl
    · simp [h2, e5, h7]
/-- fewer locals, in another order -/
def subl : List (Nat × Value) → List (Nat × Value) → Prop
  | [], _ => True
  | q :: t, l => l.lookup q.1 = some q.2 ∧ subl t l
theorem subl.use {l' l : List (Nat × Value)} (h : subl l' l) {k : Nat} {v : Value} (hk : l'.lookup k = some v) : l.lookup k = some v := by
  induction l' with
  | nil => simp at hk
  | cons q t ih =>
    obtain ⟨a, b⟩ := q
    by_cases e : k = a
    · subst e
      have hw : b = v := by simpa using hk
      subst hw
      exact h.1
    · have h2 : (k == a) = false := by simpa using e
      rw [List.lookup_cons, h2] at hk
      exact ih h.2 hk
section VR
variable {z : Zz} {cc : ByteArray} {own : String} {nL d k n pc : Nat} {lv : List (Nat × Value)} {st : List Value} {κ : Kz} {I : Iz} {R : Rz} {J : Jz}
theorem v_loc {lv' : List (Nat × Value)} (hs : subl lv' lv) (h : V z nL k n pc lv' st κ I R J) : V z nL k n pc lv st κ I R J :=
  fun ls H locs hl hM hS => h ls H locs ⟨hl.1, hl.2.1, fun _ _ hk => hl.2.2 _ _ (hs.use hk)⟩ hM hS
theorem v_pc {pc' : Nat} (e : pc = pc') (h : V z nL k n pc' lv st κ I R J) : V z nL k n pc lv st κ I R J := e ▸ h
theorem v_iconst (hz : Am z cc own nL d) {i : Int} (dd : decode cc pc = .ok (.iconst i, 1))
    (h : V z nL k n (pc + 1) lv (.int (Int32.ofInt i) :: st) κ I R J) : V z nL k n pc lv st κ I R J :=
  fun ls H locs hl hM hS => lv_iconst hz.1.1 hz.1.2.1 dd rfl (h ls H locs hl hM hS)
theorem v_bipush (hz : Am z cc own nL d) {i : Int} (dd : decode cc pc = .ok (.bipush i, 2))
    (h : V z nL k n (pc + 2) lv (.int (Int8.ofInt i).toInt32 :: st) κ I R J) : V z nL k n pc lv st κ I R J :=
  fun ls H locs hl hM hS => lv_bipush hz.1.1 hz.1.2.1 dd rfl (h ls H locs hl hM hS)
theorem v_sipush (hz : Am z cc own nL d) {i : Int} (dd : decode cc pc = .ok (.sipush i, 3))
    (h : V z nL k n (pc + 3) lv (.int (Int16.ofInt i).toInt32 :: st) κ I R J) : V z nL k n pc lv st κ I R J :=
  fun ls H locs hl hM hS => lv_sipush hz.1.1 hz.1.2.1 dd rfl (h ls H locs hl hM hS)
theorem v_ic (hz : Am z cc own nL d) {i : Int} {v : Int32} (dd : decode cc pc = .ok (.iconst i, 1)) (hv : Int32.ofInt i = v)
    (h : V z nL k n (pc + 1) lv (.int v :: st) κ I R J) : V z nL k n pc lv st κ I R J :=
  fun ls H locs hl hM hS => lv_iconst hz.1.1 hz.1.2.1 dd hv (h ls H locs hl hM hS)
theorem v_bi (hz : Am z cc own nL d) {i : Int} {v : Int32} (dd : decode cc pc = .ok (.bipush i, 2)) (hv : (Int8.ofInt i).toInt32 = v)
    (h : V z nL k n (pc + 2) lv (.int v :: st) κ I R J) : V z nL k n pc lv st κ I R J :=
  fun ls H locs hl hM hS => lv_bipush hz.1.1 hz.1.2.1 dd hv (h ls H locs hl hM hS)
theorem v_si (hz : Am z cc own nL d) {i : Int} {v : Int32} (dd : decode cc pc = .ok (.sipush i, 3)) (hv : (Int16.ofInt i).toInt32 = v)
    (h : V z nL k n (pc + 3) lv (.int v :: st) κ I R J) : V z nL k n pc lv st κ I R J :=
  fun ls H locs hl hM hS => lv_sipush hz.1.1 hz.1.2.1 dd hv (h ls H locs hl hM hS)
theorem v_ldc (hz : Am z cc own nL d) {i : Nat} {v : Int32} (hw : Cond.constant own i v ∈ tg) (dd : decode cc pc = .ok (.ldc i, 2))
    (h : V z nL k n (pc + 2) lv (.int v :: st) κ I R J) : V z nL k n pc lv st κ I R J :=
  fun ls H locs hl hM hS => lv_ldc hz.1.1 hz.1.2.1 hz.1.2.2.2.1 (hz.1.2.2.2.2 _ hw) dd (h ls H locs hl hM hS)
theorem v_ldc2 (hz : Am z cc own nL d) {i : Nat} {v : Int64} (hw : Cond.constantLong own i v ∈ tg) (dd : decode cc pc = .ok (.ldc2_w i, 3))
    (h : V z nL k n (pc + 3) lv (.long v :: st) κ I R J) : V z nL k n pc lv st κ I R J :=
  fun ls H locs hl hM hS => lv_ldc2 hz.1.1 hz.1.2.1 hz.1.2.2.2.1 (hz.1.2.2.2.2 _ hw) dd (h ls H locs hl hM hS)
theorem v_iload_n (hz : Am z cc own nL d) {i : Fin 4} {x : Int32} (dd : decode cc pc = .ok (.iload_n i, 1)) (hx : lv.lookup (i : Nat) = some (.int x))
    (h : V z nL k n (pc + 1) lv (.int x :: st) κ I R J) : V z nL k n pc lv st κ I R J :=
  fun ls H locs hl hM hS => lv_iload_n hz.1.1 hz.1.2.1 dd rfl (hl.2.2 _ _ hx) (h ls H locs hl hM hS)
theorem v_iload (hz : Am z cc own nL d) {i : Nat} {x : Int32} (dd : decode cc pc = .ok (.iload i, 2)) (hx : lv.lookup i = some (.int x))
    (h : V z nL k n (pc + 2) lv (.int x :: st) κ I R J) : V z nL k n pc lv st κ I R J :=
  fun ls H locs hl hM hS => lv_iload hz.1.1 hz.1.2.1 dd (hl.2.2 _ _ hx) (h ls H locs hl hM hS)
theorem v_lload_n (hz : Am z cc own nL d) {i : Fin 4} {x : Int64} (dd : decode cc pc = .ok (.lload_n i, 1)) (hx : lv.lookup (i : Nat) = some (.long x))
    (h : V z nL k n (pc + 1) lv (.long x :: st) κ I R J) : V z nL k n pc lv st κ I R J :=
  fun ls H locs hl hM hS => lv_lload_n hz.1.1 hz.1.2.1 dd rfl (hl.2.2 _ _ hx) (h ls H locs hl hM hS)
theorem v_lload (hz : Am z cc own nL d) {i : Nat} {x : Int64} (dd : decode cc pc = .ok (.lload i, 2)) (hx : lv.lookup i = some (.long x))
    (h : V z nL k n (pc + 2) lv (.long x :: st) κ I R J) : V z nL k n pc lv st κ I R J :=
  fun ls H locs hl hM hS => lv_lload hz.1.1 hz.1.2.1 dd (hl.2.2 _ _ hx) (h ls H locs hl hM hS)
theorem v_aload_n (hz : Am z cc own nL d) {i : Fin 4} {x : Nat} (dd : decode cc pc = .ok (.aload_n i, 1)) (hx : lv.lookup (i : Nat) = some (.ref x))
    (h : V z nL k n (pc + 1) lv (.ref x :: st) κ I R J) : V z nL k n pc lv st κ I R J :=
  fun ls H locs hl hM hS => lv_aload_n hz.1.1 hz.1.2.1 dd rfl (hl.2.2 _ _ hx) (h ls H locs hl hM hS)
theorem v_aload (hz : Am z cc own nL d) {i : Nat} {x : Nat} (dd : decode cc pc = .ok (.aload i, 2)) (hx : lv.lookup i = some (.ref x))
    (h : V z nL k n (pc + 2) lv (.ref x :: st) κ I R J) : V z nL k n pc lv st κ I R J :=
  fun ls H locs hl hM hS => lv_aload hz.1.1 hz.1.2.1 dd (hl.2.2 _ _ hx) (h ls H locs hl hM hS)
theorem v_iadd (hz : Am z cc own nL d) {x y : Int32} (dd : decode cc pc = .ok (.iadd, 1))
    (h : V z nL k n (pc + 1) lv (.int (x + y) :: st) κ I R J) : V z nL k n pc lv (.int y :: .int x :: st) κ I R J :=
  fun ls H locs hl hM hS => lv_iadd hz.1.1 hz.1.2.1 dd (h ls H locs hl hM hS)
theorem v_isub (hz : Am z cc own nL d) {x y : Int32} (dd : decode cc pc = .ok (.isub, 1))
    (h : V z nL k n (pc + 1) lv (.int (x - y) :: st) κ I R J) : V z nL k n pc lv (.int y :: .int x :: st) κ I R J :=
  fun ls H locs hl hM hS => lv_isub hz.1.1 hz.1.2.1 dd (h ls H locs hl hM hS)
theorem v_imul (hz : Am z cc own nL d) {x y : Int32} (dd : decode cc pc = .ok (.imul, 1))
    (h : V z nL k n (pc + 1) lv (.int (x * y) :: st) κ I R J) : V z nL k n pc lv (.int y :: .int x :: st) κ I R J :=
  fun ls H locs hl hM hS => lv_imul hz.1.1 hz.1.2.1 dd (h ls H locs hl hM hS)
theorem v_iand (hz : Am z cc own nL d) {x y : Int32} (dd : decode cc pc = .ok (.iand, 1))
    (h : V z nL k n (pc + 1) lv (.int (x &&& y) :: st) κ I R J) : V z nL k n pc lv (.int y :: .int x :: st) κ I R J :=
  fun ls H locs hl hM hS => lv_iand hz.1.1 hz.1.2.1 dd (h ls H locs hl hM hS)
theorem v_ladd (hz : Am z cc own nL d) {x y : Int64} (dd : decode cc pc = .ok (.ladd, 1))
    (h : V z nL k n (pc + 1) lv (.long (x + y) :: st) κ I R J) : V z nL k n pc lv (.long y :: .long x :: st) κ I R J :=
  fun ls H locs hl hM hS => lv_ladd hz.1.1 hz.1.2.1 dd (h ls H locs hl hM hS)
theorem v_lmul (hz : Am z cc own nL d) {x y : Int64} (dd : decode cc pc = .ok (.lmul, 1))
    (h : V z nL k n (pc + 1) lv (.long (x * y) :: st) κ I R J) : V z nL k n pc lv (.long y :: .long x :: st) κ I R J :=
  fun ls H locs hl hM hS => lv_lmul hz.1.1 hz.1.2.1 dd (h ls H locs hl hM hS)
theorem v_ineg (hz : Am z cc own nL d) {x : Int32} (dd : decode cc pc = .ok (.ineg, 1))
    (h : V z nL k n (pc + 1) lv (.int (-x) :: st) κ I R J) : V z nL k n pc lv (.int x :: st) κ I R J :=
  fun ls H locs hl hM hS => lv_ineg hz.1.1 hz.1.2.1 dd (h ls H locs hl hM hS)
theorem v_i2l (hz : Am z cc own nL d) {x : Int32} (dd : decode cc pc = .ok (.i2l, 1))
    (h : V z nL k n (pc + 1) lv (.long x.toInt64 :: st) κ I R J) : V z nL k n pc lv (.int x :: st) κ I R J :=
  fun ls H locs hl hM hS => lv_i2l hz.1.1 hz.1.2.1 dd rfl (h ls H locs hl hM hS)
theorem v_idiv (hz : Am z cc own nL d) {x y : Int32} (dd : decode cc pc = .ok (.idiv, 1)) (hne : ¬ y = 0)
    (h : V z nL k n (pc + 1) lv (.int (x / y) :: st) κ I R J) : V z nL k n pc lv (.int y :: .int x :: st) κ I R J :=
  fun ls H locs hl hM hS => lv_idiv hz.1.1 hz.1.2.1 dd hne (h ls H locs hl hM hS)
theorem v_irem (hz : Am z cc own nL d) {x y : Int32} (dd : decode cc pc = .ok (.irem, 1)) (hne : ¬ y = 0)
    (h : V z nL k n (pc + 1) lv (.int (x - x / y * y) :: st) κ I R J) : V z nL k n pc lv (.int y :: .int x :: st) κ I R J :=
  fun ls H locs hl hM hS => lv_irem hz.1.1 hz.1.2.1 dd hne (h ls H locs hl hM hS)
theorem v_dup (hz : Am z cc own nL d) {v : Value} (dd : decode cc pc = .ok (.dup, 1)) (hc : v.category = 1)
    (h : V z nL k n (pc + 1) lv (v :: v :: st) κ I R J) : V z nL k n pc lv (v :: st) κ I R J :=
  fun ls H locs hl hM hS => lv_dup hz.1.1 hz.1.2.1 dd hc (h ls H locs hl hM hS)
theorem v_dup2 (hz : Am z cc own nL d) {v u : Value} (dd : decode cc pc = .ok (.dup2, 1)) (hc : v.category = 1) (hd : u.category = 1)
    (h : V z nL k n (pc + 1) lv (v :: u :: v :: u :: st) κ I R J) : V z nL k n pc lv (v :: u :: st) κ I R J :=
  fun ls H locs hl hM hS => lv_dup2_11 hz.1.1 hz.1.2.1 dd hc hd (h ls H locs hl hM hS)
theorem v_istore_n (hz : Am z cc own nL d) {i : Fin 4} {x : Int32} (dd : decode cc pc = .ok (.istore_n i, 1)) (hn : (i : Nat) < nL) (hcl : clr lv i = true)
    (h : V z nL k n (pc + 1) (((i : Nat), .int x) :: lv) st κ I R J) : V z nL k n pc lv (.int x :: st) κ I R J := by
  intro ls H locs hl hM hS
  obtain ⟨ls', e', h'⟩ := hl.store1 (v := .int x) hn rfl hcl
  intro T hT X
  obtain ⟨t, a, b⟩ := h ls' H locs h' hM hS T hT X
  have hexec := hz.1.1
  have hb := hz.1.2.1
  refine ⟨t, ?_, b⟩
  jvm_step X.here [X.here.top, ↓top_set X.here.top, hexec, hb, dd, e']
  exact a
theorem v_istore (hz : Am z cc own nL d) {i : Nat} {x : Int32} (dd : decode cc pc = .ok (.istore i, 2)) (hn : (i : Nat) < nL) (hcl : clr lv i = true)
    (h : V z nL k n (pc + 2) (((i : Nat), .int x) :: lv) st κ I R J) : V z nL k n pc lv (.int x :: st) κ I R J := by
  intro ls H locs hl hM hS
  obtain ⟨ls', e', h'⟩ := hl.store1 (v := .int x) hn rfl hcl
  intro T hT X
  obtain ⟨t, a, b⟩ := h ls' H locs h' hM hS T hT X
  have hexec := hz.1.1
  have hb := hz.1.2.1
  refine ⟨t, ?_, b⟩
  jvm_step X.here [X.here.top, ↓top_set X.here.top, hexec, hb, dd, e']
  exact a
theorem v_astore_n (hz : Am z cc own nL d) {i : Fin 4} {x : Nat} (dd : decode cc pc = .ok (.astore_n i, 1)) (hn : (i : Nat) < nL) (hcl : clr lv i = true)
    (h : V z nL k n (pc + 1) (((i : Nat), .ref x) :: lv) st κ I R J) : V z nL k n pc lv (.ref x :: st) κ I R J := by
  intro ls H locs hl hM hS
  obtain ⟨ls', e', h'⟩ := hl.store1 (v := .ref x) hn rfl hcl
  intro T hT X
  obtain ⟨t, a, b⟩ := h ls' H locs h' hM hS T hT X
  have hexec := hz.1.1
  have hb := hz.1.2.1
  refine ⟨t, ?_, b⟩
  jvm_step X.here [X.here.top, ↓top_set X.here.top, hexec, hb, dd, e', Value.isRef]
  exact a
theorem v_astore (hz : Am z cc own nL d) {i : Nat} {x : Nat} (dd : decode cc pc = .ok (.astore i, 2)) (hn : (i : Nat) < nL) (hcl : clr lv i = true)
    (h : V z nL k n (pc + 2) (((i : Nat), .ref x) :: lv) st κ I R J) : V z nL k n pc lv (.ref x :: st) κ I R J := by
  intro ls H locs hl hM hS
  obtain ⟨ls', e', h'⟩ := hl.store1 (v := .ref x) hn rfl hcl
  intro T hT X
  obtain ⟨t, a, b⟩ := h ls' H locs h' hM hS T hT X
  have hexec := hz.1.1
  have hb := hz.1.2.1
  refine ⟨t, ?_, b⟩
  jvm_step X.here [X.here.top, ↓top_set X.here.top, hexec, hb, dd, e', Value.isRef]
  exact a
theorem v_lstore_n (hz : Am z cc own nL d) {i : Fin 4} {x : Int64} (dd : decode cc pc = .ok (.lstore_n i, 1)) (hn : (i : Nat) + 1 < nL) (hcl : clr lv i = true)
    (h : V z nL k n (pc + 1) (((i : Nat), .long x) :: lv.filter (fun q => !(q.1 == (i : Nat) + 1))) st κ I R J) : V z nL k n pc lv (.long x :: st) κ I R J := by
  intro ls H locs hl hM hS
  obtain ⟨ls', e', h'⟩ := hl.store2 (v := .long x) hn rfl hcl
  intro T hT X
  obtain ⟨t, a, b⟩ := h ls' H locs h' hM hS T hT X
  have hexec := hz.1.1
  have hb := hz.1.2.1
  refine ⟨t, ?_, b⟩
  jvm_step X.here [X.here.top, ↓top_set X.here.top, hexec, hb, dd, e']
  exact a
theorem v_lstore (hz : Am z cc own nL d) {i : Nat} {x : Int64} (dd : decode cc pc = .ok (.lstore i, 2)) (hn : (i : Nat) + 1 < nL) (hcl : clr lv i = true)
    (h : V z nL k n (pc + 2) (((i : Nat), .long x) :: lv.filter (fun q => !(q.1 == (i : Nat) + 1))) st κ I R J) : V z nL k n pc lv (.long x :: st) κ I R J := by
  intro ls H locs hl hM hS
  obtain ⟨ls', e', h'⟩ := hl.store2 (v := .long x) hn rfl hcl
  intro T hT X
  obtain ⟨t, a, b⟩ := h ls' H locs h' hM hS T hT X
  have hexec := hz.1.1
  have hb := hz.1.2.1
  refine ⟨t, ?_, b⟩
  jvm_step X.here [X.here.top, ↓top_set X.here.top, hexec, hb, dd, e']
  exact a
theorem v_iinc (hz : Am z cc own nL d) {i : Nat} {c : Int} {x : Int32} (dd : decode cc pc = .ok (.iinc i c, 3)) (hx : lv.lookup i = some (.int x)) (hn : i < nL) (hcl : clr lv i = true)
    (h : V z nL k n (pc + 3) ((i, .int (x + Int32.ofInt c)) :: lv) st κ I R J) : V z nL k n pc lv st κ I R J := by
  intro ls H locs hl hM hS
  obtain ⟨ls', e', h'⟩ := hl.store1 (v := .int (x + Int32.ofInt c)) hn rfl hcl
  have hg := hl.2.2 _ _ hx
  intro T hT X
  obtain ⟨t, a, b⟩ := h ls' H locs h' hM hS T hT X
  have hexec := hz.1.1
  have hb := hz.1.2.1
  refine ⟨t, ?_, b⟩
  jvm_step X.here [X.here.top, ↓top_set X.here.top, hexec, hb, dd, hg, e']
  exact a
theorem v_if_eq (hz : Am z cc own nL d) (tgt : Nat) {x : Int32} {off : Int} (dd : decode cc pc = .ok (.ifCond .eq off, 3)) (ht : (pc : Int) + off = (tgt : Int))
    (kt : x = 0 → V z nL k n tgt lv st κ I R J) (kf : ¬ (x = 0) → V z nL k n (pc + 3) lv st κ I R J) : V z nL k n pc lv (.int x :: st) κ I R J :=
  fun ls H locs hl hM hS => lv_if_eq hz.1.1 hz.1.2.1 dd ht (fun q => kt (by first | exact q | simpa using q) ls H locs hl hM hS) (fun q => kf (by first | exact q | simpa using q) ls H locs hl hM hS)
theorem v_if_ne (hz : Am z cc own nL d) (tgt : Nat) {x : Int32} {off : Int} (dd : decode cc pc = .ok (.ifCond .ne off, 3)) (ht : (pc : Int) + off = (tgt : Int))
    (kt : x ≠ 0 → V z nL k n tgt lv st κ I R J) (kf : ¬ (x ≠ 0) → V z nL k n (pc + 3) lv st κ I R J) : V z nL k n pc lv (.int x :: st) κ I R J :=
  fun ls H locs hl hM hS => lv_if_ne hz.1.1 hz.1.2.1 dd ht (fun q => kt (by first | exact q | simpa using q) ls H locs hl hM hS) (fun q => kf (by first | exact q | simpa using q) ls H locs hl hM hS)
theorem v_if_lt (hz : Am z cc own nL d) (tgt : Nat) {x : Int32} {off : Int} (dd : decode cc pc = .ok (.ifCond .lt off, 3)) (ht : (pc : Int) + off = (tgt : Int))
    (kt : x < 0 → V z nL k n tgt lv st κ I R J) (kf : ¬ (x < 0) → V z nL k n (pc + 3) lv st κ I R J) : V z nL k n pc lv (.int x :: st) κ I R J :=
  fun ls H locs hl hM hS => lv_if_lt hz.1.1 hz.1.2.1 dd ht (fun q => kt (by first | exact q | simpa using q) ls H locs hl hM hS) (fun q => kf (by first | exact q | simpa using q) ls H locs hl hM hS)
theorem v_if_ge (hz : Am z cc own nL d) (tgt : Nat) {x : Int32} {off : Int} (dd : decode cc pc = .ok (.ifCond .ge off, 3)) (ht : (pc : Int) + off = (tgt : Int))
    (kt : 0 ≤ x → V z nL k n tgt lv st κ I R J) (kf : ¬ (0 ≤ x) → V z nL k n (pc + 3) lv st κ I R J) : V z nL k n pc lv (.int x :: st) κ I R J :=
  fun ls H locs hl hM hS => lv_if_ge hz.1.1 hz.1.2.1 dd ht (fun q => kt (by first | exact q | simpa using q) ls H locs hl hM hS) (fun q => kf (by first | exact q | simpa using q) ls H locs hl hM hS)
theorem v_if_gt (hz : Am z cc own nL d) (tgt : Nat) {x : Int32} {off : Int} (dd : decode cc pc = .ok (.ifCond .gt off, 3)) (ht : (pc : Int) + off = (tgt : Int))
    (kt : 0 < x → V z nL k n tgt lv st κ I R J) (kf : ¬ (0 < x) → V z nL k n (pc + 3) lv st κ I R J) : V z nL k n pc lv (.int x :: st) κ I R J :=
  fun ls H locs hl hM hS => lv_if_gt hz.1.1 hz.1.2.1 dd ht (fun q => kt (by first | exact q | simpa using q) ls H locs hl hM hS) (fun q => kf (by first | exact q | simpa using q) ls H locs hl hM hS)
theorem v_if_le (hz : Am z cc own nL d) (tgt : Nat) {x : Int32} {off : Int} (dd : decode cc pc = .ok (.ifCond .le off, 3)) (ht : (pc : Int) + off = (tgt : Int))
    (kt : x ≤ 0 → V z nL k n tgt lv st κ I R J) (kf : ¬ (x ≤ 0) → V z nL k n (pc + 3) lv st κ I R J) : V z nL k n pc lv (.int x :: st) κ I R J :=
  fun ls H locs hl hM hS => lv_if_le hz.1.1 hz.1.2.1 dd ht (fun q => kt (by first | exact q | simpa using q) ls H locs hl hM hS) (fun q => kf (by first | exact q | simpa using q) ls H locs hl hM hS)
theorem v_icmp_eq (hz : Am z cc own nL d) (tgt : Nat) {x y : Int32} {off : Int} (dd : decode cc pc = .ok (.if_icmp .eq off, 3)) (ht : (pc : Int) + off = (tgt : Int))
    (kt : x = y → V z nL k n tgt lv st κ I R J) (kf : ¬ (x = y) → V z nL k n (pc + 3) lv st κ I R J) : V z nL k n pc lv (.int y :: .int x :: st) κ I R J :=
  fun ls H locs hl hM hS => lv_icmp_eq hz.1.1 hz.1.2.1 dd ht (fun q => kt (by first | exact q | simpa using q) ls H locs hl hM hS) (fun q => kf (by first | exact q | simpa using q) ls H locs hl hM hS)
theorem v_icmp_ne (hz : Am z cc own nL d) (tgt : Nat) {x y : Int32} {off : Int} (dd : decode cc pc = .ok (.if_icmp .ne off, 3)) (ht : (pc : Int) + off = (tgt : Int))
    (kt : x ≠ y → V z nL k n tgt lv st κ I R J) (kf : ¬ (x ≠ y) → V z nL k n (pc + 3) lv st κ I R J) : V z nL k n pc lv (.int y :: .int x :: st) κ I R J :=
  fun ls H locs hl hM hS => lv_icmp_ne hz.1.1 hz.1.2.1 dd ht (fun q => kt (by first | exact q | simpa using q) ls H locs hl hM hS) (fun q => kf (by first | exact q | simpa using q) ls H locs hl hM hS)
theorem v_icmp_lt (hz : Am z cc own nL d) (tgt : Nat) {x y : Int32} {off : Int} (dd : decode cc pc = .ok (.if_icmp .lt off, 3)) (ht : (pc : Int) + off = (tgt : Int))
    (kt : x < y → V z nL k n tgt lv st κ I R J) (kf : ¬ (x < y) → V z nL k n (pc + 3) lv st κ I R J) : V z nL k n pc lv (.int y :: .int x :: st) κ I R J :=
  fun ls H locs hl hM hS => lv_icmp_lt hz.1.1 hz.1.2.1 dd ht (fun q => kt (by first | exact q | simpa using q) ls H locs hl hM hS) (fun q => kf (by first | exact q | simpa using q) ls H locs hl hM hS)
theorem v_icmp_ge (hz : Am z cc own nL d) (tgt : Nat) {x y : Int32} {off : Int} (dd : decode cc pc = .ok (.if_icmp .ge off, 3)) (ht : (pc : Int) + off = (tgt : Int))
    (kt : y ≤ x → V z nL k n tgt lv st κ I R J) (kf : ¬ (y ≤ x) → V z nL k n (pc + 3) lv st κ I R J) : V z nL k n pc lv (.int y :: .int x :: st) κ I R J :=
  fun ls H locs hl hM hS => lv_icmp_ge hz.1.1 hz.1.2.1 dd ht (fun q => kt (by first | exact q | simpa using q) ls H locs hl hM hS) (fun q => kf (by first | exact q | simpa using q) ls H locs hl hM hS)
theorem v_icmp_gt (hz : Am z cc own nL d) (tgt : Nat) {x y : Int32} {off : Int} (dd : decode cc pc = .ok (.if_icmp .gt off, 3)) (ht : (pc : Int) + off = (tgt : Int))
    (kt : y < x → V z nL k n tgt lv st κ I R J) (kf : ¬ (y < x) → V z nL k n (pc + 3) lv st κ I R J) : V z nL k n pc lv (.int y :: .int x :: st) κ I R J :=
  fun ls H locs hl hM hS => lv_icmp_gt hz.1.1 hz.1.2.1 dd ht (fun q => kt (by first | exact q | simpa using q) ls H locs hl hM hS) (fun q => kf (by first | exact q | simpa using q) ls H locs hl hM hS)
theorem v_icmp_le (hz : Am z cc own nL d) (tgt : Nat) {x y : Int32} {off : Int} (dd : decode cc pc = .ok (.if_icmp .le off, 3)) (ht : (pc : Int) + off = (tgt : Int))
    (kt : x ≤ y → V z nL k n tgt lv st κ I R J) (kf : ¬ (x ≤ y) → V z nL k n (pc + 3) lv st κ I R J) : V z nL k n pc lv (.int y :: .int x :: st) κ I R J :=
  fun ls H locs hl hM hS => lv_icmp_le hz.1.1 hz.1.2.1 dd ht (fun q => kt (by first | exact q | simpa using q) ls H locs hl hM hS) (fun q => kf (by first | exact q | simpa using q) ls H locs hl hM hS)
theorem v_goto (hz : Am z cc own nL d) (tgt : Nat) {off : Int} (dd : decode cc pc = .ok (.goto off, 3)) (ht : (pc : Int) + off = (tgt : Int))
    (h : V z nL k n tgt lv st κ I R J) : V z nL k n pc lv st κ I R J :=
  fun ls H locs hl hM hS => lv_goto hz.1.1 hz.1.2.1 dd ht (h ls H locs hl hM hS)
end VR
end
section
/-! ===== fields and arrays over the memory ===== -/
def CLz (c : Nat) (C : String) (T : u_T) (N : Nat) : Prop :=
  vwCl[c]? = some (C, T, N) ∧ N = nfz c ∧ c < 9 ∧ (∀ w ∈ u_ws C T N, w ∈ tg) ∧ (∃ ty : Nat → FieldType, ∀ k, k < N → parseFieldDescriptor (T k).2.2.1 = some (ty k)) ∧ (∀ a, a < N → ∀ b, b < N → a ≠ b → (T a).2.1 ≠ (T b).2.1) ∧ (∀ k, k < N → (T k).1 = C)
/-- the constant own#idx names the field k of the class c; t: its sort (0 int, 1 reference, 2 long) -/
def FLz (own : String) (idx c k t : Nat) (ty : FieldType) (fin : Bool) : Prop :=
  ∃ (C : String) (T : u_T) (N : Nat), CLz c C T N ∧ k < N ∧ ftz c k = t ∧ parseFieldDescriptor (T k).2.2.1 = some ty ∧ (T k).2.2.2 = fin ∧
    (Cond.fieldLink own idx C (T k).2.1 (T k).2.2.1 ∈ tg ∨ ∃ host, Cond.fieldLinkNest own idx C (T k).2.1 (T k).2.2.1 host ∈ tn)
section VH
variable {z : Zz} {cc : ByteArray} {own : String} {nL d k n pc : Nat} {lv : List (Nat × Value)} {st : List Value} {κ : Kz} {I : Iz} {R : Rz} {J : Jz}
theorem v_get (hz : Am z cc own nL d) {idx c f t : Nat} {ty : FieldType} {fin : Bool} (fl : FLz own idx c f t ty fin) {a : Nat} (hK : κ.1 a = c) (dd : decode cc pc = .ok (.getfield idx, 3))
    (h : V z nL k n (pc + 3) lv (fvz t I R J a f :: st) κ I R J) : V z nL k n pc lv (.ref a :: st) κ I R J := by
  obtain ⟨C, T, N, ⟨hc, hN, hc9, hin, ⟨ty0, hty⟩, hnm, hC⟩, hf, ht, -, -, hlk⟩ := fl
  obtain ⟨⟨hexec, hb, -, hown, hts⟩, ⟨hKK, hNN, -⟩, -, -, -⟩ := hz
  intro ls H locs hl hM hS
  have hob := (hM a).2.1 (by rw [hK]; exact hc9)
  rw [hK] at hob
  obtain ⟨cell, q1, q2, q3, q4⟩ := hob
  obtain ⟨hSl, hfc, kC, hkC, hkind⟩ := hKK.1 c _ hc
  obtain ⟨cf, kf, fi, fd, hi, hsl⟩ := hSl f hf
  have hst := (u_facts hfc hkC (u_lays hts hin hf) hi).1
  have hv : cell.slots[fd.slot]? = some (fvz t I R J a f) := by rw [hsl, ← ht]; exact q4 f (by rw [← hN]; exact hf)
  have hi' : (zs z).fieldFound? C (T f).2.1 (T f).2.2.1 = some (cf, kf, fi, fd) := by
    have := hi
    rw [show ((C, T, N) : vw_C).2.1 = T from rfl, hC f hf] at this
    exact this
  rcases hlk with hlk | ⟨host, hlk⟩
  · exact W.getf hexec hb hown (hts _ hlk) hi' hst q1 (by rw [q3]; exact fun h => by cases h) hv rfl rfl dd (h ls H locs hl hM hS)
  · exact va_Wgetf hexec hb hown (nest_use rfl (hNN _ hlk)) hi' hst q1 (by rw [q3]; exact fun h => by cases h) hv rfl rfl dd (h ls H locs hl hM hS)
theorem v_getI (hz : Am z cc own nL d) {idx c f : Nat} {ty : FieldType} {fin : Bool} (fl : FLz own idx c f 0 ty fin) {a : Nat} (hK : κ.1 a = c) (dd : decode cc pc = .ok (.getfield idx, 3))
    (h : V z nL k n (pc + 3) lv (.int (I a f) :: st) κ I R J) : V z nL k n pc lv (.ref a :: st) κ I R J := v_get hz fl hK dd h
theorem v_getR (hz : Am z cc own nL d) {idx c f b : Nat} {ty : FieldType} {fin : Bool} (fl : FLz own idx c f 1 ty fin) {a : Nat} (hK : κ.1 a = c) (hR : R a f = some b) (dd : decode cc pc = .ok (.getfield idx, 3))
    (h : V z nL k n (pc + 3) lv (.ref b :: st) κ I R J) : V z nL k n pc lv (.ref a :: st) κ I R J := v_get hz fl hK dd (by
  show V z nL k n (pc + 3) lv (va_rf (R a f) :: st) κ I R J
  rw [hR]
  exact h)
theorem v_getJ (hz : Am z cc own nL d) {idx c f : Nat} {ty : FieldType} {fin : Bool} (fl : FLz own idx c f 2 ty fin) {a : Nat} (hK : κ.1 a = c) (dd : decode cc pc = .ok (.getfield idx, 3))
    (h : V z nL k n (pc + 3) lv (.long (J a f) :: st) κ I R J) : V z nL k n pc lv (.ref a :: st) κ I R J := v_get hz fl hK dd h
/-- a store into a field that isn't final -/
theorem v_put (hz : Am z cc own nL d) {idx c f t : Nat} {ty : FieldType} (fl : FLz own idx c f t ty false) {a : Nat} (hK : κ.1 a = c) {v : Value} (hn : narrow ty v = v) (hfit : fits ty v = true) (dd : decode cc pc = .ok (.putfield idx, 3))
    {I1 : Iz} {R1 : Rz} {J1 : Jz} (hI : ∀ b, b ≠ a → I1 b = I b) (hR : ∀ b, b ≠ a → R1 b = R b) (hJ : ∀ b, b ≠ a → J1 b = J b)
    (hval : ∀ j, updV (fun k => fvz (ftz c k) I R J a k) f v j = fvz (ftz c j) I1 R1 J1 a j)
    (h : V z nL k n (pc + 3) lv st κ I1 R1 J1) : V z nL k n pc lv (v :: .ref a :: st) κ I R J := by
  obtain ⟨C, T, N, ⟨hc, hN, hc9, hin, ⟨ty0, hty⟩, hnm, hC⟩, hf, ht, hd, hfin, hlk⟩ := fl
  obtain ⟨⟨hexec, hb, -, hown, hts⟩, ⟨hKK, hNN, -⟩, -, -, -⟩ := hz
  intro ls H locs hl hM hS
  have hlo : (zg z).2.2 ≤ a := (hM a).1 (by rw [hK]; omega)
  have hob := (hM a).2.1 (by rw [hK]; exact hc9)
  rw [hK] at hob
  obtain ⟨cell, q1, q2, q3, q4⟩ := hob
  have hap := va_apart (own := own) hts hin ty0 hty hnm hKK hc
  obtain ⟨hSl, hfc, kC, hkC, hkind⟩ := hKK.1 c _ hc
  obtain ⟨cf, kf, fi, fd, hi, hsl⟩ := hSl f hf
  have hlay := hts _ (hin _ (u_in_lay hf))
  unfold u_lay at hlay
  rw [if_neg (by rw [hfin]; decide)] at hlay
  have hst := (u_facts hfc hkC (u_lays hts hin hf) hi).1
  have h6 := u_store hfc hkC hkind hlay hi hd hn hfit
  have hi' : (zs z).fieldFound? C (T f).2.1 (T f).2.2.1 = some (cf, kf, fi, fd) := by
    have := hi
    rw [show ((C, T, N) : vw_C).2.1 = T from rfl, hC f hf] at this
    exact this
  have hfn : f < nfz c := by rw [← hN]; exact hf
  have fin : ∀ H' : Heap, H'[a]? = some (cell.setSlot fd.slot v) → H'.size = H.size → (∀ q, q ≠ a → H'[q]? = H[q]?) → W (zp z) (zl z) (ze z) (zR z) (zs z) (zm z) (za z) (zb z) (zt z) (zc z) H' (locs ++ [⟨a, fd.slot⟩]) k n (zq z) (F0 (zm z) (pc + 3) ls st) := by
    intro H' e1 e2 e3
    rw [hsl] at e1
    refine h ls H' _ hl (hM.one hI hR hJ e3 ⟨fun _ => ?_, fun q => ?_, fun q => ?_⟩) (hS.put e2 e3 hlo)
    · rw [hK]
      exact t_OB.to (V := updV (fun k => fvz (ftz c k) I R J a k) f v) ⟨_, e1, q2, q3, t_set q4 (by rw [← hN]; exact hap) hfn v⟩ (fun j _ => hval j)
    · rw [hK] at q; omega
    · rw [hK] at q; omega
  rcases hlk with hlk | ⟨host, hlk⟩
  · exact W.putK hexec hb (f := fd) ⟨hown, hts _ hlk, ⟨_, _, _, hi'⟩, hst⟩ (by rw [q2]; exact h6) q1 q3 (by rw [hsl]; exact k2_hasslot (q4 f hfn)) rfl rfl dd fin
  · exact va_WputK hexec hb (f := fd) hown (nest_use rfl (hNN _ hlk)) hi' hst (by rw [q2]; exact h6) q1 q3 (by rw [hsl]; exact k2_hasslot (q4 f hfn)) rfl rfl dd fin
theorem hval_I {c f a : Nat} {x : Int32} (ht : ftz c f = 0) (j : Nat) : updV (fun k => fvz (ftz c k) I R J a k) f (.int x) j = fvz (ftz c j) (u2 I a f x) R J a j := by
  by_cases e : j = f
  · subst e
    simp [updV, fvz, ht, u2]
  · simp only [updV, e, if_false]
    unfold fvz
    split <;> simp [u2, e]
theorem hval_J {c f a : Nat} {x : Int64} (ht : ftz c f = 2) (j : Nat) : updV (fun k => fvz (ftz c k) I R J a k) f (.long x) j = fvz (ftz c j) I R (u2 J a f x) a j := by
  by_cases e : j = f
  · subst e
    simp [updV, fvz, ht, u2]
  · simp only [updV, e, if_false]
    unfold fvz
    split <;> simp [u2, e]
theorem FLz.ft {idx c f t : Nat} {ty : FieldType} {fin : Bool} (fl : FLz own idx c f t ty fin) : ftz c f = t := by
  obtain ⟨_, _, _, -, -, h, -⟩ := fl
  exact h
theorem v_putI (hz : Am z cc own nL d) {idx c f : Nat} (fl : FLz own idx c f 0 .int false) {a : Nat} (hK : κ.1 a = c) {x : Int32} (dd : decode cc pc = .ok (.putfield idx, 3))
    (h : V z nL k n (pc + 3) lv st κ (u2 I a f x) R J) : V z nL k n pc lv (.int x :: .ref a :: st) κ I R J :=
  v_put hz fl hK (vp_nar_int x) (by rfl) dd (fun _ q => u2_ne q) (fun _ _ => rfl) (fun _ _ => rfl) (hval_I fl.ft) h
theorem v_putZ (hz : Am z cc own nL d) {idx c f : Nat} (fl : FLz own idx c f 0 .boolean false) {a : Nat} (hK : κ.1 a = c) {x : Int32} (hx : x = 0 ∨ x = 1) (dd : decode cc pc = .ok (.putfield idx, 3))
    (h : V z nL k n (pc + 3) lv st κ (u2 I a f x) R J) : V z nL k n pc lv (.int x :: .ref a :: st) κ I R J :=
  v_put hz fl hK (by rcases hx with rfl | rfl <;> rfl) (by rcases hx with rfl | rfl <;> rfl) dd (fun _ q => u2_ne q) (fun _ _ => rfl) (fun _ _ => rfl) (hval_I fl.ft) h
theorem v_putJ (hz : Am z cc own nL d) {idx c f : Nat} (fl : FLz own idx c f 2 .long false) {a : Nat} (hK : κ.1 a = c) {x : Int64} (dd : decode cc pc = .ok (.putfield idx, 3))
    (h : V z nL k n (pc + 3) lv st κ I R (u2 J a f x)) : V z nL k n pc lv (.long x :: .ref a :: st) κ I R J :=
  v_put hz fl hK (by rfl) (by rfl) dd (fun _ _ => rfl) (fun _ _ => rfl) (fun _ q => u2_ne q) (hval_J fl.ft) h
/-! arrays of ints -/
theorem ii_in {j N : Nat} (h : j < N) (hN : N < 2147483648) : vp_in (nI j) N := vp_in_nI h hN
theorem v_iald (hz : Am z cc own nL d) {a : Nat} (hK : κ.1 a = 9) {i : Int32} (hin : vp_in i (κ.2.1 a)) (dd : decode cc pc = .ok (.iaload, 1))
    (h : V z nL k n (pc + 1) lv (.int (I a i.toNatClampNeg) :: st) κ I R J) : V z nL k n pc lv (.int i :: .ref a :: st) κ I R J := by
  obtain ⟨⟨hexec, hb, -, hown, hts⟩, ⟨hKK, hNN, -⟩, -, -, -⟩ := hz
  intro ls H locs hl hM hS
  have hcell := (hM a).2.2.1 (Or.inl hK)
  rw [hK] at hcell
  exact va_iald hexec hb hKK (ws := [(a, .inl (_, κ.2.1 a, .inl (I a)))]) (fun k9 q hq => by
    have h0 : k9 < 1 := (List.getElem?_eq_some_iff.mp hq).1
    rw [show k9 = 0 by omega] at hq
    cases hq
    exact hcell) 0 0 rfl rfl hin dd (h ls H locs hl hM hS)
theorem v_zald (hz : Am z cc own nL d) {a : Nat} (hK : κ.1 a = 10) {i : Int32} (hin : vp_in i (κ.2.1 a)) (dd : decode cc pc = .ok (.baload, 1))
    (h : V z nL k n (pc + 1) lv (.int (I a i.toNatClampNeg) :: st) κ I R J) : V z nL k n pc lv (.int i :: .ref a :: st) κ I R J := by
  obtain ⟨⟨hexec, hb, -, hown, hts⟩, ⟨hKK, hNN, -⟩, -, -, -⟩ := hz
  intro ls H locs hl hM hS
  have hcell := (hM a).2.2.1 (Or.inr hK)
  rw [hK] at hcell
  exact va_zald hexec hb hKK (ws := [(a, .inl (_, κ.2.1 a, .inl (I a)))]) (fun k9 q hq => by
    have h0 : k9 < 1 := (List.getElem?_eq_some_iff.mp hq).1
    rw [show k9 = 0 by omega] at hq
    cases hq
    exact hcell) 0 1 rfl rfl hin dd (h ls H locs hl hM hS)
theorem u2_arr (f : Nat → Nat → Int32) (a i : Nat) (x : Int32) : (fun q => updV (fun j => Value.int (f a j)) i (.int x) q) = fun q => .int (u2 f a i x a q) := by
  funext q
  by_cases hq : q = i
  · subst hq
    simp [updV, u2]
  · simp [updV, u2, hq]
theorem v_iast (hz : Am z cc own nL d) {a : Nat} (hK : κ.1 a = 9) {i x : Int32} (hin : vp_in i (κ.2.1 a)) (dd : decode cc pc = .ok (.iastore, 1))
    (h : V z nL k n (pc + 1) lv st κ (u2 I a i.toNatClampNeg x) R J) : V z nL k n pc lv (.int x :: .int i :: .ref a :: st) κ I R J := by
  obtain ⟨⟨hexec, hb, -, hown, hts⟩, ⟨hKK, hNN, -⟩, -, -, -⟩ := hz
  intro ls H locs hl hM hS
  have hlo : (zg z).2.2 ≤ a := (hM a).1 (by rw [hK]; omega)
  have hcell := (hM a).2.2.1 (Or.inl hK)
  rw [hK] at hcell
  refine W.iast hexec hb hcell ((hKK.2 0 _ rfl).1 (κ.2.1 a) (fun j => .int (I a j))) (fun q => by cases q) (by show ¬ (i < 0 ∨ (arrV _ _ _).slots.size ≤ _); rw [arrV_size]; exact hin) rfl rfl dd fun H1 e z1 oq => ?_
  refine h ls H1 _ hl (hM.one (fun _ q => u2_ne q) (fun _ _ => rfl) (fun _ _ => rfl) oq ⟨fun q => ?_, fun _ => ?_, fun q => ?_⟩) (hS.put z1 oq hlo)
  · rw [hK] at q; omega
  · rw [hK, e, vp_cell_i, vp_cell_i, arrV_store]
    exact congrArg (fun f => some (arrV _ _ f)) (u2_arr I a _ x)
  · rw [hK] at q; omega
theorem v_zast (hz : Am z cc own nL d) {a : Nat} (hK : κ.1 a = 10) {i x : Int32} (hx : x = 0 ∨ x = 1) (hin : vp_in i (κ.2.1 a)) (dd : decode cc pc = .ok (.bastore, 1))
    (h : V z nL k n (pc + 1) lv st κ (u2 I a i.toNatClampNeg x) R J) : V z nL k n pc lv (.int x :: .int i :: .ref a :: st) κ I R J := by
  obtain ⟨⟨hexec, hb, -, hown, hts⟩, ⟨hKK, hNN, -⟩, -, -, -⟩ := hz
  intro ls H locs hl hM hS
  have hlo : (zg z).2.2 ≤ a := (hM a).1 (by rw [hK]; omega)
  have hcell := (hM a).2.2.1 (Or.inr hK)
  rw [hK] at hcell
  refine W.zast hexec hb hcell ((hKK.2 1 _ rfl).1 (κ.2.1 a) (fun j => .int (I a j))) (fun q => by cases q) (by show ¬ (i < 0 ∨ (arrV _ _ _).slots.size ≤ _); rw [arrV_size]; exact hin) rfl rfl dd fun H1 e z1 oq => ?_
  rw [show narrow .boolean (.int x) = .int x by rcases hx with rfl | rfl <;> rfl] at e
  refine h ls H1 _ hl (hM.one (fun _ q => u2_ne q) (fun _ _ => rfl) (fun _ _ => rfl) oq ⟨fun q => ?_, fun _ => ?_, fun q => ?_⟩) (hS.put z1 oq hlo)
  · rw [hK] at q; omega
  · rw [hK, e, vp_cell_i, vp_cell_i, arrV_store]
    exact congrArg (fun f => some (arrV _ _ f)) (u2_arr I a _ x)
  · rw [hK] at q; omega
/-! arrays of references -/
theorem v_aald (hz : Am z cc own nL d) {a b : Nat} (hK : 11 ≤ κ.1 a ∧ κ.1 a < 15) {i : Int32} (hin : vp_in i (κ.2.1 a)) (hR : R a i.toNatClampNeg = some b) (dd : decode cc pc = .ok (.aaload, 1))
    (h : V z nL k n (pc + 1) lv (.ref b :: st) κ I R J) : V z nL k n pc lv (.int i :: .ref a :: st) κ I R J := by
  obtain ⟨⟨hexec, hb, -, hown, hts⟩, ⟨hKK, hNN, -⟩, -, -, -⟩ := hz
  intro ls H locs hl hM hS
  have hcell := (hM a).2.2.2 hK
  have hlt : i.toNatClampNeg < κ.2.1 a := Nat.not_le.mp fun q => hin (Or.inr q)
  have ht : ∃ ty : FieldType, ty.isReference = true ∧ ArrOfT (zs z) ((zg z).2.1 (κ.1 a)) ty := by
    rcases (show κ.1 a = 11 ∨ κ.1 a = 12 ∨ κ.1 a = 13 ∨ κ.1 a = 14 by omega) with e | e | e | e <;> rw [e]
    · exact ⟨_, rfl, (hKK.2 2 _ rfl).1⟩
    · exact ⟨_, rfl, (hKK.2 3 _ rfl).1⟩
    · exact ⟨_, rfl, (hKK.2 4 _ rfl).1⟩
    · exact ⟨_, rfl, (hKK.2 5 _ rfl).1⟩
  obtain ⟨ty, hty, harr⟩ := ht
  refine W.aald (v := .ref b) (ty := ty) hexec hb hcell (harr (κ.2.1 a) (fun j => va_rf (R a j))) hty (fun q => by cases q) (by show ¬ (i < 0 ∨ (arrV _ _ _).slots.size ≤ _); rw [arrV_size]; exact hin) ?_ rfl rfl dd (h ls H locs hl hM hS)
  show (arrV _ _ _).slots[_]? = _
  rw [arrV_read _ _ hlt, hR]
  rfl
theorem v_alen (hz : Am z cc own nL d) {a : Nat} (hK : 9 ≤ κ.1 a ∧ κ.1 a < 15) (dd : decode cc pc = .ok (.arraylength, 1))
    (h : V z nL k n (pc + 1) lv (.int (nI (κ.2.1 a)) :: st) κ I R J) : V z nL k n pc lv (.ref a :: st) κ I R J := by
  obtain ⟨⟨hexec, hb, -, hown, hts⟩, ⟨hKK, hNN, -⟩, -, -, -⟩ := hz
  intro ls H locs hl hM hS
  have ht : ∃ ty : FieldType, ArrOfT (zs z) ((zg z).2.1 (κ.1 a)) ty := by
    rcases (show κ.1 a = 9 ∨ κ.1 a = 10 ∨ κ.1 a = 11 ∨ κ.1 a = 12 ∨ κ.1 a = 13 ∨ κ.1 a = 14 by omega) with e | e | e | e | e | e <;> rw [e]
    · exact ⟨_, (hKK.2 0 _ rfl).1⟩
    · exact ⟨_, (hKK.2 1 _ rfl).1⟩
    · exact ⟨_, (hKK.2 2 _ rfl).1⟩
    · exact ⟨_, (hKK.2 3 _ rfl).1⟩
    · exact ⟨_, (hKK.2 4 _ rfl).1⟩
    · exact ⟨_, (hKK.2 5 _ rfl).1⟩
  obtain ⟨ty, harr⟩ := ht
  rcases (show (κ.1 a = 9 ∨ κ.1 a = 10) ∨ (11 ≤ κ.1 a ∧ κ.1 a < 15) by omega) with e | e
  · exact W.alen (n := nI (κ.2.1 a)) hexec hb ((hM a).2.2.1 e) (harr (κ.2.1 a) (fun j => .int (I a j))) (by rw [vp_cell_i, arrV_size] <;> rfl) rfl rfl dd (h ls H locs hl hM hS)
  · exact W.alen (n := nI (κ.2.1 a)) hexec hb ((hM a).2.2.2 e) (harr (κ.2.1 a) (fun j => va_rf (R a j))) (by rw [vp_cell_q, arrV_size] <;> rfl) rfl rfl dd (h ls H locs hl hM hS)
end VH
end
section
/-! ===== contracts over the memory; returns and calls ===== -/
abbrev Mz : Type := MethodName × ByteArray × Nat × Option FieldType × Nat
abbrev Postz : Type := Option Value → Kz → Iz → Rz → Jz → Prop
def Pz (g : Gz) (av : List Value) (κ : Kz) (I : Iz) (R : Rz) (J : Jz) : Array Value → State → Prop := fun a U => a = av.toArray ∧ MM g κ I R J U.heap ∧ KKz g U ∧ g.2.2 ≤ U.heap.size
def Qz (g : Gz) (P : Postz) : Array Value → State → Outcome → State → Prop := fun _ st o t => (∃ (v : Option Value) (κ : Kz) (I : Iz) (R : Rz) (J : Jz), o = .returned v ∧ P v κ I R J ∧ MM g κ I R J t.heap) ∧ va_F (fun q => g.2.2 ≤ q) st t
def Ct (l : Launch) (M : Mz) (mc ms : Nat) (g : Gz) (av : List Value) (κ : Kz) (I : Iz) (R : Rz) (J : Jz) (P : Postz) : Prop :=
  Met l M.1 (.code M.1 M.2.1 M.2.2.1 M.2.2.2.1 :: tg) { frames := M.2.2.2.2, cells := mc, slots := ms, locals := 40 * M.2.2.2.2 } (Pz g av κ I R J) (Qz g P) mc ms (fun q => g.2.2 ≤ q)
def Rt (z : Zz) (y : MethodName) (ret : Option FieldType) (mc ms : Nat) (P : Postz) : Prop :=
  zq z = MQ (zb z) (Qz (zg z) P) (za z) (zs z) mc ms (fun q => (zg z).2.2 ≤ q) ∧ (zt z).sig.returnType = ret ∧ (zt z).locks = false ∧ (zt z).name = y.name
theorem ct_of {l : Launch} {M : Mz} {mc ms : Nat} {g : Gz} {av : List Value} {κ : Kz} {I : Iz} {R : Rz} {J : Jz} {P : Postz} (hpl : plainName M.1.cls = true) (hlen : (lg_sl av).length ≤ M.2.2.1)
    (body : ∀ z : Zz, Am z M.2.1 M.1.cls M.2.2.1 M.2.2.2.2 → Rt z M.1 M.2.2.2.1 mc ms P → (zR z).cells = mc → (zR z).slots = ms → V z M.2.2.1 0 0 0 (lv_args 0 av) [] κ I R J) : Ct l M mc ms g av κ I R J P := by
  refine Met.ofW (cc := M.2.1) (maxL := M.2.2.1) (ret := M.2.2.2.1) hpl rfl ?_
  intro p e s m args below meth c s₁ B hml hv
  obtain ⟨rfl, hM, hK, hlo⟩ := hv
  have hts := atoms_spec (ws := .code M.1 M.2.1 M.2.2.1 M.2.2.2.1 :: tg) B.pre
  have hl := lv_entry av (n := M.2.2.1) hlen
  rw [lg_entry_eq]
  exact body (p, l, e, _, s, m, av.toArray, below, meth, c, _, g) ⟨⟨B.exec, B.bytes, hml, findClass_of_methodNamed B.named, fun w hw => hts w (List.mem_cons_of_mem _ hw)⟩, hK, hlo, Nat.le_refl _, Nat.le_refl _⟩ ⟨rfl, B.returns, B.notSynchronized, (name_of_methodNamed B.named B.method).1⟩ rfl rfl _ _ _ (lvh.of hl) hM va_S.rf
/-! answers that leave the kinds, the references and the longs as they were -/
def Si (κ : Kz) (R : Rz) (J : Jz) (p : Int32 → Iz → Prop) : Postz := fun v κ' I' R' J' => κ' = κ ∧ R' = R ∧ J' = J ∧ ∃ r, v = some (.int r) ∧ p r I'
def Sv (κ : Kz) (R : Rz) (J : Jz) (p : Iz → Prop) : Postz := fun v κ' I' R' J' => κ' = κ ∧ R' = R ∧ J' = J ∧ v = none ∧ p I'
def Sl (κ : Kz) (R : Rz) (J : Jz) (p : Int64 → Iz → Prop) : Postz := fun v κ' I' R' J' => κ' = κ ∧ R' = R ∧ J' = J ∧ ∃ r, v = some (.long r) ∧ p r I'
section VC
variable {z : Zz} {cc : ByteArray} {own : String} {nL d k n pc : Nat} {lv : List (Nat × Value)} {st : List Value} {κ : Kz} {I : Iz} {R : Rz} {J : Jz} {y : MethodName} {P : Postz}
theorem v_widen {k1 n1 : Nat} (h1 : k ≤ k1) (h2 : n ≤ n1) (h : V z nL k1 n1 pc lv st κ I R J) : V z nL k n pc lv st κ I R J := fun ls H locs hl hM hS => W.widen h1 h2 (h ls H locs hl hM hS)
theorem v_iret0 (hz : Am z cc own nL d) (hr : Rt z y (some .int) k n P) {v : Int32} (dd : decode cc pc = .ok (.ireturn, 1)) (hp : P (some (.int v)) κ I R J) : V z nL k n pc lv [.int v] κ I R J := by
  intro ls H locs hl hM hS
  obtain ⟨hq, hret, hlk, -⟩ := hr
  rw [hq]
  exact W.iret hz.1.1 hz.1.2.1 hret (fun t ht hW => ⟨⟨_, κ, I, R, J, rfl, hp, by rw [ht]; exact hM⟩, hS.F ht⟩) hS.2.2 dd hlk
theorem v_zret0 (hz : Am z cc own nL d) (hr : Rt z y (some .boolean) k n P) {v : Int32} (dd : decode cc pc = .ok (.ireturn, 1)) (hv : v = 0 ∨ v = 1) (hp : P (some (.int v)) κ I R J) : V z nL k n pc lv [.int v] κ I R J := by
  intro ls H locs hl hM hS
  obtain ⟨hq, hret, hlk, -⟩ := hr
  rw [hq]
  exact W.zret hz.1.1 hz.1.2.1 hret (by rcases hv with rfl | rfl <;> rfl) (fun t ht hW => ⟨⟨_, κ, I, R, J, rfl, hp, by rw [ht]; exact hM⟩, hS.F ht⟩) hS.2.2 dd hlk
theorem v_lret0 (hz : Am z cc own nL d) (hr : Rt z y (some .long) k n P) {v : Int64} (dd : decode cc pc = .ok (.lreturn, 1)) (hp : P (some (.long v)) κ I R J) : V z nL k n pc lv [.long v] κ I R J := by
  intro ls H locs hl hM hS
  obtain ⟨hq, hret, hlk, -⟩ := hr
  rw [hq]
  exact W.lret hz.1.1 hz.1.2.1 hret (fun t ht hW => ⟨⟨_, κ, I, R, J, rfl, hp, by rw [ht]; exact hM⟩, hS.F ht⟩) hS.2.2 dd hlk
theorem v_vret0 (hz : Am z cc own nL d) (hr : Rt z y none k n P) (dd : decode cc pc = .ok (.return_, 1)) (hp : P none κ I R J) : V z nL k n pc lv [] κ I R J := by
  intro ls H locs hl hM hS
  obtain ⟨hq, hret, hlk, -⟩ := hr
  rw [hq]
  exact W.vret hz.1.1 hz.1.2.1 hret (fun t ht hW => ⟨⟨_, κ, I, R, J, rfl, hp, by rw [ht]; exact hM⟩, hS.F ht⟩) hS.2.2 dd hlk
theorem v_iret {p : Int32 → Iz → Prop} (hz : Am z cc own nL d) (hr : Rt z y (some .int) k n (Si κ R J p)) {v : Int32} (dd : decode cc pc = .ok (.ireturn, 1)) (hp : p v I) : V z nL k n pc lv [.int v] κ I R J := v_iret0 hz hr dd ⟨rfl, rfl, rfl, _, rfl, hp⟩
theorem v_zret {p : Int32 → Iz → Prop} (hz : Am z cc own nL d) (hr : Rt z y (some .boolean) k n (Si κ R J p)) {v : Int32} (dd : decode cc pc = .ok (.ireturn, 1)) (hv : v = 0 ∨ v = 1) (hp : p v I) : V z nL k n pc lv [.int v] κ I R J := v_zret0 hz hr dd hv ⟨rfl, rfl, rfl, _, rfl, hp⟩
theorem v_lret {p : Int64 → Iz → Prop} (hz : Am z cc own nL d) (hr : Rt z y (some .long) k n (Sl κ R J p)) {v : Int64} (dd : decode cc pc = .ok (.lreturn, 1)) (hp : p v I) : V z nL k n pc lv [.long v] κ I R J := v_lret0 hz hr dd ⟨rfl, rfl, rfl, _, rfl, hp⟩
theorem v_vret {p : Iz → Prop} (hz : Am z cc own nL d) (hr : Rt z y none k n (Sv κ R J p)) (dd : decode cc pc = .ok (.return_, 1)) (hp : p I) : V z nL k n pc lv [] κ I R J := v_vret0 hz hr dd ⟨rfl, rfl, rfl, rfl, hp⟩
def GWz (M : Mz) (na : Nat) : Prop :=
  Cond.code M.1 M.2.1 M.2.2.1 M.2.2.2.1 ∈ tg ∧ Cond.initialized M.1.cls ∈ tg ∧ (M.1.cls ≠ "java/lang/invoke/MethodHandle" ∧ M.1.cls ≠ "java/lang/invoke/VarHandle" ∧ (parseMethodDescriptor M.1.desc).map (fun d => d.parameters.length) = some na)
def LKz (own : String) (idx : Nat) (M : Mz) : Prop := Cond.methodLink own idx M.1 ∈ tg ∨ ∃ host, Cond.methodLinkNest own idx M.1 host ∈ tn
def MLv (own : String) (idx : Nat) (M : Mz) (c na : Nat) : Prop := (∃ r : vw_C, vwCl[c]? = some r ∧ r.1 = M.1.cls) ∧ c < 9 ∧ GWz M na ∧ Cond.instanceMethod M.1 ∈ tg ∧ Cond.selects M.1.cls M.1 M.1 ∈ tg ∧ LKz own idx M
def MLs (own : String) (idx : Nat) (M : Mz) (na : Nat) : Prop := GWz M na ∧ Cond.static M.1 ∈ tg ∧ LKz own idx M
theorem gw_good {M : Mz} {na : Nat} (h : GWz M na) : GoodIn tg (.code M.1 M.2.1 M.2.2.1 M.2.2.2.1 :: tg) := fun w hw => by
  have hm : w ∈ tg := by
    rcases List.mem_cons.mp hw with e | e
    · rw [e]; exact h.1
    · exact e
  exact ⟨hm, tg_good hm⟩
theorem pz_blind {g : Gz} {av : List Value} : FrameBlind (Pz g av κ I R J) := fun a U f mk q => by
  obtain ⟨q0, q1, q2, q3⟩ := q
  exact ⟨q0, q1, KKz.same (s := U) (U := U.calling f mk a) rfl q2, q3⟩
theorem call_go {mc ms : Nat} {rest : List Value} {g0 : JFrame} {ls : Array Slot} {H : Heap} {locs : List Loc} {a0 : Array Value} (hg0 : g0 = F0 (zm z) pc ls st)
    (hr : va_Run (zp z) (zl z) (ze z) (zR z) (zs z) (zm z) (za z) (zb z) (zt z) (zc z) H locs k n mc ms g0 rest (Qz (zg z) P a0) (fun q => (zg z).2.2 ≤ q)) (hl : lvh ls nL lv) (hS : va_S (fun q => (zg z).2.2 ≤ q) (zs z).heap H locs)
    (h : ∀ v κ1 I1 R1 J1, P v κ1 I1 R1 J1 → V z nL (k + mc) (n + ms) (pc + 3) lv (v.toList ++ rest) κ1 I1 R1 J1) :
    W (zp z) (zl z) (ze z) (zR z) (zs z) (zm z) (za z) (zb z) (zt z) (zc z) H locs k n (zq z) (F0 (zm z) pc ls st) := by
  subst hg0
  intro T hT X
  obtain ⟨v, st₀, t, T', L, h0, X', hL, e1, e2, ⟨⟨v', κ1, I1, R1, J1, hv, hp, hM1⟩, hz1, hk1⟩, stp⟩ := hr T hT X
  cases hv
  rw [h0] at hz1 hk1
  obtain ⟨t2, a1, b1⟩ := h v κ1 I1 R1 J1 hp ls T'.heap (locs ++ L) hl (by rw [e1]; exact hM1) ⟨Nat.le_trans hS.1 (by rw [e1]; exact hz1), fun q h1 h2 => by rw [e1, hk1 q (Nat.lt_of_lt_of_le h1 hS.1) h2]; exact hS.2.1 q h1 h2, fun q hq => by
      rcases List.mem_append.mp hq with h | h
      · exact hS.2.2 q h
      · exact hL q h⟩ T' rfl X'
  exact ⟨t2, stp t2 a1, b1⟩
theorem v_callV0 (hz : Am z cc own nL d) {idx c na mc ms : Nat} {M : Mz} (ml : MLv own idx M c na) {b : Nat} {As rest : List Value} (hc : Ct (zl z) M mc ms (zg z) (.ref b :: As) κ I R J P) (hK : κ.1 b = c) (hna : As.length = na)
    (hst : st = As.reverse ++ .ref b :: rest) (hrs : (rest.map fun v => v.category).sum ≤ 8) (hd : M.2.2.2.2 + 1 ≤ d ∧ M.2.2.1 ≤ 21) (hroom : k + mc ≤ (zR z).cells ∧ n + ms ≤ (zR z).slots) (dd : decode cc pc = .ok (.invokevirtual idx, 3))
    (h : ∀ v κ1 I1 R1 J1, P v κ1 I1 R1 J1 → V z nL (k + mc) (n + ms) (pc + 3) lv (v.toList ++ rest) κ1 I1 R1 J1) : V z nL k n pc lv st κ I R J := by
  obtain ⟨⟨r, hr1, hr2⟩, hc9, hgw, hin, hsel, hlk⟩ := ml
  have hz0 := hz
  obtain ⟨⟨hexec, hb, hml, hown, hts⟩, hKK, hlo, hd1, hd2⟩ := hz
  intro ls H locs hl hM hS
  have hob := (hM b).2.1 (by rw [hK]; exact hc9)
  obtain ⟨cell, q1, q2, q3, -⟩ := hob
  have hrec : ∃ cellB : Cell, H[b]? = some cellB ∧ cellB.vm.isStatics = false ∧ (zs z).vm.findClass M.1.cls = some cellB.cls :=
    ⟨cell, q1, by rw [q3]; rfl, by rw [q2, hK, ← hr2]; exact (hKK.1.1 c r hr1).2.1⟩
  have hpre : ∀ U : State, U.heap = H → (zs z).WarmedH U.vm → Pz (zg z) (.ref b :: As) κ I R J (Value.ref b :: As).toArray U := fun U hU hW => ⟨rfl, by rw [hU]; exact hM, hKK.warm hW, by rw [hU]; exact Nat.le_trans hlo hS.1⟩
  have hloc : 8 + (M.2.2.1 + 11) + 40 * M.2.2.2.2 ≤ (zR z).locals := by omega
  have hfr : M.2.2.2.2 + 1 ≤ (zR z).frames := by omega
  rcases hlk with hlk | ⟨host, hlk⟩
  · exact call_go (P := P) rfl (va_runV (C := M.1.cls) (As := As) (rest := rest) ⟨hexec, hb, hml, hown, hts⟩ hc ⟨callB_of na hts (gw_good hgw) rfl rfl rfl (hts _ hgw.2.1) (hts _ hlk) hgw.2.2 ⟨hfr, hloc⟩, hts _ hin, hts _ hsel⟩ ⟨pz_blind, hrec, hpre⟩ rfl hna hl.1 hst (lv_room hrs) dd hroom) hl hS h
  · exact call_go (P := P) rfl (va_runVN (C := M.1.cls) (As := As) (rest := rest) ⟨hexec, hb, hml, hown, hts⟩ hc ⟨va_cnB na hts (gw_good hgw) rfl rfl rfl (hKK.2.1 _ hlk) (hts _ hgw.2.1) hgw.2.2 ⟨hfr, hloc⟩, hts _ hin, hts _ hsel⟩ ⟨pz_blind, hrec, hpre⟩ rfl hna hl.1 hst (lv_room hrs) dd hroom) hl hS h
theorem v_callS0 (hz : Am z cc own nL d) {idx na mc ms : Nat} {M : Mz} (ml : MLs own idx M na) {As rest : List Value} (hc : Ct (zl z) M mc ms (zg z) As κ I R J P) (hna : As.length = na)
    (hst : st = As.reverse ++ rest) (hrs : (rest.map fun v => v.category).sum ≤ 8) (hd : M.2.2.2.2 + 1 ≤ d ∧ M.2.2.1 ≤ 21) (hroom : k + mc ≤ (zR z).cells ∧ n + ms ≤ (zR z).slots) (dd : decode cc pc = .ok (.invokestatic idx, 3))
    (h : ∀ v κ1 I1 R1 J1, P v κ1 I1 R1 J1 → V z nL (k + mc) (n + ms) (pc + 3) lv (v.toList ++ rest) κ1 I1 R1 J1) : V z nL k n pc lv st κ I R J := by
  obtain ⟨hgw, hstt, hlk⟩ := ml
  obtain ⟨⟨hexec, hb, hml, hown, hts⟩, hKK, hlo, hd1, hd2⟩ := hz
  intro ls H locs hl hM hS
  have hpre : ∀ U : State, U.heap = H → (zs z).WarmedH U.vm → Pz (zg z) As κ I R J As.toArray U := fun U hU hW => ⟨rfl, by rw [hU]; exact hM, hKK.warm hW, by rw [hU]; exact Nat.le_trans hlo hS.1⟩
  have hloc : 8 + (M.2.2.1 + 11) + 40 * M.2.2.2.2 ≤ (zR z).locals := by omega
  have hfr : M.2.2.2.2 + 1 ≤ (zR z).frames := by omega
  rcases hlk with hlk | ⟨host, hlk⟩
  · exact call_go (P := P) rfl (va_runS (As := As) (rest := rest) ⟨hexec, hb, hml, hown, hts⟩ hc ⟨callB_of na hts (gw_good hgw) rfl rfl rfl (hts _ hgw.2.1) (hts _ hlk) hgw.2.2 ⟨hfr, hloc⟩, hts _ hstt⟩ ⟨pz_blind, hpre⟩ rfl hna hl.1 hst (lv_room hrs) dd hroom) hl hS h
  · exact call_go (P := P) rfl (va_runSN (As := As) (rest := rest) ⟨hexec, hb, hml, hown, hts⟩ hc ⟨va_cnB na hts (gw_good hgw) rfl rfl rfl (hKK.2.1 _ hlk) (hts _ hgw.2.1) hgw.2.2 ⟨hfr, hloc⟩, hts _ hstt, trivial⟩ ⟨pz_blind, hpre⟩ rfl hna hl.1 hst (lv_room hrs) dd hroom) hl hS h
/-! the calls that leave kinds, references and longs -/
theorem v_callVi {p : Int32 → Iz → Prop} (hz : Am z cc own nL d) {idx c na : Nat} {M : Mz} (ml : MLv own idx M c na) {b : Nat} {As rest : List Value} (hc : Ct (zl z) M 0 0 (zg z) (.ref b :: As) κ I R J (Si κ R J p)) (hK : κ.1 b = c) (hna : As.length = na)
    (hst : st = As.reverse ++ .ref b :: rest) (hrs : (rest.map fun v => v.category).sum ≤ 8) (hd : M.2.2.2.2 + 1 ≤ d ∧ M.2.2.1 ≤ 21) (hroom : k ≤ (zR z).cells ∧ n ≤ (zR z).slots) (dd : decode cc pc = .ok (.invokevirtual idx, 3))
    (h : ∀ r I1, p r I1 → V z nL k n (pc + 3) lv (.int r :: rest) κ I1 R J) : V z nL k n pc lv st κ I R J :=
  v_callV0 hz ml hc hK hna hst hrs hd hroom dd (fun v κ1 I1 R1 J1 hp => by
    obtain ⟨rfl, rfl, rfl, r, rfl, hp⟩ := hp
    exact h r I1 hp)
theorem v_callVv {p : Iz → Prop} (hz : Am z cc own nL d) {idx c na : Nat} {M : Mz} (ml : MLv own idx M c na) {b : Nat} {As rest : List Value} (hc : Ct (zl z) M 0 0 (zg z) (.ref b :: As) κ I R J (Sv κ R J p)) (hK : κ.1 b = c) (hna : As.length = na)
    (hst : st = As.reverse ++ .ref b :: rest) (hrs : (rest.map fun v => v.category).sum ≤ 8) (hd : M.2.2.2.2 + 1 ≤ d ∧ M.2.2.1 ≤ 21) (hroom : k ≤ (zR z).cells ∧ n ≤ (zR z).slots) (dd : decode cc pc = .ok (.invokevirtual idx, 3))
    (h : ∀ I1, p I1 → V z nL k n (pc + 3) lv rest κ I1 R J) : V z nL k n pc lv st κ I R J :=
  v_callV0 hz ml hc hK hna hst hrs hd hroom dd (fun v κ1 I1 R1 J1 hp => by
    obtain ⟨rfl, rfl, rfl, rfl, hp⟩ := hp
    exact h I1 hp)
theorem v_callVl {p : Int64 → Iz → Prop} (hz : Am z cc own nL d) {idx c na : Nat} {M : Mz} (ml : MLv own idx M c na) {b : Nat} {As rest : List Value} (hc : Ct (zl z) M 0 0 (zg z) (.ref b :: As) κ I R J (Sl κ R J p)) (hK : κ.1 b = c) (hna : As.length = na)
    (hst : st = As.reverse ++ .ref b :: rest) (hrs : (rest.map fun v => v.category).sum ≤ 8) (hd : M.2.2.2.2 + 1 ≤ d ∧ M.2.2.1 ≤ 21) (hroom : k ≤ (zR z).cells ∧ n ≤ (zR z).slots) (dd : decode cc pc = .ok (.invokevirtual idx, 3))
    (h : ∀ r I1, p r I1 → V z nL k n (pc + 3) lv (.long r :: rest) κ I1 R J) : V z nL k n pc lv st κ I R J :=
  v_callV0 hz ml hc hK hna hst hrs hd hroom dd (fun v κ1 I1 R1 J1 hp => by
    obtain ⟨rfl, rfl, rfl, r, rfl, hp⟩ := hp
    exact h r I1 hp)
theorem v_callSi {p : Int32 → Iz → Prop} (hz : Am z cc own nL d) {idx na : Nat} {M : Mz} (ml : MLs own idx M na) {As rest : List Value} (hc : Ct (zl z) M 0 0 (zg z) As κ I R J (Si κ R J p)) (hna : As.length = na)
    (hst : st = As.reverse ++ rest) (hrs : (rest.map fun v => v.category).sum ≤ 8) (hd : M.2.2.2.2 + 1 ≤ d ∧ M.2.2.1 ≤ 21) (hroom : k ≤ (zR z).cells ∧ n ≤ (zR z).slots) (dd : decode cc pc = .ok (.invokestatic idx, 3))
    (h : ∀ r I1, p r I1 → V z nL k n (pc + 3) lv (.int r :: rest) κ I1 R J) : V z nL k n pc lv st κ I R J :=
  v_callS0 hz ml hc hna hst hrs hd hroom dd (fun v κ1 I1 R1 J1 hp => by
    obtain ⟨rfl, rfl, rfl, r, rfl, hp⟩ := hp
    exact h r I1 hp)
theorem v_callSl {p : Int64 → Iz → Prop} (hz : Am z cc own nL d) {idx na : Nat} {M : Mz} (ml : MLs own idx M na) {As rest : List Value} (hc : Ct (zl z) M 0 0 (zg z) As κ I R J (Sl κ R J p)) (hna : As.length = na)
    (hst : st = As.reverse ++ rest) (hrs : (rest.map fun v => v.category).sum ≤ 8) (hd : M.2.2.2.2 + 1 ≤ d ∧ M.2.2.1 ≤ 21) (hroom : k ≤ (zR z).cells ∧ n ≤ (zR z).slots) (dd : decode cc pc = .ok (.invokestatic idx, 3))
    (h : ∀ r I1, p r I1 → V z nL k n (pc + 3) lv (.long r :: rest) κ I1 R J) : V z nL k n pc lv st κ I R J :=
  v_callS0 hz ml hc hna hst hrs hd hroom dd (fun v κ1 I1 R1 J1 hp => by
    obtain ⟨rfl, rfl, rfl, r, rfl, hp⟩ := hp
    exact h r I1 hp)
/-! the three of java/lang/Math -/
theorem v_mmax (hz : Am z cc own nL d) {idx : Nat} (h1 : Cond.methodLink own idx Lib.Math.max.name ∈ tg) (h2 : Cond.static Lib.Math.max.name ∈ tg) (h3 : Cond.initialized "java/lang/Math" ∈ tg) (h4 : Cond.code Lib.Math.max.name Lib.Math.max.code 2 (some .int) ∈ tg) (hd : 1 ≤ d) (hrs : (st.map fun v => v.category).sum ≤ 8) (hroom : k ≤ (zR z).cells ∧ n ≤ (zR z).slots) {x y : Int32} (dd : decode cc pc = .ok (.invokestatic idx, 3))
    (h : V z nL k n (pc + 3) lv (.int (if x < y then y else x) :: st) κ I R J) : V z nL k n pc lv (.int y :: .int x :: st) κ I R J := by
  obtain ⟨⟨hexec, hb, hml, hown, hts⟩, hKK, hlo, hd1, hd2⟩ := hz
  intro ls H locs hl hM hS
  exact va_mmax hexec hb (hml.trans hl.1.symm) hown (hts _ h1) (hts _ h2) (hts _ h3) (hts _ h4) (by omega) (by omega) hroom.1 hroom.2 dd (h ls H locs hl hM hS)
end VC
end
