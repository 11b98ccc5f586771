section
-- ===== PART A: goes FIRST, ahead of the names: the tables' words, and 'selects' of the private methods out of them =====
/-- a private method of a class that the tables say can be made, by its rows of tables_1 -/
def lw_okq (q : MethodName × Nat) : Prop := (q.1.cls ≠ "java/lang/invoke/MethodHandle" ∧ q.1.cls ≠ "java/lang/invoke/VarHandle") ∧ Cond.instantiable q.1.cls q.2 ∈ tables_1 ∧ Cond.privateMethod q.1 ∈ tables_1 ∧ Cond.instanceMethod q.1 ∈ tables_1
theorem lw_p0 : lw_okq (⟨"Glosspair$Lexicon", "countMeetings", "(LGlosspair$Corpus;)V"⟩, 5) := ⟨⟨by decide +kernel, by decide +kernel⟩, List.mem_of_getElem? (i := 54) (by decide +kernel), List.mem_of_getElem? (i := 234) (by decide +kernel), List.mem_of_getElem? (i := 235) (by decide +kernel)⟩
theorem lw_p1 : lw_okq (⟨"Glosspair$Lexicon", "meetAll", "(LGlosspair$Sentence;LGlosspair$Sentence;)V"⟩, 5) := ⟨⟨by decide +kernel, by decide +kernel⟩, List.mem_of_getElem? (i := 54) (by decide +kernel), List.mem_of_getElem? (i := 254) (by decide +kernel), List.mem_of_getElem? (i := 255) (by decide +kernel)⟩
theorem lw_p2 : lw_okq (⟨"Glosspair$Lexicon", "meet", "(II)V"⟩, 5) := ⟨⟨by decide +kernel, by decide +kernel⟩, List.mem_of_getElem? (i := 54) (by decide +kernel), List.mem_of_getElem? (i := 267) (by decide +kernel), List.mem_of_getElem? (i := 268) (by decide +kernel)⟩
theorem lw_p3 : lw_okq (⟨"Glosspair$Lexicon", "apportionAll", "()I"⟩, 5) := ⟨⟨by decide +kernel, by decide +kernel⟩, List.mem_of_getElem? (i := 54) (by decide +kernel), List.mem_of_getElem? (i := 274) (by decide +kernel), List.mem_of_getElem? (i := 275) (by decide +kernel)⟩
theorem lw_p4 : lw_okq (⟨"Glosspair$Lexicon", "apportion", "(I)V"⟩, 5) := ⟨⟨by decide +kernel, by decide +kernel⟩, List.mem_of_getElem? (i := 54) (by decide +kernel), List.mem_of_getElem? (i := 278) (by decide +kernel), List.mem_of_getElem? (i := 279) (by decide +kernel)⟩
theorem lw_p5 : lw_okq (⟨"Glosspair$Lexicon", "countOf", "(II)J"⟩, 5) := ⟨⟨by decide +kernel, by decide +kernel⟩, List.mem_of_getElem? (i := 54) (by decide +kernel), List.mem_of_getElem? (i := 285) (by decide +kernel), List.mem_of_getElem? (i := 286) (by decide +kernel)⟩
theorem lw_p6 : lw_okq (⟨"Glosspair$Lexicon", "giveWholes", "(IJ)I"⟩, 5) := ⟨⟨by decide +kernel, by decide +kernel⟩, List.mem_of_getElem? (i := 54) (by decide +kernel), List.mem_of_getElem? (i := 289) (by decide +kernel), List.mem_of_getElem? (i := 290) (by decide +kernel)⟩
theorem lw_p7 : lw_okq (⟨"Glosspair$Lexicon", "giveRests", "(I)V"⟩, 5) := ⟨⟨by decide +kernel, by decide +kernel⟩, List.mem_of_getElem? (i := 54) (by decide +kernel), List.mem_of_getElem? (i := 295) (by decide +kernel), List.mem_of_getElem? (i := 296) (by decide +kernel)⟩
theorem lw_p8 : lw_okq (⟨"Glosspair$Lexicon", "placeOfGreatestRest", "()I"⟩, 5) := ⟨⟨by decide +kernel, by decide +kernel⟩, List.mem_of_getElem? (i := 54) (by decide +kernel), List.mem_of_getElem? (i := 299) (by decide +kernel), List.mem_of_getElem? (i := 300) (by decide +kernel)⟩
theorem lw_p9 : lw_okq (⟨"Glosspair$Lexicon", "replaceShares", "(I)I"⟩, 5) := ⟨⟨by decide +kernel, by decide +kernel⟩, List.mem_of_getElem? (i := 54) (by decide +kernel), List.mem_of_getElem? (i := 304) (by decide +kernel), List.mem_of_getElem? (i := 305) (by decide +kernel)⟩
theorem lw_p10 : lw_okq (⟨"Glosspair$Lexicon", "sharesAboveZero", "()I"⟩, 5) := ⟨⟨by decide +kernel, by decide +kernel⟩, List.mem_of_getElem? (i := 54) (by decide +kernel), List.mem_of_getElem? (i := 308) (by decide +kernel), List.mem_of_getElem? (i := 309) (by decide +kernel)⟩
theorem lw_p11 : lw_okq (⟨"Glosspair$Lexicon", "countAnswers", "(LGlosspair$Corpus;)V"⟩, 5) := ⟨⟨by decide +kernel, by decide +kernel⟩, List.mem_of_getElem? (i := 54) (by decide +kernel), List.mem_of_getElem? (i := 320) (by decide +kernel), List.mem_of_getElem? (i := 321) (by decide +kernel)⟩
theorem lw_p12 : lw_okq (⟨"Glosspair$Lexicon", "answerAll", "(LGlosspair$Sentence;LGlosspair$Sentence;)V"⟩, 5) := ⟨⟨by decide +kernel, by decide +kernel⟩, List.mem_of_getElem? (i := 54) (by decide +kernel), List.mem_of_getElem? (i := 324) (by decide +kernel), List.mem_of_getElem? (i := 325) (by decide +kernel)⟩
theorem lw_p13 : lw_okq (⟨"Glosspair$Lexicon", "sumOfShares", "(LGlosspair$Sentence;I)J"⟩, 5) := ⟨⟨by decide +kernel, by decide +kernel⟩, List.mem_of_getElem? (i := 54) (by decide +kernel), List.mem_of_getElem? (i := 328) (by decide +kernel), List.mem_of_getElem? (i := 329) (by decide +kernel)⟩
theorem lw_p14 : lw_okq (⟨"Glosspair$Lexicon", "addAnswer", "(IIJ)V"⟩, 5) := ⟨⟨by decide +kernel, by decide +kernel⟩, List.mem_of_getElem? (i := 54) (by decide +kernel), List.mem_of_getElem? (i := 336) (by decide +kernel), List.mem_of_getElem? (i := 337) (by decide +kernel)⟩
theorem lw_p15 : lw_okq (⟨"java/lang/Throwable", "fillInStackTrace", "(I)Ljava/lang/Throwable;"⟩, 6) := ⟨⟨by decide +kernel, by decide +kernel⟩, List.mem_of_getElem? (i := 401) (by decide +kernel), List.mem_of_getElem? (i := 399) (by decide +kernel), List.mem_of_getElem? (i := 400) (by decide +kernel)⟩
def lw_privs_1 : List (MethodName × Nat) := [(⟨"Glosspair$Lexicon", "countMeetings", "(LGlosspair$Corpus;)V"⟩, 5), (⟨"Glosspair$Lexicon", "meetAll", "(LGlosspair$Sentence;LGlosspair$Sentence;)V"⟩, 5), (⟨"Glosspair$Lexicon", "meet", "(II)V"⟩, 5), (⟨"Glosspair$Lexicon", "apportionAll", "()I"⟩, 5), (⟨"Glosspair$Lexicon", "apportion", "(I)V"⟩, 5), (⟨"Glosspair$Lexicon", "countOf", "(II)J"⟩, 5), (⟨"Glosspair$Lexicon", "giveWholes", "(IJ)I"⟩, 5), (⟨"Glosspair$Lexicon", "giveRests", "(I)V"⟩, 5), (⟨"Glosspair$Lexicon", "placeOfGreatestRest", "()I"⟩, 5), (⟨"Glosspair$Lexicon", "replaceShares", "(I)I"⟩, 5), (⟨"Glosspair$Lexicon", "sharesAboveZero", "()I"⟩, 5), (⟨"Glosspair$Lexicon", "countAnswers", "(LGlosspair$Corpus;)V"⟩, 5), (⟨"Glosspair$Lexicon", "answerAll", "(LGlosspair$Sentence;LGlosspair$Sentence;)V"⟩, 5), (⟨"Glosspair$Lexicon", "sumOfShares", "(LGlosspair$Sentence;I)J"⟩, 5), (⟨"Glosspair$Lexicon", "addAnswer", "(IIJ)V"⟩, 5), (⟨"java/lang/Throwable", "fillInStackTrace", "(I)Ljava/lang/Throwable;"⟩, 6)]
theorem lw_r1 : ∀ q ∈ lw_privs_1, lw_okq q := List.forall_mem_cons.mpr ⟨lw_p0, List.forall_mem_cons.mpr ⟨lw_p1, List.forall_mem_cons.mpr ⟨lw_p2, List.forall_mem_cons.mpr ⟨lw_p3, List.forall_mem_cons.mpr ⟨lw_p4, List.forall_mem_cons.mpr ⟨lw_p5, List.forall_mem_cons.mpr ⟨lw_p6, List.forall_mem_cons.mpr ⟨lw_p7, List.forall_mem_cons.mpr ⟨lw_p8, List.forall_mem_cons.mpr ⟨lw_p9, List.forall_mem_cons.mpr ⟨lw_p10, List.forall_mem_cons.mpr ⟨lw_p11, List.forall_mem_cons.mpr ⟨lw_p12, List.forall_mem_cons.mpr ⟨lw_p13, List.forall_mem_cons.mpr ⟨lw_p14, List.forall_mem_cons.mpr ⟨lw_p15, fun _ h => absurd h List.not_mem_nil⟩⟩⟩⟩⟩⟩⟩⟩⟩⟩⟩⟩⟩⟩⟩⟩
theorem lw_p16 : lw_okq (⟨"Glosspair", "pairThatIsThere", "(I)LGlosspair$SentencePair;"⟩, 6) := ⟨⟨by decide +kernel, by decide +kernel⟩, List.mem_of_getElem? (i := 22) (by decide +kernel), List.mem_of_getElem? (i := 483) (by decide +kernel), List.mem_of_getElem? (i := 484) (by decide +kernel)⟩
theorem lw_p17 : lw_okq (⟨"Glosspair$Alignment", "takeLinks", "(LGlosspair$SentencePair;LGlosspair$Linker;)V"⟩, 5) := ⟨⟨by decide +kernel, by decide +kernel⟩, List.mem_of_getElem? (i := 107) (by decide +kernel), List.mem_of_getElem? (i := 594) (by decide +kernel), List.mem_of_getElem? (i := 595) (by decide +kernel)⟩
theorem lw_p18 : lw_okq (⟨"Glosspair$Alignment", "takeLink", "(II)V"⟩, 5) := ⟨⟨by decide +kernel, by decide +kernel⟩, List.mem_of_getElem? (i := 107) (by decide +kernel), List.mem_of_getElem? (i := 600) (by decide +kernel), List.mem_of_getElem? (i := 601) (by decide +kernel)⟩
theorem lw_p19 : lw_okq (⟨"Glosspair$Alignment", "growOnce", "()Z"⟩, 5) := ⟨⟨by decide +kernel, by decide +kernel⟩, List.mem_of_getElem? (i := 107) (by decide +kernel), List.mem_of_getElem? (i := 610) (by decide +kernel), List.mem_of_getElem? (i := 611) (by decide +kernel)⟩
theorem lw_p20 : lw_okq (⟨"Glosspair$Alignment", "isToJoin", "(II)Z"⟩, 5) := ⟨⟨by decide +kernel, by decide +kernel⟩, List.mem_of_getElem? (i := 107) (by decide +kernel), List.mem_of_getElem? (i := 614) (by decide +kernel), List.mem_of_getElem? (i := 615) (by decide +kernel)⟩
theorem lw_p21 : lw_okq (⟨"Glosspair$Alignment", "isFree", "(I)Z"⟩, 5) := ⟨⟨by decide +kernel, by decide +kernel⟩, List.mem_of_getElem? (i := 107) (by decide +kernel), List.mem_of_getElem? (i := 626) (by decide +kernel), List.mem_of_getElem? (i := 627) (by decide +kernel)⟩
theorem lw_p22 : lw_okq (⟨"Glosspair$Alignment", "isBesideJoined", "(II)Z"⟩, 5) := ⟨⟨by decide +kernel, by decide +kernel⟩, List.mem_of_getElem? (i := 107) (by decide +kernel), List.mem_of_getElem? (i := 630) (by decide +kernel), List.mem_of_getElem? (i := 631) (by decide +kernel)⟩
theorem lw_p23 : lw_okq (⟨"Glosspair$Alignment", "join", "(II)V"⟩, 5) := ⟨⟨by decide +kernel, by decide +kernel⟩, List.mem_of_getElem? (i := 107) (by decide +kernel), List.mem_of_getElem? (i := 634) (by decide +kernel), List.mem_of_getElem? (i := 635) (by decide +kernel)⟩
theorem lw_p24 : lw_okq (⟨"Glosspair$PhraseSearch", "seekAcross", "(LGlosspair$Alignment;III)V"⟩, 2) := ⟨⟨by decide +kernel, by decide +kernel⟩, List.mem_of_getElem? (i := 129) (by decide +kernel), List.mem_of_getElem? (i := 655) (by decide +kernel), List.mem_of_getElem? (i := 656) (by decide +kernel)⟩
theorem lw_p25 : lw_okq (⟨"Glosspair$PhraseSearch", "meet", "(IIIII)V"⟩, 2) := ⟨⟨by decide +kernel, by decide +kernel⟩, List.mem_of_getElem? (i := 129) (by decide +kernel), List.mem_of_getElem? (i := 671) (by decide +kernel), List.mem_of_getElem? (i := 672) (by decide +kernel)⟩
theorem lw_p26 : lw_okq (⟨"Glosspair", "placesWith", "(LGlosspair$Sentence;II)I"⟩, 6) := ⟨⟨by decide +kernel, by decide +kernel⟩, List.mem_of_getElem? (i := 22) (by decide +kernel), List.mem_of_getElem? (i := 702) (by decide +kernel), List.mem_of_getElem? (i := 703) (by decide +kernel)⟩
theorem lw_p27 : lw_okq (⟨"Glosspair", "shortPair", "(I)LGlosspair$SentencePair;"⟩, 6) := ⟨⟨by decide +kernel, by decide +kernel⟩, List.mem_of_getElem? (i := 22) (by decide +kernel), List.mem_of_getElem? (i := 723) (by decide +kernel), List.mem_of_getElem? (i := 724) (by decide +kernel)⟩
theorem lw_p28 : lw_okq (⟨"Glosspair$Likelihood", "setPart", "(IIJ)V"⟩, 3) := ⟨⟨by decide +kernel, by decide +kernel⟩, List.mem_of_getElem? (i := 142) (by decide +kernel), List.mem_of_getElem? (i := 737) (by decide +kernel), List.mem_of_getElem? (i := 738) (by decide +kernel)⟩
theorem lw_p29 : lw_okq (⟨"GlosspairModel", "goes", "(ZZZ)Z"⟩, 18) := ⟨⟨by decide +kernel, by decide +kernel⟩, List.mem_of_getElem? (i := 765) (by decide +kernel), List.mem_of_getElem? (i := 838) (by decide +kernel), List.mem_of_getElem? (i := 839) (by decide +kernel)⟩
theorem lw_p30 : lw_okq (⟨"GlosspairModel", "isThere", "(I)Z"⟩, 18) := ⟨⟨by decide +kernel, by decide +kernel⟩, List.mem_of_getElem? (i := 765) (by decide +kernel), List.mem_of_getElem? (i := 855) (by decide +kernel), List.mem_of_getElem? (i := 856) (by decide +kernel)⟩
theorem lw_p31 : lw_okq (⟨"GlosspairModel", "there", "()I"⟩, 18) := ⟨⟨by decide +kernel, by decide +kernel⟩, List.mem_of_getElem? (i := 765) (by decide +kernel), List.mem_of_getElem? (i := 859) (by decide +kernel), List.mem_of_getElem? (i := 860) (by decide +kernel)⟩
def lw_privs_2 : List (MethodName × Nat) := [(⟨"Glosspair", "pairThatIsThere", "(I)LGlosspair$SentencePair;"⟩, 6), (⟨"Glosspair$Alignment", "takeLinks", "(LGlosspair$SentencePair;LGlosspair$Linker;)V"⟩, 5), (⟨"Glosspair$Alignment", "takeLink", "(II)V"⟩, 5), (⟨"Glosspair$Alignment", "growOnce", "()Z"⟩, 5), (⟨"Glosspair$Alignment", "isToJoin", "(II)Z"⟩, 5), (⟨"Glosspair$Alignment", "isFree", "(I)Z"⟩, 5), (⟨"Glosspair$Alignment", "isBesideJoined", "(II)Z"⟩, 5), (⟨"Glosspair$Alignment", "join", "(II)V"⟩, 5), (⟨"Glosspair$PhraseSearch", "seekAcross", "(LGlosspair$Alignment;III)V"⟩, 2), (⟨"Glosspair$PhraseSearch", "meet", "(IIIII)V"⟩, 2), (⟨"Glosspair", "placesWith", "(LGlosspair$Sentence;II)I"⟩, 6), (⟨"Glosspair", "shortPair", "(I)LGlosspair$SentencePair;"⟩, 6), (⟨"Glosspair$Likelihood", "setPart", "(IIJ)V"⟩, 3), (⟨"GlosspairModel", "goes", "(ZZZ)Z"⟩, 18), (⟨"GlosspairModel", "isThere", "(I)Z"⟩, 18), (⟨"GlosspairModel", "there", "()I"⟩, 18)]
theorem lw_r2 : ∀ q ∈ lw_privs_2, lw_okq q := List.forall_mem_cons.mpr ⟨lw_p16, List.forall_mem_cons.mpr ⟨lw_p17, List.forall_mem_cons.mpr ⟨lw_p18, List.forall_mem_cons.mpr ⟨lw_p19, List.forall_mem_cons.mpr ⟨lw_p20, List.forall_mem_cons.mpr ⟨lw_p21, List.forall_mem_cons.mpr ⟨lw_p22, List.forall_mem_cons.mpr ⟨lw_p23, List.forall_mem_cons.mpr ⟨lw_p24, List.forall_mem_cons.mpr ⟨lw_p25, List.forall_mem_cons.mpr ⟨lw_p26, List.forall_mem_cons.mpr ⟨lw_p27, List.forall_mem_cons.mpr ⟨lw_p28, List.forall_mem_cons.mpr ⟨lw_p29, List.forall_mem_cons.mpr ⟨lw_p30, List.forall_mem_cons.mpr ⟨lw_p31, fun _ h => absurd h List.not_mem_nil⟩⟩⟩⟩⟩⟩⟩⟩⟩⟩⟩⟩⟩⟩⟩⟩
theorem lw_p32 : lw_okq (⟨"GlosspairModel", "clears", "()V"⟩, 18) := ⟨⟨by decide +kernel, by decide +kernel⟩, List.mem_of_getElem? (i := 765) (by decide +kernel), List.mem_of_getElem? (i := 867) (by decide +kernel), List.mem_of_getElem? (i := 868) (by decide +kernel)⟩
theorem lw_p33 : lw_okq (⟨"GlosspairModel", "marks", "(II)V"⟩, 18) := ⟨⟨by decide +kernel, by decide +kernel⟩, List.mem_of_getElem? (i := 765) (by decide +kernel), List.mem_of_getElem? (i := 871) (by decide +kernel), List.mem_of_getElem? (i := 872) (by decide +kernel)⟩
theorem lw_p34 : lw_okq (⟨"GlosspairModel", "longOf", "(II)I"⟩, 18) := ⟨⟨by decide +kernel, by decide +kernel⟩, List.mem_of_getElem? (i := 765) (by decide +kernel), List.mem_of_getElem? (i := 875) (by decide +kernel), List.mem_of_getElem? (i := 876) (by decide +kernel)⟩
theorem lw_p35 : lw_okq (⟨"GlosspairModel", "wordAt", "(III)I"⟩, 18) := ⟨⟨by decide +kernel, by decide +kernel⟩, List.mem_of_getElem? (i := 765) (by decide +kernel), List.mem_of_getElem? (i := 879) (by decide +kernel), List.mem_of_getElem? (i := 880) (by decide +kernel)⟩
theorem lw_p36 : lw_okq (⟨"GlosspairModel", "adds", "(II)V"⟩, 18) := ⟨⟨by decide +kernel, by decide +kernel⟩, List.mem_of_getElem? (i := 765) (by decide +kernel), List.mem_of_getElem? (i := 891) (by decide +kernel), List.mem_of_getElem? (i := 892) (by decide +kernel)⟩
theorem lw_p37 : lw_okq (⟨"GlosspairModel", "allFor", "(III)J"⟩, 18) := ⟨⟨by decide +kernel, by decide +kernel⟩, List.mem_of_getElem? (i := 765) (by decide +kernel), List.mem_of_getElem? (i := 895) (by decide +kernel), List.mem_of_getElem? (i := 896) (by decide +kernel)⟩
theorem lw_p38 : lw_okq (⟨"GlosspairModel", "renews", "(I)V"⟩, 18) := ⟨⟨by decide +kernel, by decide +kernel⟩, List.mem_of_getElem? (i := 765) (by decide +kernel), List.mem_of_getElem? (i := 900) (by decide +kernel), List.mem_of_getElem? (i := 901) (by decide +kernel)⟩
theorem lw_p39 : lw_okq (⟨"GlosspairModel", "isPlace", "(III)Z"⟩, 18) := ⟨⟨by decide +kernel, by decide +kernel⟩, List.mem_of_getElem? (i := 765) (by decide +kernel), List.mem_of_getElem? (i := 925) (by decide +kernel), List.mem_of_getElem? (i := 926) (by decide +kernel)⟩
theorem lw_p40 : lw_okq (⟨"GlosspairModel", "linkOf", "(III)I"⟩, 18) := ⟨⟨by decide +kernel, by decide +kernel⟩, List.mem_of_getElem? (i := 765) (by decide +kernel), List.mem_of_getElem? (i := 929) (by decide +kernel), List.mem_of_getElem? (i := 930) (by decide +kernel)⟩
theorem lw_p41 : lw_okq (⟨"GlosspairModel", "finds", "(I)V"⟩, 18) := ⟨⟨by decide +kernel, by decide +kernel⟩, List.mem_of_getElem? (i := 765) (by decide +kernel), List.mem_of_getElem? (i := 940) (by decide +kernel), List.mem_of_getElem? (i := 941) (by decide +kernel)⟩
theorem lw_p42 : lw_okq (⟨"GlosspairModel", "isBeside", "(I)Z"⟩, 18) := ⟨⟨by decide +kernel, by decide +kernel⟩, List.mem_of_getElem? (i := 765) (by decide +kernel), List.mem_of_getElem? (i := 944) (by decide +kernel), List.mem_of_getElem? (i := 945) (by decide +kernel)⟩
theorem lw_p43 : lw_okq (⟨"GlosspairModel", "isFree", "(I)Z"⟩, 18) := ⟨⟨by decide +kernel, by decide +kernel⟩, List.mem_of_getElem? (i := 765) (by decide +kernel), List.mem_of_getElem? (i := 948) (by decide +kernel), List.mem_of_getElem? (i := 949) (by decide +kernel)⟩
theorem lw_p44 : lw_okq (⟨"GlosspairModel", "meets", "(II)I"⟩, 18) := ⟨⟨by decide +kernel, by decide +kernel⟩, List.mem_of_getElem? (i := 765) (by decide +kernel), List.mem_of_getElem? (i := 956) (by decide +kernel), List.mem_of_getElem? (i := 957) (by decide +kernel)⟩
theorem lw_p45 : lw_okq (⟨"GlosspairModel", "isPhrase", "(IIII)Z"⟩, 18) := ⟨⟨by decide +kernel, by decide +kernel⟩, List.mem_of_getElem? (i := 765) (by decide +kernel), List.mem_of_getElem? (i := 960) (by decide +kernel), List.mem_of_getElem? (i := 961) (by decide +kernel)⟩
theorem lw_p46 : lw_okq (⟨"GlosspairModel", "fertilityOf", "(I)I"⟩, 18) := ⟨⟨by decide +kernel, by decide +kernel⟩, List.mem_of_getElem? (i := 765) (by decide +kernel), List.mem_of_getElem? (i := 972) (by decide +kernel), List.mem_of_getElem? (i := 973) (by decide +kernel)⟩
def lw_privs_3 : List (MethodName × Nat) := [(⟨"GlosspairModel", "clears", "()V"⟩, 18), (⟨"GlosspairModel", "marks", "(II)V"⟩, 18), (⟨"GlosspairModel", "longOf", "(II)I"⟩, 18), (⟨"GlosspairModel", "wordAt", "(III)I"⟩, 18), (⟨"GlosspairModel", "adds", "(II)V"⟩, 18), (⟨"GlosspairModel", "allFor", "(III)J"⟩, 18), (⟨"GlosspairModel", "renews", "(I)V"⟩, 18), (⟨"GlosspairModel", "isPlace", "(III)Z"⟩, 18), (⟨"GlosspairModel", "linkOf", "(III)I"⟩, 18), (⟨"GlosspairModel", "finds", "(I)V"⟩, 18), (⟨"GlosspairModel", "isBeside", "(I)Z"⟩, 18), (⟨"GlosspairModel", "isFree", "(I)Z"⟩, 18), (⟨"GlosspairModel", "meets", "(II)I"⟩, 18), (⟨"GlosspairModel", "isPhrase", "(IIII)Z"⟩, 18), (⟨"GlosspairModel", "fertilityOf", "(I)I"⟩, 18)]
theorem lw_r3 : ∀ q ∈ lw_privs_3, lw_okq q := List.forall_mem_cons.mpr ⟨lw_p32, List.forall_mem_cons.mpr ⟨lw_p33, List.forall_mem_cons.mpr ⟨lw_p34, List.forall_mem_cons.mpr ⟨lw_p35, List.forall_mem_cons.mpr ⟨lw_p36, List.forall_mem_cons.mpr ⟨lw_p37, List.forall_mem_cons.mpr ⟨lw_p38, List.forall_mem_cons.mpr ⟨lw_p39, List.forall_mem_cons.mpr ⟨lw_p40, List.forall_mem_cons.mpr ⟨lw_p41, List.forall_mem_cons.mpr ⟨lw_p42, List.forall_mem_cons.mpr ⟨lw_p43, List.forall_mem_cons.mpr ⟨lw_p44, List.forall_mem_cons.mpr ⟨lw_p45, List.forall_mem_cons.mpr ⟨lw_p46, fun _ h => absurd h List.not_mem_nil⟩⟩⟩⟩⟩⟩⟩⟩⟩⟩⟩⟩⟩⟩⟩
def lw_privs : List (MethodName × Nat) := lw_privs_1 ++ (lw_privs_2 ++ (lw_privs_3))
def lw_tbl : List Cond := k2_sels lw_privs ++ tables_1
theorem lw_privs_ok : ∀ q ∈ lw_privs, lw_okq q := by
  show ∀ q ∈ lw_privs_1 ++ (lw_privs_2 ++ (lw_privs_3)), lw_okq q
  exact List.forall_mem_append.mpr ⟨lw_r1, List.forall_mem_append.mpr ⟨lw_r2, lw_r3⟩⟩
-- ===== end of PART A; then your names; then what follows =====
end
section
/-! ===== BEGIN words of one list among another's, by their places ===== -/
theorem goodIn_r {big : List Cond} (ws : List Cond) (ps : List Nat) (hp : ws = ps.filterMap (fun i => big[i]?)) (h : ws.all goodWord = true) : GoodIn big ws := by
  intro w hw
  have h1 := List.all_eq_true.mp h w hw
  rw [hp] at hw
  obtain ⟨i, -, hi⟩ := List.mem_filterMap.mp hw
  have hm : w ∈ big := by first | exact List.mem_of_getElem? hi | exact List.getElem?_mem hi
  exact ⟨hm, good_of_word h1⟩
theorem goodIn_app {big a b : List Cond} (ha : GoodIn big a) (hb : GoodIn big b) : GoodIn big (a ++ b) := fun w h => (List.mem_append.mp h).elim (ha w) (hb w)
theorem goodIn_ca {big a b : List Cond} {c : Cond} (ha : GoodIn big (c :: a)) (hb : GoodIn big b) : GoodIn big (c :: (a ++ b)) := fun w h => (List.mem_cons.mp h).elim (fun e => ha w (List.mem_cons.mpr (Or.inl e))) (fun h => (List.mem_append.mp h).elim (fun h => ha w (List.mem_cons.mpr (Or.inr h))) (hb w))
theorem goodIn_sub {big ws : List Cond} (hm : ∀ w ∈ ws, w ∈ big) (h : ws.all goodWord = true) : GoodIn big ws := fun w hw => ⟨hm w hw, good_of_word (List.all_eq_true.mp h w hw)⟩
/-! ===== END ===== -/

/-! ===== BEGIN exceptions that leave a method, and their catching by the caller (launches without stack traces) ===== -/
section VXA
/-! The laws vx_back, vx_callV, vx_callS, vx_callSW, vx_throw0, vx_throwS follow proofs of the library, with one case more: JvmDerived/Free/Laws.lean (Back.of_free), Shelf42/LK1.lean (callV, callS), Shelf/KitTraced.lean (throwNew0V, throwNewS). -/
/-- where a method has thrown q: the class by its name, the cell, what was written, the world -/
def vx_T (XC : String → State → State → Prop) (st : State) (q : Addr) (t : State) (mc ms : Nat) (free : Addr → Prop) : Prop :=
  ∃ (E : String) (ce : Cell) (L : List Loc), XC E st t ∧ t.heap[q]? = some ce ∧ ce.vm = .none ∧ st.vm.findClass E = some ce.cls ∧ st.WarmedH t.vm ∧ st.sameButNew ({ t with vm := st.vm } : State) L mc ms ∧ ∀ z ∈ L, free z.base
def vx_Q (Qc : Array Value → State → Outcome → State → Prop) (XC : String → State → State → Prop) (mc ms : Nat) (free : Addr → Prop) : Array Value → State → Outcome → State → Prop := fun a st o t =>
  (Qc a st o t ∧ ∃ L, FrameEnd st o t L mc ms ∧ ∀ q ∈ L, free q.base) ∨ ∃ q, o = .threw q ∧ vx_T XC st q t mc ms free
/-- a callee that returns or throws -/
def vx_Met (l : Launch) (y : MethodName) (ws : List Cond) (rm : Room) (Pc : Array Value → State → Prop) (Qc : Array Value → State → Outcome → State → Prop) (XC : String → State → State → Prop) (mc ms : Nat) (free : Addr → Prop) : Prop :=
  MetFree l y (headSpec ws rm) Pc (fun _ _ _ _ _ => True) (vx_Q Qc XC mc ms free)
def vx_Post (XC : String → State → State → Prop) (mc ms : Nat) (free : Addr → Prop) : Pt → Array Value → Addr → Pt → Prop := fun A a q B =>
  ∃ (g : JFrame) (mk : MethodId) (t : State) (L : List Loc) (E : String) (ce : Cell), B.U.heap = t.heap ∧ B.U.vm = t.vm ∧ XC E (A.U.calling g mk a) t ∧ t.heap[q]? = some ce ∧ ce.vm = .none ∧ A.U.vm.findClass E = some ce.cls ∧ B.locs = A.locs ++ L ∧ (∀ z ∈ L, free z.base) ∧ B.cells = A.cells + mc ∧ B.slots = A.slots + ms
def vx_Back (l : Launch) (R : Room) (p : Program) (e : Env) (below : List Frame) (s : State) (sargs : Array Value) (y : MethodName) (len W9 : Nat)
    (Pre : Pt → Array Value → Prop) (Post : Pt → Array Value → Option Value → Pt → Prop) (PostX : Pt → Array Value → Addr → Pt → Prop) : Prop :=
  ∀ (m : MethodId) (meth : Method) (c : Code) (A : Pt) (g : JFrame) (ig : Instr) (mk : MethodId) (a : Array Value),
    Stand p l e R s m sargs below meth c A.U A.locs A.cells A.slots → g.method = m → g.locals.size = c.maxLocals → decode c.code g.pc = .ok (ig, len) →
    2 * g.monitorRoom + (g.stack.map fun v => v.category).sum ≤ W9 → A.U.methodNamed? y = some mk → Pre A a →
    (∃ (v : Option Value) (B : Pt), Stand p l e R s m sargs below meth c B.U B.locs B.cells B.slots ∧ Post A a v B ∧
      Steps p.tables e below (doInvoke e (A.U.setTop g) [] mk a).1 (B.U.setTop { g with pc := g.pc + len, stack := v.toList ++ g.stack })) ∨
    (∃ (q : Addr) (B : Pt), Stand p l e R s m sargs below meth c B.U B.locs B.cells B.slots ∧ PostX A a q B ∧
      Steps p.tables e below (doInvoke e (A.U.setTop g) [] mk a).1 ((B.U.setTop g).pushFrame (.throwing q)))
section Payer
variable {l : Launch} {R : Room} {p : Program} {e : Env} {below : List Frame} {s : State} {sargs : Array Value} {y : MethodName} {len W9 : Nat}
theorem vx_back {ws : List Cond} {rm : Room} {Pc : Array Value → State → Prop} {Qc : Array Value → State → Outcome → State → Prop} {XC : String → State → State → Prop} {mc ms : Nat} {free : Addr → Prop} {bytes : ByteArray} {maxL : Nat} {ret : Option FieldType}
    (hM : vx_Met l y ws rm Pc Qc XC mc ms free) (hblind : FrameBlind Pc) (hrc : rm.cells = mc) (hrs : rm.slots = ms)
    (hframes : rm.frames + 1 ≤ R.frames) (hlocals : W9 + (maxL + 11) + rm.locals ≤ R.locals)
    (hws : ∀ w ∈ ws, ∀ a' U, s.WarmedH U.vm → w.before a' U = true) (hcode : Cond.code y bytes maxL ret ∈ ws) (hinit : ∀ a' U, s.WarmedH U.vm → (Cond.initialized y.cls).before a' U = true) :
    vx_Back l R p e below s sargs y len W9 (PreOf R mc ms Pc) (PostOf Qc mc ms free) (vx_Post XC mc ms free) := by
  intro m meth c A g ig mk a X hg hsize hdg hW hn hp
  have h1 : (headSpec ws rm).pre.before a A.U = true := atoms_intro fun w hw => hws w hw _ _ X.warmed
  have h2 : (Cond.code y bytes maxL ret).before a A.U = true := hws _ hcode _ _ X.warmed
  have h3 : (Cond.initialized y.cls).before a A.U = true := hinit _ _ X.warmed
  have h4 : A.cells + (headSpec ws rm).room.cells ≤ R.cells := by rw [show (headSpec ws rm).room.cells = mc from hrc]; exact hp.1
  have h5 : A.slots + (headSpec ws rm).room.slots ≤ R.slots := by rw [show (headSpec ws rm).room.slots = ms from hrs]; exact hp.2.1
  have hPc : Pc a (A.U.calling g mk a) := hblind _ _ _ _ hp.2.2
  obtain ⟨U, Ls, c0, s0⟩ := A
  dsimp only [Pt.U, Pt.locs, Pt.cells, Pt.slots] at h1 h2 h3 h4 h5 X hn hPc ⊢
  obtain ⟨methY, cY, hmY, hcY, -, hlY, -, -, -, -⟩ := Cond.code_spec hn h2
  obtain ⟨kY, hkY, -⟩ := className_of_methodNamed hn
  have hinitY : kY.init = .initialized := Cond.initialized_spec (findClass_of_methodNamed hn) hkY h3
  have h : At U g.method c below := by rw [hg]; exact X.here
  have hlocals9 : W9 + (maxL + 11) + (headSpec ws rm).room.locals ≤ R.locals := hlocals
  have happ : (headSpec ws rm).appliesLoose y e.platform (U.calling g mk a) = true :=
    Spec.appliesLoose_calling (g := g) h hdg hn hkY hinitY
      (X.room_calling (g := g) (R' := (headSpec ws rm).room) hsize hmY hcY hframes (by rw [hlY]; omega) h4 h5) h1
  obtain ⟨mid, hmid⟩ := h.above
  have hfr : (U.setTop g).frames = (.java g :: mid) ++ below := by rw [State.frames_setTop' g h.top, hmid]; rfl
  obtain ⟨o, s₂, hsteps, -, hend, hq⟩ := Steps.callFree hM p X.admits X.cas X.clock (acts := []) hfr happ hPc trivial
  have hq' : vx_Q Qc XC mc ms free a (U.calling g mk a) o s₂ := hq
  rw [State.frames_setTop' g h.top] at hend
  obtain ⟨g₀, hg0⟩ := Option.isSome_iff_exists.mp h.top
  obtain ⟨r, hr⟩ := State.topJava?_eq_some.mp hg0
  have hr' : (({ U with heap := s₂.heap, slotsUsed := s₂.slotsUsed } : State).setVm s₂.vm).frames = .java g₀ :: r := hr
  rcases hq' with ⟨hqc, L, hfe, hL⟩ | ⟨q, rfl, E, ce, L, hx, hce, hcv, hcl, hW₂, hsm, hL⟩
  · obtain ⟨⟨v, rfl⟩, hW₂, e2, q2, q3, q4, q5, q6⟩ := id hfe
    have e3 : s₂ = ({ (U.calling g mk a).setFrames s₂.frames with heap := s₂.heap, slotsUsed := s₂.slotsUsed } : State).setVm s₂.vm := by
      have : s₂ = ({ s₂ with vm := (U.calling g mk a).vm } : State).setVm s₂.vm := rfl
      rw [e2] at this
      exact this
    obtain ⟨c₂, i₂, len₂, hc₂, hd₂, hf₂⟩ := hend
    have hW' : U.WarmedH s₂.vm := hW₂
    have hcc : c₂ = c := by
      have h1 : s₂.code? g.method = U.code? g.method := by
        rw [State.code?_eq, State.code?_eq, hW'.alike.method?]
      exact Option.some.inj (hc₂.symm.trans (h1.trans h.code))
    subst hcc
    have hlen : len₂ = len := by rw [hdg] at hd₂; cases hd₂; rfl
    subst hlen
    have hs₂ : s₂ = (({ U with heap := s₂.heap, slotsUsed := s₂.slotsUsed } : State).setVm s₂.vm).setTop { g with pc := g.pc + len₂, stack := v.toList ++ g.stack } := by
      refine e3.trans ?_
      rw [hf₂, State.calling_eq h.top, State.setFrames_setFrames, State.setTop_of_frames _ hr', hr]
      rfl
    have hsame : U.sameButNew ({ U with heap := s₂.heap, slotsUsed := s₂.slotsUsed } : State) L mc ms := by
      refine ⟨?_, q2, q3, q4, q5, q6⟩
      obtain ⟨t, ht, -⟩ := State.frames_cons hr
      show ({ U with heap := s₂.heap, slotsUsed := s₂.slotsUsed } : State) = { U.setFrames U.frames with heap := s₂.heap, slotsUsed := s₂.slotsUsed }
      rw [State.setFrames_self ht]
    subst hg
    refine Or.inl ⟨v, ⟨(({ U with heap := s₂.heap, slotsUsed := s₂.slotsUsed } : State).setVm s₂.vm), Ls ++ L, c0 + mc, s0 + ms⟩,
      ⟨X.admits, X.cas, X.clock, X.frames, X.room, X.hears, X.method, X.code, (X.here.setHeapUsed s₂.heap s₂.slotsUsed).setVm hW'.alike, X.tail, State.WarmedH.trans X.warmed hW', X.limits, X.bytes, X.same.trans (hsame.setVm s.vm)⟩,
      ⟨g, mk, s₂, L, rfl, rfl, hqc, rfl, hL, rfl, rfl⟩, ?_⟩
    show Steps p.tables e below _ ((({ U with heap := s₂.heap, slotsUsed := s₂.slotsUsed } : State).setVm s₂.vm).setTop { g with pc := g.pc + len₂, stack := v.toList ++ g.stack })
    rw [← hs₂]
    exact hsteps
  · obtain ⟨e2, q2, q3, q4, q5, q6⟩ := id hsm
    have e3 : s₂ = ({ (U.calling g mk a).setFrames s₂.frames with heap := s₂.heap, slotsUsed := s₂.slotsUsed } : State).setVm s₂.vm := by
      have : s₂ = ({ s₂ with vm := (U.calling g mk a).vm } : State).setVm s₂.vm := rfl
      rw [e2] at this
      exact this
    have hf₂ : s₂.frames = .throwing q :: .java g :: U.frames.tail := hend
    have hW' : U.WarmedH s₂.vm := hW₂
    have hs₂ : s₂ = ((({ U with heap := s₂.heap, slotsUsed := s₂.slotsUsed } : State).setVm s₂.vm).setTop g).pushFrame (.throwing q) := by
      refine e3.trans ?_
      rw [hf₂, State.calling_eq h.top, State.setFrames_setFrames, State.pushFrame, State.frames_setTop _ hr', State.setTop_of_frames _ hr', State.setFrames_setFrames, hr]
      rfl
    have hsame : U.sameButNew ({ U with heap := s₂.heap, slotsUsed := s₂.slotsUsed } : State) L mc ms := by
      refine ⟨?_, q2, q3, q4, q5, q6⟩
      obtain ⟨t, ht, -⟩ := State.frames_cons hr
      show ({ U with heap := s₂.heap, slotsUsed := s₂.slotsUsed } : State) = { U.setFrames U.frames with heap := s₂.heap, slotsUsed := s₂.slotsUsed }
      rw [State.setFrames_self ht]
    subst hg
    refine Or.inr ⟨q, ⟨(({ U with heap := s₂.heap, slotsUsed := s₂.slotsUsed } : State).setVm s₂.vm), Ls ++ L, c0 + mc, s0 + ms⟩,
      ⟨X.admits, X.cas, X.clock, X.frames, X.room, X.hears, X.method, X.code, (X.here.setHeapUsed s₂.heap s₂.slotsUsed).setVm hW'.alike, X.tail, State.WarmedH.trans X.warmed hW', X.limits, X.bytes, X.same.trans (hsame.setVm s.vm)⟩,
      ⟨g, mk, s₂, L, E, ce, rfl, rfl, hx, hce, hcv, hcl, rfl, hL, rfl, rfl⟩, ?_⟩
    show Steps p.tables e below _ (((({ U with heap := s₂.heap, slotsUsed := s₂.slotsUsed } : State).setVm s₂.vm).setTop g).pushFrame (.throwing q))
    rw [← hs₂]
    exact hsteps
end Payer
section Calls
variable {p : Program} {l : Launch} {e : Env} {R : Room} {s : State} {m : MethodId} {args : Array Value} {below : List Frame} {meth : Method} {c : Code} {T : State} {locs : List Loc} {cells slots : Nat}
theorem vx_callV (X : Stand p l e R s m args below meth c T locs cells slots) (hexec : p.tables.exec = Jvm.exec) {own C : String} {index : Nat} {y : MethodName} {bytes : ByteArray} {maxL : Nat} {ret : Option FieldType}
    (hown : s.vm.findClass own = some m.cls) (hlink : (Cond.methodLink own index y).before args s = true) (hinst : (Cond.instanceMethod y).before args s = true) (hsel : (Cond.selects C y y).before args s = true)
    (hcode : (Cond.code y bytes maxL ret).before args s = true) (hy : y.cls ≠ "java/lang/invoke/MethodHandle" ∧ y.cls ≠ "java/lang/invoke/VarHandle")
    {W9 : Nat} {Pre : Pt → Array Value → Prop} {Post : Pt → Array Value → Option Value → Pt → Prop} {PostX : Pt → Array Value → Addr → Pt → Prop} (hK : vx_Back l R p e below s args y 3 W9 Pre Post PostX)
    {b : Addr} {cellB : Cell} (hcell : T.heap[b]? = some cellB) (hobj : cellB.vm.isStatics = false) (hcls : s.vm.findClass C = some cellB.cls)
    {g : JFrame} (hg : g.method = m) (hsize : g.locals.size = c.maxLocals) {argsL rest : List Value} (hlen : ∀ sig, parseMethodDescriptor y.desc = some sig → argsL.length = sig.parameters.length)
    (hstack : g.stack = argsL.reverse ++ .ref b :: rest) (hW : 2 * g.monitorRoom + (rest.map fun v => v.category).sum ≤ W9) (hdg : decode c.code g.pc = .ok (.invokevirtual index, 3))
    (hpre : ∀ vm₁, s.WarmedH vm₁ → Pre ⟨T.setVm vm₁, locs, cells, slots⟩ (Value.ref b :: argsL).toArray) :
    (∃ (v : Option Value) (vm₁ : Vm) (B : Pt), s.WarmedH vm₁ ∧ Stand p l e R s m args below meth c B.U B.locs B.cells B.slots ∧ Post ⟨T.setVm vm₁, locs, cells, slots⟩ (Value.ref b :: argsL).toArray v B ∧
      ∀ target, Steps p.tables e below (B.U.setTop { g with pc := g.pc + 3, stack := v.toList ++ rest }) target → Steps p.tables e below (T.setTop g) target) ∨
    (∃ (q : Addr) (vm₁ : Vm) (B : Pt), s.WarmedH vm₁ ∧ Stand p l e R s m args below meth c B.U B.locs B.cells B.slots ∧ PostX ⟨T.setVm vm₁, locs, cells, slots⟩ (Value.ref b :: argsL).toArray q B ∧
      Steps p.tables e below (T.setTop g) ((B.U.setTop { g with stack := rest }).pushFrame (.throwing q))) := by
  obtain ⟨mk, methM, hnamed, hmethM, hstM, habM⟩ := Cond.instanceMethod_spec hinst
  obtain ⟨methM', cM, hmethM', -, -, -, -, -, -, hsigM⟩ := Cond.code_spec hnamed hcode
  cases hmethM.symm.trans hmethM'
  obtain ⟨c2, r2, m2, q1, q2, q3, q4, kP, hkP, hkPi⟩ := Cond.selects_spec hsel
  cases hcls.symm.trans q1
  cases (State.methodFound?_of_named hnamed hy).symm.trans q2
  cases hnamed.symm.trans q3
  have hselP : selectMethod e.platform s.vm cellB.cls mk = .method mk := by rw [Launch.admits_selectMethod X.admits]; exact q4
  obtain ⟨vm₁, X₁, hstep₁⟩ := X.invokevirtual hexec hown hlink hnamed hmethM hstM hkP hkPi hy (a := b) (cell := cellB) hcell
    (fun z h => by rw [h] at hobj; cases hobj) hselP hmethM habM hkP hkPi (g := g) hg (argsL := argsL) (rest := rest) (hlen _ hsigM) hstack hdg
  rcases hK m meth c ⟨T.setVm vm₁, locs, cells, slots⟩ { g with stack := rest } (.invokevirtual index) mk (Value.ref b :: argsL).toArray X₁ hg hsize hdg hW (X₁.named hnamed) (hpre vm₁ X₁.warmed) with ⟨v, B, X', hpost, hsteps⟩ | ⟨q, B, X', hpost, hsteps⟩
  · exact Or.inl ⟨v, vm₁, B, X₁.warmed, X', hpost, fun target h => hstep₁ _ fun acts => by rw [doInvoke_state]; exact hsteps.trans h⟩
  · exact Or.inr ⟨q, vm₁, B, X₁.warmed, X', hpost, hstep₁ _ fun acts => by rw [doInvoke_state]; exact hsteps⟩
theorem vx_callS (X : Stand p l e R s m args below meth c T locs cells slots) (hexec : p.tables.exec = Jvm.exec) {own : String} {index : Nat} {y : MethodName} {bytes : ByteArray} {maxL : Nat} {ret : Option FieldType}
    (hown : s.vm.findClass own = some m.cls) (hlink : (Cond.methodLink own index y).before args s = true) (hstat : (Cond.static y).before args s = true) (hinit : (Cond.initialized y.cls).before args s = true)
    (hcode : (Cond.code y bytes maxL ret).before args s = true) (hy : y.cls ≠ "java/lang/invoke/MethodHandle" ∧ y.cls ≠ "java/lang/invoke/VarHandle")
    {W9 : Nat} {Pre : Pt → Array Value → Prop} {Post : Pt → Array Value → Option Value → Pt → Prop} {PostX : Pt → Array Value → Addr → Pt → Prop} (hK : vx_Back l R p e below s args y 3 W9 Pre Post PostX)
    {g : JFrame} (hg : g.method = m) (hsize : g.locals.size = c.maxLocals) {argsL rest : List Value} (hlen : ∀ sig, parseMethodDescriptor y.desc = some sig → argsL.length = sig.parameters.length)
    (hstack : g.stack = argsL.reverse ++ rest) (hW : 2 * g.monitorRoom + (rest.map fun v => v.category).sum ≤ W9) (hdg : decode c.code g.pc = .ok (.invokestatic index, 3))
    (hpre : ∀ vm₁, s.WarmedH vm₁ → Pre ⟨T.setVm vm₁, locs, cells, slots⟩ argsL.toArray) :
    (∃ (v : Option Value) (vm₁ : Vm) (B : Pt), s.WarmedH vm₁ ∧ Stand p l e R s m args below meth c B.U B.locs B.cells B.slots ∧ Post ⟨T.setVm vm₁, locs, cells, slots⟩ argsL.toArray v B ∧
      ∀ target, Steps p.tables e below (B.U.setTop { g with pc := g.pc + 3, stack := v.toList ++ rest }) target → Steps p.tables e below (T.setTop g) target) ∨
    (∃ (q : Addr) (vm₁ : Vm) (B : Pt), s.WarmedH vm₁ ∧ Stand p l e R s m args below meth c B.U B.locs B.cells B.slots ∧ PostX ⟨T.setVm vm₁, locs, cells, slots⟩ argsL.toArray q B ∧
      Steps p.tables e below (T.setTop g) ((B.U.setTop { g with stack := rest }).pushFrame (.throwing q))) := by
  obtain ⟨mk, hnamed⟩ := Cond.code_named hcode
  obtain ⟨methM, cM, hmethM, -, -, -, -, -, -, hsigM⟩ := Cond.code_spec hnamed hcode
  have hstatic : methM.isStatic = true := Cond.static_spec hnamed hmethM hstat
  obtain ⟨kP, hkP, -⟩ := className_of_methodNamed hnamed
  have hinitP : kP.init = .initialized := Cond.initialized_spec (findClass_of_methodNamed hnamed) hkP hinit
  obtain ⟨vm₁, X₁, hstep₁⟩ := X.invokestatic hexec hown hlink hnamed hmethM hstatic hkP hinitP hy (g := g) hg (argsL := argsL) (rest := rest) (hlen _ hsigM) hstack hdg
  rcases hK m meth c ⟨T.setVm vm₁, locs, cells, slots⟩ { g with stack := rest } (.invokestatic index) mk argsL.toArray X₁ hg hsize hdg hW (X₁.named hnamed) (hpre vm₁ X₁.warmed) with ⟨v, B, X', hpost, hsteps⟩ | ⟨q, B, X', hpost, hsteps⟩
  · exact Or.inl ⟨v, vm₁, B, X₁.warmed, X', hpost, fun target h => hstep₁ _ fun acts => by rw [doInvoke_state]; exact hsteps.trans h⟩
  · exact Or.inr ⟨q, vm₁, B, X₁.warmed, X', hpost, hstep₁ _ fun acts => by rw [doInvoke_state]; exact hsteps⟩
end Calls
theorem vx_cls {s : State} {T : State} {vm₁ : Vm} {E : String} {k : ClassId} (hW : s.WarmedH vm₁) (h : (T.setVm vm₁).vm.findClass E = some k) : s.vm.findClass E = some k := by
  have h1 : vm₁.findClass E = some k := h
  rw [hW.alike.findClass] at h1
  exact h1
/-- the method's frame g, with q thrown over it -/
def vx_W (p : Program) (l : Launch) (e : Env) (R : Room) (s : State) (m : MethodId) (args : Array Value) (below : List Frame) (meth : Method) (c : Code) (H : Heap) (locs : List Loc) (cells slots : Nat) (Q : State → Prop) (g : JFrame) (q : Addr) : Prop :=
  ∀ T : State, T.heap = H → Stand p l e R s m args below meth c T locs cells slots → ∃ t, Steps p.tables e below ((T.setTop g).pushFrame (.throwing q)) t ∧ Q t
def vx_Run (p : Program) (l : Launch) (e : Env) (R : Room) (s : State) (m : MethodId) (args : Array Value) (below : List Frame) (meth : Method) (c : Code) (H : Heap) (locs : List Loc) (cells slots mc ms : Nat) (g : JFrame) (rest : List Value) (Qa : State → Outcome → State → Prop) (XC : String → State → State → Prop) (free : Addr → Prop) : Prop :=
  ∀ T : State, T.heap = H → Stand p l e R s m args below meth c T locs cells slots →
    (∃ (v : Option Value) (st₀ t T' : State) (L : List Loc), st₀.heap = H ∧ Stand p l e R s m args below meth c T' (locs ++ L) (cells + mc) (slots + ms) ∧ (∀ q ∈ L, free q.base) ∧ T'.heap = t.heap ∧ T'.vm = t.vm ∧ Qa st₀ (.returned v) t ∧
      Goes p e below T g T' { g with pc := g.pc + 3, stack := v.toList ++ rest }) ∨
    (∃ (q : Addr) (st₀ t T' : State) (L : List Loc) (E : String) (ce : Cell), st₀.heap = H ∧ Stand p l e R s m args below meth c T' (locs ++ L) (cells + mc) (slots + ms) ∧ (∀ z ∈ L, free z.base) ∧ T'.heap = t.heap ∧ T'.vm = t.vm ∧ XC E st₀ t ∧ t.heap[q]? = some ce ∧ ce.vm = .none ∧ s.vm.findClass E = some ce.cls ∧
      Steps p.tables e below (T.setTop g) ((T'.setTop { g with stack := rest }).pushFrame (.throwing q)))
def vx_X {S : Type} (px : S → Prop) (B : String → S → State → Prop) (A : Nat → Prop) : String → State → State → Prop := fun E st t => ∃ u : S, px u ∧ B E u t ∧ va_F A st t
section Runs
variable {p : Program} {l : Launch} {e : Env} {R : Room} {s : State} {m : MethodId} {args : Array Value} {below : List Frame} {meth : Method} {c : Code} {H : Heap} {locs : List Loc} {cells slots : Nat}
variable {y : MethodName} {bytes cc : ByteArray} {maxL nL mc ms n index : Nat} {ret : Option FieldType} {ws : List Cond} {rm : Room} {Pc : Array Value → State → Prop} {Qc : Array Value → State → Outcome → State → Prop} {XC : String → State → State → Prop} {free : Addr → Prop} {Ts : List Cond} {own C : String} {b : Addr} {As rest : List Value} {g : JFrame}
theorem vx_callBack (cb : CallB R s args own index y bytes maxL ret ws rm mc ms n) (hM : vx_Met l y ws rm Pc Qc XC mc ms free) (hbl : FrameBlind Pc) : vx_Back l R p e below s args y 3 8 (PreOf R mc ms Pc) (PostOf Qc mc ms free) (vx_Post XC mc ms free) := by
  obtain ⟨hrc, hrs, hfr, hlo, hws, hcw, -, hini, -⟩ := cb
  exact vx_back (bytes := bytes) (maxL := maxL) (ret := ret) hM hbl hrc hrs hfr hlo hws hcw (fun a' U hW => word_at hW (Or.inl (by first | rfl | simp [Cond.onTables, Cond.keeps, Cond.steady])) hini)
theorem vx_runV (S : CallFix p m c cc nL s args Ts own) (hM : vx_Met l y ws rm Pc Qc XC mc ms free) (cw : CallW R s args own C index y bytes maxL ret ws rm mc ms n) (hp : PreV s H C b Pc As)
    (hg : g.method = m) (hn : As.length = n) (hsize : g.locals.size = nL) (hstack : g.stack = As.reverse ++ .ref b :: rest) (hW : 2 * g.monitorRoom + (rest.map fun v => v.category).sum ≤ 8) (hdg : decode cc g.pc = .ok (.invokevirtual index, 3)) (hf : cells + mc ≤ R.cells ∧ slots + ms ≤ R.slots) :
    vx_Run p l e R s m args below meth c H locs cells slots mc ms g rest (Qc (Value.ref b :: As).toArray) XC free := by
  have hK : vx_Back l R p e below s args y 3 8 (PreOf R mc ms Pc) (PostOf Qc mc ms free) (vx_Post XC mc ms free) := vx_callBack cw.1 hM hp.1
  obtain ⟨⟨-, -, -, -, -, -, hcode, -, hy, hlen, hl⟩, hin, hse⟩ := cw
  obtain ⟨hx, hb, hml, ho, -⟩ := S
  obtain ⟨-, ⟨cellB, hcB, hoB, hclB⟩, hPc⟩ := hp
  intro T hT X
  rcases vx_callV X hx (C := C) (bytes := bytes) (maxL := maxL) (ret := ret) ho hl hin hse hcode hy hK (by rw [hT]; exact hcB) hoB hclB hg (hsize.trans hml.symm) (argsL := As) (rest := rest) (fun sig h => hn.trans (hlen sig h)) hstack hW (by rw [hb]; exact hdg)
    (fun vm₁ hW₁ => ⟨hf.1, hf.2, hPc (T.setVm vm₁) hT hW₁⟩) with ⟨v, vm₁, ⟨U', l2, c2, s2⟩, hW₁, X', ⟨g', mk, t, L, e1, e2, hq, h1, hL, h2, h3⟩, st⟩ | ⟨q, vm₁, ⟨U', l2, c2, s2⟩, hW₁, X', ⟨g', mk, t, L, E, ce, e1, e2, hq, hce, hcv, hcl, h1, hL, h2, h3⟩, st⟩
  · dsimp only [Pt.U, Pt.locs, Pt.cells, Pt.slots] at X' e1 e2 h1 h2 h3 st
    subst h1; subst h2; subst h3
    exact Or.inl ⟨v, (T.setVm vm₁).calling g' mk (Value.ref b :: As).toArray, t, U', L, hT, X', hL, e1, e2, hq, st⟩
  · dsimp only [Pt.U, Pt.locs, Pt.cells, Pt.slots] at X' e1 e2 h1 h2 h3 st hcl
    subst h1; subst h2; subst h3
    exact Or.inr ⟨q, (T.setVm vm₁).calling g' mk (Value.ref b :: As).toArray, t, U', L, E, ce, hT, X', hL, e1, e2, hq, hce, hcv, vx_cls hW₁ hcl, st⟩
theorem vx_runS (S : CallFix p m c cc nL s args Ts own) (hM : vx_Met l y ws rm Pc Qc XC mc ms free) (cw : CallB R s args own index y bytes maxL ret ws rm mc ms n ∧ (Cond.static y).before args s = true) (hp : PreS s H Pc As)
    (hg : g.method = m) (hn : As.length = n) (hsize : g.locals.size = nL) (hstack : g.stack = As.reverse ++ rest) (hW : 2 * g.monitorRoom + (rest.map fun v => v.category).sum ≤ 8) (hdg : decode cc g.pc = .ok (.invokestatic index, 3)) (hf : cells + mc ≤ R.cells ∧ slots + ms ≤ R.slots) :
    vx_Run p l e R s m args below meth c H locs cells slots mc ms g rest (Qc As.toArray) XC free := by
  have hK : vx_Back l R p e below s args y 3 8 (PreOf R mc ms Pc) (PostOf Qc mc ms free) (vx_Post XC mc ms free) := vx_callBack cw.1 hM hp.1
  obtain ⟨⟨-, -, -, -, -, -, hcode, hini, hy, hlen, hl⟩, hstt⟩ := cw
  obtain ⟨hx, hb, hml, ho, -⟩ := S
  intro T hT X
  rcases vx_callS X hx (bytes := bytes) (maxL := maxL) (ret := ret) ho hl hstt hini hcode hy hK hg (hsize.trans hml.symm) (argsL := As) (rest := rest) (fun sig h => hn.trans (hlen sig h)) hstack hW (by rw [hb]; exact hdg)
    (fun vm₁ hW₁ => ⟨hf.1, hf.2, hp.2 (T.setVm vm₁) hT hW₁⟩) with ⟨v, vm₁, ⟨U', l2, c2, s2⟩, hW₁, X', ⟨g', mk, t, L, e1, e2, hq, h1, hL, h2, h3⟩, st⟩ | ⟨q, vm₁, ⟨U', l2, c2, s2⟩, hW₁, X', ⟨g', mk, t, L, E, ce, e1, e2, hq, hce, hcv, hcl, h1, hL, h2, h3⟩, st⟩
  · dsimp only [Pt.U, Pt.locs, Pt.cells, Pt.slots] at X' e1 e2 h1 h2 h3 st
    subst h1; subst h2; subst h3
    exact Or.inl ⟨v, (T.setVm vm₁).calling g' mk As.toArray, t, U', L, hT, X', hL, e1, e2, hq, st⟩
  · dsimp only [Pt.U, Pt.locs, Pt.cells, Pt.slots] at X' e1 e2 h1 h2 h3 st hcl
    subst h1; subst h2; subst h3
    exact Or.inr ⟨q, (T.setVm vm₁).calling g' mk As.toArray, t, U', L, E, ce, hT, X', hL, e1, e2, hq, hce, hcv, vx_cls hW₁ hcl, st⟩
end Runs
section Rows
variable {p : Program} {l : Launch} {e : Env} {R : Room} {s : State} {m : MethodId} {args : Array Value} {below : List Frame} {meth : Method} {c : Code} {H : Heap} {locs : List Loc} {cells slots : Nat} {Q : State → Prop}
variable {mc ms : Nat} {free : Addr → Prop} {A0 A1 : Nat → Prop} {H0 : Heap} {a : Array Value} {pc : Nat} {ls : Array Slot} {st0 rest : List Value}
theorem vx_keep {st₀ t T' : State} {L : List Loc} (h0 : st₀.heap = H) (e1 : T'.heap = t.heap) (hS : va_S A0 H0 H locs) (hA : ∀ q, q < H.size → A1 q → A0 q) (hf : ∀ q, free q → A0 q) (hL : ∀ q ∈ L, free q.base) (hF : va_F A1 st₀ t) :
    H.size ≤ T'.heap.size ∧ (∀ q : Nat, q < H.size → ¬ A1 q → T'.heap[q]? = H[q]?) ∧ va_S A0 H0 T'.heap (locs ++ L) := by
  obtain ⟨hz, hk⟩ := hF
  rw [h0] at hz hk
  exact ⟨by rw [e1]; exact hz, fun q h1 h2 => by rw [e1]; exact hk q h1 h2,
    ⟨Nat.le_trans hS.1 (by rw [e1]; exact hz), fun q h1 h2 => by rw [e1, hk q (Nat.lt_of_lt_of_le h1 hS.1) (fun z => h2 (hA q (Nat.lt_of_lt_of_le h1 hS.1) z))]; exact hS.2.1 q h1 h2, fun q hq => by
      rcases List.mem_append.mp hq with h | h
      · exact hS.2.2 q h
      · exact hf _ (hL q h)⟩⟩
theorem vx_calli {S SX : Type} {post : Int32 → S → Prop} {px : SX → Prop} {B : S → State → Prop} {BX : String → SX → State → Prop} {AX : Nat → Prop} (hr : vx_Run p l e R s m args below meth c H locs cells slots mc ms (F0 m pc ls st0) rest (va_Qi post B A1 a) (vx_X px BX AX) free) (hS : va_S A0 H0 H locs) (hA : ∀ q, q < H.size → A1 q → A0 q) (hf : ∀ q, free q → A0 q) (hAX : ∀ q, q < H.size → AX q → A0 q)
    (kx : ∀ (E : String) (ce : Cell) (q9 : Addr) (u : SX) (t : State) (H1 : Heap) (locs1 : List Loc), t.heap = H1 → s.vm.Alike t.vm → px u → BX E u t → H.size ≤ H1.size → (∀ q : Nat, q < H.size → ¬ AX q → H1[q]? = H[q]?) → va_S A0 H0 H1 locs1 → H1[q9]? = some ce → ce.vm = .none → s.vm.findClass E = some ce.cls → vx_W p l e R s m args below meth c H1 locs1 (cells + mc) (slots + ms) Q (F0 m pc ls rest) q9)
    (kk : ∀ (r : Int32) (u : S) (t : State) (H1 : Heap) (locs1 : List Loc), t.heap = H1 → s.vm.Alike t.vm → post r u → B u t → H.size ≤ H1.size → (∀ q : Nat, q < H.size → ¬ A1 q → H1[q]? = H[q]?) → va_S A0 H0 H1 locs1 → W p l e R s m args below meth c H1 locs1 (cells + mc) (slots + ms) Q (F0 m (pc + 3) ls (.int r :: rest))) : W p l e R s m args below meth c H locs cells slots Q (F0 m pc ls st0) := by
  intro T hT X
  rcases hr T hT X with ⟨v, st₀, t, T', L, h0, X', hL, e1, e2, ⟨⟨r, u, hv, hp, hb⟩, hF⟩, st⟩ | ⟨q, st₀, t, T', L, E, ce, h0, X', hL, e1, e2, ⟨u, hp, hb, hF⟩, hce, hcv, hcl, st⟩
  · cases hv
    obtain ⟨k1, k2, k3⟩ := vx_keep h0 e1 hS hA hf hL hF
    obtain ⟨t2, a1, b1⟩ := kk r u t T'.heap (locs ++ L) e1.symm (by rw [← e2]; exact X'.warmed.alike) hp hb k1 k2 k3 T' rfl X'
    exact ⟨t2, st t2 a1, b1⟩
  · obtain ⟨k1, k2, k3⟩ := vx_keep h0 e1 hS hAX hf hL hF
    obtain ⟨t2, a1, b1⟩ := kx E ce q u t T'.heap (locs ++ L) e1.symm (by rw [← e2]; exact X'.warmed.alike) hp hb k1 k2 k3 (by rw [e1]; exact hce) hcv hcl T' rfl X'
    exact ⟨t2, st.trans a1, b1⟩
theorem vx_calll {S SX : Type} {post : Int64 → S → Prop} {px : SX → Prop} {B : S → State → Prop} {BX : String → SX → State → Prop} {AX : Nat → Prop} (hr : vx_Run p l e R s m args below meth c H locs cells slots mc ms (F0 m pc ls st0) rest (va_Ql post B A1 a) (vx_X px BX AX) free) (hS : va_S A0 H0 H locs) (hA : ∀ q, q < H.size → A1 q → A0 q) (hf : ∀ q, free q → A0 q) (hAX : ∀ q, q < H.size → AX q → A0 q)
    (kx : ∀ (E : String) (ce : Cell) (q9 : Addr) (u : SX) (t : State) (H1 : Heap) (locs1 : List Loc), t.heap = H1 → s.vm.Alike t.vm → px u → BX E u t → H.size ≤ H1.size → (∀ q : Nat, q < H.size → ¬ AX q → H1[q]? = H[q]?) → va_S A0 H0 H1 locs1 → H1[q9]? = some ce → ce.vm = .none → s.vm.findClass E = some ce.cls → vx_W p l e R s m args below meth c H1 locs1 (cells + mc) (slots + ms) Q (F0 m pc ls rest) q9)
    (kk : ∀ (r : Int64) (u : S) (t : State) (H1 : Heap) (locs1 : List Loc), t.heap = H1 → s.vm.Alike t.vm → post r u → B u t → H.size ≤ H1.size → (∀ q : Nat, q < H.size → ¬ A1 q → H1[q]? = H[q]?) → va_S A0 H0 H1 locs1 → W p l e R s m args below meth c H1 locs1 (cells + mc) (slots + ms) Q (F0 m (pc + 3) ls (.long r :: rest))) : W p l e R s m args below meth c H locs cells slots Q (F0 m pc ls st0) := by
  intro T hT X
  rcases hr T hT X with ⟨v, st₀, t, T', L, h0, X', hL, e1, e2, ⟨⟨r, u, hv, hp, hb⟩, hF⟩, st⟩ | ⟨q, st₀, t, T', L, E, ce, h0, X', hL, e1, e2, ⟨u, hp, hb, hF⟩, hce, hcv, hcl, st⟩
  · cases hv
    obtain ⟨k1, k2, k3⟩ := vx_keep h0 e1 hS hA hf hL hF
    obtain ⟨t2, a1, b1⟩ := kk r u t T'.heap (locs ++ L) e1.symm (by rw [← e2]; exact X'.warmed.alike) hp hb k1 k2 k3 T' rfl X'
    exact ⟨t2, st t2 a1, b1⟩
  · obtain ⟨k1, k2, k3⟩ := vx_keep h0 e1 hS hAX hf hL hF
    obtain ⟨t2, a1, b1⟩ := kx E ce q u t T'.heap (locs ++ L) e1.symm (by rw [← e2]; exact X'.warmed.alike) hp hb k1 k2 k3 (by rw [e1]; exact hce) hcv hcl T' rfl X'
    exact ⟨t2, st.trans a1, b1⟩
theorem vx_callf {S SX : Type} {post : UInt32 → S → Prop} {px : SX → Prop} {B : S → State → Prop} {BX : String → SX → State → Prop} {AX : Nat → Prop} (hr : vx_Run p l e R s m args below meth c H locs cells slots mc ms (F0 m pc ls st0) rest (va_Qf post B A1 a) (vx_X px BX AX) free) (hS : va_S A0 H0 H locs) (hA : ∀ q, q < H.size → A1 q → A0 q) (hf : ∀ q, free q → A0 q) (hAX : ∀ q, q < H.size → AX q → A0 q)
    (kx : ∀ (E : String) (ce : Cell) (q9 : Addr) (u : SX) (t : State) (H1 : Heap) (locs1 : List Loc), t.heap = H1 → s.vm.Alike t.vm → px u → BX E u t → H.size ≤ H1.size → (∀ q : Nat, q < H.size → ¬ AX q → H1[q]? = H[q]?) → va_S A0 H0 H1 locs1 → H1[q9]? = some ce → ce.vm = .none → s.vm.findClass E = some ce.cls → vx_W p l e R s m args below meth c H1 locs1 (cells + mc) (slots + ms) Q (F0 m pc ls rest) q9)
    (kk : ∀ (r : UInt32) (u : S) (t : State) (H1 : Heap) (locs1 : List Loc), t.heap = H1 → s.vm.Alike t.vm → post r u → B u t → H.size ≤ H1.size → (∀ q : Nat, q < H.size → ¬ A1 q → H1[q]? = H[q]?) → va_S A0 H0 H1 locs1 → W p l e R s m args below meth c H1 locs1 (cells + mc) (slots + ms) Q (F0 m (pc + 3) ls (.float r :: rest))) : W p l e R s m args below meth c H locs cells slots Q (F0 m pc ls st0) := by
  intro T hT X
  rcases hr T hT X with ⟨v, st₀, t, T', L, h0, X', hL, e1, e2, ⟨⟨r, u, hv, hp, hb⟩, hF⟩, st⟩ | ⟨q, st₀, t, T', L, E, ce, h0, X', hL, e1, e2, ⟨u, hp, hb, hF⟩, hce, hcv, hcl, st⟩
  · cases hv
    obtain ⟨k1, k2, k3⟩ := vx_keep h0 e1 hS hA hf hL hF
    obtain ⟨t2, a1, b1⟩ := kk r u t T'.heap (locs ++ L) e1.symm (by rw [← e2]; exact X'.warmed.alike) hp hb k1 k2 k3 T' rfl X'
    exact ⟨t2, st t2 a1, b1⟩
  · obtain ⟨k1, k2, k3⟩ := vx_keep h0 e1 hS hAX hf hL hF
    obtain ⟨t2, a1, b1⟩ := kx E ce q u t T'.heap (locs ++ L) e1.symm (by rw [← e2]; exact X'.warmed.alike) hp hb k1 k2 k3 (by rw [e1]; exact hce) hcv hcl T' rfl X'
    exact ⟨t2, st.trans a1, b1⟩
theorem vx_calld {S SX : Type} {post : UInt64 → S → Prop} {px : SX → Prop} {B : S → State → Prop} {BX : String → SX → State → Prop} {AX : Nat → Prop} (hr : vx_Run p l e R s m args below meth c H locs cells slots mc ms (F0 m pc ls st0) rest (va_Qd post B A1 a) (vx_X px BX AX) free) (hS : va_S A0 H0 H locs) (hA : ∀ q, q < H.size → A1 q → A0 q) (hf : ∀ q, free q → A0 q) (hAX : ∀ q, q < H.size → AX q → A0 q)
    (kx : ∀ (E : String) (ce : Cell) (q9 : Addr) (u : SX) (t : State) (H1 : Heap) (locs1 : List Loc), t.heap = H1 → s.vm.Alike t.vm → px u → BX E u t → H.size ≤ H1.size → (∀ q : Nat, q < H.size → ¬ AX q → H1[q]? = H[q]?) → va_S A0 H0 H1 locs1 → H1[q9]? = some ce → ce.vm = .none → s.vm.findClass E = some ce.cls → vx_W p l e R s m args below meth c H1 locs1 (cells + mc) (slots + ms) Q (F0 m pc ls rest) q9)
    (kk : ∀ (r : UInt64) (u : S) (t : State) (H1 : Heap) (locs1 : List Loc), t.heap = H1 → s.vm.Alike t.vm → post r u → B u t → H.size ≤ H1.size → (∀ q : Nat, q < H.size → ¬ A1 q → H1[q]? = H[q]?) → va_S A0 H0 H1 locs1 → W p l e R s m args below meth c H1 locs1 (cells + mc) (slots + ms) Q (F0 m (pc + 3) ls (.double r :: rest))) : W p l e R s m args below meth c H locs cells slots Q (F0 m pc ls st0) := by
  intro T hT X
  rcases hr T hT X with ⟨v, st₀, t, T', L, h0, X', hL, e1, e2, ⟨⟨r, u, hv, hp, hb⟩, hF⟩, st⟩ | ⟨q, st₀, t, T', L, E, ce, h0, X', hL, e1, e2, ⟨u, hp, hb, hF⟩, hce, hcv, hcl, st⟩
  · cases hv
    obtain ⟨k1, k2, k3⟩ := vx_keep h0 e1 hS hA hf hL hF
    obtain ⟨t2, a1, b1⟩ := kk r u t T'.heap (locs ++ L) e1.symm (by rw [← e2]; exact X'.warmed.alike) hp hb k1 k2 k3 T' rfl X'
    exact ⟨t2, st t2 a1, b1⟩
  · obtain ⟨k1, k2, k3⟩ := vx_keep h0 e1 hS hAX hf hL hF
    obtain ⟨t2, a1, b1⟩ := kx E ce q u t T'.heap (locs ++ L) e1.symm (by rw [← e2]; exact X'.warmed.alike) hp hb k1 k2 k3 (by rw [e1]; exact hce) hcv hcl T' rfl X'
    exact ⟨t2, st.trans a1, b1⟩
theorem vx_callv {S SX : Type} {post : S → Prop} {px : SX → Prop} {B : S → State → Prop} {BX : String → SX → State → Prop} {AX : Nat → Prop} (hr : vx_Run p l e R s m args below meth c H locs cells slots mc ms (F0 m pc ls st0) rest (va_Qv post B A1 a) (vx_X px BX AX) free) (hS : va_S A0 H0 H locs) (hA : ∀ q, q < H.size → A1 q → A0 q) (hf : ∀ q, free q → A0 q) (hAX : ∀ q, q < H.size → AX q → A0 q)
    (kx : ∀ (E : String) (ce : Cell) (q9 : Addr) (u : SX) (t : State) (H1 : Heap) (locs1 : List Loc), t.heap = H1 → s.vm.Alike t.vm → px u → BX E u t → H.size ≤ H1.size → (∀ q : Nat, q < H.size → ¬ AX q → H1[q]? = H[q]?) → va_S A0 H0 H1 locs1 → H1[q9]? = some ce → ce.vm = .none → s.vm.findClass E = some ce.cls → vx_W p l e R s m args below meth c H1 locs1 (cells + mc) (slots + ms) Q (F0 m pc ls rest) q9)
    (kk : ∀ (u : S) (t : State) (H1 : Heap) (locs1 : List Loc), t.heap = H1 → s.vm.Alike t.vm → post u → B u t → H.size ≤ H1.size → (∀ q : Nat, q < H.size → ¬ A1 q → H1[q]? = H[q]?) → va_S A0 H0 H1 locs1 → W p l e R s m args below meth c H1 locs1 (cells + mc) (slots + ms) Q (F0 m (pc + 3) ls (rest))) : W p l e R s m args below meth c H locs cells slots Q (F0 m pc ls st0) := by
  intro T hT X
  rcases hr T hT X with ⟨v, st₀, t, T', L, h0, X', hL, e1, e2, ⟨⟨u, hv, hp, hb⟩, hF⟩, st⟩ | ⟨q, st₀, t, T', L, E, ce, h0, X', hL, e1, e2, ⟨u, hp, hb, hF⟩, hce, hcv, hcl, st⟩
  · cases hv
    obtain ⟨k1, k2, k3⟩ := vx_keep h0 e1 hS hA hf hL hF
    obtain ⟨t2, a1, b1⟩ := kk u t T'.heap (locs ++ L) e1.symm (by rw [← e2]; exact X'.warmed.alike) hp hb k1 k2 k3 T' rfl X'
    exact ⟨t2, st t2 a1, b1⟩
  · obtain ⟨k1, k2, k3⟩ := vx_keep h0 e1 hS hAX hf hL hF
    obtain ⟨t2, a1, b1⟩ := kx E ce q u t T'.heap (locs ++ L) e1.symm (by rw [← e2]; exact X'.warmed.alike) hp hb k1 k2 k3 (by rw [e1]; exact hce) hcv hcl T' rfl X'
    exact ⟨t2, st.trans a1, b1⟩
/-- caught by the row x of this method's table; the rows ahead don't take it -/
theorem vx_catch {own name : String} {E : String} {ce : Cell} {q : Addr} (hown : s.vm.findClass own = some m.cls) (pre : List ExceptionTableEntry) (x : ExceptionTableEntry) (suf : List ExceptionTableEntry) (hsplit : c.exceptionTable.toList = pre ++ x :: suf)
    (hpass : ∀ z ∈ pre, covers z pc = false ∨ (z.catchType ≠ 0 ∧ ∃ nm : String, (Cond.classLink own z.catchType nm).before args s = true ∧ va_Nc E nm s)) (hx : covers x pc = true) (h0 : x.catchType ≠ 0)
    (hlink : (Cond.classLink own x.catchType name).before args s = true) (hcast : (Cond.castable E name).before args s = true) (hcell : H[q]? = some ce) (hv : ce.vm = .none) (hcl : s.vm.findClass E = some ce.cls)
    (kk : W p l e R s m args below meth c H locs cells slots Q (F0 m x.handlerPc ls [.ref q])) : vx_W p l e R s m args below meth c H locs cells slots Q (F0 m pc ls rest) q := by
  intro T hT X
  have hpl : e.platform.magicAccessors = ({} : Platform).magicAccessors := by rw [X.admits.platform]
  obtain ⟨c3, c4, hc3, hc4, hasg⟩ := Cond.castable_spec hcast
  cases Option.some.inj (hc3.symm.trans hcl)
  obtain ⟨c5, hc5, hcl5⟩ := Cond.classLink_spec hown hlink e.platform hpl
  cases Option.some.inj (hc4.symm.trans hc5)
  obtain ⟨vm', X', st⟩ := X.thenCaughtThrough q (g := F0 m pc ls rest) rfl (Steps.refl _) (by rw [hT]; exact hcell) (by rw [hv]; rfl) (by obtain ⟨k9, h9, -⟩ := Vm.findClass_spec hcl; exact ⟨k9, h9⟩) pre x suf hsplit
    (fun z hz => by
      rcases hpass z hz with h | ⟨hz0, nm, hl1, hn1⟩
      · exact Or.inl h
      · obtain ⟨c6, hc6, hcl6⟩ := Cond.classLink_spec hown hl1 e.platform hpl
        obtain ⟨a8, b8, h1, h2, h3⟩ := hn1
        cases Option.some.inj (h1.symm.trans hcl)
        cases Option.some.inj (h2.symm.trans hc6)
        exact Or.inr ⟨hz0, _, hcl6, h3⟩) hx (Or.inr ⟨h0, c4, hcl5, hasg⟩)
  obtain ⟨t, a1, b1⟩ := kk (T.setVm vm') hT X'
  exact ⟨t, st.trans a1, b1⟩
end Rows
section Ends
variable {p : Program} {l : Launch} {e : Env} {R : Room} {s : State} {m : MethodId} {args : Array Value} {below : List Frame} {meth : Method} {c : Code} {H : Heap} {locs : List Loc} {cells slots : Nat} {Q : State → Prop}
variable {mc ms : Nat} {free : Addr → Prop} {A0 A1 : Nat → Prop} {H0 : Heap} {a : Array Value} {ls : Array Slot} {st0 rest : List Value}
variable {Qc : Array Value → State → Outcome → State → Prop} {XC : String → State → State → Prop}
/-- what a body that may throw owes at its end -/
def vx_MQ (below : List Frame) (Qc : Array Value → State → Outcome → State → Prop) (XC : String → State → State → Prop) (a : Array Value) (s : State) (mc ms : Nat) (free : Addr → Prop) : State → Prop := fun t =>
  ∃ o, t.status = .running ∧ Ended t below o ∧ vx_Q Qc XC mc ms free a s o t
theorem vx_ret {g : JFrame} {mc ms : Nat} (k : W p l e R s m args below meth c H locs cells slots (MQ below Qc args s mc ms free) g) : W p l e R s m args below meth c H locs cells slots (vx_MQ below Qc XC args s mc ms free) g := by
  intro T hT X
  obtain ⟨t, a1, o, b1, b2, b3, b4⟩ := k T hT X
  exact ⟨t, a1, o, b1, b2, Or.inl ⟨b3, b4⟩⟩
/-- not caught here: it goes on to the caller -/
theorem vx_widen {g : JFrame} {q : Addr} {k n : Nat} (h1 : cells ≤ k) (h2 : slots ≤ n) (kk : vx_W p l e R s m args below meth c H locs k n Q g q) : vx_W p l e R s m args below meth c H locs cells slots Q g q := fun T hT X => kk T hT (stand_widen X h1 h2)
theorem vx_out {pc : Nat} {E : String} {ce : Cell} {q : Addr} {mc ms : Nat} (hout : ∀ x ∈ c.exceptionTable.toList, covers x pc = false) (hlocks : meth.locks = false) (hcell : H[q]? = some ce) (hv : ce.vm = .none) (hcl : s.vm.findClass E = some ce.cls)
    (hx : ∀ t : State, t.heap = H → s.vm.Alike t.vm → XC E s t) (hf : ∀ z ∈ locs, free z.base) (hc : cells ≤ mc) (hs : slots ≤ ms) :
    vx_W p l e R s m args below meth c H locs cells slots (vx_MQ below Qc XC args s mc ms free) (F0 m pc ls rest) q := by
  intro T hT X
  obtain ⟨st1, hrun, hend, hW, hsm⟩ := X.leaveThrown q (g := F0 m pc ls rest) rfl rfl rfl hout hlocks
  have hcell9 : (T.setFrames (.throwing q :: below)).heap[q]? = some ce := by
    show T.heap[q]? = some ce
    rw [hT]; exact hcell
  exact ⟨_, st1, .threw q, hrun, hend, Or.inr ⟨q, rfl, E, ce, locs, hx _ hT hW.alike, hcell9, hv, hcl, hW, hsm.mono hc hs, hf⟩⟩
theorem vx_frame {U : State} {k n : Nat} (h : s.sameButNew ({ U with vm := s.vm } : State) locs k n) : s.heap.size ≤ U.heap.size ∧ ∀ q : Nat, q < s.heap.size → (∀ z ∈ locs, z.base ≠ q) → U.heap[q]? = s.heap[q]? := by
  obtain ⟨-, h2, -, -, -, h6⟩ := h
  refine ⟨h2, fun q hq hz => ?_⟩
  obtain ⟨c9, e1, e2, e3, e4⟩ := h6 q _ (Array.getElem?_eq_getElem hq)
  have hs : c9.slots = (s.heap[q]).slots := Array.ext_getElem? fun i => e4 i fun hm => hz _ hm rfl
  have h9 : c9 = s.heap[q] := by
    rw [hs] at e2
    exact e2
  have e5 : U.heap[q]? = some c9 := e1
  rw [e5, h9, Array.getElem?_eq_getElem hq]
/-- the words of a throw but the four that speak of the heap -/
def vx_no (w : Cond) : Bool := decide (w ≠ .isRef (.static Bundle.tN "UNASSIGNED_STACK" Bundle.steD)) && decide (w ≠ .isRef (.static Bundle.tN "SUPPRESSED_SENTINEL" Bundle.listD)) && decide (w ≠ .laysStatic Bundle.tN "UNASSIGNED_STACK" Bundle.steD) && decide (w ≠ .laysStatic Bundle.tN "SUPPRESSED_SENTINEL" Bundle.listD)
def vx_at0 (own : String) (ic : Nat) (X : String) (names : List String) : List Cond := (Bundle.ownAtoms0 own ic X names).filter vx_no
def vx_atS (own : String) (ic : Nat) (X : String) (names : List String) : List Cond := (Bundle.ownAtoms own ic X names).filter vx_no
/-- a word that the tables alone decide, or a good one -/
def vx_ot (w : Cond) : Bool := w.onTables || goodWord w
theorem vx_ot_at {args a' : Array Value} {s U : State} {w : Cond} (hW : s.WarmedH U.vm) (hvm : s.vm = U.vm) (hg : vx_ot w = true) (h : w.before args s = true) : w.before a' U = true := by
  simp only [vx_ot, Bool.or_eq_true] at hg
  rcases hg with hg | hg
  · exact va_tabs hg hvm h
  · exact word_at hW (good_of_word hg) h
/-- a list's words: the good ones out of the method's own list, the others by premises of their own -/
theorem vx_hat {args : Array Value} {s : State} {L B : List Cond} (h1 : ∀ w ∈ L.filter goodWord, w.before args s = true) (h2 : ∀ w ∈ L.filter (fun w => !goodWord w), w ∈ B) (h3 : ∀ w ∈ B, w.before args s = true) : ∀ w ∈ L, w.before args s = true := by
  intro w hw
  by_cases g : goodWord w = true
  · exact h1 w (List.mem_filter.mpr ⟨hw, g⟩)
  · refine h3 w (h2 w (List.mem_filter.mpr ⟨hw, ?_⟩))
    show (!goodWord w) = true
    cases hgw : goodWord w
    · rfl
    · exact absurd hgw g
theorem vx_c {args : Array Value} {s : State} {w : Cond} {B : List Cond} (h : w.before args s = true) (t : ∀ w ∈ B, w.before args s = true) : ∀ w' ∈ w :: B, w'.before args s = true := fun w' h' => (List.mem_cons.mp h').elim (fun e => by rw [e]; exact h) (t w')
theorem vx_n {args : Array Value} {s : State} : ∀ w ∈ ([] : List Cond), w.before args s = true := fun _ h => nomatch h
theorem vx_own {args : Array Value} {s : State} {L : List Cond} (h1 : ∀ w ∈ L.filter vx_no, w.before args s = true)
    (hU : (Cond.isRef (.static Bundle.tN "UNASSIGNED_STACK" Bundle.steD)).before args s = true) (hN : (Cond.isRef (.static Bundle.tN "SUPPRESSED_SENTINEL" Bundle.listD)).before args s = true)
    (lU : (Cond.laysStatic Bundle.tN "UNASSIGNED_STACK" Bundle.steD).before args s = true) (lN : (Cond.laysStatic Bundle.tN "SUPPRESSED_SENTINEL" Bundle.listD).before args s = true) : ∀ w ∈ L, w.before args s = true := by
  intro w hw
  by_cases e1 : w = .isRef (.static Bundle.tN "UNASSIGNED_STACK" Bundle.steD)
  · rw [e1]; exact hU
  · by_cases e2 : w = .isRef (.static Bundle.tN "SUPPRESSED_SENTINEL" Bundle.listD)
    · rw [e2]; exact hN
    · by_cases e3 : w = .laysStatic Bundle.tN "UNASSIGNED_STACK" Bundle.steD
      · rw [e3]; exact lU
      · by_cases e4 : w = .laysStatic Bundle.tN "SUPPRESSED_SENTINEL" Bundle.listD
        · rw [e4]; exact lN
        · exact h1 w (List.mem_filter.mpr ⟨hw, by unfold vx_no; rw [decide_eq_true e1, decide_eq_true e2, decide_eq_true e3, decide_eq_true e4]; rfl⟩)
/-- where a static field lies, its class's statics cell in H -/
def vx_L (C n d : String) (A : Nat → Prop) (U : State) (H : Heap) : Prop := ∃ (c : ClassId) (k : Class) (i : Nat) (f : Field) (a : Nat) (cell : Cell), U.vm.findClass C = some c ∧ U.fieldFound? C n d = some (c, k, i, f) ∧ f.isStatic = true ∧ k.statics = some a ∧ H[a]? = some cell ∧ cell.vm.isStatics = true ∧ cell.cls = c ∧ f.slot < cell.slots.size ∧ k.staticTypes[f.slot]? = some f.type ∧ ¬ A a
theorem vx_L.moved {C n d : String} {A : Nat → Prop} {u U : State} {H : Heap} (hvm : u.vm.Alike U.vm) (h : vx_L C n d A u H) : vx_L C n d A U H := by
  obtain ⟨c, k, i, f, a, cell, h1, h2, h3, h4, h5, h6, h7, h8, h9, h10⟩ := h
  obtain ⟨k', hi', he⟩ := State.fieldFound?_setVm hvm h2
  exact ⟨c, k', i, f, a, cell, by rw [hvm.findClass]; exact h1, hi', h3, by rw [he]; exact h4, h5, h6, h7, h8, by rw [he]; exact h9, h10⟩
theorem vx_L.kept {C n d : String} {A : Nat → Prop} {U : State} {H H1 : Heap} (h : vx_L C n d A U H) (hq : ∀ a : Nat, a < H.size → ¬ A a → H1[a]? = H[a]?) : vx_L C n d A U H1 := by
  obtain ⟨c, k, i, f, a, cell, h1, h2, h3, h4, h5, h6, h7, h8, h9, h10⟩ := h
  exact ⟨c, k, i, f, a, cell, h1, h2, h3, h4, by rw [hq a (Array.getElem?_eq_some_iff.mp h5).1 h10]; exact h5, h6, h7, h8, h9, h10⟩
theorem vx_L.narrow {C n d : String} {A B : Nat → Prop} {U : State} {H : Heap} (h : vx_L C n d A U H) (hAB : ∀ q, B q → A q) : vx_L C n d B U H := by
  obtain ⟨c, k, i, f, a, cell, h1, h2, h3, h4, h5, h6, h7, h8, h9, h10⟩ := h
  exact ⟨c, k, i, f, a, cell, h1, h2, h3, h4, h5, h6, h7, h8, h9, fun z => h10 (hAB _ z)⟩
theorem vx_L.word {C n d : String} {A : Nat → Prop} {s : State} {args : Array Value} (h : vx_L C n d A s s.heap) : (Cond.laysStatic C n d).before args s = true := by
  obtain ⟨c, k, i, f, a, cell, h1, h2, h3, h4, h5, h6, h7, h8, h9, -⟩ := h
  show (Cond.laysStatic C n d).holds args s none s [] = true
  exact Cond.laysStatic_of h1 h2 h3 h4 h5 h6 h7 h8 h9
/-- .. and what it holds: null or some reference -/
def vx_Zq (C n d : String) (A : Nat → Prop) (U : State) (H : Heap) : Prop := va_Zq C n d A U H ∧ vx_L C n d A U H
theorem vx_Zq.moved {C n d : String} {A : Nat → Prop} {u U : State} {H : Heap} (hvm : u.vm.Alike U.vm) (h : vx_Zq C n d A u H) : vx_Zq C n d A U H := ⟨va_Zq.moved hvm h.1, vx_L.moved hvm h.2⟩
theorem vx_Zq.kept {C n d : String} {A : Nat → Prop} {U : State} {H H1 : Heap} (h : vx_Zq C n d A U H) (hq : ∀ a : Nat, a < H.size → ¬ A a → H1[a]? = H[a]?) : vx_Zq C n d A U H1 := ⟨va_Zq.kept h.1 hq, vx_L.kept h.2 hq⟩
theorem vx_Zq.narrow {C n d : String} {A B : Nat → Prop} {U : State} {H : Heap} (h : vx_Zq C n d A U H) (hAB : ∀ q, B q → A q) : vx_Zq C n d B U H := ⟨va_Zq.narrow h.1 hAB, vx_L.narrow h.2 hAB⟩
theorem vx_Zqof {args : Array Value} {s : State} {C n d : String} {A : Nat → Prop} (hl : (Cond.laysStatic C n d).before args s = true) (hini : (Cond.initialized C).before args s = true) (h : (Cond.isRef (.static C n d)).before args s = true) (hA : ∀ a : Nat, a < s.heap.size → ¬ A a) : vx_Zq C n d A s s.heap := by
  refine ⟨va_Zqof hl hini h hA, ?_⟩
  obtain ⟨c, k, i, f, a, cell, h1, h2, h3, h4, h5, h6, h7, h8, h9⟩ := Cond.laysStatic_spec hl
  exact ⟨c, k, i, f, a, cell, h1, h2, h3, h4, h5, h6, h7, h8, h9, hA a (Array.getElem?_eq_some_iff.mp h5).1⟩
theorem vx_isRef {C n d : String} {v : Value} {A : Nat → Prop} {s : State} {args : Array Value} (h : va_Z C n d v A s s.heap) (hv : v.isRef = true) : (Cond.isRef (.static C n d)).before args s = true := by
  obtain ⟨cf, kf, fi, f, a, cell, h1, h2, h3, h4, h5, h6, h7, -⟩ := h
  have he : (Term.static C n d).eval args s none [] s = some v := by
    simp [Term.eval, State.fieldNamed?, h1, h2, h4, h5, h6, h7]
  simp only [Cond.before, Cond.holds, Cond.value, he]
  cases v <;> simp_all [Value.isRef]
theorem vx_isRefq {C n d : String} {A : Nat → Prop} {s : State} {args : Array Value} (h : va_Zq C n d A s s.heap) : (Cond.isRef (.static C n d)).before args s = true := by
  rcases h with h | ⟨t, h⟩
  · exact vx_isRef h rfl
  · exact vx_isRef h rfl
/-- the same frame, seen from here: as if the method were called anew in this heap -/
theorem vx_rebase {T : State} (X : Stand p l e R s m args below meth c T locs cells slots) {R' : Room} (hf : R'.frames ≤ R.frames) (hl : R'.locals ≤ R.locals) (hc : cells + R'.cells ≤ R.cells) (hs : slots + R'.slots ≤ R.slots) :
    Stand p l e R' ((T.setVm s.vm).setFrames (.invoking m args :: below)) m args below meth c T [] 0 0 := by
  have htop : (T.setVm s.vm).topJava?.isSome := X.here.top
  have hF : ((T.setVm s.vm).setFrames (.invoking m args :: below)).frames = .invoking m args :: below := State.frames_setFrames _ (State.cur_lt_of_top htop)
  obtain ⟨g₀, hg0⟩ := Option.isSome_iff_exists.mp htop
  obtain ⟨r, hr⟩ := State.topJava?_eq_some.mp hg0
  have hl9 : e.platform.stackLimits (T.setVm s.vm).me = e.platform.stackLimits s.me := X.limits
  have hb9 : (T.setVm s.vm).me.stackBytes = s.me.stackBytes := X.bytes
  refine ⟨X.admits, X.cas, X.clock, hF, ?_, X.hears, X.method, X.code, X.here, X.tail, X.warmed, ?_, ?_, ?_⟩
  · have h := X.room
    have hU : ((T.setVm s.vm).setFrames (.invoking m args :: below)).localsInUse = s.localsInUse := by
      rw [State.localsInUse_invoking hF (meth := meth) (c := c) X.method X.code, State.localsInUse_invoking X.frames X.method X.code]
    simp only [State.hasRoom, Bool.and_eq_true, decide_eq_true_eq] at h ⊢
    obtain ⟨⟨⟨⟨h1, h2, h3, h4, h5, h6⟩, h7⟩, h8⟩, h9⟩ := h
    rw [X.frames, List.length_cons] at h2 h3
    have q1 := X.heapSize
    have q2 := X.used
    simp only [hF, hU, List.length_cons, State.stackLimits_setFrames, State.stackBytes_setFrames, hl9, hb9]
    refine ⟨⟨⟨⟨by omega, by omega, by omega, by omega, by omega, h6⟩, ?_⟩, ?_⟩, X.book⟩
    · show T.heap.size + R'.cells ≤ e.platform.maxCells
      omega
    · show T.slotsUsed + R'.slots ≤ e.platform.maxSlots
      omega
  · rw [State.stackLimits_setFrames]; rfl
  · rw [State.stackBytes_setFrames]; rfl
  · refine ⟨?_, Nat.le_refl _, Nat.le_refl _, ?_, ?_, fun a c9 h9 => ⟨c9, h9, rfl, rfl, fun _ _ => rfl⟩⟩
    · obtain ⟨t, ht, -⟩ := State.frames_cons hr
      show T.setVm s.vm = { ((T.setVm s.vm).setFrames (.invoking m args :: below)).setFrames (T.setVm s.vm).frames with heap := T.heap, slotsUsed := T.slotsUsed }
      rw [State.setFrames_setFrames, State.setFrames_self ht]
      rfl
    · show T.slotsUsed = T.slotsUsed + ((T.heap.toList.drop T.heap.size).map (·.slots.size)).sum
      rw [List.drop_eq_nil_of_le (Nat.le_of_eq Array.length_toList)]
      rfl
    · show ((T.heap.toList.drop T.heap.size).map (·.slots.size)).sum ≤ 0
      rw [List.drop_eq_nil_of_le (Nat.le_of_eq Array.length_toList)]
      exact Nat.le_refl _
/-- 'throw new E()': new; dup; invokespecial; athrow -/
theorem vx_throw0 {cc : ByteArray} {pc : Nat} (hexec : p.tables.exec = Jvm.exec) (hb : c.code = cc) (hl : l.stackTraces = false) {own cls : String} {names : List String} {ik ic mc ms : Nat} {A : Nat → Prop}
    (hown : s.vm.findClass own = some m.cls) (hcls : Bundle.fit cls = true) (hnames : ∀ n ∈ names, Bundle.fit n = true)
    (hk : (Cond.classLink own ik cls).before args s = true) (hini : (Cond.initialized cls).before args s = true) (hat : ∀ w ∈ vx_at0 own ic cls names, w.before args s = true)
    (hgood : ∀ w ∈ Cond.classLink own ik cls :: Cond.initialized cls :: vx_at0 own ic cls names, vx_ot w = true)
    (hU : vx_Zq Bundle.tN "UNASSIGNED_STACK" Bundle.steD A s s.heap) (hN : vx_Zq Bundle.tN "SUPPRESSED_SENTINEL" Bundle.listD A s s.heap) (hS : va_S A s.heap H locs) (hsize : ls.size = c.maxLocals)
    (d0 : decode cc pc = .ok (.new ik, 3)) (d3 : decode cc (pc + 3) = .ok (.dup, 1)) (d4 : decode cc (pc + 4) = .ok (.invokespecial ic, 3)) (d7 : decode cc (pc + 7) = .ok (.athrow, 1))
    (hout : ∀ x ∈ c.exceptionTable.toList, covers x (pc + 7) = false)
    (hRframes : names.length + 3 < R.frames) (hRlocals : (rest.map fun v => v.category).sum + (13 * (names.length + 1) + 42) ≤ R.locals) (hRcells : cells + 1 ≤ R.cells) (hRslots : slots + 6 ≤ R.slots) (hlocks : meth.locks = false)
    (hx : ∀ t : State, s.vm.Alike t.vm → H.size ≤ t.heap.size → (∀ q : Nat, q < H.size → t.heap[q]? = H[q]?) → XC cls s t)
    (hf : ∀ z ∈ locs, free z.base) (hc : cells + 1 ≤ mc) (hs : slots + 6 ≤ ms) :
    W p l e R s m args below meth c H locs cells slots (vx_MQ below Qc XC args s mc ms free) (F0 m pc ls rest) := by
  intro T hT X
  have htr : e.platform.stackTraces = false := (show e.platform.stackTraces = l.stackTraces by rw [X.admits.platform]).trans hl
  have Y := vx_rebase X (R' := { frames := R.frames, locals := R.locals, cells := 1, slots := 6 }) (Nat.le_refl _) (Nat.le_refl _) hRcells hRslots
  obtain ⟨s', hA⟩ : ∃ z, z = (T.setVm s.vm).setFrames (.invoking m args :: below) := ⟨_, rfl⟩
  rw [← hA] at Y
  have hvm : s'.vm = s.vm := by rw [hA]; rfl
  have hhp : s'.heap = H := by rw [hA]; exact hT
  have hW0 : s.WarmedH s'.vm := by rw [hvm]; exact State.WarmedH.refl s
  have hat' : ∀ w ∈ vx_at0 own ic cls names, w.before args s' = true := fun w hw => vx_ot_at hW0 hvm.symm (hgood w (List.mem_cons_of_mem _ (List.mem_cons_of_mem _ hw))) (hat w hw)
  have hk' : (Cond.classLink own ik cls).before args s' = true := vx_ot_at hW0 hvm.symm (hgood _ List.mem_cons_self) hk
  have hini' : (Cond.initialized cls).before args s' = true := vx_ot_at hW0 hvm.symm (hgood _ (List.mem_cons_of_mem _ List.mem_cons_self)) hini
  have hU' : vx_Zq Bundle.tN "UNASSIGNED_STACK" Bundle.steD A s' s'.heap := by rw [hhp]; exact vx_Zq.moved hW0.alike (hU.kept hS.2.1)
  have hN' : vx_Zq Bundle.tN "SUPPRESSED_SENTINEL" Bundle.listD A s' s'.heap := by rw [hhp]; exact vx_Zq.moved hW0.alike (hN.kept hS.2.1)
  have h : ∀ w ∈ Bundle.ownAtoms0 own ic cls names, w.before args s' = true := vx_own hat' (vx_isRefq hU'.1) (vx_isRefq hN'.1) hU'.2.word hN'.2.word
  have hown' : s'.vm.findClass own = some m.cls := by rw [hvm]; exact hown
  have hins : (Cond.instantiable cls 6).before args s' = true := h _ (by simp [Bundle.ownAtoms0])
  obtain ⟨vm₁, cX, kX, hfX, hkX, -, -, X₁, st1⟩ := Y.newCold hexec (own := own) (C := cls) (index := ik) (n := 6) hown' hk' hins hini'
    (g := F0 m pc ls rest) rfl (by rw [hb]; exact d0) (Nat.le_refl _) (Nat.le_refl _)
  generalize hT1 : (T.setVm vm₁).pushCell { cls := cX, slots := kX.instanceTypes.map defaultValue, vm := .none } = T1 at X₁ st1
  have hcat : (Value.ref T.heap.size).category = 1 := rfl
  have hcellA : T1.heap[T.heap.size]? = some (freshCell cX kX) := by rw [← hT1]; exact State.heap_pushCell_size _ _
  have d3' : decode c.code (pc + 3) = .ok (.dup, 1) := by rw [hb]; exact d3
  obtain ⟨U, hsteps, hrun, hend, hW, hsame, ce, hce, hO⟩ := X₁.ctorThrow0 hexec htr (own := own) (cls := cls) (names := names) (ic := ic) hown' hcls hnames h (fun x hx => nomatch hx) hfX hkX hcellA (by rw [hhp, hT]; exact Nat.le_refl _)
    (g := { method := m, pc := pc + 4, locals := ls, stack := .ref T.heap.size :: .ref T.heap.size :: rest, locked := none }) rfl hsize rfl rfl (rest := rest) rfl
    (by rw [hb]; exact d4) (by rw [hb]; exact d7) hout hRframes (by simp only [List.map_cons, List.sum_cons, hcat]; omega) hlocks
  obtain ⟨f1, f2⟩ := vx_frame hsame
  rw [hhp] at f1 f2
  have hWs : s.WarmedH U.vm := State.WarmedH.trans hW0 hW
  have hcl : s.vm.findClass cls = some ce.cls := by
    have h9 := hO.cls
    rw [hvm] at h9
    exact h9
  have hall : s.sameButNew ({ U with vm := s.vm } : State) locs mc ms := by
    subst hA
    obtain ⟨e1, e2⟩ := hsame
    rw [State.setFrames_setFrames] at e1
    have h2 : (T.setVm s.vm).sameButNew ({ U with vm := s.vm } : State) [] (0 + 1) (0 + 6) := ⟨e1, e2⟩
    have h3 := X.same.trans h2
    rw [List.append_nil] at h3
    exact h3.mono hc hs
  refine ⟨U, ?_, .threw T.heap.size, hrun, hend, Or.inr ⟨T.heap.size, rfl, cls, ce, locs, hx U hWs.alike f1 (fun q hq => f2 q hq (fun z hz => nomatch hz)), hce, hO.vm, hcl, hWs, hall, hf⟩⟩
  refine st1 _ ?_
  show Steps p.tables e below (T1.setTop { method := m, pc := pc + 3, locals := ls, stack := .ref T.heap.size :: rest, locked := none }) _
  jvm_step X₁.here [X₁.here.top, hexec, d3', Value.category]
  exact hsteps
/-- 'throw new E("text")': new; dup; ldc; invokespecial; athrow -/
theorem vx_throwS {cc : ByteArray} {pc : Nat} (hexec : p.tables.exec = Jvm.exec) (hb : c.code = cc) (hl : l.stackTraces = false) {own cls text : String} {names : List String} {ik is ic mc ms sa : Nat} {A : Nat → Prop}
    (hown : s.vm.findClass own = some m.cls) (hcls : Bundle.fit cls = true) (hnames : ∀ n ∈ names, Bundle.fit n = true)
    (hk : (Cond.classLink own ik cls).before args s = true) (hini : (Cond.initialized cls).before args s = true) (hstr : vk_R own is text sa s) (hat : ∀ w ∈ vx_atS own ic cls names, w.before args s = true)
    (hgood : ∀ w ∈ Cond.classLink own ik cls :: Cond.initialized cls :: vx_atS own ic cls names, vx_ot w = true)
    (hU : vx_Zq Bundle.tN "UNASSIGNED_STACK" Bundle.steD A s s.heap) (hN : vx_Zq Bundle.tN "SUPPRESSED_SENTINEL" Bundle.listD A s s.heap) (hS : va_S A s.heap H locs) (hsize : ls.size = c.maxLocals)
    (d0 : decode cc pc = .ok (.new ik, 3)) (d3 : decode cc (pc + 3) = .ok (.dup, 1)) (d4 : decode cc (pc + 4) = .ok (.ldc is, 2)) (d6 : decode cc (pc + 6) = .ok (.invokespecial ic, 3)) (d9 : decode cc (pc + 9) = .ok (.athrow, 1))
    (hout : ∀ x ∈ c.exceptionTable.toList, covers x (pc + 9) = false)
    (hRframes : names.length + 3 < R.frames) (hRlocals : (rest.map fun v => v.category).sum + (13 * (names.length + 1) + 43) ≤ R.locals) (hRcells : cells + 1 ≤ R.cells) (hRslots : slots + 6 ≤ R.slots) (hlocks : meth.locks = false)
    (hx : ∀ t : State, s.vm.Alike t.vm → H.size ≤ t.heap.size → (∀ q : Nat, q < H.size → t.heap[q]? = H[q]?) → XC cls s t)
    (hf : ∀ z ∈ locs, free z.base) (hc : cells + 1 ≤ mc) (hs : slots + 6 ≤ ms) :
    W p l e R s m args below meth c H locs cells slots (vx_MQ below Qc XC args s mc ms free) (F0 m pc ls rest) := by
  intro T hT X
  have htr : e.platform.stackTraces = false := (show e.platform.stackTraces = l.stackTraces by rw [X.admits.platform]).trans hl
  have Y := vx_rebase X (R' := { frames := R.frames, locals := R.locals, cells := 1, slots := 6 }) (Nat.le_refl _) (Nat.le_refl _) hRcells hRslots
  obtain ⟨s', hA⟩ : ∃ z, z = (T.setVm s.vm).setFrames (.invoking m args :: below) := ⟨_, rfl⟩
  rw [← hA] at Y
  have hvm : s'.vm = s.vm := by rw [hA]; rfl
  have hhp : s'.heap = H := by rw [hA]; exact hT
  have hW0 : s.WarmedH s'.vm := by rw [hvm]; exact State.WarmedH.refl s
  have hat' : ∀ w ∈ vx_atS own ic cls names, w.before args s' = true := fun w hw => vx_ot_at hW0 hvm.symm (hgood w (List.mem_cons_of_mem _ (List.mem_cons_of_mem _ hw))) (hat w hw)
  have hk' : (Cond.classLink own ik cls).before args s' = true := vx_ot_at hW0 hvm.symm (hgood _ List.mem_cons_self) hk
  have hini' : (Cond.initialized cls).before args s' = true := vx_ot_at hW0 hvm.symm (hgood _ (List.mem_cons_of_mem _ List.mem_cons_self)) hini
  have hU' : vx_Zq Bundle.tN "UNASSIGNED_STACK" Bundle.steD A s' s'.heap := by rw [hhp]; exact vx_Zq.moved hW0.alike (hU.kept hS.2.1)
  have hN' : vx_Zq Bundle.tN "SUPPRESSED_SENTINEL" Bundle.listD A s' s'.heap := by rw [hhp]; exact vx_Zq.moved hW0.alike (hN.kept hS.2.1)
  have h : ∀ w ∈ Bundle.ownAtoms own ic cls names, w.before args s' = true := vx_own hat' (vx_isRefq hU'.1) (vx_isRefq hN'.1) hU'.2.word hN'.2.word
  have hown' : s'.vm.findClass own = some m.cls := by rw [hvm]; exact hown
  have hins : (Cond.instantiable cls 6).before args s' = true := h _ (by simp [Bundle.ownAtoms])
  obtain ⟨vm₁, cX, kX, hfX, hkX, -, -, X₁, st1⟩ := Y.newCold hexec (own := own) (C := cls) (index := ik) (n := 6) hown' hk' hins hini'
    (g := F0 m pc ls rest) rfl (by rw [hb]; exact d0) (Nat.le_refl _) (Nat.le_refl _)
  generalize hT1 : (T.setVm vm₁).pushCell { cls := cX, slots := kX.instanceTypes.map defaultValue, vm := .none } = T1 at X₁ st1
  have hcat : (Value.ref T.heap.size).category = 1 := rfl
  have hcellA : T1.heap[T.heap.size]? = some (freshCell cX kX) := by rw [← hT1]; exact State.heap_pushCell_size _ _
  have d3' : decode c.code (pc + 3) = .ok (.dup, 1) := by rw [hb]; exact d3
  have d4' : decode c.code (pc + 4) = .ok (.ldc is, 2) := by rw [hb]; exact d4
  have hstr' : vk_R own is text sa s' := vk_R.warm hW0 hstr
  obtain ⟨U, hsteps, hrun, hend, hW, hsame, ce, hce, hO⟩ := X₁.ctorThrowS hexec htr (own := own) (cls := cls) (names := names) (ic := ic) hown' hcls hnames h (fun x hx => nomatch hx) hfX hkX hcellA (by rw [hhp, hT]; exact Nat.le_refl _) (msg := .ref sa) rfl
    (g := { method := m, pc := pc + 6, locals := ls, stack := .ref sa :: .ref T.heap.size :: .ref T.heap.size :: rest, locked := none }) rfl hsize rfl rfl (rest := rest) rfl
    (by rw [hb]; exact d6) (by rw [hb]; exact d9) hout hRframes (by simp only [List.map_cons, List.sum_cons, hcat]; omega) hlocks
  obtain ⟨f1, f2⟩ := vx_frame hsame
  rw [hhp] at f1 f2
  have hWs : s.WarmedH U.vm := State.WarmedH.trans hW0 hW
  have hcl : s.vm.findClass cls = some ce.cls := by
    have h9 := hO.cls
    rw [hvm] at h9
    exact h9
  have hall : s.sameButNew ({ U with vm := s.vm } : State) locs mc ms := by
    subst hA
    obtain ⟨e1, e2⟩ := hsame
    rw [State.setFrames_setFrames] at e1
    have h2 : (T.setVm s.vm).sameButNew ({ U with vm := s.vm } : State) [] (0 + 1) (0 + 6) := ⟨e1, e2⟩
    have h3 := X.same.trans h2
    rw [List.append_nil] at h3
    exact h3.mono hc hs
  refine ⟨U, ?_, .threw T.heap.size, hrun, hend, Or.inr ⟨T.heap.size, rfl, cls, ce, locs, hx U hWs.alike f1 (fun q hq => f2 q hq (fun z hz => nomatch hz)), hce, hO.vm, hcl, hWs, hall, hf⟩⟩
  refine st1 _ ?_
  show Steps p.tables e below (T1.setTop { method := m, pc := pc + 3, locals := ls, stack := .ref T.heap.size :: rest, locked := none }) _
  jvm_step X₁.here [X₁.here.top, hexec, d3', Value.category]
  exact X₁.ldcString hexec (own := own) (text := text) (index := is) (a := sa) hown' hstr'.1 hstr'.2
    (g := { method := m, pc := pc + 4, locals := ls, stack := .ref T.heap.size :: .ref T.heap.size :: rest, locked := none }) rfl d4' _ hsteps
/-- 'throw new E("text")', the text by a wide index -/
theorem vx_throwSW {cc : ByteArray} {pc : Nat} (hexec : p.tables.exec = Jvm.exec) (hb : c.code = cc) (hl : l.stackTraces = false) {own cls text : String} {names : List String} {ik is ic mc ms sa : Nat} {A : Nat → Prop}
    (hown : s.vm.findClass own = some m.cls) (hcls : Bundle.fit cls = true) (hnames : ∀ n ∈ names, Bundle.fit n = true)
    (hk : (Cond.classLink own ik cls).before args s = true) (hini : (Cond.initialized cls).before args s = true) (hstr : vk_R own is text sa s) (hat : ∀ w ∈ vx_atS own ic cls names, w.before args s = true)
    (hgood : ∀ w ∈ Cond.classLink own ik cls :: Cond.initialized cls :: vx_atS own ic cls names, vx_ot w = true)
    (hU : vx_Zq Bundle.tN "UNASSIGNED_STACK" Bundle.steD A s s.heap) (hN : vx_Zq Bundle.tN "SUPPRESSED_SENTINEL" Bundle.listD A s s.heap) (hS : va_S A s.heap H locs) (hsize : ls.size = c.maxLocals)
    (d0 : decode cc pc = .ok (.new ik, 3)) (d3 : decode cc (pc + 3) = .ok (.dup, 1)) (d4 : decode cc (pc + 4) = .ok (.ldc_w is, 3)) (d7 : decode cc (pc + 7) = .ok (.invokespecial ic, 3)) (d10 : decode cc (pc + 10) = .ok (.athrow, 1))
    (hout : ∀ x ∈ c.exceptionTable.toList, covers x (pc + 10) = false)
    (hRframes : names.length + 3 < R.frames) (hRlocals : (rest.map fun v => v.category).sum + (13 * (names.length + 1) + 43) ≤ R.locals) (hRcells : cells + 1 ≤ R.cells) (hRslots : slots + 6 ≤ R.slots) (hlocks : meth.locks = false)
    (hx : ∀ t : State, s.vm.Alike t.vm → H.size ≤ t.heap.size → (∀ q : Nat, q < H.size → t.heap[q]? = H[q]?) → XC cls s t)
    (hf : ∀ z ∈ locs, free z.base) (hc : cells + 1 ≤ mc) (hs : slots + 6 ≤ ms) :
    W p l e R s m args below meth c H locs cells slots (vx_MQ below Qc XC args s mc ms free) (F0 m pc ls rest) := by
  intro T hT X
  have htr : e.platform.stackTraces = false := (show e.platform.stackTraces = l.stackTraces by rw [X.admits.platform]).trans hl
  have Y := vx_rebase X (R' := { frames := R.frames, locals := R.locals, cells := 1, slots := 6 }) (Nat.le_refl _) (Nat.le_refl _) hRcells hRslots
  obtain ⟨s', hA⟩ : ∃ z, z = (T.setVm s.vm).setFrames (.invoking m args :: below) := ⟨_, rfl⟩
  rw [← hA] at Y
  have hvm : s'.vm = s.vm := by rw [hA]; rfl
  have hhp : s'.heap = H := by rw [hA]; exact hT
  have hW0 : s.WarmedH s'.vm := by rw [hvm]; exact State.WarmedH.refl s
  have hat' : ∀ w ∈ vx_atS own ic cls names, w.before args s' = true := fun w hw => vx_ot_at hW0 hvm.symm (hgood w (List.mem_cons_of_mem _ (List.mem_cons_of_mem _ hw))) (hat w hw)
  have hk' : (Cond.classLink own ik cls).before args s' = true := vx_ot_at hW0 hvm.symm (hgood _ List.mem_cons_self) hk
  have hini' : (Cond.initialized cls).before args s' = true := vx_ot_at hW0 hvm.symm (hgood _ (List.mem_cons_of_mem _ List.mem_cons_self)) hini
  have hU' : vx_Zq Bundle.tN "UNASSIGNED_STACK" Bundle.steD A s' s'.heap := by rw [hhp]; exact vx_Zq.moved hW0.alike (hU.kept hS.2.1)
  have hN' : vx_Zq Bundle.tN "SUPPRESSED_SENTINEL" Bundle.listD A s' s'.heap := by rw [hhp]; exact vx_Zq.moved hW0.alike (hN.kept hS.2.1)
  have h : ∀ w ∈ Bundle.ownAtoms own ic cls names, w.before args s' = true := vx_own hat' (vx_isRefq hU'.1) (vx_isRefq hN'.1) hU'.2.word hN'.2.word
  have hown' : s'.vm.findClass own = some m.cls := by rw [hvm]; exact hown
  have hins : (Cond.instantiable cls 6).before args s' = true := h _ (by simp [Bundle.ownAtoms])
  obtain ⟨vm₁, cX, kX, hfX, hkX, -, -, X₁, st1⟩ := Y.newCold hexec (own := own) (C := cls) (index := ik) (n := 6) hown' hk' hins hini'
    (g := F0 m pc ls rest) rfl (by rw [hb]; exact d0) (Nat.le_refl _) (Nat.le_refl _)
  generalize hT1 : (T.setVm vm₁).pushCell { cls := cX, slots := kX.instanceTypes.map defaultValue, vm := .none } = T1 at X₁ st1
  have hcat : (Value.ref T.heap.size).category = 1 := rfl
  have hcellA : T1.heap[T.heap.size]? = some (freshCell cX kX) := by rw [← hT1]; exact State.heap_pushCell_size _ _
  have d3' : decode c.code (pc + 3) = .ok (.dup, 1) := by rw [hb]; exact d3
  have d4' : decode c.code (pc + 4) = .ok (.ldc_w is, 3) := by rw [hb]; exact d4
  have hstr' : vk_R own is text sa s' := vk_R.warm hW0 hstr
  obtain ⟨U, hsteps, hrun, hend, hW, hsame, ce, hce, hO⟩ := X₁.ctorThrowS hexec htr (own := own) (cls := cls) (names := names) (ic := ic) hown' hcls hnames h (fun x hx => nomatch hx) hfX hkX hcellA (by rw [hhp, hT]; exact Nat.le_refl _) (msg := .ref sa) rfl
    (g := { method := m, pc := pc + 7, locals := ls, stack := .ref sa :: .ref T.heap.size :: .ref T.heap.size :: rest, locked := none }) rfl hsize rfl rfl (rest := rest) rfl
    (by rw [hb]; exact d7) (by rw [hb]; exact d10) hout hRframes (by simp only [List.map_cons, List.sum_cons, hcat]; omega) hlocks
  obtain ⟨f1, f2⟩ := vx_frame hsame
  rw [hhp] at f1 f2
  have hWs : s.WarmedH U.vm := State.WarmedH.trans hW0 hW
  have hcl : s.vm.findClass cls = some ce.cls := by
    have h9 := hO.cls
    rw [hvm] at h9
    exact h9
  have hall : s.sameButNew ({ U with vm := s.vm } : State) locs mc ms := by
    subst hA
    obtain ⟨e1, e2⟩ := hsame
    rw [State.setFrames_setFrames] at e1
    have h2 : (T.setVm s.vm).sameButNew ({ U with vm := s.vm } : State) [] (0 + 1) (0 + 6) := ⟨e1, e2⟩
    have h3 := X.same.trans h2
    rw [List.append_nil] at h3
    exact h3.mono hc hs
  refine ⟨U, ?_, .threw T.heap.size, hrun, hend, Or.inr ⟨T.heap.size, rfl, cls, ce, locs, hx U hWs.alike f1 (fun q hq => f2 q hq (fun z hz => nomatch hz)), hce, hO.vm, hcl, hWs, hall, hf⟩⟩
  refine st1 _ ?_
  show Steps p.tables e below (T1.setTop { method := m, pc := pc + 3, locals := ls, stack := .ref T.heap.size :: rest, locked := none }) _
  jvm_step X₁.here [X₁.here.top, hexec, d3', Value.category]
  exact X₁.ldcStringW hexec (own := own) (text := text) (index := is) (a := sa) hown' hstr'.1 hstr'.2
    (g := { method := m, pc := pc + 4, locals := ls, stack := .ref T.heap.size :: .ref T.heap.size :: rest, locked := none }) rfl d4' _ hsteps
end Ends
section Bodies
variable {l : Launch}
theorem vx_ofW {y : MethodName} {ws ws' : List Cond} {rm : Room} {Pc : Array Value → State → Prop} {Qc : Array Value → State → Outcome → State → Prop} {XC : String → State → State → Prop} {mc ms : Nat} {free : Addr → Prop} {cc : ByteArray} {maxL : Nat} {ret : Option FieldType}
    (hy : plainName y.cls = true) (hw : ws = Cond.code y cc maxL ret :: ws')
    (body : ∀ p e s m args below meth c s₁, BodyLoose p l y (headSpec ws rm) cc maxL ret e s m args below meth c s₁ → c.maxLocals = maxL → (∀ x ∈ c.exceptionTable.toList, False) → Pc args s →
      W p l e (headSpec ws rm).room s m args below meth c s.heap [] 0 0 (vx_MQ below Qc XC args s mc ms free) (entryFrame m args maxL)) : vx_Met l y ws rm Pc Qc XC mc ms free := by
  refine MetFree.of_bodyS (code := cc) (maxLocals := maxL) (ret := ret) hy ?_ ?_
  · intro args s m h hn
    obtain ⟨meth, c, h1, h2, h3, h4, h5, h6, -, -⟩ := Cond.code_spec hn (atoms_spec (ws := ws) h _ (by rw [hw]; exact List.mem_cons_self))
    exact ⟨meth, c, h1, h2, h3, h4, h5, h6⟩
  · intro p e s m args below meth c s₁ B hml hP _
    have hh0 : s₁.heap = s.heap := by rw [B.state]; rfl
    have ht : ∀ x ∈ c.exceptionTable.toList, False := by
      obtain ⟨meth9, c9, h1, h2, -, -, -, -, h7, -⟩ := Cond.code_spec B.named (atoms_spec (ws := ws) B.pre _ (by rw [hw]; exact List.mem_cons_self))
      cases Option.some.inj (h1.symm.trans B.method)
      cases Option.some.inj (h2.symm.trans (Stand.of_body B).code)
      intro x hx
      rw [Array.isEmpty_iff.mp h7] at hx
      cases hx
    obtain ⟨t, a1, o, b1, b2, b3⟩ := body p e s m args below meth c s₁ B hml ht hP s₁ hh0 (Stand.of_body B)
    exact ⟨t, o, a1, b1, b2, b3⟩
/-- the table of a body with handlers -/
theorem vx_table {p : Program} {x y : MethodName} {S : Spec} {cc bytes : ByteArray} {maxL maxL' : Nat} {ret ret' : Option FieldType} {e : Env} {s s₁ : State} {m : MethodId} {args : Array Value} {below : List Frame} {meth : Method} {c : Code} {hh : List (Nat × Nat × Nat × Nat)}
    (B : BodyLoose p l y S cc maxL ret e s m args below meth c s₁) (h : (Cond.codeWith y bytes maxL' ret' hh).before args s = true) : c.exceptionTable.toList = tableOf hh := by
  obtain ⟨m9, meth9, c9, hn9, h1, h2, -, -, h6, -⟩ := Cond.codeWith_spec h
  cases Option.some.inj (hn9.symm.trans B.named)
  cases Option.some.inj (h1.symm.trans B.method)
  cases Option.some.inj (h2.symm.trans (Stand.of_body B).code)
  rw [← h6, table_eq]
end Bodies
end VXA
/-! ===== END ===== -/
/-! ===== BEGIN a static call of a method with an exception table ===== -/
section VXS
variable {p : Program} {l : Launch} {e : Env} {R : Room} {s : State} {m : MethodId} {args : Array Value} {below : List Frame} {meth : Method} {c : Code} {T : State} {H : Heap} {locs : List Loc} {cells slots : Nat}
abbrev vx_CSW (R : Room) (s : State) (args : Array Value) (own : String) (index : Nat) (y : MethodName) (bytes : ByteArray) (maxL : Nat) (ret : Option FieldType) (hh : List (Nat × Nat × Nat × Nat)) (ws : List Cond) (rm : Room) (mc ms n : Nat) : Prop :=
  (rm.cells = mc ∧ rm.slots = ms ∧ rm.frames + 1 ≤ R.frames ∧ 8 + (maxL + 11) + rm.locals ≤ R.locals ∧ (∀ w ∈ ws, ∀ (a' : Array Value) (U : State), s.WarmedH U.vm → w.before a' U = true) ∧ Cond.codeWith y bytes maxL ret hh ∈ ws) ∧
  (Cond.codeWith y bytes maxL ret hh).before args s = true ∧ (Cond.initialized y.cls).before args s = true ∧ (y.cls ≠ "java/lang/invoke/MethodHandle" ∧ y.cls ≠ "java/lang/invoke/VarHandle") ∧
  (∀ sig, parseMethodDescriptor y.desc = some sig → n = sig.parameters.length) ∧ (Cond.methodLink own index y).before args s = true ∧ (Cond.static y).before args s = true
theorem vx_cwSW {own : String} {index maxL mc ms : Nat} {y : MethodName} {bytes : ByteArray} {ret : Option FieldType} {hh : List (Nat × Nat × Nat × Nat)} {Ts ws ws' : List Cond} {rm : Room} (n : Nat) (ht : ∀ w ∈ Ts, w.before args s = true) (hT : GoodIn Ts (va_wsS own index y ws)) (hw : ws = Cond.codeWith y bytes maxL ret hh :: ws') (hrc : rm.cells = mc) (hrs : rm.slots = ms)
    (hd : y.cls ≠ "java/lang/invoke/MethodHandle" ∧ y.cls ≠ "java/lang/invoke/VarHandle" ∧ (parseMethodDescriptor y.desc).map (fun d => d.parameters.length) = some n) (hR : rm.frames + 1 ≤ R.frames ∧ 8 + (maxL + 11) + rm.locals ≤ R.locals) :
    vx_CSW R s args own index y bytes maxL ret hh ws rm mc ms n := by
  have ok : ∀ w ∈ va_wsS own index y ws, w.before args s = true := fun w h => ht w (hT w h).1
  have hG : GoodIn Ts ws := fun w h => hT w (by unfold va_wsS; exact List.mem_append_right _ h)
  have hc : Cond.codeWith y bytes maxL ret hh ∈ ws := by rw [hw]; exact List.mem_cons_self
  refine ⟨⟨hrc, hrs, hR.1, hR.2, pay_in ht hG, hc⟩, ht _ (hG _ hc).1, ok _ (by simp [va_wsS]), ⟨hd.1, hd.2.1⟩, fun sig h => ?_, ok _ (by simp [va_wsS]), ok _ (by simp [va_wsS])⟩
  have h2 := hd.2.2
  rw [h] at h2
  exact (Option.some.inj h2).symm
theorem vx_callSW (X : Stand p l e R s m args below meth c T locs cells slots) (hexec : p.tables.exec = Jvm.exec) {own : String} {index : Nat} {y : MethodName} {bytes : ByteArray} {maxL : Nat} {ret : Option FieldType} {hh : List (Nat × Nat × Nat × Nat)}
    (hown : s.vm.findClass own = some m.cls) (hlink : (Cond.methodLink own index y).before args s = true) (hstat : (Cond.static y).before args s = true) (hinit : (Cond.initialized y.cls).before args s = true)
    (hcode : (Cond.codeWith y bytes maxL ret hh).before args s = true) (hy : y.cls ≠ "java/lang/invoke/MethodHandle" ∧ y.cls ≠ "java/lang/invoke/VarHandle")
    {W9 : Nat} {Pre : Pt → Array Value → Prop} {Post : Pt → Array Value → Option Value → Pt → Prop} (hK : Back l R p e below s args y 3 W9 Pre Post)
    {g : JFrame} (hg : g.method = m) (hsize : g.locals.size = c.maxLocals) {argsL rest : List Value} (hlen : ∀ sig, parseMethodDescriptor y.desc = some sig → argsL.length = sig.parameters.length)
    (hstack : g.stack = argsL.reverse ++ rest) (hW : 2 * g.monitorRoom + (rest.map fun v => v.category).sum ≤ W9) (hdg : decode c.code g.pc = .ok (.invokestatic index, 3))
    (hpre : ∀ vm₁, s.WarmedH vm₁ → Pre ⟨T.setVm vm₁, locs, cells, slots⟩ argsL.toArray) :
    ∃ (v : Option Value) (vm₁ : Vm) (B : Pt), s.WarmedH vm₁ ∧ Stand p l e R s m args below meth c B.U B.locs B.cells B.slots ∧ Post ⟨T.setVm vm₁, locs, cells, slots⟩ argsL.toArray v B ∧
      ∀ target, Steps p.tables e below (B.U.setTop { g with pc := g.pc + 3, stack := v.toList ++ rest }) target → Steps p.tables e below (T.setTop g) target := by
  obtain ⟨mk, methM, cM, hnamed, hmethM, -, -, -, -, -, -, hsigM⟩ := Cond.codeWith_spec hcode
  have hstatic : methM.isStatic = true := Cond.static_spec hnamed hmethM hstat
  obtain ⟨kP, hkP, -⟩ := className_of_methodNamed hnamed
  have hinitP : kP.init = .initialized := Cond.initialized_spec (findClass_of_methodNamed hnamed) hkP hinit
  obtain ⟨vm₁, X₁, hstep₁⟩ := X.invokestatic hexec hown hlink hnamed hmethM hstatic hkP hinitP hy (g := g) hg (argsL := argsL) (rest := rest) (hlen _ hsigM) hstack hdg
  obtain ⟨v, B, X', hpost, hsteps⟩ := hK m meth c ⟨T.setVm vm₁, locs, cells, slots⟩ { g with stack := rest } (.invokestatic index) mk argsL.toArray X₁ hg hsize hdg hW (X₁.named hnamed) (hpre vm₁ X₁.warmed)
  exact ⟨v, vm₁, B, X₁.warmed, X', hpost, fun target h => hstep₁ _ fun acts => by rw [doInvoke_state]; exact hsteps.trans h⟩
theorem vx_runSW {y : MethodName} {bytes cc : ByteArray} {maxL nL mc ms n index : Nat} {ret : Option FieldType} {hh : List (Nat × Nat × Nat × Nat)} {ws : List Cond} {rm : Room} {Pc : Array Value → State → Prop} {Qc : Array Value → State → Outcome → State → Prop} {free : Addr → Prop} {Ts : List Cond} {own : String} {As rest : List Value} {g : JFrame}
    (S : CallFix p m c cc nL s args Ts own) (hM : Met l y ws rm Pc Qc mc ms free) (cw : vx_CSW R s args own index y bytes maxL ret hh ws rm mc ms n) (hp : PreS s H Pc As)
    (hg : g.method = m) (hn : As.length = n) (hsize : g.locals.size = nL) (hstack : g.stack = As.reverse ++ rest) (hW : 2 * g.monitorRoom + (rest.map fun v => v.category).sum ≤ 8) (hdg : decode cc g.pc = .ok (.invokestatic index, 3)) (hf : cells + mc ≤ R.cells ∧ slots + ms ≤ R.slots) :
    va_Run p l e R s m args below meth c H locs cells slots mc ms g rest (Qc As.toArray) (free) := by
  obtain ⟨⟨hrc, hrs, hfr, hlo, hws, hcw⟩, hcode, hini, hy, hlen, hl, hstt⟩ := cw
  have hK : Back l R p e below s args y 3 8 (PreOf R mc ms Pc) (PostOf Qc mc ms free) := va_backW (hh := hh) (bytes := bytes) (maxL := maxL) (ret := ret) hM hp.1 hrc hrs hfr hlo hws hcw (fun a' U hW => word_at hW (Or.inl (by first | rfl | simp [Cond.onTables, Cond.keeps, Cond.steady])) hini)
  obtain ⟨hx, hb, hml, ho, -⟩ := S
  intro T hT X
  obtain ⟨v, vm₁, ⟨U', l2, c2, s2⟩, hW₁, X', ⟨g', mk, t, L, e1, e2, hq, h1, hL, h2, h3⟩, st⟩ := vx_callSW X hx (hh := hh) (bytes := bytes) (maxL := maxL) (ret := ret) ho hl hstt hini hcode hy hK hg (hsize.trans hml.symm) (argsL := As) (rest := rest) (fun sig h => hn.trans (hlen sig h)) hstack hW (by rw [hb]; exact hdg)
    (fun vm₁ hW₁ => ⟨hf.1, hf.2, hp.2 (T.setVm vm₁) hT hW₁⟩)
  dsimp only [Pt.U, Pt.locs, Pt.cells, Pt.slots] at X' e1 e2 h1 h2 h3 st
  subst h1; subst h2; subst h3
  exact ⟨v, (T.setVm vm₁).calling g' mk As.toArray, t, U', L, hT, X', hL, e1, e2, hq, st⟩
/-- not caught here, past rows that name other classes: it goes on to the caller -/
theorem vx_outP {p : Program} {l : Launch} {e : Env} {R : Room} {s : State} {m : MethodId} {args : Array Value} {below : List Frame} {meth : Method} {c : Code} {H : Heap} {locs : List Loc} {cells slots : Nat} {free : Addr → Prop} {ls : Array Slot} {rest : List Value} {Qc : Array Value → State → Outcome → State → Prop} {XC : String → State → State → Prop}
    {pc : Nat} {own E : String} {ce : Cell} {q : Addr} {mc ms : Nat} (hown : s.vm.findClass own = some m.cls) (hlocks : meth.locks = false)
    (hpass : ∀ z ∈ c.exceptionTable.toList, covers z pc = false ∨ (z.catchType ≠ 0 ∧ ∃ nm : String, (Cond.classLink own z.catchType nm).before args s = true ∧ va_Nc E nm s)) (hcell : H[q]? = some ce) (hv : ce.vm = .none) (hcl : s.vm.findClass E = some ce.cls)
    (hx : ∀ t : State, t.heap = H → s.vm.Alike t.vm → XC E s t) (hf : ∀ z ∈ locs, free z.base) (hc : cells ≤ mc) (hs : slots ≤ ms) :
    vx_W p l e R s m args below meth c H locs cells slots (vx_MQ below Qc XC args s mc ms free) (F0 m pc ls rest) q := by
  intro T hT X
  have hpl : e.platform.magicAccessors = ({} : Platform).magicAccessors := by rw [X.admits.platform]
  obtain ⟨vm', hW', X', st⟩ := X.outThrough hlocks q (g := F0 m pc ls rest) rfl rfl rfl (cell := ce) (by rw [hT]; exact hcell) (by rw [hv]; rfl)
    (by obtain ⟨k9, h9, -⟩ := Vm.findClass_spec hcl; exact ⟨k9, h9⟩) (fun z hz => by
      rcases hpass z hz with h | ⟨hz0, nm, hl1, hn1⟩
      · exact Or.inl h
      · obtain ⟨c6, hc6, hcl6⟩ := Cond.classLink_spec hown hl1 e.platform hpl
        obtain ⟨a8, b8, h1, h2, h3⟩ := hn1
        cases Option.some.inj (h1.symm.trans hcl)
        cases Option.some.inj (h2.symm.trans hc6)
        exact Or.inr ⟨hz0, _, hcl6, h3⟩)
  obtain ⟨g₀, hfr⟩ := X'.frames_eq
  have hcell9 : ((T.setVm vm').setFrames (.throwing q :: below)).heap[q]? = some ce := by
    show T.heap[q]? = some ce
    rw [hT]; exact hcell
  have hend : Ended ((T.setVm vm').setFrames (.throwing q :: below)) below (.threw q) := State.frames_setFrames _ (State.cur_lt_of_frames hfr)
  refine ⟨(T.setVm vm').setFrames (.throwing q :: below), ?_, .threw q, X'.here.running, hend, Or.inr ⟨q, rfl, E, ce, locs, hx _ hT (X'.ends _).1.alike, hcell9, hv, hcl, (X'.ends _).1, (X'.ends _).2.mono hc hs, hf⟩⟩
  rw [X.pushThrowing_eq]
  exact st
/-- a thing of a world lies in the heap -/
theorem vx_lt {D : va_G} {cl : List vw_C} {ws : va_W} {H1 : Heap} (h : va_P D cl ws H1) {k : Nat} {q : Nat × va_E} (hk : ws[k]? = some q) : q.1 < H1.size := (h k q hk).lt
end VXS
/-! ===== END ===== -/
/-! ===== BEGIN methods with a table of their own: called by a name, returning or throwing ===== -/
section VXH
/-! vx_backW, vx_callVX, vx_callSX, vx_callVW, vx_runVW, vx_runVX, vx_runSX, vx_ofWH follow the same proofs as their sisters above (Free/Laws.lean, Shelf42/LK1.lean); vx_outP calls Shelf42/NT130.lean (outThrough). -/
section
variable {l : Launch} {R : Room} {p : Program} {e : Env} {below : List Frame} {s : State} {sargs : Array Value} {y : MethodName} {len W9 : Nat}
theorem vx_backW {ws : List Cond} {rm : Room} {Pc : Array Value → State → Prop} {Qc : Array Value → State → Outcome → State → Prop} {XC : String → State → State → Prop} {mc ms : Nat} {free : Addr → Prop} {bytes : ByteArray} {maxL : Nat} {ret : Option FieldType} {hh : List (Nat × Nat × Nat × Nat)}
    (hM : vx_Met l y ws rm Pc Qc XC mc ms free) (hblind : FrameBlind Pc) (hrc : rm.cells = mc) (hrs : rm.slots = ms)
    (hframes : rm.frames + 1 ≤ R.frames) (hlocals : W9 + (maxL + 11) + rm.locals ≤ R.locals)
    (hws : ∀ w ∈ ws, ∀ a' U, s.WarmedH U.vm → w.before a' U = true) (hcode : Cond.codeWith y bytes maxL ret hh ∈ ws) (hinit : ∀ a' U, s.WarmedH U.vm → (Cond.initialized y.cls).before a' U = true) :
    vx_Back l R p e below s sargs y len W9 (PreOf R mc ms Pc) (PostOf Qc mc ms free) (vx_Post XC mc ms free) := by
  intro m meth c A g ig mk a X hg hsize hdg hW hn hp
  have h1 : (headSpec ws rm).pre.before a A.U = true := atoms_intro fun w hw => hws w hw _ _ X.warmed
  have h2 : (Cond.codeWith y bytes maxL ret hh).before a A.U = true := hws _ hcode _ _ X.warmed
  have h3 : (Cond.initialized y.cls).before a A.U = true := hinit _ _ X.warmed
  have h4 : A.cells + (headSpec ws rm).room.cells ≤ R.cells := by rw [show (headSpec ws rm).room.cells = mc from hrc]; exact hp.1
  have h5 : A.slots + (headSpec ws rm).room.slots ≤ R.slots := by rw [show (headSpec ws rm).room.slots = ms from hrs]; exact hp.2.1
  have hPc : Pc a (A.U.calling g mk a) := hblind _ _ _ _ hp.2.2
  obtain ⟨U, Ls, c0, s0⟩ := A
  dsimp only [Pt.U, Pt.locs, Pt.cells, Pt.slots] at h1 h2 h3 h4 h5 X hn hPc ⊢
  obtain ⟨m9, methY, cY, hn9, hmY, hcY, -, hlY, -⟩ := Cond.codeWith_spec h2
  cases Option.some.inj (hn9.symm.trans hn)
  obtain ⟨kY, hkY, -⟩ := className_of_methodNamed hn
  have hinitY : kY.init = .initialized := Cond.initialized_spec (findClass_of_methodNamed hn) hkY h3
  have h : At U g.method c below := by rw [hg]; exact X.here
  have hlocals9 : W9 + (maxL + 11) + (headSpec ws rm).room.locals ≤ R.locals := hlocals
  have happ : (headSpec ws rm).appliesLoose y e.platform (U.calling g mk a) = true :=
    Spec.appliesLoose_calling (g := g) h hdg hn hkY hinitY
      (X.room_calling (g := g) (R' := (headSpec ws rm).room) hsize hmY hcY hframes (by rw [hlY]; omega) h4 h5) h1
  obtain ⟨mid, hmid⟩ := h.above
  have hfr : (U.setTop g).frames = (.java g :: mid) ++ below := by rw [State.frames_setTop' g h.top, hmid]; rfl
  obtain ⟨o, s₂, hsteps, -, hend, hq⟩ := Steps.callFree hM p X.admits X.cas X.clock (acts := []) hfr happ hPc trivial
  have hq' : vx_Q Qc XC mc ms free a (U.calling g mk a) o s₂ := hq
  rw [State.frames_setTop' g h.top] at hend
  obtain ⟨g₀, hg0⟩ := Option.isSome_iff_exists.mp h.top
  obtain ⟨r, hr⟩ := State.topJava?_eq_some.mp hg0
  have hr' : (({ U with heap := s₂.heap, slotsUsed := s₂.slotsUsed } : State).setVm s₂.vm).frames = .java g₀ :: r := hr
  rcases hq' with ⟨hqc, L, hfe, hL⟩ | ⟨q, rfl, E, ce, L, hx, hce, hcv, hcl, hW₂, hsm, hL⟩
  · obtain ⟨⟨v, rfl⟩, hW₂, e2, q2, q3, q4, q5, q6⟩ := id hfe
    have e3 : s₂ = ({ (U.calling g mk a).setFrames s₂.frames with heap := s₂.heap, slotsUsed := s₂.slotsUsed } : State).setVm s₂.vm := by
      have : s₂ = ({ s₂ with vm := (U.calling g mk a).vm } : State).setVm s₂.vm := rfl
      rw [e2] at this
      exact this
    obtain ⟨c₂, i₂, len₂, hc₂, hd₂, hf₂⟩ := hend
    have hW' : U.WarmedH s₂.vm := hW₂
    have hcc : c₂ = c := by
      have h1 : s₂.code? g.method = U.code? g.method := by
        rw [State.code?_eq, State.code?_eq, hW'.alike.method?]
      exact Option.some.inj (hc₂.symm.trans (h1.trans h.code))
    subst hcc
    have hlen : len₂ = len := by rw [hdg] at hd₂; cases hd₂; rfl
    subst hlen
    have hs₂ : s₂ = (({ U with heap := s₂.heap, slotsUsed := s₂.slotsUsed } : State).setVm s₂.vm).setTop { g with pc := g.pc + len₂, stack := v.toList ++ g.stack } := by
      refine e3.trans ?_
      rw [hf₂, State.calling_eq h.top, State.setFrames_setFrames, State.setTop_of_frames _ hr', hr]
      rfl
    have hsame : U.sameButNew ({ U with heap := s₂.heap, slotsUsed := s₂.slotsUsed } : State) L mc ms := by
      refine ⟨?_, q2, q3, q4, q5, q6⟩
      obtain ⟨t, ht, -⟩ := State.frames_cons hr
      show ({ U with heap := s₂.heap, slotsUsed := s₂.slotsUsed } : State) = { U.setFrames U.frames with heap := s₂.heap, slotsUsed := s₂.slotsUsed }
      rw [State.setFrames_self ht]
    subst hg
    refine Or.inl ⟨v, ⟨(({ U with heap := s₂.heap, slotsUsed := s₂.slotsUsed } : State).setVm s₂.vm), Ls ++ L, c0 + mc, s0 + ms⟩,
      ⟨X.admits, X.cas, X.clock, X.frames, X.room, X.hears, X.method, X.code, (X.here.setHeapUsed s₂.heap s₂.slotsUsed).setVm hW'.alike, X.tail, State.WarmedH.trans X.warmed hW', X.limits, X.bytes, X.same.trans (hsame.setVm s.vm)⟩,
      ⟨g, mk, s₂, L, rfl, rfl, hqc, rfl, hL, rfl, rfl⟩, ?_⟩
    show Steps p.tables e below _ ((({ U with heap := s₂.heap, slotsUsed := s₂.slotsUsed } : State).setVm s₂.vm).setTop { g with pc := g.pc + len₂, stack := v.toList ++ g.stack })
    rw [← hs₂]
    exact hsteps
  · obtain ⟨e2, q2, q3, q4, q5, q6⟩ := id hsm
    have e3 : s₂ = ({ (U.calling g mk a).setFrames s₂.frames with heap := s₂.heap, slotsUsed := s₂.slotsUsed } : State).setVm s₂.vm := by
      have : s₂ = ({ s₂ with vm := (U.calling g mk a).vm } : State).setVm s₂.vm := rfl
      rw [e2] at this
      exact this
    have hf₂ : s₂.frames = .throwing q :: .java g :: U.frames.tail := hend
    have hW' : U.WarmedH s₂.vm := hW₂
    have hs₂ : s₂ = ((({ U with heap := s₂.heap, slotsUsed := s₂.slotsUsed } : State).setVm s₂.vm).setTop g).pushFrame (.throwing q) := by
      refine e3.trans ?_
      rw [hf₂, State.calling_eq h.top, State.setFrames_setFrames, State.pushFrame, State.frames_setTop _ hr', State.setTop_of_frames _ hr', State.setFrames_setFrames, hr]
      rfl
    have hsame : U.sameButNew ({ U with heap := s₂.heap, slotsUsed := s₂.slotsUsed } : State) L mc ms := by
      refine ⟨?_, q2, q3, q4, q5, q6⟩
      obtain ⟨t, ht, -⟩ := State.frames_cons hr
      show ({ U with heap := s₂.heap, slotsUsed := s₂.slotsUsed } : State) = { U.setFrames U.frames with heap := s₂.heap, slotsUsed := s₂.slotsUsed }
      rw [State.setFrames_self ht]
    subst hg
    refine Or.inr ⟨q, ⟨(({ U with heap := s₂.heap, slotsUsed := s₂.slotsUsed } : State).setVm s₂.vm), Ls ++ L, c0 + mc, s0 + ms⟩,
      ⟨X.admits, X.cas, X.clock, X.frames, X.room, X.hears, X.method, X.code, (X.here.setHeapUsed s₂.heap s₂.slotsUsed).setVm hW'.alike, X.tail, State.WarmedH.trans X.warmed hW', X.limits, X.bytes, X.same.trans (hsame.setVm s.vm)⟩,
      ⟨g, mk, s₂, L, E, ce, rfl, rfl, hx, hce, hcv, hcl, rfl, hL, rfl, rfl⟩, ?_⟩
    show Steps p.tables e below _ (((({ U with heap := s₂.heap, slotsUsed := s₂.slotsUsed } : State).setVm s₂.vm).setTop g).pushFrame (.throwing q))
    rw [← hs₂]
    exact hsteps
end
variable {p : Program} {l : Launch} {e : Env} {R : Room} {s : State} {m : MethodId} {args : Array Value} {below : List Frame} {meth : Method} {c : Code} {T : State} {H : Heap} {locs : List Loc} {cells slots : Nat}
theorem vx_callVX (X : Stand p l e R s m args below meth c T locs cells slots) (hexec : p.tables.exec = Jvm.exec) {own C : String} {index : Nat} {y : MethodName} {bytes : ByteArray} {maxL : Nat} {ret : Option FieldType} {hh : List (Nat × Nat × Nat × Nat)}
    (hown : s.vm.findClass own = some m.cls) (hlink : (Cond.methodLink own index y).before args s = true) (hinst : (Cond.instanceMethod y).before args s = true) (hsel : (Cond.selects C y y).before args s = true)
    (hcode : (Cond.codeWith y bytes maxL ret hh).before args s = true) (hy : y.cls ≠ "java/lang/invoke/MethodHandle" ∧ y.cls ≠ "java/lang/invoke/VarHandle")
    {W9 : Nat} {Pre : Pt → Array Value → Prop} {Post : Pt → Array Value → Option Value → Pt → Prop} {PostX : Pt → Array Value → Addr → Pt → Prop} (hK : vx_Back l R p e below s args y 3 W9 Pre Post PostX)
    {b : Addr} {cellB : Cell} (hcell : T.heap[b]? = some cellB) (hobj : cellB.vm.isStatics = false) (hcls : s.vm.findClass C = some cellB.cls)
    {g : JFrame} (hg : g.method = m) (hsize : g.locals.size = c.maxLocals) {argsL rest : List Value} (hlen : ∀ sig, parseMethodDescriptor y.desc = some sig → argsL.length = sig.parameters.length)
    (hstack : g.stack = argsL.reverse ++ .ref b :: rest) (hW : 2 * g.monitorRoom + (rest.map fun v => v.category).sum ≤ W9) (hdg : decode c.code g.pc = .ok (.invokevirtual index, 3))
    (hpre : ∀ vm₁, s.WarmedH vm₁ → Pre ⟨T.setVm vm₁, locs, cells, slots⟩ (Value.ref b :: argsL).toArray) :
    (∃ (v : Option Value) (vm₁ : Vm) (B : Pt), s.WarmedH vm₁ ∧ Stand p l e R s m args below meth c B.U B.locs B.cells B.slots ∧ Post ⟨T.setVm vm₁, locs, cells, slots⟩ (Value.ref b :: argsL).toArray v B ∧
      ∀ target, Steps p.tables e below (B.U.setTop { g with pc := g.pc + 3, stack := v.toList ++ rest }) target → Steps p.tables e below (T.setTop g) target) ∨
    (∃ (q : Addr) (vm₁ : Vm) (B : Pt), s.WarmedH vm₁ ∧ Stand p l e R s m args below meth c B.U B.locs B.cells B.slots ∧ PostX ⟨T.setVm vm₁, locs, cells, slots⟩ (Value.ref b :: argsL).toArray q B ∧
      Steps p.tables e below (T.setTop g) ((B.U.setTop { g with stack := rest }).pushFrame (.throwing q))) := by
  obtain ⟨mk, methM, hnamed, hmethM, hstM, habM⟩ := Cond.instanceMethod_spec hinst
  obtain ⟨m8, methM', cM, hn8, hmethM', -, -, -, -, -, -, hsigM⟩ := Cond.codeWith_spec hcode
  cases Option.some.inj (hn8.symm.trans hnamed)
  cases hmethM.symm.trans hmethM'
  obtain ⟨c2, r2, m2, q1, q2, q3, q4, kP, hkP, hkPi⟩ := Cond.selects_spec hsel
  cases hcls.symm.trans q1
  cases (State.methodFound?_of_named hnamed hy).symm.trans q2
  cases hnamed.symm.trans q3
  have hselP : selectMethod e.platform s.vm cellB.cls mk = .method mk := by rw [Launch.admits_selectMethod X.admits]; exact q4
  obtain ⟨vm₁, X₁, hstep₁⟩ := X.invokevirtual hexec hown hlink hnamed hmethM hstM hkP hkPi hy (a := b) (cell := cellB) hcell
    (fun z h => by rw [h] at hobj; cases hobj) hselP hmethM habM hkP hkPi (g := g) hg (argsL := argsL) (rest := rest) (hlen _ hsigM) hstack hdg
  rcases hK m meth c ⟨T.setVm vm₁, locs, cells, slots⟩ { g with stack := rest } (.invokevirtual index) mk (Value.ref b :: argsL).toArray X₁ hg hsize hdg hW (X₁.named hnamed) (hpre vm₁ X₁.warmed) with ⟨v, B, X', hpost, hsteps⟩ | ⟨q, B, X', hpost, hsteps⟩
  · exact Or.inl ⟨v, vm₁, B, X₁.warmed, X', hpost, fun target h => hstep₁ _ fun acts => by rw [doInvoke_state]; exact hsteps.trans h⟩
  · exact Or.inr ⟨q, vm₁, B, X₁.warmed, X', hpost, hstep₁ _ fun acts => by rw [doInvoke_state]; exact hsteps⟩
theorem vx_callSX (X : Stand p l e R s m args below meth c T locs cells slots) (hexec : p.tables.exec = Jvm.exec) {own : String} {index : Nat} {y : MethodName} {bytes : ByteArray} {maxL : Nat} {ret : Option FieldType} {hh : List (Nat × Nat × Nat × Nat)}
    (hown : s.vm.findClass own = some m.cls) (hlink : (Cond.methodLink own index y).before args s = true) (hstat : (Cond.static y).before args s = true) (hinit : (Cond.initialized y.cls).before args s = true)
    (hcode : (Cond.codeWith y bytes maxL ret hh).before args s = true) (hy : y.cls ≠ "java/lang/invoke/MethodHandle" ∧ y.cls ≠ "java/lang/invoke/VarHandle")
    {W9 : Nat} {Pre : Pt → Array Value → Prop} {Post : Pt → Array Value → Option Value → Pt → Prop} {PostX : Pt → Array Value → Addr → Pt → Prop} (hK : vx_Back l R p e below s args y 3 W9 Pre Post PostX)
    {g : JFrame} (hg : g.method = m) (hsize : g.locals.size = c.maxLocals) {argsL rest : List Value} (hlen : ∀ sig, parseMethodDescriptor y.desc = some sig → argsL.length = sig.parameters.length)
    (hstack : g.stack = argsL.reverse ++ rest) (hW : 2 * g.monitorRoom + (rest.map fun v => v.category).sum ≤ W9) (hdg : decode c.code g.pc = .ok (.invokestatic index, 3))
    (hpre : ∀ vm₁, s.WarmedH vm₁ → Pre ⟨T.setVm vm₁, locs, cells, slots⟩ argsL.toArray) :
    (∃ (v : Option Value) (vm₁ : Vm) (B : Pt), s.WarmedH vm₁ ∧ Stand p l e R s m args below meth c B.U B.locs B.cells B.slots ∧ Post ⟨T.setVm vm₁, locs, cells, slots⟩ argsL.toArray v B ∧
      ∀ target, Steps p.tables e below (B.U.setTop { g with pc := g.pc + 3, stack := v.toList ++ rest }) target → Steps p.tables e below (T.setTop g) target) ∨
    (∃ (q : Addr) (vm₁ : Vm) (B : Pt), s.WarmedH vm₁ ∧ Stand p l e R s m args below meth c B.U B.locs B.cells B.slots ∧ PostX ⟨T.setVm vm₁, locs, cells, slots⟩ argsL.toArray q B ∧
      Steps p.tables e below (T.setTop g) ((B.U.setTop { g with stack := rest }).pushFrame (.throwing q))) := by
  obtain ⟨mk, methM, cM, hnamed, hmethM, -, -, -, -, -, -, hsigM⟩ := Cond.codeWith_spec hcode
  have hstatic : methM.isStatic = true := Cond.static_spec hnamed hmethM hstat
  obtain ⟨kP, hkP, -⟩ := className_of_methodNamed hnamed
  have hinitP : kP.init = .initialized := Cond.initialized_spec (findClass_of_methodNamed hnamed) hkP hinit
  obtain ⟨vm₁, X₁, hstep₁⟩ := X.invokestatic hexec hown hlink hnamed hmethM hstatic hkP hinitP hy (g := g) hg (argsL := argsL) (rest := rest) (hlen _ hsigM) hstack hdg
  rcases hK m meth c ⟨T.setVm vm₁, locs, cells, slots⟩ { g with stack := rest } (.invokestatic index) mk argsL.toArray X₁ hg hsize hdg hW (X₁.named hnamed) (hpre vm₁ X₁.warmed) with ⟨v, B, X', hpost, hsteps⟩ | ⟨q, B, X', hpost, hsteps⟩
  · exact Or.inl ⟨v, vm₁, B, X₁.warmed, X', hpost, fun target h => hstep₁ _ fun acts => by rw [doInvoke_state]; exact hsteps.trans h⟩
  · exact Or.inr ⟨q, vm₁, B, X₁.warmed, X', hpost, hstep₁ _ fun acts => by rw [doInvoke_state]; exact hsteps⟩
theorem vx_callVW (X : Stand p l e R s m args below meth c T locs cells slots) (hexec : p.tables.exec = Jvm.exec) {own C : String} {index : Nat} {y : MethodName} {bytes : ByteArray} {maxL : Nat} {ret : Option FieldType} {hh : List (Nat × Nat × Nat × Nat)}
    (hown : s.vm.findClass own = some m.cls) (hlink : (Cond.methodLink own index y).before args s = true) (hinst : (Cond.instanceMethod y).before args s = true) (hsel : (Cond.selects C y y).before args s = true)
    (hcode : (Cond.codeWith y bytes maxL ret hh).before args s = true) (hy : y.cls ≠ "java/lang/invoke/MethodHandle" ∧ y.cls ≠ "java/lang/invoke/VarHandle")
    {W9 : Nat} {Pre : Pt → Array Value → Prop} {Post : Pt → Array Value → Option Value → Pt → Prop} (hK : Back l R p e below s args y 3 W9 Pre Post)
    {b : Addr} {cellB : Cell} (hcell : T.heap[b]? = some cellB) (hobj : cellB.vm.isStatics = false) (hcls : s.vm.findClass C = some cellB.cls)
    {g : JFrame} (hg : g.method = m) (hsize : g.locals.size = c.maxLocals) {argsL rest : List Value} (hlen : ∀ sig, parseMethodDescriptor y.desc = some sig → argsL.length = sig.parameters.length)
    (hstack : g.stack = argsL.reverse ++ .ref b :: rest) (hW : 2 * g.monitorRoom + (rest.map fun v => v.category).sum ≤ W9) (hdg : decode c.code g.pc = .ok (.invokevirtual index, 3))
    (hpre : ∀ vm₁, s.WarmedH vm₁ → Pre ⟨T.setVm vm₁, locs, cells, slots⟩ (Value.ref b :: argsL).toArray) :
    ∃ (v : Option Value) (vm₁ : Vm) (B : Pt), s.WarmedH vm₁ ∧ Stand p l e R s m args below meth c B.U B.locs B.cells B.slots ∧ Post ⟨T.setVm vm₁, locs, cells, slots⟩ (Value.ref b :: argsL).toArray v B ∧
      ∀ target, Steps p.tables e below (B.U.setTop { g with pc := g.pc + 3, stack := v.toList ++ rest }) target → Steps p.tables e below (T.setTop g) target := by
  obtain ⟨mk, methM, hnamed, hmethM, hstM, habM⟩ := Cond.instanceMethod_spec hinst
  obtain ⟨m8, methM', cM, hn8, hmethM', -, -, -, -, -, -, hsigM⟩ := Cond.codeWith_spec hcode
  cases Option.some.inj (hn8.symm.trans hnamed)
  cases hmethM.symm.trans hmethM'
  obtain ⟨c2, r2, m2, q1, q2, q3, q4, kP, hkP, hkPi⟩ := Cond.selects_spec hsel
  cases hcls.symm.trans q1
  cases (State.methodFound?_of_named hnamed hy).symm.trans q2
  cases hnamed.symm.trans q3
  have hselP : selectMethod e.platform s.vm cellB.cls mk = .method mk := by rw [Launch.admits_selectMethod X.admits]; exact q4
  obtain ⟨vm₁, X₁, hstep₁⟩ := X.invokevirtual hexec hown hlink hnamed hmethM hstM hkP hkPi hy (a := b) (cell := cellB) hcell
    (fun z h => by rw [h] at hobj; cases hobj) hselP hmethM habM hkP hkPi (g := g) hg (argsL := argsL) (rest := rest) (hlen _ hsigM) hstack hdg
  obtain ⟨v, B, X', hpost, hsteps⟩ := hK m meth c ⟨T.setVm vm₁, locs, cells, slots⟩ { g with stack := rest } (.invokevirtual index) mk (Value.ref b :: argsL).toArray X₁ hg hsize hdg hW (X₁.named hnamed) (hpre vm₁ X₁.warmed)
  exact ⟨v, vm₁, B, X₁.warmed, X', hpost, fun target h => hstep₁ _ fun acts => by rw [doInvoke_state]; exact hsteps.trans h⟩
abbrev vx_CVW (R : Room) (s : State) (args : Array Value) (own C : String) (index : Nat) (y : MethodName) (bytes : ByteArray) (maxL : Nat) (ret : Option FieldType) (hh : List (Nat × Nat × Nat × Nat)) (ws : List Cond) (rm : Room) (mc ms n : Nat) : Prop :=
  (rm.cells = mc ∧ rm.slots = ms ∧ rm.frames + 1 ≤ R.frames ∧ 8 + (maxL + 11) + rm.locals ≤ R.locals ∧ (∀ w ∈ ws, ∀ (a' : Array Value) (U : State), s.WarmedH U.vm → w.before a' U = true) ∧ Cond.codeWith y bytes maxL ret hh ∈ ws) ∧
  (Cond.codeWith y bytes maxL ret hh).before args s = true ∧ (Cond.initialized y.cls).before args s = true ∧ (y.cls ≠ "java/lang/invoke/MethodHandle" ∧ y.cls ≠ "java/lang/invoke/VarHandle") ∧
  (∀ sig, parseMethodDescriptor y.desc = some sig → n = sig.parameters.length) ∧ (Cond.methodLink own index y).before args s = true ∧ (Cond.instanceMethod y).before args s = true ∧ (Cond.selects C y y).before args s = true
theorem vx_cwVW {own C : String} {index maxL mc ms : Nat} {y : MethodName} {bytes : ByteArray} {ret : Option FieldType} {hh : List (Nat × Nat × Nat × Nat)} {Ts ws ws' : List Cond} {rm : Room} (n : Nat) (ht : ∀ w ∈ Ts, w.before args s = true) (hT : GoodIn Ts (wsV own index C y ws)) (hw : ws = Cond.codeWith y bytes maxL ret hh :: ws') (hrc : rm.cells = mc) (hrs : rm.slots = ms)
    (hd : y.cls = C ∧ y.cls ≠ "java/lang/invoke/MethodHandle" ∧ y.cls ≠ "java/lang/invoke/VarHandle" ∧ (parseMethodDescriptor y.desc).map (fun d => d.parameters.length) = some n) (hR : rm.frames + 1 ≤ R.frames ∧ 8 + (maxL + 11) + rm.locals ≤ R.locals) :
    vx_CVW R s args own C index y bytes maxL ret hh ws rm mc ms n := by
  obtain ⟨hC, hd⟩ := hd
  subst hC
  have ok : ∀ w ∈ wsV own index y.cls y ws, w.before args s = true := fun w h => ht w (hT w h).1
  have hG : GoodIn Ts ws := fun w h => hT w (by unfold wsV; exact List.mem_append_right _ h)
  have hc : Cond.codeWith y bytes maxL ret hh ∈ ws := by rw [hw]; exact List.mem_cons_self
  refine ⟨⟨hrc, hrs, hR.1, hR.2, pay_in ht hG, hc⟩, ht _ (hG _ hc).1, ok _ (by simp [wsV]), ⟨hd.1, hd.2.1⟩, fun sig h => ?_, ok _ (by simp [wsV]), ok _ (by simp [wsV]), ok _ (by simp [wsV])⟩
  have h2 := hd.2.2
  rw [h] at h2
  exact (Option.some.inj h2).symm
theorem vx_runVW {y : MethodName} {bytes cc : ByteArray} {maxL nL mc ms n index : Nat} {ret : Option FieldType} {hh : List (Nat × Nat × Nat × Nat)} {ws : List Cond} {rm : Room} {Pc : Array Value → State → Prop} {Qc : Array Value → State → Outcome → State → Prop} {free : Addr → Prop} {Ts : List Cond} {own C : String} {b : Addr} {As rest : List Value} {g : JFrame}
    (S : CallFix p m c cc nL s args Ts own) (hM : Met l y ws rm Pc Qc mc ms free) (cw : vx_CVW R s args own C index y bytes maxL ret hh ws rm mc ms n) (hp : PreV s H C b Pc As)
    (hg : g.method = m) (hn : As.length = n) (hsize : g.locals.size = nL) (hstack : g.stack = As.reverse ++ .ref b :: rest) (hW : 2 * g.monitorRoom + (rest.map fun v => v.category).sum ≤ 8) (hdg : decode cc g.pc = .ok (.invokevirtual index, 3)) (hf : cells + mc ≤ R.cells ∧ slots + ms ≤ R.slots) :
    va_Run p l e R s m args below meth c H locs cells slots mc ms g rest (Qc (Value.ref b :: As).toArray) free := by
  obtain ⟨⟨hrc, hrs, hfr, hlo, hws, hcw⟩, hcode, hini, hy, hlen, hl, hin, hse⟩ := cw
  have hK : Back l R p e below s args y 3 8 (PreOf R mc ms Pc) (PostOf Qc mc ms free) := va_backW (hh := hh) (bytes := bytes) (maxL := maxL) (ret := ret) hM hp.1 hrc hrs hfr hlo hws hcw (fun a' U hW => word_at hW (Or.inl (by first | rfl | simp [Cond.onTables, Cond.keeps, Cond.steady])) hini)
  obtain ⟨hx, hb, hml, ho, -⟩ := S
  obtain ⟨-, ⟨cellB, hcB, hoB, hclB⟩, hPc⟩ := hp
  intro T hT X
  obtain ⟨v, vm₁, ⟨U', l2, c2, s2⟩, hW₁, X', ⟨g', mk, t, L, e1, e2, hq, h1, hL, h2, h3⟩, st⟩ := vx_callVW X hx (C := C) (hh := hh) (bytes := bytes) (maxL := maxL) (ret := ret) ho hl hin hse hcode hy hK (by rw [hT]; exact hcB) hoB hclB hg (hsize.trans hml.symm) (argsL := As) (rest := rest) (fun sig h => hn.trans (hlen sig h)) hstack hW (by rw [hb]; exact hdg)
    (fun vm₁ hW₁ => ⟨hf.1, hf.2, hPc (T.setVm vm₁) hT hW₁⟩)
  dsimp only [Pt.U, Pt.locs, Pt.cells, Pt.slots] at X' e1 e2 h1 h2 h3 st
  subst h1; subst h2; subst h3
  exact ⟨v, (T.setVm vm₁).calling g' mk (Value.ref b :: As).toArray, t, U', L, hT, X', hL, e1, e2, hq, st⟩
section
variable {y : MethodName} {bytes cc : ByteArray} {maxL nL mc ms n index : Nat} {ret : Option FieldType} {ws : List Cond} {rm : Room} {Pc : Array Value → State → Prop} {Qc : Array Value → State → Outcome → State → Prop} {XC : String → State → State → Prop} {free : Addr → Prop} {Ts : List Cond} {own C : String} {b : Addr} {As rest : List Value} {g : JFrame}
theorem vx_runVX {hh : List (Nat × Nat × Nat × Nat)} (S : CallFix p m c cc nL s args Ts own) (hM : vx_Met l y ws rm Pc Qc XC mc ms free) (cw : vx_CVW R s args own C index y bytes maxL ret hh ws rm mc ms n) (hp : PreV s H C b Pc As)
    (hg : g.method = m) (hn : As.length = n) (hsize : g.locals.size = nL) (hstack : g.stack = As.reverse ++ .ref b :: rest) (hW : 2 * g.monitorRoom + (rest.map fun v => v.category).sum ≤ 8) (hdg : decode cc g.pc = .ok (.invokevirtual index, 3)) (hf : cells + mc ≤ R.cells ∧ slots + ms ≤ R.slots) :
    vx_Run p l e R s m args below meth c H locs cells slots mc ms g rest (Qc (Value.ref b :: As).toArray) XC free := by
  obtain ⟨⟨hrc, hrs, hfr, hlo, hws, hcw⟩, hcode, hini, hy, hlen, hl, hin, hse⟩ := cw
  have hK : vx_Back l R p e below s args y 3 8 (PreOf R mc ms Pc) (PostOf Qc mc ms free) (vx_Post XC mc ms free) := vx_backW (hh := hh) (bytes := bytes) (maxL := maxL) (ret := ret) hM hp.1 hrc hrs hfr hlo hws hcw (fun a' U hW => word_at hW (Or.inl (by first | rfl | simp [Cond.onTables, Cond.keeps, Cond.steady])) hini)
  obtain ⟨hx, hb, hml, ho, -⟩ := S
  obtain ⟨-, ⟨cellB, hcB, hoB, hclB⟩, hPc⟩ := hp
  intro T hT X
  rcases vx_callVX X hx (C := C) (hh := hh) (bytes := bytes) (maxL := maxL) (ret := ret) ho hl hin hse hcode hy hK (by rw [hT]; exact hcB) hoB hclB hg (hsize.trans hml.symm) (argsL := As) (rest := rest) (fun sig h => hn.trans (hlen sig h)) hstack hW (by rw [hb]; exact hdg)
    (fun vm₁ hW₁ => ⟨hf.1, hf.2, hPc (T.setVm vm₁) hT hW₁⟩) with ⟨v, vm₁, ⟨U', l2, c2, s2⟩, hW₁, X', ⟨g', mk, t, L, e1, e2, hq, h1, hL, h2, h3⟩, st⟩ | ⟨q, vm₁, ⟨U', l2, c2, s2⟩, hW₁, X', ⟨g', mk, t, L, E, ce, e1, e2, hq, hce, hcv, hcl, h1, hL, h2, h3⟩, st⟩
  · dsimp only [Pt.U, Pt.locs, Pt.cells, Pt.slots] at X' e1 e2 h1 h2 h3 st
    subst h1; subst h2; subst h3
    exact Or.inl ⟨v, (T.setVm vm₁).calling g' mk (Value.ref b :: As).toArray, t, U', L, hT, X', hL, e1, e2, hq, st⟩
  · dsimp only [Pt.U, Pt.locs, Pt.cells, Pt.slots] at X' e1 e2 h1 h2 h3 st hcl
    subst h1; subst h2; subst h3
    exact Or.inr ⟨q, (T.setVm vm₁).calling g' mk (Value.ref b :: As).toArray, t, U', L, E, ce, hT, X', hL, e1, e2, hq, hce, hcv, vx_cls hW₁ hcl, st⟩
theorem vx_runSX {hh : List (Nat × Nat × Nat × Nat)} (S : CallFix p m c cc nL s args Ts own) (hM : vx_Met l y ws rm Pc Qc XC mc ms free) (cw : vx_CSW R s args own index y bytes maxL ret hh ws rm mc ms n) (hp : PreS s H Pc As)
    (hg : g.method = m) (hn : As.length = n) (hsize : g.locals.size = nL) (hstack : g.stack = As.reverse ++ rest) (hW : 2 * g.monitorRoom + (rest.map fun v => v.category).sum ≤ 8) (hdg : decode cc g.pc = .ok (.invokestatic index, 3)) (hf : cells + mc ≤ R.cells ∧ slots + ms ≤ R.slots) :
    vx_Run p l e R s m args below meth c H locs cells slots mc ms g rest (Qc As.toArray) XC free := by
  obtain ⟨⟨hrc, hrs, hfr, hlo, hws, hcw⟩, hcode, hini, hy, hlen, hl, hstt⟩ := cw
  have hK : vx_Back l R p e below s args y 3 8 (PreOf R mc ms Pc) (PostOf Qc mc ms free) (vx_Post XC mc ms free) := vx_backW (hh := hh) (bytes := bytes) (maxL := maxL) (ret := ret) hM hp.1 hrc hrs hfr hlo hws hcw (fun a' U hW => word_at hW (Or.inl (by first | rfl | simp [Cond.onTables, Cond.keeps, Cond.steady])) hini)
  obtain ⟨hx, hb, hml, ho, -⟩ := S
  intro T hT X
  rcases vx_callSX X hx (hh := hh) (bytes := bytes) (maxL := maxL) (ret := ret) ho hl hstt hini hcode hy hK hg (hsize.trans hml.symm) (argsL := As) (rest := rest) (fun sig h => hn.trans (hlen sig h)) hstack hW (by rw [hb]; exact hdg)
    (fun vm₁ hW₁ => ⟨hf.1, hf.2, hp.2 (T.setVm vm₁) hT hW₁⟩) with ⟨v, vm₁, ⟨U', l2, c2, s2⟩, hW₁, X', ⟨g', mk, t, L, e1, e2, hq, h1, hL, h2, h3⟩, st⟩ | ⟨q, vm₁, ⟨U', l2, c2, s2⟩, hW₁, X', ⟨g', mk, t, L, E, ce, e1, e2, hq, hce, hcv, hcl, h1, hL, h2, h3⟩, st⟩
  · dsimp only [Pt.U, Pt.locs, Pt.cells, Pt.slots] at X' e1 e2 h1 h2 h3 st
    subst h1; subst h2; subst h3
    exact Or.inl ⟨v, (T.setVm vm₁).calling g' mk As.toArray, t, U', L, hT, X', hL, e1, e2, hq, st⟩
  · dsimp only [Pt.U, Pt.locs, Pt.cells, Pt.slots] at X' e1 e2 h1 h2 h3 st hcl
    subst h1; subst h2; subst h3
    exact Or.inr ⟨q, (T.setVm vm₁).calling g' mk As.toArray, t, U', L, E, ce, hT, X', hL, e1, e2, hq, hce, hcv, vx_cls hW₁ hcl, st⟩
end
end VXH
theorem vx_ofWH {l : Launch} {y : MethodName} {ws ws' : List Cond} {rm : Room} {Pc : Array Value → State → Prop} {Qc : Array Value → State → Outcome → State → Prop} {XC : String → State → State → Prop} {mc ms : Nat} {free : Addr → Prop} {cc : ByteArray} {maxL : Nat} {ret : Option FieldType} {hh : List (Nat × Nat × Nat × Nat)}
    (hy : plainName y.cls = true) (hw : ws = Cond.codeWith y cc maxL ret hh :: ws')
    (body : ∀ p e s m args below meth c s₁, BodyLoose p l y (headSpec ws rm) cc maxL ret e s m args below meth c s₁ → c.maxLocals = maxL → Pc args s →
      W p l e (headSpec ws rm).room s m args below meth c s.heap [] 0 0 (vx_MQ below Qc XC args s mc ms free) (entryFrame m args maxL)) : vx_Met l y ws rm Pc Qc XC mc ms free := by
  refine MetFree.of_bodyS (code := cc) (maxLocals := maxL) (ret := ret) hy ?_ ?_
  · intro args s m h hn
    obtain ⟨m9, meth, c, hn9, h1, h2, h3, h4, -, h5, h6, -⟩ := Cond.codeWith_spec (atoms_spec (ws := ws) h _ (by rw [hw]; exact List.mem_cons_self))
    cases hn.symm.trans hn9
    exact ⟨meth, c, h1, h2, h3, h4, h5, h6⟩
  · intro p e s m args below meth c s₁ B hml hP _
    have hh0 : s₁.heap = s.heap := by rw [B.state]; rfl
    obtain ⟨t, a1, o, b1, b2, b3⟩ := body p e s m args below meth c s₁ B hml hP s₁ hh0 (Stand.of_body B)
    exact ⟨t, o, a1, b1, b2, b3⟩
/-! ===== END ===== -/
end
section
def RX0 : String := "Glosspair$Alignment"
def TX0 : u_T := fun k => match k with
  | 0 => ("Glosspair$Alignment", "both", "[I", true)
  | 1 => ("Glosspair$Alignment", "either", "[I", true)
  | 2 => ("Glosspair$Alignment", "joined", "[I", true)
  | 3 => ("Glosspair$Alignment", "firstLength", "I", false)
  | _ => ("Glosspair$Alignment", "secondLength", "I", false)
def tyX0 : Nat → FieldType := fun k => match k with
  | 0 => .array .int
  | 1 => .array .int
  | 2 => .array .int
  | 3 => .int
  | _ => .int
abbrev wsX00 : List Cond := u_ws RX0 TX0 5
theorem nmX0 : ∀ a, a < 5 → ∀ b, b < 5 → a ≠ b → (TX0 a).2.1 ≠ (TX0 b).2.1 := by decide +kernel
theorem tyX0_ok : ∀ k, k < 5 → parseFieldDescriptor (TX0 k).2.2.1 = some (tyX0 k) := by decide +kernel
abbrev cX0_init : ByteArray := prog_2_method_1_code
def yX0_init : MethodName := ⟨RX0, "<init>", "()V"⟩
abbrev cX0_firstLength : ByteArray := prog_2_method_2_code
def yX0_firstLength : MethodName := ⟨RX0, "firstLength", "()I"⟩
abbrev cX0_secondLength : ByteArray := prog_2_method_3_code
def yX0_secondLength : MethodName := ⟨RX0, "secondLength", "()I"⟩
abbrev cX0_joinedBits : ByteArray := prog_2_method_4_code
def yX0_joinedBits : MethodName := ⟨RX0, "joinedBits", "(I)I"⟩
abbrev cX0_joinedOf : ByteArray := prog_2_method_5_code
def yX0_joinedOf : MethodName := ⟨RX0, "joinedOf", "(I)I"⟩
abbrev cX0_hasJoined : ByteArray := prog_2_method_6_code
def yX0_hasJoined : MethodName := ⟨RX0, "hasJoined", "(II)Z"⟩
abbrev cX0_align : ByteArray := prog_2_method_7_code
def yX0_align : MethodName := ⟨RX0, "align", "(LGlosspair$SentencePair;LGlosspair$Linker;)V"⟩
abbrev cX0_takeLinks : ByteArray := prog_2_method_8_code
def yX0_takeLinks : MethodName := ⟨RX0, "takeLinks", "(LGlosspair$SentencePair;LGlosspair$Linker;)V"⟩
abbrev cX0_takeLink : ByteArray := prog_2_method_9_code
def yX0_takeLink : MethodName := ⟨RX0, "takeLink", "(II)V"⟩
abbrev cX0_growOnce : ByteArray := prog_2_method_10_code
def yX0_growOnce : MethodName := ⟨RX0, "growOnce", "()Z"⟩
abbrev cX0_isToJoin : ByteArray := prog_2_method_11_code
def yX0_isToJoin : MethodName := ⟨RX0, "isToJoin", "(II)Z"⟩
abbrev cX0_isFree : ByteArray := prog_2_method_12_code
def yX0_isFree : MethodName := ⟨RX0, "isFree", "(I)Z"⟩
abbrev cX0_isBesideJoined : ByteArray := prog_2_method_13_code
def yX0_isBesideJoined : MethodName := ⟨RX0, "isBesideJoined", "(II)Z"⟩
abbrev cX0_join : ByteArray := prog_2_method_14_code
def yX0_join : MethodName := ⟨RX0, "join", "(II)V"⟩
abbrev cX0_bitOf : ByteArray := prog_2_method_15_code
def yX0_bitOf : MethodName := ⟨RX0, "bitOf", "(I)I"⟩
abbrev cX0_bitsAt : ByteArray := prog_2_method_16_code
def yX0_bitsAt : MethodName := ⟨RX0, "bitsAt", "([II)I"⟩
def RX1 : String := "Glosspair$Corpus"
def TX1 : u_T := fun k => match k with
  | 0 => ("Glosspair$Corpus", "rows", "[LGlosspair$SentencePair;", true)
  | 1 => ("Glosspair$Corpus", "made", "I", false)
  | _ => ("Glosspair$Corpus", "size", "I", false)
def tyX1 : Nat → FieldType := fun k => match k with
  | 0 => .array (.object "Glosspair$SentencePair")
  | 1 => .int
  | _ => .int
abbrev wsX10 : List Cond := u_ws RX1 TX1 3
theorem nmX1 : ∀ a, a < 3 → ∀ b, b < 3 → a ≠ b → (TX1 a).2.1 ≠ (TX1 b).2.1 := by decide +kernel
theorem tyX1_ok : ∀ k, k < 3 → parseFieldDescriptor (TX1 k).2.2.1 = some (tyX1 k) := by decide +kernel
abbrev cX1_init : ByteArray := prog_3_method_1_code
def yX1_init : MethodName := ⟨RX1, "<init>", "()V"⟩
abbrev cX1_made : ByteArray := prog_3_method_2_code
def yX1_made : MethodName := ⟨RX1, "made", "()I"⟩
abbrev cX1_size : ByteArray := prog_3_method_3_code
def yX1_size : MethodName := ⟨RX1, "size", "()I"⟩
abbrev cX1_isFull : ByteArray := prog_3_method_4_code
def yX1_isFull : MethodName := ⟨RX1, "isFull", "()Z"⟩
abbrev cX1_add : ByteArray := prog_3_method_5_code
def yX1_add : MethodName := ⟨RX1, "add", "(LGlosspair$SentencePair;)I"⟩
abbrev cX1_remove : ByteArray := prog_3_method_6_code
def yX1_remove : MethodName := ⟨RX1, "remove", "(LGlosspair$SentencePair;)V"⟩
abbrev cX1_find : ByteArray := prog_3_method_7_code
def yX1_find : MethodName := ⟨RX1, "find", "(I)LGlosspair$SentencePair;"⟩
def RX2 : String := "Glosspair$Lexicon"
def TX2 : u_T := fun k => match k with
  | 0 => ("Glosspair$Lexicon", "answeringSide", "I", true)
  | 1 => ("Glosspair$Lexicon", "shares", "[I", true)
  | 2 => ("Glosspair$Lexicon", "counts", "[J", true)
  | 3 => ("Glosspair$Lexicon", "fresh", "[I", true)
  | _ => ("Glosspair$Lexicon", "rests", "[J", true)
def tyX2 : Nat → FieldType := fun k => match k with
  | 0 => .int
  | 1 => .array .int
  | 2 => .array .long
  | 3 => .array .int
  | _ => .array .long
abbrev wsX20 : List Cond := u_ws RX2 TX2 5
theorem nmX2 : ∀ a, a < 5 → ∀ b, b < 5 → a ≠ b → (TX2 a).2.1 ≠ (TX2 b).2.1 := by decide +kernel
theorem tyX2_ok : ∀ k, k < 5 → parseFieldDescriptor (TX2 k).2.2.1 = some (tyX2 k) := by decide +kernel
abbrev cX2_init : ByteArray := prog_4_method_1_code
def yX2_init : MethodName := ⟨RX2, "<init>", "(I)V"⟩
abbrev cX2_shareOf : ByteArray := prog_4_method_2_code
def yX2_shareOf : MethodName := ⟨RX2, "shareOf", "(II)I"⟩
abbrev cX2_start : ByteArray := prog_4_method_3_code
def yX2_start : MethodName := ⟨RX2, "start", "(LGlosspair$Corpus;)I"⟩
abbrev cX2_learn : ByteArray := prog_4_method_4_code
def yX2_learn : MethodName := ⟨RX2, "learn", "(LGlosspair$Corpus;)I"⟩
abbrev cX2_cellOf : ByteArray := prog_4_method_5_code
def yX2_cellOf : MethodName := ⟨RX2, "cellOf", "(II)I"⟩
abbrev cX2_countMeetings : ByteArray := prog_4_method_6_code
def yX2_countMeetings : MethodName := ⟨RX2, "countMeetings", "(LGlosspair$Corpus;)V"⟩
abbrev cX2_meetAll : ByteArray := prog_4_method_7_code
def yX2_meetAll : MethodName := ⟨RX2, "meetAll", "(LGlosspair$Sentence;LGlosspair$Sentence;)V"⟩
abbrev cX2_meet : ByteArray := prog_4_method_8_code
def yX2_meet : MethodName := ⟨RX2, "meet", "(II)V"⟩
abbrev cX2_countAnswers : ByteArray := prog_4_method_9_code
def yX2_countAnswers : MethodName := ⟨RX2, "countAnswers", "(LGlosspair$Corpus;)V"⟩
abbrev cX2_answerAll : ByteArray := prog_4_method_10_code
def yX2_answerAll : MethodName := ⟨RX2, "answerAll", "(LGlosspair$Sentence;LGlosspair$Sentence;)V"⟩
abbrev cX2_sumOfShares : ByteArray := prog_4_method_11_code
def yX2_sumOfShares : MethodName := ⟨RX2, "sumOfShares", "(LGlosspair$Sentence;I)J"⟩
abbrev cX2_addAnswer : ByteArray := prog_4_method_12_code
def yX2_addAnswer : MethodName := ⟨RX2, "addAnswer", "(IIJ)V"⟩
abbrev cX2_apportionAll : ByteArray := prog_4_method_13_code
def yX2_apportionAll : MethodName := ⟨RX2, "apportionAll", "()I"⟩
abbrev cX2_apportion : ByteArray := prog_4_method_14_code
def yX2_apportion : MethodName := ⟨RX2, "apportion", "(I)V"⟩
abbrev cX2_countOf : ByteArray := prog_4_method_15_code
def yX2_countOf : MethodName := ⟨RX2, "countOf", "(II)J"⟩
abbrev cX2_giveWholes : ByteArray := prog_4_method_16_code
def yX2_giveWholes : MethodName := ⟨RX2, "giveWholes", "(IJ)I"⟩
abbrev cX2_giveRests : ByteArray := prog_4_method_17_code
def yX2_giveRests : MethodName := ⟨RX2, "giveRests", "(I)V"⟩
abbrev cX2_placeOfGreatestRest : ByteArray := prog_4_method_18_code
def yX2_placeOfGreatestRest : MethodName := ⟨RX2, "placeOfGreatestRest", "()I"⟩
abbrev cX2_replaceShares : ByteArray := prog_4_method_19_code
def yX2_replaceShares : MethodName := ⟨RX2, "replaceShares", "(I)I"⟩
abbrev cX2_sharesAboveZero : ByteArray := prog_4_method_20_code
def yX2_sharesAboveZero : MethodName := ⟨RX2, "sharesAboveZero", "()I"⟩
def RX3 : String := "Glosspair$Likelihood"
def TX3 : u_T := fun k => match k with
  | 0 => ("Glosspair$Likelihood", "parts", "[J", true)
  | 1 => ("Glosspair$Likelihood", "places", "I", false)
  | _ => ("Glosspair$Likelihood", "answerers", "I", false)
def tyX3 : Nat → FieldType := fun k => match k with
  | 0 => .array .long
  | 1 => .int
  | _ => .int
abbrev wsX30 : List Cond := u_ws RX3 TX3 3
theorem nmX3 : ∀ a, a < 3 → ∀ b, b < 3 → a ≠ b → (TX3 a).2.1 ≠ (TX3 b).2.1 := by decide +kernel
theorem tyX3_ok : ∀ k, k < 3 → parseFieldDescriptor (TX3 k).2.2.1 = some (tyX3 k) := by decide +kernel
abbrev cX3_init : ByteArray := prog_5_method_1_code
def yX3_init : MethodName := ⟨RX3, "<init>", "()V"⟩
abbrev cX3_consider : ByteArray := prog_5_method_2_code
def yX3_consider : MethodName := ⟨RX3, "consider", "(LGlosspair$SentencePair;LGlosspair$Lexicon;)V"⟩
abbrev cX3_productOfSums : ByteArray := prog_5_method_3_code
def yX3_productOfSums : MethodName := ⟨RX3, "productOfSums", "()J"⟩
abbrev cX3_sumOfProducts : ByteArray := prog_5_method_4_code
def yX3_sumOfProducts : MethodName := ⟨RX3, "sumOfProducts", "()J"⟩
abbrev cX3_sumOfWays : ByteArray := prog_5_method_5_code
def yX3_sumOfWays : MethodName := ⟨RX3, "sumOfWays", "([JIIIJ)J"⟩
abbrev cX3_setPart : ByteArray := prog_5_method_6_code
def yX3_setPart : MethodName := ⟨RX3, "setPart", "(IIJ)V"⟩
abbrev cX3_partOf : ByteArray := prog_5_method_7_code
def yX3_partOf : MethodName := ⟨RX3, "partOf", "([JII)J"⟩
abbrev cX3_cellOf : ByteArray := prog_5_method_8_code
def yX3_cellOf : MethodName := ⟨RX3, "cellOf", "(II)I"⟩
def RX4 : String := "Glosspair$Linker"
def TX4 : u_T := fun k => match k with
  | 0 => ("Glosspair$Linker", "forward", "LGlosspair$Lexicon;", true)
  | 1 => ("Glosspair$Linker", "backward", "LGlosspair$Lexicon;", true)
  | _ => ("Glosspair$Linker", "weights", "LGlosspair$Weights;", true)
def tyX4 : Nat → FieldType := fun k => match k with
  | 0 => .object "Glosspair$Lexicon"
  | 1 => .object "Glosspair$Lexicon"
  | _ => .object "Glosspair$Weights"
abbrev wsX40 : List Cond := u_ws RX4 TX4 3
theorem nmX4 : ∀ a, a < 3 → ∀ b, b < 3 → a ≠ b → (TX4 a).2.1 ≠ (TX4 b).2.1 := by decide +kernel
theorem tyX4_ok : ∀ k, k < 3 → parseFieldDescriptor (TX4 k).2.2.1 = some (tyX4 k) := by decide +kernel
abbrev cX4_init : ByteArray := prog_6_method_1_code
def yX4_init : MethodName := ⟨RX4, "<init>", "()V"⟩
abbrev cX4_lexicon : ByteArray := prog_6_method_2_code
def yX4_lexicon : MethodName := ⟨RX4, "lexicon", "(I)LGlosspair$Lexicon;"⟩
abbrev cX4_setWeight : ByteArray := prog_6_method_3_code
def yX4_setWeight : MethodName := ⟨RX4, "setWeight", "(II)I"⟩
abbrev cX4_answerFor : ByteArray := prog_6_method_4_code
def yX4_answerFor : MethodName := ⟨RX4, "answerFor", "(ILGlosspair$SentencePair;I)I"⟩
def RX5 : String := "Glosspair$PhraseSearch"
def TX5 : u_T := fun k => match k with
  | 0 => ("Glosspair$PhraseSearch", "ends", "[I", true)
  | _ => ("Glosspair$PhraseSearch", "count", "I", false)
def tyX5 : Nat → FieldType := fun k => match k with
  | 0 => .array .int
  | _ => .int
abbrev wsX50 : List Cond := u_ws RX5 TX5 2
theorem nmX5 : ∀ a, a < 2 → ∀ b, b < 2 → a ≠ b → (TX5 a).2.1 ≠ (TX5 b).2.1 := by decide +kernel
theorem tyX5_ok : ∀ k, k < 2 → parseFieldDescriptor (TX5 k).2.2.1 = some (tyX5 k) := by decide +kernel
abbrev cX5_init : ByteArray := prog_7_method_1_code
def yX5_init : MethodName := ⟨RX5, "<init>", "()V"⟩
abbrev cX5_count : ByteArray := prog_7_method_2_code
def yX5_count : MethodName := ⟨RX5, "count", "()I"⟩
abbrev cX5_endOfFound : ByteArray := prog_7_method_3_code
def yX5_endOfFound : MethodName := ⟨RX5, "endOfFound", "(I)I"⟩
abbrev cX5_seek : ByteArray := prog_7_method_4_code
def yX5_seek : MethodName := ⟨RX5, "seek", "(LGlosspair$Alignment;I)V"⟩
abbrev cX5_seekAcross : ByteArray := prog_7_method_5_code
def yX5_seekAcross : MethodName := ⟨RX5, "seekAcross", "(LGlosspair$Alignment;III)V"⟩
abbrev cX5_isPhrase : ByteArray := prog_7_method_6_code
def yX5_isPhrase : MethodName := ⟨RX5, "isPhrase", "(III)Z"⟩
abbrev cX5_spanBits : ByteArray := prog_7_method_7_code
def yX5_spanBits : MethodName := ⟨RX5, "spanBits", "(II)I"⟩
abbrev cX5_meet : ByteArray := prog_7_method_8_code
def yX5_meet : MethodName := ⟨RX5, "meet", "(IIIII)V"⟩
def RX6 : String := "Glosspair$Sentence"
def TX6 : u_T := fun k => match k with
  | 0 => ("Glosspair$Sentence", "words", "[I", true)
  | _ => ("Glosspair$Sentence", "length", "I", false)
def tyX6 : Nat → FieldType := fun k => match k with
  | 0 => .array .int
  | _ => .int
abbrev wsX60 : List Cond := u_ws RX6 TX6 2
theorem nmX6 : ∀ a, a < 2 → ∀ b, b < 2 → a ≠ b → (TX6 a).2.1 ≠ (TX6 b).2.1 := by decide +kernel
theorem tyX6_ok : ∀ k, k < 2 → parseFieldDescriptor (TX6 k).2.2.1 = some (tyX6 k) := by decide +kernel
abbrev cX6_init : ByteArray := prog_8_method_1_code
def yX6_init : MethodName := ⟨RX6, "<init>", "()V"⟩
abbrev cX6_length : ByteArray := prog_8_method_2_code
def yX6_length : MethodName := ⟨RX6, "length", "()I"⟩
abbrev cX6_isFull : ByteArray := prog_8_method_3_code
def yX6_isFull : MethodName := ⟨RX6, "isFull", "()Z"⟩
abbrev cX6_has : ByteArray := prog_8_method_4_code
def yX6_has : MethodName := ⟨RX6, "has", "(I)Z"⟩
abbrev cX6_at : ByteArray := prog_8_method_5_code
def yX6_at : MethodName := ⟨RX6, "at", "(I)I"⟩
abbrev cX6_append : ByteArray := prog_8_method_6_code
def yX6_append : MethodName := ⟨RX6, "append", "(I)V"⟩
abbrev cX6_clear : ByteArray := prog_8_method_7_code
def yX6_clear : MethodName := ⟨RX6, "clear", "()V"⟩
def RX7 : String := "Glosspair$SentencePair"
def TX7 : u_T := fun k => match k with
  | 0 => ("Glosspair$SentencePair", "first", "LGlosspair$Sentence;", true)
  | 1 => ("Glosspair$SentencePair", "second", "LGlosspair$Sentence;", true)
  | _ => ("Glosspair$SentencePair", "there", "Z", false)
def tyX7 : Nat → FieldType := fun k => match k with
  | 0 => .object "Glosspair$Sentence"
  | 1 => .object "Glosspair$Sentence"
  | _ => .boolean
abbrev wsX70 : List Cond := u_ws RX7 TX7 3
theorem nmX7 : ∀ a, a < 3 → ∀ b, b < 3 → a ≠ b → (TX7 a).2.1 ≠ (TX7 b).2.1 := by decide +kernel
theorem tyX7_ok : ∀ k, k < 3 → parseFieldDescriptor (TX7 k).2.2.1 = some (tyX7 k) := by decide +kernel
abbrev cX7_init : ByteArray := prog_9_method_1_code
def yX7_init : MethodName := ⟨RX7, "<init>", "()V"⟩
abbrev cX7_ofSide : ByteArray := prog_9_method_2_code
def yX7_ofSide : MethodName := ⟨RX7, "ofSide", "(I)LGlosspair$Sentence;"⟩
abbrev cX7_isThere : ByteArray := prog_9_method_3_code
def yX7_isThere : MethodName := ⟨RX7, "isThere", "()Z"⟩
abbrev cX7_setThere : ByteArray := prog_9_method_4_code
def yX7_setThere : MethodName := ⟨RX7, "setThere", "(Z)V"⟩
def RX8 : String := "Glosspair$Weights"
def TX8 : u_T := fun k => match k with
  | _ => ("Glosspair$Weights", "values", "[I", true)
def tyX8 : Nat → FieldType := fun k => match k with
  | _ => .array .int
abbrev wsX80 : List Cond := u_ws RX8 TX8 1
theorem nmX8 : ∀ a, a < 1 → ∀ b, b < 1 → a ≠ b → (TX8 a).2.1 ≠ (TX8 b).2.1 := by decide +kernel
theorem tyX8_ok : ∀ k, k < 1 → parseFieldDescriptor (TX8 k).2.2.1 = some (tyX8 k) := by decide +kernel
abbrev cX8_init : ByteArray := prog_10_method_1_code
def yX8_init : MethodName := ⟨RX8, "<init>", "()V"⟩
abbrev cX8_at : ByteArray := prog_10_method_2_code
def yX8_at : MethodName := ⟨RX8, "at", "(I)I"⟩
abbrev cX8_replace : ByteArray := prog_10_method_3_code
def yX8_replace : MethodName := ⟨RX8, "replace", "(II)I"⟩
abbrev cX8_between : ByteArray := prog_10_method_4_code
def yX8_between : MethodName := ⟨RX8, "between", "(II)I"⟩
abbrev cX8_ofEmpty : ByteArray := prog_10_method_5_code
def yX8_ofEmpty : MethodName := ⟨RX8, "ofEmpty", "()I"⟩
def RX9 : String := "Glosspair"
def TX9 : u_T := fun k => match k with
  | 0 => ("Glosspair", "corpus", "LGlosspair$Corpus;", true)
  | 1 => ("Glosspair", "linker", "LGlosspair$Linker;", true)
  | 2 => ("Glosspair", "alignment", "LGlosspair$Alignment;", true)
  | 3 => ("Glosspair", "search", "LGlosspair$PhraseSearch;", true)
  | 4 => ("Glosspair", "likelihood", "LGlosspair$Likelihood;", true)
  | _ => ("Glosspair", "drafts", "LGlosspair$SentencePair;", false)
def tyX9 : Nat → FieldType := fun k => match k with
  | 0 => .object "Glosspair$Corpus"
  | 1 => .object "Glosspair$Linker"
  | 2 => .object "Glosspair$Alignment"
  | 3 => .object "Glosspair$PhraseSearch"
  | 4 => .object "Glosspair$Likelihood"
  | _ => .object "Glosspair$SentencePair"
abbrev wsX90 : List Cond := u_ws RX9 TX9 6
theorem nmX9 : ∀ a, a < 6 → ∀ b, b < 6 → a ≠ b → (TX9 a).2.1 ≠ (TX9 b).2.1 := by decide +kernel
theorem tyX9_ok : ∀ k, k < 6 → parseFieldDescriptor (TX9 k).2.2.1 = some (tyX9 k) := by decide +kernel
abbrev cX9_init : ByteArray := prog_1_method_1_code
def yX9_init : MethodName := ⟨RX9, "<init>", "()V"⟩
abbrev cX9_put : ByteArray := prog_1_method_2_code
def yX9_put : MethodName := ⟨RX9, "put", "(II)I"⟩
abbrev cX9_wipe : ByteArray := prog_1_method_3_code
def yX9_wipe : MethodName := ⟨RX9, "wipe", "()I"⟩
abbrev cX9_pair : ByteArray := prog_1_method_4_code
def yX9_pair : MethodName := ⟨RX9, "pair", "()I"⟩
abbrev cX9_takeBack : ByteArray := prog_1_method_5_code
def yX9_takeBack : MethodName := ⟨RX9, "takeBack", "(I)I"⟩
abbrev cX9_begin : ByteArray := prog_1_method_6_code
def yX9_begin : MethodName := ⟨RX9, "begin", "()I"⟩
abbrev cX9_round : ByteArray := prog_1_method_7_code
def yX9_round : MethodName := ⟨RX9, "round", "()I"⟩
abbrev cX9_weight : ByteArray := prog_1_method_8_code
def yX9_weight : MethodName := ⟨RX9, "weight", "(II)I"⟩
abbrev cX9_pairs : ByteArray := prog_1_method_9_code
def yX9_pairs : MethodName := ⟨RX9, "pairs", "()I"⟩
abbrev cX9_word : ByteArray := prog_1_method_10_code
def yX9_word : MethodName := ⟨RX9, "word", "(III)I"⟩
abbrev cX9_share : ByteArray := prog_1_method_11_code
def yX9_share : MethodName := ⟨RX9, "share", "(III)I"⟩
abbrev cX9_link : ByteArray := prog_1_method_12_code
def yX9_link : MethodName := ⟨RX9, "link", "(III)I"⟩
abbrev cX9_isJoined : ByteArray := prog_1_method_13_code
def yX9_isJoined : MethodName := ⟨RX9, "isJoined", "(III)Z"⟩
abbrev cX9_phrases : ByteArray := prog_1_method_14_code
def yX9_phrases : MethodName := ⟨RX9, "phrases", "(I)I"⟩
abbrev cX9_phrase : ByteArray := prog_1_method_15_code
def yX9_phrase : MethodName := ⟨RX9, "phrase", "(III)I"⟩
abbrev cX9_fertility : ByteArray := prog_1_method_16_code
def yX9_fertility : MethodName := ⟨RX9, "fertility", "(II)I"⟩
abbrev cX9_total : ByteArray := prog_1_method_17_code
def yX9_total : MethodName := ⟨RX9, "total", "(I)J"⟩
abbrev cX9_totalAnew : ByteArray := prog_1_method_18_code
def yX9_totalAnew : MethodName := ⟨RX9, "totalAnew", "(I)J"⟩
abbrev cX9_isSide : ByteArray := prog_1_method_19_code
def yX9_isSide : MethodName := ⟨RX9, "isSide", "(I)Z"⟩
abbrev cX9_isWord : ByteArray := prog_1_method_20_code
def yX9_isWord : MethodName := ⟨RX9, "isWord", "(I)Z"⟩
abbrev cX9_pairThatIsThere : ByteArray := prog_1_method_21_code
def yX9_pairThatIsThere : MethodName := ⟨RX9, "pairThatIsThere", "(I)LGlosspair$SentencePair;"⟩
abbrev cX9_shortPair : ByteArray := prog_1_method_22_code
def yX9_shortPair : MethodName := ⟨RX9, "shortPair", "(I)LGlosspair$SentencePair;"⟩
abbrev cX9_placesWith : ByteArray := prog_1_method_23_code
def yX9_placesWith : MethodName := ⟨RX9, "placesWith", "(LGlosspair$Sentence;II)I"⟩
def RX10 : String := "GlosspairModel"
def TX10 : u_T := fun k => match k with
  | 0 => ("GlosspairModel", "drafted", "[I", true)
  | 1 => ("GlosspairModel", "draft", "[I", true)
  | 2 => ("GlosspairModel", "made", "I", false)
  | 3 => ("GlosspairModel", "longOf", "[I", true)
  | 4 => ("GlosspairModel", "words", "[I", true)
  | 5 => ("GlosspairModel", "isGone", "[Z", true)
  | 6 => ("GlosspairModel", "weights", "[I", true)
  | 7 => ("GlosspairModel", "shares", "[I", true)
  | 8 => ("GlosspairModel", "counts", "[J", true)
  | 9 => ("GlosspairModel", "rests", "[J", true)
  | 10 => ("GlosspairModel", "fresh", "[I", true)
  | 11 => ("GlosspairModel", "links", "[I", true)
  | 12 => ("GlosspairModel", "joined", "[Z", true)
  | 13 => ("GlosspairModel", "phraseFrom", "I", false)
  | 14 => ("GlosspairModel", "phraseTo", "I", false)
  | 15 => ("GlosspairModel", "otherFrom", "I", false)
  | 16 => ("GlosspairModel", "otherTo", "I", false)
  | _ => ("GlosspairModel", "thrown", "I", false)
def tyX10 : Nat → FieldType := fun k => match k with
  | 0 => .array .int
  | 1 => .array .int
  | 2 => .int
  | 3 => .array .int
  | 4 => .array .int
  | 5 => .array .boolean
  | 6 => .array .int
  | 7 => .array .int
  | 8 => .array .long
  | 9 => .array .long
  | 10 => .array .int
  | 11 => .array .int
  | 12 => .array .boolean
  | 13 => .int
  | 14 => .int
  | 15 => .int
  | 16 => .int
  | _ => .int
abbrev wsX100 : List Cond := u_ws RX10 TX10 18
theorem nmX10 : ∀ a, a < 18 → ∀ b, b < 18 → a ≠ b → (TX10 a).2.1 ≠ (TX10 b).2.1 := by decide +kernel
theorem tyX10_ok : ∀ k, k < 18 → parseFieldDescriptor (TX10 k).2.2.1 = some (tyX10 k) := by decide +kernel
abbrev cX10_init : ByteArray := prog_12_method_1_code
def yX10_init : MethodName := ⟨RX10, "<init>", "()V"⟩
abbrev cX10_thrown : ByteArray := prog_12_method_2_code
def yX10_thrown : MethodName := ⟨RX10, "thrown", "()I"⟩
abbrev cX10_in : ByteArray := prog_12_method_3_code
def yX10_in : MethodName := ⟨RX10, "in", "(III)Z"⟩
abbrev cX10_goes : ByteArray := prog_12_method_4_code
def yX10_goes : MethodName := ⟨RX10, "goes", "(ZZZ)Z"⟩
abbrev cX10_isThere : ByteArray := prog_12_method_5_code
def yX10_isThere : MethodName := ⟨RX10, "isThere", "(I)Z"⟩
abbrev cX10_longOf : ByteArray := prog_12_method_6_code
def yX10_longOf : MethodName := ⟨RX10, "longOf", "(II)I"⟩
abbrev cX10_wordAt : ByteArray := prog_12_method_7_code
def yX10_wordAt : MethodName := ⟨RX10, "wordAt", "(III)I"⟩
abbrev cX10_at : ByteArray := prog_12_method_8_code
def yX10_at : MethodName := ⟨RX10, "at", "(III)I"⟩
abbrev cX10_put : ByteArray := prog_12_method_9_code
def yX10_put : MethodName := ⟨RX10, "put", "(II)I"⟩
abbrev cX10_wipe : ByteArray := prog_12_method_10_code
def yX10_wipe : MethodName := ⟨RX10, "wipe", "()I"⟩
abbrev cX10_pair : ByteArray := prog_12_method_11_code
def yX10_pair : MethodName := ⟨RX10, "pair", "()I"⟩
abbrev cX10_there : ByteArray := prog_12_method_12_code
def yX10_there : MethodName := ⟨RX10, "there", "()I"⟩
abbrev cX10_takeBack : ByteArray := prog_12_method_13_code
def yX10_takeBack : MethodName := ⟨RX10, "takeBack", "(I)I"⟩
abbrev cX10_marks : ByteArray := prog_12_method_14_code
def yX10_marks : MethodName := ⟨RX10, "marks", "(II)V"⟩
abbrev cX10_clears : ByteArray := prog_12_method_15_code
def yX10_clears : MethodName := ⟨RX10, "clears", "()V"⟩
abbrev cX10_begin : ByteArray := prog_12_method_16_code
def yX10_begin : MethodName := ⟨RX10, "begin", "()I"⟩
abbrev cX10_allFor : ByteArray := prog_12_method_17_code
def yX10_allFor : MethodName := ⟨RX10, "allFor", "(III)J"⟩
abbrev cX10_adds : ByteArray := prog_12_method_18_code
def yX10_adds : MethodName := ⟨RX10, "adds", "(II)V"⟩
abbrev cX10_renews : ByteArray := prog_12_method_19_code
def yX10_renews : MethodName := ⟨RX10, "renews", "(I)V"⟩
abbrev cX10_round : ByteArray := prog_12_method_20_code
def yX10_round : MethodName := ⟨RX10, "round", "()I"⟩
abbrev cX10_weight : ByteArray := prog_12_method_21_code
def yX10_weight : MethodName := ⟨RX10, "weight", "(II)I"⟩
abbrev cX10_between : ByteArray := prog_12_method_22_code
def yX10_between : MethodName := ⟨RX10, "between", "(II)I"⟩
abbrev cX10_linkOf : ByteArray := prog_12_method_23_code
def yX10_linkOf : MethodName := ⟨RX10, "linkOf", "(III)I"⟩
abbrev cX10_isBeside : ByteArray := prog_12_method_24_code
def yX10_isBeside : MethodName := ⟨RX10, "isBeside", "(I)Z"⟩
abbrev cX10_isFree : ByteArray := prog_12_method_25_code
def yX10_isFree : MethodName := ⟨RX10, "isFree", "(I)Z"⟩
abbrev cX10_finds : ByteArray := prog_12_method_26_code
def yX10_finds : MethodName := ⟨RX10, "finds", "(I)V"⟩
abbrev cX10_isPhrase : ByteArray := prog_12_method_27_code
def yX10_isPhrase : MethodName := ⟨RX10, "isPhrase", "(IIII)Z"⟩
abbrev cX10_meets : ByteArray := prog_12_method_28_code
def yX10_meets : MethodName := ⟨RX10, "meets", "(II)I"⟩
abbrev cX10_pairs : ByteArray := prog_12_method_29_code
def yX10_pairs : MethodName := ⟨RX10, "pairs", "()I"⟩
abbrev cX10_word : ByteArray := prog_12_method_30_code
def yX10_word : MethodName := ⟨RX10, "word", "(III)I"⟩
abbrev cX10_share : ByteArray := prog_12_method_31_code
def yX10_share : MethodName := ⟨RX10, "share", "(III)I"⟩
abbrev cX10_isPlace : ByteArray := prog_12_method_32_code
def yX10_isPlace : MethodName := ⟨RX10, "isPlace", "(III)Z"⟩
abbrev cX10_link : ByteArray := prog_12_method_33_code
def yX10_link : MethodName := ⟨RX10, "link", "(III)I"⟩
abbrev cX10_isJoined : ByteArray := prog_12_method_34_code
def yX10_isJoined : MethodName := ⟨RX10, "isJoined", "(III)Z"⟩
abbrev cX10_phrases : ByteArray := prog_12_method_35_code
def yX10_phrases : MethodName := ⟨RX10, "phrases", "(I)I"⟩
abbrev cX10_phrase : ByteArray := prog_12_method_36_code
def yX10_phrase : MethodName := ⟨RX10, "phrase", "(III)I"⟩
abbrev cX10_fertilityOf : ByteArray := prog_12_method_37_code
def yX10_fertilityOf : MethodName := ⟨RX10, "fertilityOf", "(I)I"⟩
abbrev cX10_fertility : ByteArray := prog_12_method_38_code
def yX10_fertility : MethodName := ⟨RX10, "fertility", "(II)I"⟩
abbrev cX10_total : ByteArray := prog_12_method_39_code
def yX10_total : MethodName := ⟨RX10, "total", "(I)J"⟩
abbrev cX10_totalAnew : ByteArray := prog_12_method_40_code
def yX10_totalAnew : MethodName := ⟨RX10, "totalAnew", "(I)J"⟩
def RJx145de : String := "java/io/Serializable"
def TJx145de : u_T := fun k => match k with
  | _ => ("", "", "", false)
def RJx8e188 : String := "java/lang/Cloneable"
def TJx8e188 : u_T := fun k => match k with
  | _ => ("", "", "", false)
def RJ6 : String := "java/lang/Integer"
def TJ6 : u_T := fun k => match k with
  | _ => ("", "", "", false)
abbrev cJ6_bitCount_0f7a4 : ByteArray := prog_18_method_49_code
def yJ6_bitCount_0f7a4 : MethodName := ⟨RJ6, "bitCount", "(I)I"⟩
def RJ9 : String := "java/lang/Math"
def TJ9 : u_T := fun k => match k with
  | _ => ("", "", "", false)
abbrev cJ9_abs_0f7a4 : ByteArray := prog_19_method_59_code
def yJ9_abs_0f7a4 : MethodName := ⟨RJ9, "abs", "(I)I"⟩
abbrev cJ9_min_7cf53 : ByteArray := prog_19_method_69_code
def yJ9_min_7cf53 : MethodName := ⟨RJ9, "min", "(II)I"⟩
def RJ0 : String := "java/lang/String"
def TJ0 : u_T := fun k => match k with
  | _ => ("", "", "", false)
def RJ7 : String := "java/util/Arrays"
def TJ7 : u_T := fun k => match k with
  | _ => ("", "", "", false)
abbrev cJ7_fill_d0a16 : ByteArray := prog_23_method_101_code
def yJ7_fill_d0a16 : MethodName := ⟨RJ7, "fill", "([JJ)V"⟩
abbrev cJ7_fill_53178 : ByteArray := prog_23_method_103_code
def yJ7_fill_53178 : MethodName := ⟨RJ7, "fill", "([II)V"⟩
def RL : String := "GlosspairLaw"
abbrev cL_put : ByteArray := method_3_code
def yL_put : MethodName := ⟨RL, "put", "(LGlosspair;II[J)I"⟩
abbrev cL_pair : ByteArray := method_4_code
def yL_pair : MethodName := ⟨RL, "pair", "(LGlosspair;[J)I"⟩
abbrev cL_takeBack : ByteArray := method_5_code
def yL_takeBack : MethodName := ⟨RL, "takeBack", "(LGlosspair;I[J)I"⟩
abbrev cL_weight : ByteArray := method_6_code
def yL_weight : MethodName := ⟨RL, "weight", "(LGlosspair;II[J)I"⟩
abbrev cL_word : ByteArray := method_7_code
def yL_word : MethodName := ⟨RL, "word", "(LGlosspair;III[J)I"⟩
abbrev cL_share : ByteArray := method_8_code
def yL_share : MethodName := ⟨RL, "share", "(LGlosspair;III[J)I"⟩
abbrev cL_link : ByteArray := method_9_code
def yL_link : MethodName := ⟨RL, "link", "(LGlosspair;III[J)I"⟩
abbrev cL_isJoined : ByteArray := method_10_code
def yL_isJoined : MethodName := ⟨RL, "isJoined", "(LGlosspair;III[J)I"⟩
abbrev cL_phrases : ByteArray := method_11_code
def yL_phrases : MethodName := ⟨RL, "phrases", "(LGlosspair;I[J)I"⟩
abbrev cL_phrase : ByteArray := method_12_code
def yL_phrase : MethodName := ⟨RL, "phrase", "(LGlosspair;III[J)I"⟩
abbrev cL_fertility : ByteArray := method_13_code
def yL_fertility : MethodName := ⟨RL, "fertility", "(LGlosspair;II[J)I"⟩
abbrev cL_total : ByteArray := method_14_code
def yL_total : MethodName := ⟨RL, "total", "(LGlosspair;I[J)I"⟩
abbrev cL_totalAnew : ByteArray := method_15_code
def yL_totalAnew : MethodName := ⟨RL, "totalAnew", "(LGlosspair;I[J)I"⟩
abbrev cL_law : ByteArray := code
def yL_law : MethodName := ⟨RL, "law", "([I)Z"⟩
abbrev vwCl : List vw_C := [(RX0, TX0, 5), (RX1, TX1, 3), (RX2, TX2, 5), (RX3, TX3, 3), (RX4, TX4, 3), (RX5, TX5, 2), (RX6, TX6, 2), (RX7, TX7, 3), (RX8, TX8, 1), (RX9, TX9, 6), (RX10, TX10, 18)]
end
section
theorem dX0_init_0 : decode cX0_init 0 = .ok (.aload_n 0, 1) := by decide +kernel
theorem dX0_init_1 : decode cX0_init 1 = .ok (.invokespecial 3, 3) := by decide +kernel
theorem dX0_init_4 : decode cX0_init 4 = .ok (.aload_n 0, 1) := by decide +kernel
theorem dX0_init_5 : decode cX0_init 5 = .ok (.bipush 8, 2) := by decide +kernel
theorem dX0_init_7 : decode cX0_init 7 = .ok (.newarray .int, 2) := by decide +kernel
theorem dX0_init_9 : decode cX0_init 9 = .ok (.putfield 9, 3) := by decide +kernel
theorem dX0_init_12 : decode cX0_init 12 = .ok (.aload_n 0, 1) := by decide +kernel
theorem dX0_init_13 : decode cX0_init 13 = .ok (.bipush 8, 2) := by decide +kernel
theorem dX0_init_15 : decode cX0_init 15 = .ok (.newarray .int, 2) := by decide +kernel
theorem dX0_init_17 : decode cX0_init 17 = .ok (.putfield 15, 3) := by decide +kernel
theorem dX0_init_20 : decode cX0_init 20 = .ok (.aload_n 0, 1) := by decide +kernel
theorem dX0_init_21 : decode cX0_init 21 = .ok (.bipush 8, 2) := by decide +kernel
theorem dX0_init_23 : decode cX0_init 23 = .ok (.newarray .int, 2) := by decide +kernel
theorem dX0_init_25 : decode cX0_init 25 = .ok (.putfield 18, 3) := by decide +kernel
theorem dX0_init_28 : decode cX0_init 28 = .ok (.return_, 1) := by decide +kernel
theorem dX0_firstLength_0 : decode cX0_firstLength 0 = .ok (.aload_n 0, 1) := by decide +kernel
theorem dX0_firstLength_1 : decode cX0_firstLength 1 = .ok (.getfield 21, 3) := by decide +kernel
theorem dX0_firstLength_4 : decode cX0_firstLength 4 = .ok (.ireturn, 1) := by decide +kernel
theorem dX0_secondLength_0 : decode cX0_secondLength 0 = .ok (.aload_n 0, 1) := by decide +kernel
theorem dX0_secondLength_1 : decode cX0_secondLength 1 = .ok (.getfield 25, 3) := by decide +kernel
theorem dX0_secondLength_4 : decode cX0_secondLength 4 = .ok (.ireturn, 1) := by decide +kernel
theorem dX0_joinedBits_0 : decode cX0_joinedBits 0 = .ok (.aload_n 0, 1) := by decide +kernel
theorem dX0_joinedBits_1 : decode cX0_joinedBits 1 = .ok (.getfield 18, 3) := by decide +kernel
theorem dX0_joinedBits_4 : decode cX0_joinedBits 4 = .ok (.iload_n 1, 1) := by decide +kernel
theorem dX0_joinedBits_5 : decode cX0_joinedBits 5 = .ok (.invokestatic 28, 3) := by decide +kernel
theorem dX0_joinedBits_8 : decode cX0_joinedBits 8 = .ok (.ireturn, 1) := by decide +kernel
theorem dX0_joinedOf_0 : decode cX0_joinedOf 0 = .ok (.aload_n 0, 1) := by decide +kernel
theorem dX0_joinedOf_1 : decode cX0_joinedOf 1 = .ok (.iload_n 1, 1) := by decide +kernel
theorem dX0_joinedOf_2 : decode cX0_joinedOf 2 = .ok (.invokevirtual 32, 3) := by decide +kernel
theorem dX0_joinedOf_5 : decode cX0_joinedOf 5 = .ok (.invokestatic 36, 3) := by decide +kernel
theorem dX0_joinedOf_8 : decode cX0_joinedOf 8 = .ok (.ireturn, 1) := by decide +kernel
theorem dX0_hasJoined_0 : decode cX0_hasJoined 0 = .ok (.aload_n 0, 1) := by decide +kernel
theorem dX0_hasJoined_1 : decode cX0_hasJoined 1 = .ok (.iload_n 1, 1) := by decide +kernel
theorem dX0_hasJoined_2 : decode cX0_hasJoined 2 = .ok (.invokevirtual 32, 3) := by decide +kernel
theorem dX0_hasJoined_5 : decode cX0_hasJoined 5 = .ok (.iload_n 2, 1) := by decide +kernel
theorem dX0_hasJoined_6 : decode cX0_hasJoined 6 = .ok (.invokestatic 41, 3) := by decide +kernel
theorem dX0_hasJoined_9 : decode cX0_hasJoined 9 = .ok (.iand, 1) := by decide +kernel
theorem dX0_hasJoined_10 : decode cX0_hasJoined 10 = .ok (.ifCond .eq 7, 3) := by decide +kernel
theorem dX0_hasJoined_13 : decode cX0_hasJoined 13 = .ok (.iconst 1, 1) := by decide +kernel
theorem dX0_hasJoined_14 : decode cX0_hasJoined 14 = .ok (.goto 4, 3) := by decide +kernel
theorem dX0_hasJoined_17 : decode cX0_hasJoined 17 = .ok (.iconst 0, 1) := by decide +kernel
theorem dX0_hasJoined_18 : decode cX0_hasJoined 18 = .ok (.ireturn, 1) := by decide +kernel
theorem dX0_align_0 : decode cX0_align 0 = .ok (.aload_n 0, 1) := by decide +kernel
theorem dX0_align_1 : decode cX0_align 1 = .ok (.aload_n 1, 1) := by decide +kernel
theorem dX0_align_2 : decode cX0_align 2 = .ok (.iconst 0, 1) := by decide +kernel
theorem dX0_align_3 : decode cX0_align 3 = .ok (.invokevirtual 44, 3) := by decide +kernel
theorem dX0_align_6 : decode cX0_align 6 = .ok (.invokevirtual 50, 3) := by decide +kernel
theorem dX0_align_9 : decode cX0_align 9 = .ok (.putfield 21, 3) := by decide +kernel
theorem dX0_align_12 : decode cX0_align 12 = .ok (.aload_n 0, 1) := by decide +kernel
theorem dX0_align_13 : decode cX0_align 13 = .ok (.aload_n 1, 1) := by decide +kernel
theorem dX0_align_14 : decode cX0_align 14 = .ok (.iconst 1, 1) := by decide +kernel
theorem dX0_align_15 : decode cX0_align 15 = .ok (.invokevirtual 44, 3) := by decide +kernel
theorem dX0_align_18 : decode cX0_align 18 = .ok (.invokevirtual 50, 3) := by decide +kernel
theorem dX0_align_21 : decode cX0_align 21 = .ok (.putfield 25, 3) := by decide +kernel
theorem dX0_align_24 : decode cX0_align 24 = .ok (.aload_n 0, 1) := by decide +kernel
theorem dX0_align_25 : decode cX0_align 25 = .ok (.aload_n 1, 1) := by decide +kernel
theorem dX0_align_26 : decode cX0_align 26 = .ok (.aload_n 2, 1) := by decide +kernel
theorem dX0_align_27 : decode cX0_align 27 = .ok (.invokevirtual 56, 3) := by decide +kernel
theorem dX0_align_30 : decode cX0_align 30 = .ok (.iconst 0, 1) := by decide +kernel
theorem dX0_align_31 : decode cX0_align 31 = .ok (.istore_n 3, 1) := by decide +kernel
theorem dX0_align_32 : decode cX0_align 32 = .ok (.iload_n 3, 1) := by decide +kernel
theorem dX0_align_33 : decode cX0_align 33 = .ok (.aload_n 0, 1) := by decide +kernel
theorem dX0_align_34 : decode cX0_align 34 = .ok (.getfield 18, 3) := by decide +kernel
theorem dX0_align_37 : decode cX0_align 37 = .ok (.arraylength, 1) := by decide +kernel
theorem dX0_align_38 : decode cX0_align 38 = .ok (.if_icmp .ge 23, 3) := by decide +kernel
theorem dX0_align_41 : decode cX0_align 41 = .ok (.aload_n 0, 1) := by decide +kernel
theorem dX0_align_42 : decode cX0_align 42 = .ok (.getfield 18, 3) := by decide +kernel
theorem dX0_align_45 : decode cX0_align 45 = .ok (.iload_n 3, 1) := by decide +kernel
theorem dX0_align_46 : decode cX0_align 46 = .ok (.aload_n 0, 1) := by decide +kernel
theorem dX0_align_47 : decode cX0_align 47 = .ok (.getfield 9, 3) := by decide +kernel
theorem dX0_align_50 : decode cX0_align 50 = .ok (.iload_n 3, 1) := by decide +kernel
theorem dX0_align_51 : decode cX0_align 51 = .ok (.invokestatic 28, 3) := by decide +kernel
theorem dX0_align_54 : decode cX0_align 54 = .ok (.iastore, 1) := by decide +kernel
theorem dX0_align_55 : decode cX0_align 55 = .ok (.iinc 3 1, 3) := by decide +kernel
theorem dX0_align_58 : decode cX0_align 58 = .ok (.goto (-26), 3) := by decide +kernel
theorem dX0_align_61 : decode cX0_align 61 = .ok (.iconst 1, 1) := by decide +kernel
theorem dX0_align_62 : decode cX0_align 62 = .ok (.istore_n 3, 1) := by decide +kernel
theorem dX0_align_63 : decode cX0_align 63 = .ok (.iconst 0, 1) := by decide +kernel
theorem dX0_align_64 : decode cX0_align 64 = .ok (.istore 4, 2) := by decide +kernel
theorem dX0_align_66 : decode cX0_align 66 = .ok (.iload_n 3, 1) := by decide +kernel
theorem dX0_align_67 : decode cX0_align 67 = .ok (.ifCond .eq 21, 3) := by decide +kernel
theorem dX0_align_70 : decode cX0_align 70 = .ok (.iload 4, 2) := by decide +kernel
theorem dX0_align_72 : decode cX0_align 72 = .ok (.bipush 64, 2) := by decide +kernel
theorem dX0_align_74 : decode cX0_align 74 = .ok (.if_icmp .gt 14, 3) := by decide +kernel
theorem dX0_align_77 : decode cX0_align 77 = .ok (.aload_n 0, 1) := by decide +kernel
theorem dX0_align_78 : decode cX0_align 78 = .ok (.invokevirtual 60, 3) := by decide +kernel
theorem dX0_align_81 : decode cX0_align 81 = .ok (.istore_n 3, 1) := by decide +kernel
theorem dX0_align_82 : decode cX0_align 82 = .ok (.iinc 4 1, 3) := by decide +kernel
theorem dX0_align_85 : decode cX0_align 85 = .ok (.goto (-19), 3) := by decide +kernel
theorem dX0_align_88 : decode cX0_align 88 = .ok (.return_, 1) := by decide +kernel
theorem dX0_takeLinks_0 : decode cX0_takeLinks 0 = .ok (.aload_n 0, 1) := by decide +kernel
theorem dX0_takeLinks_1 : decode cX0_takeLinks 1 = .ok (.getfield 9, 3) := by decide +kernel
theorem dX0_takeLinks_4 : decode cX0_takeLinks 4 = .ok (.iconst 0, 1) := by decide +kernel
theorem dX0_takeLinks_5 : decode cX0_takeLinks 5 = .ok (.invokestatic 64, 3) := by decide +kernel
theorem dX0_takeLinks_8 : decode cX0_takeLinks 8 = .ok (.aload_n 0, 1) := by decide +kernel
theorem dX0_takeLinks_9 : decode cX0_takeLinks 9 = .ok (.getfield 15, 3) := by decide +kernel
theorem dX0_takeLinks_12 : decode cX0_takeLinks 12 = .ok (.iconst 0, 1) := by decide +kernel
theorem dX0_takeLinks_13 : decode cX0_takeLinks 13 = .ok (.invokestatic 64, 3) := by decide +kernel
theorem dX0_takeLinks_16 : decode cX0_takeLinks 16 = .ok (.iconst 0, 1) := by decide +kernel
theorem dX0_takeLinks_17 : decode cX0_takeLinks 17 = .ok (.istore_n 3, 1) := by decide +kernel
theorem dX0_takeLinks_18 : decode cX0_takeLinks 18 = .ok (.iload_n 3, 1) := by decide +kernel
theorem dX0_takeLinks_19 : decode cX0_takeLinks 19 = .ok (.aload_n 0, 1) := by decide +kernel
theorem dX0_takeLinks_20 : decode cX0_takeLinks 20 = .ok (.getfield 25, 3) := by decide +kernel
theorem dX0_takeLinks_23 : decode cX0_takeLinks 23 = .ok (.if_icmp .ge 21, 3) := by decide +kernel
theorem dX0_takeLinks_26 : decode cX0_takeLinks 26 = .ok (.aload_n 0, 1) := by decide +kernel
theorem dX0_takeLinks_27 : decode cX0_takeLinks 27 = .ok (.aload_n 2, 1) := by decide +kernel
theorem dX0_takeLinks_28 : decode cX0_takeLinks 28 = .ok (.iconst 0, 1) := by decide +kernel
theorem dX0_takeLinks_29 : decode cX0_takeLinks 29 = .ok (.aload_n 1, 1) := by decide +kernel
theorem dX0_takeLinks_30 : decode cX0_takeLinks 30 = .ok (.iload_n 3, 1) := by decide +kernel
theorem dX0_takeLinks_31 : decode cX0_takeLinks 31 = .ok (.invokevirtual 70, 3) := by decide +kernel
theorem dX0_takeLinks_34 : decode cX0_takeLinks 34 = .ok (.iload_n 3, 1) := by decide +kernel
theorem dX0_takeLinks_35 : decode cX0_takeLinks 35 = .ok (.invokevirtual 76, 3) := by decide +kernel
theorem dX0_takeLinks_38 : decode cX0_takeLinks 38 = .ok (.iinc 3 1, 3) := by decide +kernel
theorem dX0_takeLinks_41 : decode cX0_takeLinks 41 = .ok (.goto (-23), 3) := by decide +kernel
theorem dX0_takeLinks_44 : decode cX0_takeLinks 44 = .ok (.iconst 0, 1) := by decide +kernel
theorem dX0_takeLinks_45 : decode cX0_takeLinks 45 = .ok (.istore_n 3, 1) := by decide +kernel
theorem dX0_takeLinks_46 : decode cX0_takeLinks 46 = .ok (.iload_n 3, 1) := by decide +kernel
theorem dX0_takeLinks_47 : decode cX0_takeLinks 47 = .ok (.aload_n 0, 1) := by decide +kernel
theorem dX0_takeLinks_48 : decode cX0_takeLinks 48 = .ok (.getfield 21, 3) := by decide +kernel
theorem dX0_takeLinks_51 : decode cX0_takeLinks 51 = .ok (.if_icmp .ge 21, 3) := by decide +kernel
theorem dX0_takeLinks_54 : decode cX0_takeLinks 54 = .ok (.aload_n 0, 1) := by decide +kernel
theorem dX0_takeLinks_55 : decode cX0_takeLinks 55 = .ok (.iload_n 3, 1) := by decide +kernel
theorem dX0_takeLinks_56 : decode cX0_takeLinks 56 = .ok (.aload_n 2, 1) := by decide +kernel
theorem dX0_takeLinks_57 : decode cX0_takeLinks 57 = .ok (.iconst 1, 1) := by decide +kernel
theorem dX0_takeLinks_58 : decode cX0_takeLinks 58 = .ok (.aload_n 1, 1) := by decide +kernel
theorem dX0_takeLinks_59 : decode cX0_takeLinks 59 = .ok (.iload_n 3, 1) := by decide +kernel
theorem dX0_takeLinks_60 : decode cX0_takeLinks 60 = .ok (.invokevirtual 70, 3) := by decide +kernel
theorem dX0_takeLinks_63 : decode cX0_takeLinks 63 = .ok (.invokevirtual 76, 3) := by decide +kernel
theorem dX0_takeLinks_66 : decode cX0_takeLinks 66 = .ok (.iinc 3 1, 3) := by decide +kernel
theorem dX0_takeLinks_69 : decode cX0_takeLinks 69 = .ok (.goto (-23), 3) := by decide +kernel
theorem dX0_takeLinks_72 : decode cX0_takeLinks 72 = .ok (.return_, 1) := by decide +kernel
theorem dX0_takeLink_0 : decode cX0_takeLink 0 = .ok (.iload_n 1, 1) := by decide +kernel
theorem dX0_takeLink_1 : decode cX0_takeLink 1 = .ok (.ifCond .lt 54, 3) := by decide +kernel
theorem dX0_takeLink_4 : decode cX0_takeLink 4 = .ok (.iload_n 1, 1) := by decide +kernel
theorem dX0_takeLink_5 : decode cX0_takeLink 5 = .ok (.aload_n 0, 1) := by decide +kernel
theorem dX0_takeLink_6 : decode cX0_takeLink 6 = .ok (.getfield 9, 3) := by decide +kernel
theorem dX0_takeLink_9 : decode cX0_takeLink 9 = .ok (.arraylength, 1) := by decide +kernel
theorem dX0_takeLink_10 : decode cX0_takeLink 10 = .ok (.if_icmp .ge 45, 3) := by decide +kernel
theorem dX0_takeLink_13 : decode cX0_takeLink 13 = .ok (.iload_n 1, 1) := by decide +kernel
theorem dX0_takeLink_14 : decode cX0_takeLink 14 = .ok (.aload_n 0, 1) := by decide +kernel
theorem dX0_takeLink_15 : decode cX0_takeLink 15 = .ok (.getfield 15, 3) := by decide +kernel
theorem dX0_takeLink_18 : decode cX0_takeLink 18 = .ok (.arraylength, 1) := by decide +kernel
theorem dX0_takeLink_19 : decode cX0_takeLink 19 = .ok (.if_icmp .ge 36, 3) := by decide +kernel
theorem dX0_takeLink_22 : decode cX0_takeLink 22 = .ok (.aload_n 0, 1) := by decide +kernel
theorem dX0_takeLink_23 : decode cX0_takeLink 23 = .ok (.getfield 9, 3) := by decide +kernel
theorem dX0_takeLink_26 : decode cX0_takeLink 26 = .ok (.iload_n 1, 1) := by decide +kernel
theorem dX0_takeLink_27 : decode cX0_takeLink 27 = .ok (.dup2, 1) := by decide +kernel
theorem dX0_takeLink_28 : decode cX0_takeLink 28 = .ok (.iaload, 1) := by decide +kernel
theorem dX0_takeLink_29 : decode cX0_takeLink 29 = .ok (.aload_n 0, 1) := by decide +kernel
theorem dX0_takeLink_30 : decode cX0_takeLink 30 = .ok (.getfield 15, 3) := by decide +kernel
theorem dX0_takeLink_33 : decode cX0_takeLink 33 = .ok (.iload_n 1, 1) := by decide +kernel
theorem dX0_takeLink_34 : decode cX0_takeLink 34 = .ok (.iaload, 1) := by decide +kernel
theorem dX0_takeLink_35 : decode cX0_takeLink 35 = .ok (.iload_n 2, 1) := by decide +kernel
theorem dX0_takeLink_36 : decode cX0_takeLink 36 = .ok (.invokestatic 41, 3) := by decide +kernel
theorem dX0_takeLink_39 : decode cX0_takeLink 39 = .ok (.iand, 1) := by decide +kernel
theorem dX0_takeLink_40 : decode cX0_takeLink 40 = .ok (.ior, 1) := by decide +kernel
theorem dX0_takeLink_41 : decode cX0_takeLink 41 = .ok (.iastore, 1) := by decide +kernel
theorem dX0_takeLink_42 : decode cX0_takeLink 42 = .ok (.aload_n 0, 1) := by decide +kernel
theorem dX0_takeLink_43 : decode cX0_takeLink 43 = .ok (.getfield 15, 3) := by decide +kernel
theorem dX0_takeLink_46 : decode cX0_takeLink 46 = .ok (.iload_n 1, 1) := by decide +kernel
theorem dX0_takeLink_47 : decode cX0_takeLink 47 = .ok (.dup2, 1) := by decide +kernel
theorem dX0_takeLink_48 : decode cX0_takeLink 48 = .ok (.iaload, 1) := by decide +kernel
theorem dX0_takeLink_49 : decode cX0_takeLink 49 = .ok (.iload_n 2, 1) := by decide +kernel
theorem dX0_takeLink_50 : decode cX0_takeLink 50 = .ok (.invokestatic 41, 3) := by decide +kernel
theorem dX0_takeLink_53 : decode cX0_takeLink 53 = .ok (.ior, 1) := by decide +kernel
theorem dX0_takeLink_54 : decode cX0_takeLink 54 = .ok (.iastore, 1) := by decide +kernel
theorem dX0_takeLink_55 : decode cX0_takeLink 55 = .ok (.return_, 1) := by decide +kernel
theorem dX0_growOnce_0 : decode cX0_growOnce 0 = .ok (.iconst 0, 1) := by decide +kernel
theorem dX0_growOnce_1 : decode cX0_growOnce 1 = .ok (.istore_n 1, 1) := by decide +kernel
theorem dX0_growOnce_2 : decode cX0_growOnce 2 = .ok (.iconst 0, 1) := by decide +kernel
theorem dX0_growOnce_3 : decode cX0_growOnce 3 = .ok (.istore_n 2, 1) := by decide +kernel
theorem dX0_growOnce_4 : decode cX0_growOnce 4 = .ok (.iload_n 2, 1) := by decide +kernel
theorem dX0_growOnce_5 : decode cX0_growOnce 5 = .ok (.aload_n 0, 1) := by decide +kernel
theorem dX0_growOnce_6 : decode cX0_growOnce 6 = .ok (.getfield 21, 3) := by decide +kernel
theorem dX0_growOnce_9 : decode cX0_growOnce 9 = .ok (.if_icmp .ge 42, 3) := by decide +kernel
theorem dX0_growOnce_12 : decode cX0_growOnce 12 = .ok (.iconst 0, 1) := by decide +kernel
theorem dX0_growOnce_13 : decode cX0_growOnce 13 = .ok (.istore_n 3, 1) := by decide +kernel
theorem dX0_growOnce_14 : decode cX0_growOnce 14 = .ok (.iload_n 3, 1) := by decide +kernel
theorem dX0_growOnce_15 : decode cX0_growOnce 15 = .ok (.aload_n 0, 1) := by decide +kernel
theorem dX0_growOnce_16 : decode cX0_growOnce 16 = .ok (.getfield 25, 3) := by decide +kernel
theorem dX0_growOnce_19 : decode cX0_growOnce 19 = .ok (.if_icmp .ge 26, 3) := by decide +kernel
theorem dX0_growOnce_22 : decode cX0_growOnce 22 = .ok (.aload_n 0, 1) := by decide +kernel
theorem dX0_growOnce_23 : decode cX0_growOnce 23 = .ok (.iload_n 2, 1) := by decide +kernel
theorem dX0_growOnce_24 : decode cX0_growOnce 24 = .ok (.iload_n 3, 1) := by decide +kernel
theorem dX0_growOnce_25 : decode cX0_growOnce 25 = .ok (.invokevirtual 80, 3) := by decide +kernel
theorem dX0_growOnce_28 : decode cX0_growOnce 28 = .ok (.ifCond .eq 11, 3) := by decide +kernel
theorem dX0_growOnce_31 : decode cX0_growOnce 31 = .ok (.aload_n 0, 1) := by decide +kernel
theorem dX0_growOnce_32 : decode cX0_growOnce 32 = .ok (.iload_n 2, 1) := by decide +kernel
theorem dX0_growOnce_33 : decode cX0_growOnce 33 = .ok (.iload_n 3, 1) := by decide +kernel
theorem dX0_growOnce_34 : decode cX0_growOnce 34 = .ok (.invokevirtual 84, 3) := by decide +kernel
theorem dX0_growOnce_37 : decode cX0_growOnce 37 = .ok (.iconst 1, 1) := by decide +kernel
theorem dX0_growOnce_38 : decode cX0_growOnce 38 = .ok (.istore_n 1, 1) := by decide +kernel
theorem dX0_growOnce_39 : decode cX0_growOnce 39 = .ok (.iinc 3 1, 3) := by decide +kernel
theorem dX0_growOnce_42 : decode cX0_growOnce 42 = .ok (.goto (-28), 3) := by decide +kernel
theorem dX0_growOnce_45 : decode cX0_growOnce 45 = .ok (.iinc 2 1, 3) := by decide +kernel
theorem dX0_growOnce_48 : decode cX0_growOnce 48 = .ok (.goto (-44), 3) := by decide +kernel
theorem dX0_growOnce_51 : decode cX0_growOnce 51 = .ok (.iload_n 1, 1) := by decide +kernel
theorem dX0_growOnce_52 : decode cX0_growOnce 52 = .ok (.ireturn, 1) := by decide +kernel
theorem dX0_isToJoin_0 : decode cX0_isToJoin 0 = .ok (.aload_n 0, 1) := by decide +kernel
theorem dX0_isToJoin_1 : decode cX0_isToJoin 1 = .ok (.getfield 15, 3) := by decide +kernel
theorem dX0_isToJoin_4 : decode cX0_isToJoin 4 = .ok (.iload_n 1, 1) := by decide +kernel
theorem dX0_isToJoin_5 : decode cX0_isToJoin 5 = .ok (.invokestatic 28, 3) := by decide +kernel
theorem dX0_isToJoin_8 : decode cX0_isToJoin 8 = .ok (.iload_n 2, 1) := by decide +kernel
theorem dX0_isToJoin_9 : decode cX0_isToJoin 9 = .ok (.invokestatic 41, 3) := by decide +kernel
theorem dX0_isToJoin_12 : decode cX0_isToJoin 12 = .ok (.iand, 1) := by decide +kernel
theorem dX0_isToJoin_13 : decode cX0_isToJoin 13 = .ok (.ifCond .eq 7, 3) := by decide +kernel
theorem dX0_isToJoin_16 : decode cX0_isToJoin 16 = .ok (.iconst 1, 1) := by decide +kernel
theorem dX0_isToJoin_17 : decode cX0_isToJoin 17 = .ok (.goto 4, 3) := by decide +kernel
theorem dX0_isToJoin_20 : decode cX0_isToJoin 20 = .ok (.iconst 0, 1) := by decide +kernel
theorem dX0_isToJoin_21 : decode cX0_isToJoin 21 = .ok (.istore_n 3, 1) := by decide +kernel
theorem dX0_isToJoin_22 : decode cX0_isToJoin 22 = .ok (.iload_n 3, 1) := by decide +kernel
theorem dX0_isToJoin_23 : decode cX0_isToJoin 23 = .ok (.ifCond .eq 41, 3) := by decide +kernel
theorem dX0_isToJoin_26 : decode cX0_isToJoin 26 = .ok (.aload_n 0, 1) := by decide +kernel
theorem dX0_isToJoin_27 : decode cX0_isToJoin 27 = .ok (.iload_n 1, 1) := by decide +kernel
theorem dX0_isToJoin_28 : decode cX0_isToJoin 28 = .ok (.iload_n 2, 1) := by decide +kernel
theorem dX0_isToJoin_29 : decode cX0_isToJoin 29 = .ok (.invokevirtual 87, 3) := by decide +kernel
theorem dX0_isToJoin_32 : decode cX0_isToJoin 32 = .ok (.ifCond .ne 32, 3) := by decide +kernel
theorem dX0_isToJoin_35 : decode cX0_isToJoin 35 = .ok (.aload_n 0, 1) := by decide +kernel
theorem dX0_isToJoin_36 : decode cX0_isToJoin 36 = .ok (.iload_n 1, 1) := by decide +kernel
theorem dX0_isToJoin_37 : decode cX0_isToJoin 37 = .ok (.invokevirtual 32, 3) := by decide +kernel
theorem dX0_isToJoin_40 : decode cX0_isToJoin 40 = .ok (.ifCond .eq 11, 3) := by decide +kernel
theorem dX0_isToJoin_43 : decode cX0_isToJoin 43 = .ok (.aload_n 0, 1) := by decide +kernel
theorem dX0_isToJoin_44 : decode cX0_isToJoin 44 = .ok (.iload_n 2, 1) := by decide +kernel
theorem dX0_isToJoin_45 : decode cX0_isToJoin 45 = .ok (.invokevirtual 90, 3) := by decide +kernel
theorem dX0_isToJoin_48 : decode cX0_isToJoin 48 = .ok (.ifCond .eq 16, 3) := by decide +kernel
theorem dX0_isToJoin_51 : decode cX0_isToJoin 51 = .ok (.aload_n 0, 1) := by decide +kernel
theorem dX0_isToJoin_52 : decode cX0_isToJoin 52 = .ok (.iload_n 1, 1) := by decide +kernel
theorem dX0_isToJoin_53 : decode cX0_isToJoin 53 = .ok (.iload_n 2, 1) := by decide +kernel
theorem dX0_isToJoin_54 : decode cX0_isToJoin 54 = .ok (.invokevirtual 94, 3) := by decide +kernel
theorem dX0_isToJoin_57 : decode cX0_isToJoin 57 = .ok (.ifCond .eq 7, 3) := by decide +kernel
theorem dX0_isToJoin_60 : decode cX0_isToJoin 60 = .ok (.iconst 1, 1) := by decide +kernel
theorem dX0_isToJoin_61 : decode cX0_isToJoin 61 = .ok (.goto 4, 3) := by decide +kernel
theorem dX0_isToJoin_64 : decode cX0_isToJoin 64 = .ok (.iconst 0, 1) := by decide +kernel
theorem dX0_isToJoin_65 : decode cX0_isToJoin 65 = .ok (.ireturn, 1) := by decide +kernel
theorem dX0_isFree_0 : decode cX0_isFree 0 = .ok (.iconst 0, 1) := by decide +kernel
theorem dX0_isFree_1 : decode cX0_isFree 1 = .ok (.istore_n 2, 1) := by decide +kernel
theorem dX0_isFree_2 : decode cX0_isFree 2 = .ok (.iconst 0, 1) := by decide +kernel
theorem dX0_isFree_3 : decode cX0_isFree 3 = .ok (.istore_n 3, 1) := by decide +kernel
theorem dX0_isFree_4 : decode cX0_isFree 4 = .ok (.iload_n 3, 1) := by decide +kernel
theorem dX0_isFree_5 : decode cX0_isFree 5 = .ok (.aload_n 0, 1) := by decide +kernel
theorem dX0_isFree_6 : decode cX0_isFree 6 = .ok (.getfield 21, 3) := by decide +kernel
theorem dX0_isFree_9 : decode cX0_isFree 9 = .ok (.if_icmp .ge 17, 3) := by decide +kernel
theorem dX0_isFree_12 : decode cX0_isFree 12 = .ok (.iload_n 2, 1) := by decide +kernel
theorem dX0_isFree_13 : decode cX0_isFree 13 = .ok (.aload_n 0, 1) := by decide +kernel
theorem dX0_isFree_14 : decode cX0_isFree 14 = .ok (.iload_n 3, 1) := by decide +kernel
theorem dX0_isFree_15 : decode cX0_isFree 15 = .ok (.invokevirtual 32, 3) := by decide +kernel
theorem dX0_isFree_18 : decode cX0_isFree 18 = .ok (.ior, 1) := by decide +kernel
theorem dX0_isFree_19 : decode cX0_isFree 19 = .ok (.istore_n 2, 1) := by decide +kernel
theorem dX0_isFree_20 : decode cX0_isFree 20 = .ok (.iinc 3 1, 3) := by decide +kernel
theorem dX0_isFree_23 : decode cX0_isFree 23 = .ok (.goto (-19), 3) := by decide +kernel
theorem dX0_isFree_26 : decode cX0_isFree 26 = .ok (.iload_n 2, 1) := by decide +kernel
theorem dX0_isFree_27 : decode cX0_isFree 27 = .ok (.iload_n 1, 1) := by decide +kernel
theorem dX0_isFree_28 : decode cX0_isFree 28 = .ok (.invokestatic 41, 3) := by decide +kernel
theorem dX0_isFree_31 : decode cX0_isFree 31 = .ok (.iand, 1) := by decide +kernel
theorem dX0_isFree_32 : decode cX0_isFree 32 = .ok (.ifCond .ne 7, 3) := by decide +kernel
theorem dX0_isFree_35 : decode cX0_isFree 35 = .ok (.iconst 1, 1) := by decide +kernel
theorem dX0_isFree_36 : decode cX0_isFree 36 = .ok (.goto 4, 3) := by decide +kernel
theorem dX0_isFree_39 : decode cX0_isFree 39 = .ok (.iconst 0, 1) := by decide +kernel
theorem dX0_isFree_40 : decode cX0_isFree 40 = .ok (.ireturn, 1) := by decide +kernel
theorem dX0_isBesideJoined_0 : decode cX0_isBesideJoined 0 = .ok (.iload_n 2, 1) := by decide +kernel
theorem dX0_isBesideJoined_1 : decode cX0_isBesideJoined 1 = .ok (.iconst 1, 1) := by decide +kernel
theorem dX0_isBesideJoined_2 : decode cX0_isBesideJoined 2 = .ok (.isub, 1) := by decide +kernel
theorem dX0_isBesideJoined_3 : decode cX0_isBesideJoined 3 = .ok (.invokestatic 41, 3) := by decide +kernel
theorem dX0_isBesideJoined_6 : decode cX0_isBesideJoined 6 = .ok (.iload_n 2, 1) := by decide +kernel
theorem dX0_isBesideJoined_7 : decode cX0_isBesideJoined 7 = .ok (.invokestatic 41, 3) := by decide +kernel
theorem dX0_isBesideJoined_10 : decode cX0_isBesideJoined 10 = .ok (.ior, 1) := by decide +kernel
theorem dX0_isBesideJoined_11 : decode cX0_isBesideJoined 11 = .ok (.iload_n 2, 1) := by decide +kernel
theorem dX0_isBesideJoined_12 : decode cX0_isBesideJoined 12 = .ok (.iconst 1, 1) := by decide +kernel
theorem dX0_isBesideJoined_13 : decode cX0_isBesideJoined 13 = .ok (.iadd, 1) := by decide +kernel
theorem dX0_isBesideJoined_14 : decode cX0_isBesideJoined 14 = .ok (.invokestatic 41, 3) := by decide +kernel
theorem dX0_isBesideJoined_17 : decode cX0_isBesideJoined 17 = .ok (.ior, 1) := by decide +kernel
theorem dX0_isBesideJoined_18 : decode cX0_isBesideJoined 18 = .ok (.istore_n 3, 1) := by decide +kernel
theorem dX0_isBesideJoined_19 : decode cX0_isBesideJoined 19 = .ok (.aload_n 0, 1) := by decide +kernel
theorem dX0_isBesideJoined_20 : decode cX0_isBesideJoined 20 = .ok (.iload_n 1, 1) := by decide +kernel
theorem dX0_isBesideJoined_21 : decode cX0_isBesideJoined 21 = .ok (.iconst 1, 1) := by decide +kernel
theorem dX0_isBesideJoined_22 : decode cX0_isBesideJoined 22 = .ok (.isub, 1) := by decide +kernel
theorem dX0_isBesideJoined_23 : decode cX0_isBesideJoined 23 = .ok (.invokevirtual 32, 3) := by decide +kernel
theorem dX0_isBesideJoined_26 : decode cX0_isBesideJoined 26 = .ok (.aload_n 0, 1) := by decide +kernel
theorem dX0_isBesideJoined_27 : decode cX0_isBesideJoined 27 = .ok (.iload_n 1, 1) := by decide +kernel
theorem dX0_isBesideJoined_28 : decode cX0_isBesideJoined 28 = .ok (.invokevirtual 32, 3) := by decide +kernel
theorem dX0_isBesideJoined_31 : decode cX0_isBesideJoined 31 = .ok (.ior, 1) := by decide +kernel
theorem dX0_isBesideJoined_32 : decode cX0_isBesideJoined 32 = .ok (.aload_n 0, 1) := by decide +kernel
theorem dX0_isBesideJoined_33 : decode cX0_isBesideJoined 33 = .ok (.iload_n 1, 1) := by decide +kernel
theorem dX0_isBesideJoined_34 : decode cX0_isBesideJoined 34 = .ok (.iconst 1, 1) := by decide +kernel
theorem dX0_isBesideJoined_35 : decode cX0_isBesideJoined 35 = .ok (.iadd, 1) := by decide +kernel
theorem dX0_isBesideJoined_36 : decode cX0_isBesideJoined 36 = .ok (.invokevirtual 32, 3) := by decide +kernel
theorem dX0_isBesideJoined_39 : decode cX0_isBesideJoined 39 = .ok (.ior, 1) := by decide +kernel
theorem dX0_isBesideJoined_40 : decode cX0_isBesideJoined 40 = .ok (.istore 4, 2) := by decide +kernel
theorem dX0_isBesideJoined_42 : decode cX0_isBesideJoined 42 = .ok (.iload 4, 2) := by decide +kernel
theorem dX0_isBesideJoined_44 : decode cX0_isBesideJoined 44 = .ok (.iload_n 3, 1) := by decide +kernel
theorem dX0_isBesideJoined_45 : decode cX0_isBesideJoined 45 = .ok (.iand, 1) := by decide +kernel
theorem dX0_isBesideJoined_46 : decode cX0_isBesideJoined 46 = .ok (.ifCond .eq 7, 3) := by decide +kernel
theorem dX0_isBesideJoined_49 : decode cX0_isBesideJoined 49 = .ok (.iconst 1, 1) := by decide +kernel
theorem dX0_isBesideJoined_50 : decode cX0_isBesideJoined 50 = .ok (.goto 4, 3) := by decide +kernel
theorem dX0_isBesideJoined_53 : decode cX0_isBesideJoined 53 = .ok (.iconst 0, 1) := by decide +kernel
theorem dX0_isBesideJoined_54 : decode cX0_isBesideJoined 54 = .ok (.ireturn, 1) := by decide +kernel
theorem dX0_join_0 : decode cX0_join 0 = .ok (.iload_n 1, 1) := by decide +kernel
theorem dX0_join_1 : decode cX0_join 1 = .ok (.ifCond .lt 25, 3) := by decide +kernel
theorem dX0_join_4 : decode cX0_join 4 = .ok (.iload_n 1, 1) := by decide +kernel
theorem dX0_join_5 : decode cX0_join 5 = .ok (.aload_n 0, 1) := by decide +kernel
theorem dX0_join_6 : decode cX0_join 6 = .ok (.getfield 18, 3) := by decide +kernel
theorem dX0_join_9 : decode cX0_join 9 = .ok (.arraylength, 1) := by decide +kernel
theorem dX0_join_10 : decode cX0_join 10 = .ok (.if_icmp .ge 16, 3) := by decide +kernel
theorem dX0_join_13 : decode cX0_join 13 = .ok (.aload_n 0, 1) := by decide +kernel
theorem dX0_join_14 : decode cX0_join 14 = .ok (.getfield 18, 3) := by decide +kernel
theorem dX0_join_17 : decode cX0_join 17 = .ok (.iload_n 1, 1) := by decide +kernel
theorem dX0_join_18 : decode cX0_join 18 = .ok (.dup2, 1) := by decide +kernel
theorem dX0_join_19 : decode cX0_join 19 = .ok (.iaload, 1) := by decide +kernel
theorem dX0_join_20 : decode cX0_join 20 = .ok (.iload_n 2, 1) := by decide +kernel
theorem dX0_join_21 : decode cX0_join 21 = .ok (.invokestatic 41, 3) := by decide +kernel
theorem dX0_join_24 : decode cX0_join 24 = .ok (.ior, 1) := by decide +kernel
theorem dX0_join_25 : decode cX0_join 25 = .ok (.iastore, 1) := by decide +kernel
theorem dX0_join_26 : decode cX0_join 26 = .ok (.return_, 1) := by decide +kernel
theorem dX0_bitOf_0 : decode cX0_bitOf 0 = .ok (.iload_n 0, 1) := by decide +kernel
theorem dX0_bitOf_1 : decode cX0_bitOf 1 = .ok (.ifCond .lt 15, 3) := by decide +kernel
theorem dX0_bitOf_4 : decode cX0_bitOf 4 = .ok (.iload_n 0, 1) := by decide +kernel
theorem dX0_bitOf_5 : decode cX0_bitOf 5 = .ok (.bipush 8, 2) := by decide +kernel
theorem dX0_bitOf_7 : decode cX0_bitOf 7 = .ok (.if_icmp .ge 9, 3) := by decide +kernel
theorem dX0_bitOf_10 : decode cX0_bitOf 10 = .ok (.iconst 1, 1) := by decide +kernel
theorem dX0_bitOf_11 : decode cX0_bitOf 11 = .ok (.iload_n 0, 1) := by decide +kernel
theorem dX0_bitOf_12 : decode cX0_bitOf 12 = .ok (.ishl, 1) := by decide +kernel
theorem dX0_bitOf_13 : decode cX0_bitOf 13 = .ok (.goto 4, 3) := by decide +kernel
theorem dX0_bitOf_16 : decode cX0_bitOf 16 = .ok (.iconst 0, 1) := by decide +kernel
theorem dX0_bitOf_17 : decode cX0_bitOf 17 = .ok (.ireturn, 1) := by decide +kernel
theorem dX0_bitsAt_0 : decode cX0_bitsAt 0 = .ok (.aload_n 0, 1) := by decide +kernel
theorem dX0_bitsAt_1 : decode cX0_bitsAt 1 = .ok (.ifnull 19, 3) := by decide +kernel
theorem dX0_bitsAt_4 : decode cX0_bitsAt 4 = .ok (.iload_n 1, 1) := by decide +kernel
theorem dX0_bitsAt_5 : decode cX0_bitsAt 5 = .ok (.ifCond .lt 15, 3) := by decide +kernel
theorem dX0_bitsAt_8 : decode cX0_bitsAt 8 = .ok (.iload_n 1, 1) := by decide +kernel
theorem dX0_bitsAt_9 : decode cX0_bitsAt 9 = .ok (.aload_n 0, 1) := by decide +kernel
theorem dX0_bitsAt_10 : decode cX0_bitsAt 10 = .ok (.arraylength, 1) := by decide +kernel
theorem dX0_bitsAt_11 : decode cX0_bitsAt 11 = .ok (.if_icmp .ge 9, 3) := by decide +kernel
theorem dX0_bitsAt_14 : decode cX0_bitsAt 14 = .ok (.aload_n 0, 1) := by decide +kernel
theorem dX0_bitsAt_15 : decode cX0_bitsAt 15 = .ok (.iload_n 1, 1) := by decide +kernel
theorem dX0_bitsAt_16 : decode cX0_bitsAt 16 = .ok (.iaload, 1) := by decide +kernel
theorem dX0_bitsAt_17 : decode cX0_bitsAt 17 = .ok (.goto 4, 3) := by decide +kernel
theorem dX0_bitsAt_20 : decode cX0_bitsAt 20 = .ok (.iconst 0, 1) := by decide +kernel
theorem dX0_bitsAt_21 : decode cX0_bitsAt 21 = .ok (.ireturn, 1) := by decide +kernel
theorem dX1_init_0 : decode cX1_init 0 = .ok (.aload_n 0, 1) := by decide +kernel
theorem dX1_init_1 : decode cX1_init 1 = .ok (.invokespecial 3, 3) := by decide +kernel
theorem dX1_init_4 : decode cX1_init 4 = .ok (.aload_n 0, 1) := by decide +kernel
theorem dX1_init_5 : decode cX1_init 5 = .ok (.bipush 20, 2) := by decide +kernel
theorem dX1_init_7 : decode cX1_init 7 = .ok (.anewarray 9, 3) := by decide +kernel
theorem dX1_init_10 : decode cX1_init 10 = .ok (.putfield 11, 3) := by decide +kernel
theorem dX1_init_13 : decode cX1_init 13 = .ok (.return_, 1) := by decide +kernel
theorem dX1_made_0 : decode cX1_made 0 = .ok (.aload_n 0, 1) := by decide +kernel
theorem dX1_made_1 : decode cX1_made 1 = .ok (.getfield 17, 3) := by decide +kernel
theorem dX1_made_4 : decode cX1_made 4 = .ok (.ireturn, 1) := by decide +kernel
theorem dX1_size_0 : decode cX1_size 0 = .ok (.aload_n 0, 1) := by decide +kernel
theorem dX1_size_1 : decode cX1_size 1 = .ok (.getfield 21, 3) := by decide +kernel
theorem dX1_size_4 : decode cX1_size 4 = .ok (.ireturn, 1) := by decide +kernel
theorem dX1_isFull_0 : decode cX1_isFull 0 = .ok (.aload_n 0, 1) := by decide +kernel
theorem dX1_isFull_1 : decode cX1_isFull 1 = .ok (.getfield 17, 3) := by decide +kernel
theorem dX1_isFull_4 : decode cX1_isFull 4 = .ok (.bipush 20, 2) := by decide +kernel
theorem dX1_isFull_6 : decode cX1_isFull 6 = .ok (.if_icmp .lt 7, 3) := by decide +kernel
theorem dX1_isFull_9 : decode cX1_isFull 9 = .ok (.iconst 1, 1) := by decide +kernel
theorem dX1_isFull_10 : decode cX1_isFull 10 = .ok (.goto 4, 3) := by decide +kernel
theorem dX1_isFull_13 : decode cX1_isFull 13 = .ok (.iconst 0, 1) := by decide +kernel
theorem dX1_isFull_14 : decode cX1_isFull 14 = .ok (.ireturn, 1) := by decide +kernel
theorem dX1_add_0 : decode cX1_add 0 = .ok (.aload_n 1, 1) := by decide +kernel
theorem dX1_add_1 : decode cX1_add 1 = .ok (.ifnull 22, 3) := by decide +kernel
theorem dX1_add_4 : decode cX1_add 4 = .ok (.aload_n 0, 1) := by decide +kernel
theorem dX1_add_5 : decode cX1_add 5 = .ok (.getfield 17, 3) := by decide +kernel
theorem dX1_add_8 : decode cX1_add 8 = .ok (.ifCond .lt 15, 3) := by decide +kernel
theorem dX1_add_11 : decode cX1_add 11 = .ok (.aload_n 0, 1) := by decide +kernel
theorem dX1_add_12 : decode cX1_add 12 = .ok (.getfield 17, 3) := by decide +kernel
theorem dX1_add_15 : decode cX1_add 15 = .ok (.aload_n 0, 1) := by decide +kernel
theorem dX1_add_16 : decode cX1_add 16 = .ok (.getfield 11, 3) := by decide +kernel
theorem dX1_add_19 : decode cX1_add 19 = .ok (.arraylength, 1) := by decide +kernel
theorem dX1_add_20 : decode cX1_add 20 = .ok (.if_icmp .lt 5, 3) := by decide +kernel
theorem dX1_add_23 : decode cX1_add 23 = .ok (.iconst (-1), 1) := by decide +kernel
theorem dX1_add_24 : decode cX1_add 24 = .ok (.ireturn, 1) := by decide +kernel
theorem dX1_add_25 : decode cX1_add 25 = .ok (.aload_n 0, 1) := by decide +kernel
theorem dX1_add_26 : decode cX1_add 26 = .ok (.getfield 17, 3) := by decide +kernel
theorem dX1_add_29 : decode cX1_add 29 = .ok (.istore_n 2, 1) := by decide +kernel
theorem dX1_add_30 : decode cX1_add 30 = .ok (.aload_n 0, 1) := by decide +kernel
theorem dX1_add_31 : decode cX1_add 31 = .ok (.getfield 11, 3) := by decide +kernel
theorem dX1_add_34 : decode cX1_add 34 = .ok (.iload_n 2, 1) := by decide +kernel
theorem dX1_add_35 : decode cX1_add 35 = .ok (.aload_n 1, 1) := by decide +kernel
theorem dX1_add_36 : decode cX1_add 36 = .ok (.aastore, 1) := by decide +kernel
theorem dX1_add_37 : decode cX1_add 37 = .ok (.aload_n 1, 1) := by decide +kernel
theorem dX1_add_38 : decode cX1_add 38 = .ok (.iconst 1, 1) := by decide +kernel
theorem dX1_add_39 : decode cX1_add 39 = .ok (.invokevirtual 24, 3) := by decide +kernel
theorem dX1_add_42 : decode cX1_add 42 = .ok (.aload_n 0, 1) := by decide +kernel
theorem dX1_add_43 : decode cX1_add 43 = .ok (.dup, 1) := by decide +kernel
theorem dX1_add_44 : decode cX1_add 44 = .ok (.getfield 17, 3) := by decide +kernel
theorem dX1_add_47 : decode cX1_add 47 = .ok (.iconst 1, 1) := by decide +kernel
theorem dX1_add_48 : decode cX1_add 48 = .ok (.iadd, 1) := by decide +kernel
theorem dX1_add_49 : decode cX1_add 49 = .ok (.putfield 17, 3) := by decide +kernel
theorem dX1_add_52 : decode cX1_add 52 = .ok (.aload_n 0, 1) := by decide +kernel
theorem dX1_add_53 : decode cX1_add 53 = .ok (.dup, 1) := by decide +kernel
theorem dX1_add_54 : decode cX1_add 54 = .ok (.getfield 21, 3) := by decide +kernel
theorem dX1_add_57 : decode cX1_add 57 = .ok (.iconst 1, 1) := by decide +kernel
theorem dX1_add_58 : decode cX1_add 58 = .ok (.iadd, 1) := by decide +kernel
theorem dX1_add_59 : decode cX1_add 59 = .ok (.putfield 21, 3) := by decide +kernel
theorem dX1_add_62 : decode cX1_add 62 = .ok (.iload_n 2, 1) := by decide +kernel
theorem dX1_add_63 : decode cX1_add 63 = .ok (.ireturn, 1) := by decide +kernel
theorem dX1_remove_0 : decode cX1_remove 0 = .ok (.aload_n 1, 1) := by decide +kernel
theorem dX1_remove_1 : decode cX1_remove 1 = .ok (.ifnull 25, 3) := by decide +kernel
theorem dX1_remove_4 : decode cX1_remove 4 = .ok (.aload_n 1, 1) := by decide +kernel
theorem dX1_remove_5 : decode cX1_remove 5 = .ok (.invokevirtual 28, 3) := by decide +kernel
theorem dX1_remove_8 : decode cX1_remove 8 = .ok (.ifCond .eq 18, 3) := by decide +kernel
theorem dX1_remove_11 : decode cX1_remove 11 = .ok (.aload_n 1, 1) := by decide +kernel
theorem dX1_remove_12 : decode cX1_remove 12 = .ok (.iconst 0, 1) := by decide +kernel
theorem dX1_remove_13 : decode cX1_remove 13 = .ok (.invokevirtual 24, 3) := by decide +kernel
theorem dX1_remove_16 : decode cX1_remove 16 = .ok (.aload_n 0, 1) := by decide +kernel
theorem dX1_remove_17 : decode cX1_remove 17 = .ok (.dup, 1) := by decide +kernel
theorem dX1_remove_18 : decode cX1_remove 18 = .ok (.getfield 21, 3) := by decide +kernel
theorem dX1_remove_21 : decode cX1_remove 21 = .ok (.iconst 1, 1) := by decide +kernel
theorem dX1_remove_22 : decode cX1_remove 22 = .ok (.isub, 1) := by decide +kernel
theorem dX1_remove_23 : decode cX1_remove 23 = .ok (.putfield 21, 3) := by decide +kernel
theorem dX1_remove_26 : decode cX1_remove 26 = .ok (.return_, 1) := by decide +kernel
theorem dX1_find_0 : decode cX1_find 0 = .ok (.iload_n 1, 1) := by decide +kernel
theorem dX1_find_1 : decode cX1_find 1 = .ok (.ifCond .lt 20, 3) := by decide +kernel
theorem dX1_find_4 : decode cX1_find 4 = .ok (.iload_n 1, 1) := by decide +kernel
theorem dX1_find_5 : decode cX1_find 5 = .ok (.aload_n 0, 1) := by decide +kernel
theorem dX1_find_6 : decode cX1_find 6 = .ok (.getfield 17, 3) := by decide +kernel
theorem dX1_find_9 : decode cX1_find 9 = .ok (.if_icmp .ge 12, 3) := by decide +kernel
theorem dX1_find_12 : decode cX1_find 12 = .ok (.iload_n 1, 1) := by decide +kernel
theorem dX1_find_13 : decode cX1_find 13 = .ok (.aload_n 0, 1) := by decide +kernel
theorem dX1_find_14 : decode cX1_find 14 = .ok (.getfield 11, 3) := by decide +kernel
theorem dX1_find_17 : decode cX1_find 17 = .ok (.arraylength, 1) := by decide +kernel
theorem dX1_find_18 : decode cX1_find 18 = .ok (.if_icmp .lt 5, 3) := by decide +kernel
theorem dX1_find_21 : decode cX1_find 21 = .ok (.aconst_null, 1) := by decide +kernel
theorem dX1_find_22 : decode cX1_find 22 = .ok (.areturn, 1) := by decide +kernel
theorem dX1_find_23 : decode cX1_find 23 = .ok (.aload_n 0, 1) := by decide +kernel
theorem dX1_find_24 : decode cX1_find 24 = .ok (.getfield 11, 3) := by decide +kernel
theorem dX1_find_27 : decode cX1_find 27 = .ok (.iload_n 1, 1) := by decide +kernel
theorem dX1_find_28 : decode cX1_find 28 = .ok (.aaload, 1) := by decide +kernel
theorem dX1_find_29 : decode cX1_find 29 = .ok (.astore_n 2, 1) := by decide +kernel
theorem dX1_find_30 : decode cX1_find 30 = .ok (.aload_n 2, 1) := by decide +kernel
theorem dX1_find_31 : decode cX1_find 31 = .ok (.ifnull 14, 3) := by decide +kernel
theorem dX1_find_34 : decode cX1_find 34 = .ok (.aload_n 2, 1) := by decide +kernel
theorem dX1_find_35 : decode cX1_find 35 = .ok (.invokevirtual 28, 3) := by decide +kernel
theorem dX1_find_38 : decode cX1_find 38 = .ok (.ifCond .eq 7, 3) := by decide +kernel
theorem dX1_find_41 : decode cX1_find 41 = .ok (.aload_n 2, 1) := by decide +kernel
theorem dX1_find_42 : decode cX1_find 42 = .ok (.goto 4, 3) := by decide +kernel
theorem dX1_find_45 : decode cX1_find 45 = .ok (.aconst_null, 1) := by decide +kernel
theorem dX1_find_46 : decode cX1_find 46 = .ok (.areturn, 1) := by decide +kernel
theorem dX2_init_0 : decode cX2_init 0 = .ok (.aload_n 0, 1) := by decide +kernel
theorem dX2_init_1 : decode cX2_init 1 = .ok (.invokespecial 3, 3) := by decide +kernel
theorem dX2_init_4 : decode cX2_init 4 = .ok (.aload_n 0, 1) := by decide +kernel
theorem dX2_init_5 : decode cX2_init 5 = .ok (.sipush 240, 3) := by decide +kernel
theorem dX2_init_8 : decode cX2_init 8 = .ok (.newarray .int, 2) := by decide +kernel
theorem dX2_init_10 : decode cX2_init 10 = .ok (.putfield 9, 3) := by decide +kernel
theorem dX2_init_13 : decode cX2_init 13 = .ok (.aload_n 0, 1) := by decide +kernel
theorem dX2_init_14 : decode cX2_init 14 = .ok (.sipush 240, 3) := by decide +kernel
theorem dX2_init_17 : decode cX2_init 17 = .ok (.newarray .long, 2) := by decide +kernel
theorem dX2_init_19 : decode cX2_init 19 = .ok (.putfield 15, 3) := by decide +kernel
theorem dX2_init_22 : decode cX2_init 22 = .ok (.aload_n 0, 1) := by decide +kernel
theorem dX2_init_23 : decode cX2_init 23 = .ok (.bipush 15, 2) := by decide +kernel
theorem dX2_init_25 : decode cX2_init 25 = .ok (.newarray .int, 2) := by decide +kernel
theorem dX2_init_27 : decode cX2_init 27 = .ok (.putfield 19, 3) := by decide +kernel
theorem dX2_init_30 : decode cX2_init 30 = .ok (.aload_n 0, 1) := by decide +kernel
theorem dX2_init_31 : decode cX2_init 31 = .ok (.bipush 15, 2) := by decide +kernel
theorem dX2_init_33 : decode cX2_init 33 = .ok (.newarray .long, 2) := by decide +kernel
theorem dX2_init_35 : decode cX2_init 35 = .ok (.putfield 22, 3) := by decide +kernel
theorem dX2_init_38 : decode cX2_init 38 = .ok (.aload_n 0, 1) := by decide +kernel
theorem dX2_init_39 : decode cX2_init 39 = .ok (.iload_n 1, 1) := by decide +kernel
theorem dX2_init_40 : decode cX2_init 40 = .ok (.putfield 25, 3) := by decide +kernel
theorem dX2_init_43 : decode cX2_init 43 = .ok (.return_, 1) := by decide +kernel
theorem dX2_shareOf_0 : decode cX2_shareOf 0 = .ok (.iload_n 1, 1) := by decide +kernel
theorem dX2_shareOf_1 : decode cX2_shareOf 1 = .ok (.iload_n 2, 1) := by decide +kernel
theorem dX2_shareOf_2 : decode cX2_shareOf 2 = .ok (.invokestatic 29, 3) := by decide +kernel
theorem dX2_shareOf_5 : decode cX2_shareOf 5 = .ok (.istore_n 3, 1) := by decide +kernel
theorem dX2_shareOf_6 : decode cX2_shareOf 6 = .ok (.iload_n 3, 1) := by decide +kernel
theorem dX2_shareOf_7 : decode cX2_shareOf 7 = .ok (.ifCond .lt 21, 3) := by decide +kernel
theorem dX2_shareOf_10 : decode cX2_shareOf 10 = .ok (.iload_n 3, 1) := by decide +kernel
theorem dX2_shareOf_11 : decode cX2_shareOf 11 = .ok (.aload_n 0, 1) := by decide +kernel
theorem dX2_shareOf_12 : decode cX2_shareOf 12 = .ok (.getfield 9, 3) := by decide +kernel
theorem dX2_shareOf_15 : decode cX2_shareOf 15 = .ok (.arraylength, 1) := by decide +kernel
theorem dX2_shareOf_16 : decode cX2_shareOf 16 = .ok (.if_icmp .ge 12, 3) := by decide +kernel
theorem dX2_shareOf_19 : decode cX2_shareOf 19 = .ok (.aload_n 0, 1) := by decide +kernel
theorem dX2_shareOf_20 : decode cX2_shareOf 20 = .ok (.getfield 9, 3) := by decide +kernel
theorem dX2_shareOf_23 : decode cX2_shareOf 23 = .ok (.iload_n 3, 1) := by decide +kernel
theorem dX2_shareOf_24 : decode cX2_shareOf 24 = .ok (.iaload, 1) := by decide +kernel
theorem dX2_shareOf_25 : decode cX2_shareOf 25 = .ok (.goto 4, 3) := by decide +kernel
theorem dX2_shareOf_28 : decode cX2_shareOf 28 = .ok (.iconst 0, 1) := by decide +kernel
theorem dX2_shareOf_29 : decode cX2_shareOf 29 = .ok (.ireturn, 1) := by decide +kernel
theorem dX2_start_0 : decode cX2_start 0 = .ok (.aload_n 0, 1) := by decide +kernel
theorem dX2_start_1 : decode cX2_start 1 = .ok (.aload_n 1, 1) := by decide +kernel
theorem dX2_start_2 : decode cX2_start 2 = .ok (.invokevirtual 33, 3) := by decide +kernel
theorem dX2_start_5 : decode cX2_start 5 = .ok (.aload_n 0, 1) := by decide +kernel
theorem dX2_start_6 : decode cX2_start 6 = .ok (.invokevirtual 37, 3) := by decide +kernel
theorem dX2_start_9 : decode cX2_start 9 = .ok (.pop, 1) := by decide +kernel
theorem dX2_start_10 : decode cX2_start 10 = .ok (.aload_n 0, 1) := by decide +kernel
theorem dX2_start_11 : decode cX2_start 11 = .ok (.invokevirtual 41, 3) := by decide +kernel
theorem dX2_start_14 : decode cX2_start 14 = .ok (.ireturn, 1) := by decide +kernel
theorem dX2_learn_0 : decode cX2_learn 0 = .ok (.aload_n 0, 1) := by decide +kernel
theorem dX2_learn_1 : decode cX2_learn 1 = .ok (.aload_n 1, 1) := by decide +kernel
theorem dX2_learn_2 : decode cX2_learn 2 = .ok (.invokevirtual 44, 3) := by decide +kernel
theorem dX2_learn_5 : decode cX2_learn 5 = .ok (.aload_n 0, 1) := by decide +kernel
theorem dX2_learn_6 : decode cX2_learn 6 = .ok (.invokevirtual 37, 3) := by decide +kernel
theorem dX2_learn_9 : decode cX2_learn 9 = .ok (.ireturn, 1) := by decide +kernel
theorem dX2_cellOf_0 : decode cX2_cellOf 0 = .ok (.iload_n 0, 1) := by decide +kernel
theorem dX2_cellOf_1 : decode cX2_cellOf 1 = .ok (.ifCond .lt 23, 3) := by decide +kernel
theorem dX2_cellOf_4 : decode cX2_cellOf 4 = .ok (.iload_n 0, 1) := by decide +kernel
theorem dX2_cellOf_5 : decode cX2_cellOf 5 = .ok (.bipush 15, 2) := by decide +kernel
theorem dX2_cellOf_7 : decode cX2_cellOf 7 = .ok (.if_icmp .gt 17, 3) := by decide +kernel
theorem dX2_cellOf_10 : decode cX2_cellOf 10 = .ok (.iload_n 1, 1) := by decide +kernel
theorem dX2_cellOf_11 : decode cX2_cellOf 11 = .ok (.ifCond .lt 13, 3) := by decide +kernel
theorem dX2_cellOf_14 : decode cX2_cellOf 14 = .ok (.iload_n 1, 1) := by decide +kernel
theorem dX2_cellOf_15 : decode cX2_cellOf 15 = .ok (.bipush 15, 2) := by decide +kernel
theorem dX2_cellOf_17 : decode cX2_cellOf 17 = .ok (.if_icmp .ge 7, 3) := by decide +kernel
theorem dX2_cellOf_20 : decode cX2_cellOf 20 = .ok (.iconst 1, 1) := by decide +kernel
theorem dX2_cellOf_21 : decode cX2_cellOf 21 = .ok (.goto 4, 3) := by decide +kernel
theorem dX2_cellOf_24 : decode cX2_cellOf 24 = .ok (.iconst 0, 1) := by decide +kernel
theorem dX2_cellOf_25 : decode cX2_cellOf 25 = .ok (.istore_n 2, 1) := by decide +kernel
theorem dX2_cellOf_26 : decode cX2_cellOf 26 = .ok (.iload_n 2, 1) := by decide +kernel
theorem dX2_cellOf_27 : decode cX2_cellOf 27 = .ok (.ifCond .eq 12, 3) := by decide +kernel
theorem dX2_cellOf_30 : decode cX2_cellOf 30 = .ok (.iload_n 0, 1) := by decide +kernel
theorem dX2_cellOf_31 : decode cX2_cellOf 31 = .ok (.bipush 15, 2) := by decide +kernel
theorem dX2_cellOf_33 : decode cX2_cellOf 33 = .ok (.imul, 1) := by decide +kernel
theorem dX2_cellOf_34 : decode cX2_cellOf 34 = .ok (.iload_n 1, 1) := by decide +kernel
theorem dX2_cellOf_35 : decode cX2_cellOf 35 = .ok (.iadd, 1) := by decide +kernel
theorem dX2_cellOf_36 : decode cX2_cellOf 36 = .ok (.goto 4, 3) := by decide +kernel
theorem dX2_cellOf_39 : decode cX2_cellOf 39 = .ok (.iconst (-1), 1) := by decide +kernel
theorem dX2_cellOf_40 : decode cX2_cellOf 40 = .ok (.ireturn, 1) := by decide +kernel
theorem dX2_countMeetings_0 : decode cX2_countMeetings 0 = .ok (.aload_n 0, 1) := by decide +kernel
theorem dX2_countMeetings_1 : decode cX2_countMeetings 1 = .ok (.getfield 15, 3) := by decide +kernel
theorem dX2_countMeetings_4 : decode cX2_countMeetings 4 = .ok (.lconst 0, 1) := by decide +kernel
theorem dX2_countMeetings_5 : decode cX2_countMeetings 5 = .ok (.invokestatic 47, 3) := by decide +kernel
theorem dX2_countMeetings_8 : decode cX2_countMeetings 8 = .ok (.iconst 0, 1) := by decide +kernel
theorem dX2_countMeetings_9 : decode cX2_countMeetings 9 = .ok (.istore_n 2, 1) := by decide +kernel
theorem dX2_countMeetings_10 : decode cX2_countMeetings 10 = .ok (.iload_n 2, 1) := by decide +kernel
theorem dX2_countMeetings_11 : decode cX2_countMeetings 11 = .ok (.aload_n 1, 1) := by decide +kernel
theorem dX2_countMeetings_12 : decode cX2_countMeetings 12 = .ok (.invokevirtual 53, 3) := by decide +kernel
theorem dX2_countMeetings_15 : decode cX2_countMeetings 15 = .ok (.if_icmp .ge 41, 3) := by decide +kernel
theorem dX2_countMeetings_18 : decode cX2_countMeetings 18 = .ok (.aload_n 1, 1) := by decide +kernel
theorem dX2_countMeetings_19 : decode cX2_countMeetings 19 = .ok (.iload_n 2, 1) := by decide +kernel
theorem dX2_countMeetings_20 : decode cX2_countMeetings 20 = .ok (.invokevirtual 58, 3) := by decide +kernel
theorem dX2_countMeetings_23 : decode cX2_countMeetings 23 = .ok (.astore_n 3, 1) := by decide +kernel
theorem dX2_countMeetings_24 : decode cX2_countMeetings 24 = .ok (.aload_n 3, 1) := by decide +kernel
theorem dX2_countMeetings_25 : decode cX2_countMeetings 25 = .ok (.ifnull 25, 3) := by decide +kernel
theorem dX2_countMeetings_28 : decode cX2_countMeetings 28 = .ok (.aload_n 0, 1) := by decide +kernel
theorem dX2_countMeetings_29 : decode cX2_countMeetings 29 = .ok (.aload_n 3, 1) := by decide +kernel
theorem dX2_countMeetings_30 : decode cX2_countMeetings 30 = .ok (.aload_n 0, 1) := by decide +kernel
theorem dX2_countMeetings_31 : decode cX2_countMeetings 31 = .ok (.getfield 25, 3) := by decide +kernel
theorem dX2_countMeetings_34 : decode cX2_countMeetings 34 = .ok (.invokevirtual 62, 3) := by decide +kernel
theorem dX2_countMeetings_37 : decode cX2_countMeetings 37 = .ok (.aload_n 3, 1) := by decide +kernel
theorem dX2_countMeetings_38 : decode cX2_countMeetings 38 = .ok (.iconst 1, 1) := by decide +kernel
theorem dX2_countMeetings_39 : decode cX2_countMeetings 39 = .ok (.aload_n 0, 1) := by decide +kernel
theorem dX2_countMeetings_40 : decode cX2_countMeetings 40 = .ok (.getfield 25, 3) := by decide +kernel
theorem dX2_countMeetings_43 : decode cX2_countMeetings 43 = .ok (.isub, 1) := by decide +kernel
theorem dX2_countMeetings_44 : decode cX2_countMeetings 44 = .ok (.invokevirtual 62, 3) := by decide +kernel
theorem dX2_countMeetings_47 : decode cX2_countMeetings 47 = .ok (.invokevirtual 68, 3) := by decide +kernel
theorem dX2_countMeetings_50 : decode cX2_countMeetings 50 = .ok (.iinc 2 1, 3) := by decide +kernel
theorem dX2_countMeetings_53 : decode cX2_countMeetings 53 = .ok (.goto (-43), 3) := by decide +kernel
theorem dX2_countMeetings_56 : decode cX2_countMeetings 56 = .ok (.return_, 1) := by decide +kernel
theorem dX2_meetAll_0 : decode cX2_meetAll 0 = .ok (.iconst 0, 1) := by decide +kernel
theorem dX2_meetAll_1 : decode cX2_meetAll 1 = .ok (.istore_n 3, 1) := by decide +kernel
theorem dX2_meetAll_2 : decode cX2_meetAll 2 = .ok (.iload_n 3, 1) := by decide +kernel
theorem dX2_meetAll_3 : decode cX2_meetAll 3 = .ok (.aload_n 2, 1) := by decide +kernel
theorem dX2_meetAll_4 : decode cX2_meetAll 4 = .ok (.invokevirtual 72, 3) := by decide +kernel
theorem dX2_meetAll_7 : decode cX2_meetAll 7 = .ok (.if_icmp .ge 54, 3) := by decide +kernel
theorem dX2_meetAll_10 : decode cX2_meetAll 10 = .ok (.aload_n 2, 1) := by decide +kernel
theorem dX2_meetAll_11 : decode cX2_meetAll 11 = .ok (.iload_n 3, 1) := by decide +kernel
theorem dX2_meetAll_12 : decode cX2_meetAll 12 = .ok (.invokevirtual 77, 3) := by decide +kernel
theorem dX2_meetAll_15 : decode cX2_meetAll 15 = .ok (.istore 4, 2) := by decide +kernel
theorem dX2_meetAll_17 : decode cX2_meetAll 17 = .ok (.aload_n 0, 1) := by decide +kernel
theorem dX2_meetAll_18 : decode cX2_meetAll 18 = .ok (.bipush 15, 2) := by decide +kernel
theorem dX2_meetAll_20 : decode cX2_meetAll 20 = .ok (.iload 4, 2) := by decide +kernel
theorem dX2_meetAll_22 : decode cX2_meetAll 22 = .ok (.invokevirtual 81, 3) := by decide +kernel
theorem dX2_meetAll_25 : decode cX2_meetAll 25 = .ok (.iconst 0, 1) := by decide +kernel
theorem dX2_meetAll_26 : decode cX2_meetAll 26 = .ok (.istore 5, 2) := by decide +kernel
theorem dX2_meetAll_28 : decode cX2_meetAll 28 = .ok (.iload 5, 2) := by decide +kernel
theorem dX2_meetAll_30 : decode cX2_meetAll 30 = .ok (.aload_n 1, 1) := by decide +kernel
theorem dX2_meetAll_31 : decode cX2_meetAll 31 = .ok (.invokevirtual 72, 3) := by decide +kernel
theorem dX2_meetAll_34 : decode cX2_meetAll 34 = .ok (.if_icmp .ge 21, 3) := by decide +kernel
theorem dX2_meetAll_37 : decode cX2_meetAll 37 = .ok (.aload_n 0, 1) := by decide +kernel
theorem dX2_meetAll_38 : decode cX2_meetAll 38 = .ok (.aload_n 1, 1) := by decide +kernel
theorem dX2_meetAll_39 : decode cX2_meetAll 39 = .ok (.iload 5, 2) := by decide +kernel
theorem dX2_meetAll_41 : decode cX2_meetAll 41 = .ok (.invokevirtual 77, 3) := by decide +kernel
theorem dX2_meetAll_44 : decode cX2_meetAll 44 = .ok (.iload 4, 2) := by decide +kernel
theorem dX2_meetAll_46 : decode cX2_meetAll 46 = .ok (.invokevirtual 81, 3) := by decide +kernel
theorem dX2_meetAll_49 : decode cX2_meetAll 49 = .ok (.iinc 5 1, 3) := by decide +kernel
theorem dX2_meetAll_52 : decode cX2_meetAll 52 = .ok (.goto (-24), 3) := by decide +kernel
theorem dX2_meetAll_55 : decode cX2_meetAll 55 = .ok (.iinc 3 1, 3) := by decide +kernel
theorem dX2_meetAll_58 : decode cX2_meetAll 58 = .ok (.goto (-56), 3) := by decide +kernel
theorem dX2_meetAll_61 : decode cX2_meetAll 61 = .ok (.return_, 1) := by decide +kernel
theorem dX2_meet_0 : decode cX2_meet 0 = .ok (.iload_n 1, 1) := by decide +kernel
theorem dX2_meet_1 : decode cX2_meet 1 = .ok (.iload_n 2, 1) := by decide +kernel
theorem dX2_meet_2 : decode cX2_meet 2 = .ok (.invokestatic 29, 3) := by decide +kernel
theorem dX2_meet_5 : decode cX2_meet 5 = .ok (.istore_n 3, 1) := by decide +kernel
theorem dX2_meet_6 : decode cX2_meet 6 = .ok (.iload_n 3, 1) := by decide +kernel
theorem dX2_meet_7 : decode cX2_meet 7 = .ok (.ifCond .lt 19, 3) := by decide +kernel
theorem dX2_meet_10 : decode cX2_meet 10 = .ok (.iload_n 3, 1) := by decide +kernel
theorem dX2_meet_11 : decode cX2_meet 11 = .ok (.aload_n 0, 1) := by decide +kernel
theorem dX2_meet_12 : decode cX2_meet 12 = .ok (.getfield 15, 3) := by decide +kernel
theorem dX2_meet_15 : decode cX2_meet 15 = .ok (.arraylength, 1) := by decide +kernel
theorem dX2_meet_16 : decode cX2_meet 16 = .ok (.if_icmp .ge 10, 3) := by decide +kernel
theorem dX2_meet_19 : decode cX2_meet 19 = .ok (.aload_n 0, 1) := by decide +kernel
theorem dX2_meet_20 : decode cX2_meet 20 = .ok (.getfield 15, 3) := by decide +kernel
theorem dX2_meet_23 : decode cX2_meet 23 = .ok (.iload_n 3, 1) := by decide +kernel
theorem dX2_meet_24 : decode cX2_meet 24 = .ok (.lconst 1, 1) := by decide +kernel
theorem dX2_meet_25 : decode cX2_meet 25 = .ok (.lastore, 1) := by decide +kernel
theorem dX2_meet_26 : decode cX2_meet 26 = .ok (.return_, 1) := by decide +kernel
theorem dX2_countAnswers_0 : decode cX2_countAnswers 0 = .ok (.aload_n 0, 1) := by decide +kernel
theorem dX2_countAnswers_1 : decode cX2_countAnswers 1 = .ok (.getfield 15, 3) := by decide +kernel
theorem dX2_countAnswers_4 : decode cX2_countAnswers 4 = .ok (.lconst 0, 1) := by decide +kernel
theorem dX2_countAnswers_5 : decode cX2_countAnswers 5 = .ok (.invokestatic 47, 3) := by decide +kernel
theorem dX2_countAnswers_8 : decode cX2_countAnswers 8 = .ok (.iconst 0, 1) := by decide +kernel
theorem dX2_countAnswers_9 : decode cX2_countAnswers 9 = .ok (.istore_n 2, 1) := by decide +kernel
theorem dX2_countAnswers_10 : decode cX2_countAnswers 10 = .ok (.iload_n 2, 1) := by decide +kernel
theorem dX2_countAnswers_11 : decode cX2_countAnswers 11 = .ok (.aload_n 1, 1) := by decide +kernel
theorem dX2_countAnswers_12 : decode cX2_countAnswers 12 = .ok (.invokevirtual 53, 3) := by decide +kernel
theorem dX2_countAnswers_15 : decode cX2_countAnswers 15 = .ok (.if_icmp .ge 41, 3) := by decide +kernel
theorem dX2_countAnswers_18 : decode cX2_countAnswers 18 = .ok (.aload_n 1, 1) := by decide +kernel
theorem dX2_countAnswers_19 : decode cX2_countAnswers 19 = .ok (.iload_n 2, 1) := by decide +kernel
theorem dX2_countAnswers_20 : decode cX2_countAnswers 20 = .ok (.invokevirtual 58, 3) := by decide +kernel
theorem dX2_countAnswers_23 : decode cX2_countAnswers 23 = .ok (.astore_n 3, 1) := by decide +kernel
theorem dX2_countAnswers_24 : decode cX2_countAnswers 24 = .ok (.aload_n 3, 1) := by decide +kernel
theorem dX2_countAnswers_25 : decode cX2_countAnswers 25 = .ok (.ifnull 25, 3) := by decide +kernel
theorem dX2_countAnswers_28 : decode cX2_countAnswers 28 = .ok (.aload_n 0, 1) := by decide +kernel
theorem dX2_countAnswers_29 : decode cX2_countAnswers 29 = .ok (.aload_n 3, 1) := by decide +kernel
theorem dX2_countAnswers_30 : decode cX2_countAnswers 30 = .ok (.aload_n 0, 1) := by decide +kernel
theorem dX2_countAnswers_31 : decode cX2_countAnswers 31 = .ok (.getfield 25, 3) := by decide +kernel
theorem dX2_countAnswers_34 : decode cX2_countAnswers 34 = .ok (.invokevirtual 62, 3) := by decide +kernel
theorem dX2_countAnswers_37 : decode cX2_countAnswers 37 = .ok (.aload_n 3, 1) := by decide +kernel
theorem dX2_countAnswers_38 : decode cX2_countAnswers 38 = .ok (.iconst 1, 1) := by decide +kernel
theorem dX2_countAnswers_39 : decode cX2_countAnswers 39 = .ok (.aload_n 0, 1) := by decide +kernel
theorem dX2_countAnswers_40 : decode cX2_countAnswers 40 = .ok (.getfield 25, 3) := by decide +kernel
theorem dX2_countAnswers_43 : decode cX2_countAnswers 43 = .ok (.isub, 1) := by decide +kernel
theorem dX2_countAnswers_44 : decode cX2_countAnswers 44 = .ok (.invokevirtual 62, 3) := by decide +kernel
theorem dX2_countAnswers_47 : decode cX2_countAnswers 47 = .ok (.invokevirtual 85, 3) := by decide +kernel
theorem dX2_countAnswers_50 : decode cX2_countAnswers 50 = .ok (.iinc 2 1, 3) := by decide +kernel
theorem dX2_countAnswers_53 : decode cX2_countAnswers 53 = .ok (.goto (-43), 3) := by decide +kernel
theorem dX2_countAnswers_56 : decode cX2_countAnswers 56 = .ok (.return_, 1) := by decide +kernel
theorem dX2_answerAll_0 : decode cX2_answerAll 0 = .ok (.iconst 0, 1) := by decide +kernel
theorem dX2_answerAll_1 : decode cX2_answerAll 1 = .ok (.istore_n 3, 1) := by decide +kernel
theorem dX2_answerAll_2 : decode cX2_answerAll 2 = .ok (.iload_n 3, 1) := by decide +kernel
theorem dX2_answerAll_3 : decode cX2_answerAll 3 = .ok (.aload_n 2, 1) := by decide +kernel
theorem dX2_answerAll_4 : decode cX2_answerAll 4 = .ok (.invokevirtual 72, 3) := by decide +kernel
theorem dX2_answerAll_7 : decode cX2_answerAll 7 = .ok (.if_icmp .ge 67, 3) := by decide +kernel
theorem dX2_answerAll_10 : decode cX2_answerAll 10 = .ok (.aload_n 2, 1) := by decide +kernel
theorem dX2_answerAll_11 : decode cX2_answerAll 11 = .ok (.iload_n 3, 1) := by decide +kernel
theorem dX2_answerAll_12 : decode cX2_answerAll 12 = .ok (.invokevirtual 77, 3) := by decide +kernel
theorem dX2_answerAll_15 : decode cX2_answerAll 15 = .ok (.istore 4, 2) := by decide +kernel
theorem dX2_answerAll_17 : decode cX2_answerAll 17 = .ok (.aload_n 0, 1) := by decide +kernel
theorem dX2_answerAll_18 : decode cX2_answerAll 18 = .ok (.aload_n 1, 1) := by decide +kernel
theorem dX2_answerAll_19 : decode cX2_answerAll 19 = .ok (.iload 4, 2) := by decide +kernel
theorem dX2_answerAll_21 : decode cX2_answerAll 21 = .ok (.invokevirtual 88, 3) := by decide +kernel
theorem dX2_answerAll_24 : decode cX2_answerAll 24 = .ok (.lstore 5, 2) := by decide +kernel
theorem dX2_answerAll_26 : decode cX2_answerAll 26 = .ok (.aload_n 0, 1) := by decide +kernel
theorem dX2_answerAll_27 : decode cX2_answerAll 27 = .ok (.bipush 15, 2) := by decide +kernel
theorem dX2_answerAll_29 : decode cX2_answerAll 29 = .ok (.iload 4, 2) := by decide +kernel
theorem dX2_answerAll_31 : decode cX2_answerAll 31 = .ok (.lload 5, 2) := by decide +kernel
theorem dX2_answerAll_33 : decode cX2_answerAll 33 = .ok (.invokevirtual 92, 3) := by decide +kernel
theorem dX2_answerAll_36 : decode cX2_answerAll 36 = .ok (.iconst 0, 1) := by decide +kernel
theorem dX2_answerAll_37 : decode cX2_answerAll 37 = .ok (.istore 7, 2) := by decide +kernel
theorem dX2_answerAll_39 : decode cX2_answerAll 39 = .ok (.iload 7, 2) := by decide +kernel
theorem dX2_answerAll_41 : decode cX2_answerAll 41 = .ok (.aload_n 1, 1) := by decide +kernel
theorem dX2_answerAll_42 : decode cX2_answerAll 42 = .ok (.invokevirtual 72, 3) := by decide +kernel
theorem dX2_answerAll_45 : decode cX2_answerAll 45 = .ok (.if_icmp .ge 23, 3) := by decide +kernel
theorem dX2_answerAll_48 : decode cX2_answerAll 48 = .ok (.aload_n 0, 1) := by decide +kernel
theorem dX2_answerAll_49 : decode cX2_answerAll 49 = .ok (.aload_n 1, 1) := by decide +kernel
theorem dX2_answerAll_50 : decode cX2_answerAll 50 = .ok (.iload 7, 2) := by decide +kernel
theorem dX2_answerAll_52 : decode cX2_answerAll 52 = .ok (.invokevirtual 77, 3) := by decide +kernel
theorem dX2_answerAll_55 : decode cX2_answerAll 55 = .ok (.iload 4, 2) := by decide +kernel
theorem dX2_answerAll_57 : decode cX2_answerAll 57 = .ok (.lload 5, 2) := by decide +kernel
theorem dX2_answerAll_59 : decode cX2_answerAll 59 = .ok (.invokevirtual 92, 3) := by decide +kernel
theorem dX2_answerAll_62 : decode cX2_answerAll 62 = .ok (.iinc 7 1, 3) := by decide +kernel
theorem dX2_answerAll_65 : decode cX2_answerAll 65 = .ok (.goto (-26), 3) := by decide +kernel
theorem dX2_answerAll_68 : decode cX2_answerAll 68 = .ok (.iinc 3 1, 3) := by decide +kernel
theorem dX2_answerAll_71 : decode cX2_answerAll 71 = .ok (.goto (-69), 3) := by decide +kernel
theorem dX2_answerAll_74 : decode cX2_answerAll 74 = .ok (.return_, 1) := by decide +kernel
theorem dX2_sumOfShares_0 : decode cX2_sumOfShares 0 = .ok (.aload_n 0, 1) := by decide +kernel
theorem dX2_sumOfShares_1 : decode cX2_sumOfShares 1 = .ok (.bipush 15, 2) := by decide +kernel
theorem dX2_sumOfShares_3 : decode cX2_sumOfShares 3 = .ok (.iload_n 2, 1) := by decide +kernel
theorem dX2_sumOfShares_4 : decode cX2_sumOfShares 4 = .ok (.invokevirtual 96, 3) := by decide +kernel
theorem dX2_sumOfShares_7 : decode cX2_sumOfShares 7 = .ok (.i2l, 1) := by decide +kernel
theorem dX2_sumOfShares_8 : decode cX2_sumOfShares 8 = .ok (.lstore_n 3, 1) := by decide +kernel
theorem dX2_sumOfShares_9 : decode cX2_sumOfShares 9 = .ok (.iconst 0, 1) := by decide +kernel
theorem dX2_sumOfShares_10 : decode cX2_sumOfShares 10 = .ok (.istore 5, 2) := by decide +kernel
theorem dX2_sumOfShares_12 : decode cX2_sumOfShares 12 = .ok (.iload 5, 2) := by decide +kernel
theorem dX2_sumOfShares_14 : decode cX2_sumOfShares 14 = .ok (.aload_n 1, 1) := by decide +kernel
theorem dX2_sumOfShares_15 : decode cX2_sumOfShares 15 = .ok (.invokevirtual 72, 3) := by decide +kernel
theorem dX2_sumOfShares_18 : decode cX2_sumOfShares 18 = .ok (.if_icmp .ge 24, 3) := by decide +kernel
theorem dX2_sumOfShares_21 : decode cX2_sumOfShares 21 = .ok (.lload_n 3, 1) := by decide +kernel
theorem dX2_sumOfShares_22 : decode cX2_sumOfShares 22 = .ok (.aload_n 0, 1) := by decide +kernel
theorem dX2_sumOfShares_23 : decode cX2_sumOfShares 23 = .ok (.aload_n 1, 1) := by decide +kernel
theorem dX2_sumOfShares_24 : decode cX2_sumOfShares 24 = .ok (.iload 5, 2) := by decide +kernel
theorem dX2_sumOfShares_26 : decode cX2_sumOfShares 26 = .ok (.invokevirtual 77, 3) := by decide +kernel
theorem dX2_sumOfShares_29 : decode cX2_sumOfShares 29 = .ok (.iload_n 2, 1) := by decide +kernel
theorem dX2_sumOfShares_30 : decode cX2_sumOfShares 30 = .ok (.invokevirtual 96, 3) := by decide +kernel
theorem dX2_sumOfShares_33 : decode cX2_sumOfShares 33 = .ok (.i2l, 1) := by decide +kernel
theorem dX2_sumOfShares_34 : decode cX2_sumOfShares 34 = .ok (.ladd, 1) := by decide +kernel
theorem dX2_sumOfShares_35 : decode cX2_sumOfShares 35 = .ok (.lstore_n 3, 1) := by decide +kernel
theorem dX2_sumOfShares_36 : decode cX2_sumOfShares 36 = .ok (.iinc 5 1, 3) := by decide +kernel
theorem dX2_sumOfShares_39 : decode cX2_sumOfShares 39 = .ok (.goto (-27), 3) := by decide +kernel
theorem dX2_sumOfShares_42 : decode cX2_sumOfShares 42 = .ok (.lload_n 3, 1) := by decide +kernel
theorem dX2_sumOfShares_43 : decode cX2_sumOfShares 43 = .ok (.lreturn, 1) := by decide +kernel
theorem dX2_addAnswer_0 : decode cX2_addAnswer 0 = .ok (.iload_n 1, 1) := by decide +kernel
theorem dX2_addAnswer_1 : decode cX2_addAnswer 1 = .ok (.iload_n 2, 1) := by decide +kernel
theorem dX2_addAnswer_2 : decode cX2_addAnswer 2 = .ok (.invokestatic 29, 3) := by decide +kernel
theorem dX2_addAnswer_5 : decode cX2_addAnswer 5 = .ok (.istore 5, 2) := by decide +kernel
theorem dX2_addAnswer_7 : decode cX2_addAnswer 7 = .ok (.lload_n 3, 1) := by decide +kernel
theorem dX2_addAnswer_8 : decode cX2_addAnswer 8 = .ok (.lconst 0, 1) := by decide +kernel
theorem dX2_addAnswer_9 : decode cX2_addAnswer 9 = .ok (.lcmp, 1) := by decide +kernel
theorem dX2_addAnswer_10 : decode cX2_addAnswer 10 = .ok (.ifCond .le 41, 3) := by decide +kernel
theorem dX2_addAnswer_13 : decode cX2_addAnswer 13 = .ok (.iload 5, 2) := by decide +kernel
theorem dX2_addAnswer_15 : decode cX2_addAnswer 15 = .ok (.ifCond .lt 36, 3) := by decide +kernel
theorem dX2_addAnswer_18 : decode cX2_addAnswer 18 = .ok (.iload 5, 2) := by decide +kernel
theorem dX2_addAnswer_20 : decode cX2_addAnswer 20 = .ok (.aload_n 0, 1) := by decide +kernel
theorem dX2_addAnswer_21 : decode cX2_addAnswer 21 = .ok (.getfield 15, 3) := by decide +kernel
theorem dX2_addAnswer_24 : decode cX2_addAnswer 24 = .ok (.arraylength, 1) := by decide +kernel
theorem dX2_addAnswer_25 : decode cX2_addAnswer 25 = .ok (.if_icmp .ge 26, 3) := by decide +kernel
theorem dX2_addAnswer_28 : decode cX2_addAnswer 28 = .ok (.aload_n 0, 1) := by decide +kernel
theorem dX2_addAnswer_29 : decode cX2_addAnswer 29 = .ok (.getfield 15, 3) := by decide +kernel
theorem dX2_addAnswer_32 : decode cX2_addAnswer 32 = .ok (.iload 5, 2) := by decide +kernel
theorem dX2_addAnswer_34 : decode cX2_addAnswer 34 = .ok (.dup2, 1) := by decide +kernel
theorem dX2_addAnswer_35 : decode cX2_addAnswer 35 = .ok (.laload, 1) := by decide +kernel
theorem dX2_addAnswer_36 : decode cX2_addAnswer 36 = .ok (.aload_n 0, 1) := by decide +kernel
theorem dX2_addAnswer_37 : decode cX2_addAnswer 37 = .ok (.iload_n 1, 1) := by decide +kernel
theorem dX2_addAnswer_38 : decode cX2_addAnswer 38 = .ok (.iload_n 2, 1) := by decide +kernel
theorem dX2_addAnswer_39 : decode cX2_addAnswer 39 = .ok (.invokevirtual 96, 3) := by decide +kernel
theorem dX2_addAnswer_42 : decode cX2_addAnswer 42 = .ok (.i2l, 1) := by decide +kernel
theorem dX2_addAnswer_43 : decode cX2_addAnswer 43 = .ok (.ldc2_w 99, 3) := by decide +kernel
theorem dX2_addAnswer_46 : decode cX2_addAnswer 46 = .ok (.lmul, 1) := by decide +kernel
theorem dX2_addAnswer_47 : decode cX2_addAnswer 47 = .ok (.lload_n 3, 1) := by decide +kernel
theorem dX2_addAnswer_48 : decode cX2_addAnswer 48 = .ok (.ldiv, 1) := by decide +kernel
theorem dX2_addAnswer_49 : decode cX2_addAnswer 49 = .ok (.ladd, 1) := by decide +kernel
theorem dX2_addAnswer_50 : decode cX2_addAnswer 50 = .ok (.lastore, 1) := by decide +kernel
theorem dX2_addAnswer_51 : decode cX2_addAnswer 51 = .ok (.return_, 1) := by decide +kernel
theorem dX2_apportionAll_0 : decode cX2_apportionAll 0 = .ok (.iconst 0, 1) := by decide +kernel
theorem dX2_apportionAll_1 : decode cX2_apportionAll 1 = .ok (.istore_n 1, 1) := by decide +kernel
theorem dX2_apportionAll_2 : decode cX2_apportionAll 2 = .ok (.iconst 0, 1) := by decide +kernel
theorem dX2_apportionAll_3 : decode cX2_apportionAll 3 = .ok (.istore_n 2, 1) := by decide +kernel
theorem dX2_apportionAll_4 : decode cX2_apportionAll 4 = .ok (.iload_n 2, 1) := by decide +kernel
theorem dX2_apportionAll_5 : decode cX2_apportionAll 5 = .ok (.bipush 15, 2) := by decide +kernel
theorem dX2_apportionAll_7 : decode cX2_apportionAll 7 = .ok (.if_icmp .gt 22, 3) := by decide +kernel
theorem dX2_apportionAll_10 : decode cX2_apportionAll 10 = .ok (.aload_n 0, 1) := by decide +kernel
theorem dX2_apportionAll_11 : decode cX2_apportionAll 11 = .ok (.iload_n 2, 1) := by decide +kernel
theorem dX2_apportionAll_12 : decode cX2_apportionAll 12 = .ok (.invokevirtual 101, 3) := by decide +kernel
theorem dX2_apportionAll_15 : decode cX2_apportionAll 15 = .ok (.iload_n 1, 1) := by decide +kernel
theorem dX2_apportionAll_16 : decode cX2_apportionAll 16 = .ok (.aload_n 0, 1) := by decide +kernel
theorem dX2_apportionAll_17 : decode cX2_apportionAll 17 = .ok (.iload_n 2, 1) := by decide +kernel
theorem dX2_apportionAll_18 : decode cX2_apportionAll 18 = .ok (.invokevirtual 105, 3) := by decide +kernel
theorem dX2_apportionAll_21 : decode cX2_apportionAll 21 = .ok (.iadd, 1) := by decide +kernel
theorem dX2_apportionAll_22 : decode cX2_apportionAll 22 = .ok (.istore_n 1, 1) := by decide +kernel
theorem dX2_apportionAll_23 : decode cX2_apportionAll 23 = .ok (.iinc 2 1, 3) := by decide +kernel
theorem dX2_apportionAll_26 : decode cX2_apportionAll 26 = .ok (.goto (-22), 3) := by decide +kernel
theorem dX2_apportionAll_29 : decode cX2_apportionAll 29 = .ok (.iload_n 1, 1) := by decide +kernel
theorem dX2_apportionAll_30 : decode cX2_apportionAll 30 = .ok (.ireturn, 1) := by decide +kernel
theorem dX2_apportion_0 : decode cX2_apportion 0 = .ok (.aload_n 0, 1) := by decide +kernel
theorem dX2_apportion_1 : decode cX2_apportion 1 = .ok (.getfield 19, 3) := by decide +kernel
theorem dX2_apportion_4 : decode cX2_apportion 4 = .ok (.iconst 0, 1) := by decide +kernel
theorem dX2_apportion_5 : decode cX2_apportion 5 = .ok (.invokestatic 108, 3) := by decide +kernel
theorem dX2_apportion_8 : decode cX2_apportion 8 = .ok (.lconst 0, 1) := by decide +kernel
theorem dX2_apportion_9 : decode cX2_apportion 9 = .ok (.lstore_n 2, 1) := by decide +kernel
theorem dX2_apportion_10 : decode cX2_apportion 10 = .ok (.iconst 0, 1) := by decide +kernel
theorem dX2_apportion_11 : decode cX2_apportion 11 = .ok (.istore 4, 2) := by decide +kernel
theorem dX2_apportion_13 : decode cX2_apportion 13 = .ok (.iload 4, 2) := by decide +kernel
theorem dX2_apportion_15 : decode cX2_apportion 15 = .ok (.bipush 15, 2) := by decide +kernel
theorem dX2_apportion_17 : decode cX2_apportion 17 = .ok (.if_icmp .ge 19, 3) := by decide +kernel
theorem dX2_apportion_20 : decode cX2_apportion 20 = .ok (.lload_n 2, 1) := by decide +kernel
theorem dX2_apportion_21 : decode cX2_apportion 21 = .ok (.aload_n 0, 1) := by decide +kernel
theorem dX2_apportion_22 : decode cX2_apportion 22 = .ok (.iload_n 1, 1) := by decide +kernel
theorem dX2_apportion_23 : decode cX2_apportion 23 = .ok (.iload 4, 2) := by decide +kernel
theorem dX2_apportion_25 : decode cX2_apportion 25 = .ok (.invokevirtual 111, 3) := by decide +kernel
theorem dX2_apportion_28 : decode cX2_apportion 28 = .ok (.ladd, 1) := by decide +kernel
theorem dX2_apportion_29 : decode cX2_apportion 29 = .ok (.lstore_n 2, 1) := by decide +kernel
theorem dX2_apportion_30 : decode cX2_apportion 30 = .ok (.iinc 4 1, 3) := by decide +kernel
theorem dX2_apportion_33 : decode cX2_apportion 33 = .ok (.goto (-20), 3) := by decide +kernel
theorem dX2_apportion_36 : decode cX2_apportion 36 = .ok (.lload_n 2, 1) := by decide +kernel
theorem dX2_apportion_37 : decode cX2_apportion 37 = .ok (.lconst 0, 1) := by decide +kernel
theorem dX2_apportion_38 : decode cX2_apportion 38 = .ok (.lcmp, 1) := by decide +kernel
theorem dX2_apportion_39 : decode cX2_apportion 39 = .ok (.ifCond .le 13, 3) := by decide +kernel
theorem dX2_apportion_42 : decode cX2_apportion 42 = .ok (.aload_n 0, 1) := by decide +kernel
theorem dX2_apportion_43 : decode cX2_apportion 43 = .ok (.aload_n 0, 1) := by decide +kernel
theorem dX2_apportion_44 : decode cX2_apportion 44 = .ok (.iload_n 1, 1) := by decide +kernel
theorem dX2_apportion_45 : decode cX2_apportion 45 = .ok (.lload_n 2, 1) := by decide +kernel
theorem dX2_apportion_46 : decode cX2_apportion 46 = .ok (.invokevirtual 115, 3) := by decide +kernel
theorem dX2_apportion_49 : decode cX2_apportion 49 = .ok (.invokevirtual 119, 3) := by decide +kernel
theorem dX2_apportion_52 : decode cX2_apportion 52 = .ok (.return_, 1) := by decide +kernel
theorem dX2_countOf_0 : decode cX2_countOf 0 = .ok (.iload_n 1, 1) := by decide +kernel
theorem dX2_countOf_1 : decode cX2_countOf 1 = .ok (.iload_n 2, 1) := by decide +kernel
theorem dX2_countOf_2 : decode cX2_countOf 2 = .ok (.invokestatic 29, 3) := by decide +kernel
theorem dX2_countOf_5 : decode cX2_countOf 5 = .ok (.istore_n 3, 1) := by decide +kernel
theorem dX2_countOf_6 : decode cX2_countOf 6 = .ok (.iload_n 3, 1) := by decide +kernel
theorem dX2_countOf_7 : decode cX2_countOf 7 = .ok (.ifCond .lt 21, 3) := by decide +kernel
theorem dX2_countOf_10 : decode cX2_countOf 10 = .ok (.iload_n 3, 1) := by decide +kernel
theorem dX2_countOf_11 : decode cX2_countOf 11 = .ok (.aload_n 0, 1) := by decide +kernel
theorem dX2_countOf_12 : decode cX2_countOf 12 = .ok (.getfield 15, 3) := by decide +kernel
theorem dX2_countOf_15 : decode cX2_countOf 15 = .ok (.arraylength, 1) := by decide +kernel
theorem dX2_countOf_16 : decode cX2_countOf 16 = .ok (.if_icmp .ge 12, 3) := by decide +kernel
theorem dX2_countOf_19 : decode cX2_countOf 19 = .ok (.aload_n 0, 1) := by decide +kernel
theorem dX2_countOf_20 : decode cX2_countOf 20 = .ok (.getfield 15, 3) := by decide +kernel
theorem dX2_countOf_23 : decode cX2_countOf 23 = .ok (.iload_n 3, 1) := by decide +kernel
theorem dX2_countOf_24 : decode cX2_countOf 24 = .ok (.laload, 1) := by decide +kernel
theorem dX2_countOf_25 : decode cX2_countOf 25 = .ok (.goto 4, 3) := by decide +kernel
theorem dX2_countOf_28 : decode cX2_countOf 28 = .ok (.lconst 0, 1) := by decide +kernel
theorem dX2_countOf_29 : decode cX2_countOf 29 = .ok (.lreturn, 1) := by decide +kernel
theorem dX2_giveWholes_0 : decode cX2_giveWholes 0 = .ok (.ldc 122, 2) := by decide +kernel
theorem dX2_giveWholes_2 : decode cX2_giveWholes 2 = .ok (.istore 4, 2) := by decide +kernel
theorem dX2_giveWholes_4 : decode cX2_giveWholes 4 = .ok (.iconst 0, 1) := by decide +kernel
theorem dX2_giveWholes_5 : decode cX2_giveWholes 5 = .ok (.istore 5, 2) := by decide +kernel
theorem dX2_giveWholes_7 : decode cX2_giveWholes 7 = .ok (.iload 5, 2) := by decide +kernel
theorem dX2_giveWholes_9 : decode cX2_giveWholes 9 = .ok (.aload_n 0, 1) := by decide +kernel
theorem dX2_giveWholes_10 : decode cX2_giveWholes 10 = .ok (.getfield 19, 3) := by decide +kernel
theorem dX2_giveWholes_13 : decode cX2_giveWholes 13 = .ok (.arraylength, 1) := by decide +kernel
theorem dX2_giveWholes_14 : decode cX2_giveWholes 14 = .ok (.if_icmp .ge 87, 3) := by decide +kernel
theorem dX2_giveWholes_17 : decode cX2_giveWholes 17 = .ok (.iload 5, 2) := by decide +kernel
theorem dX2_giveWholes_19 : decode cX2_giveWholes 19 = .ok (.aload_n 0, 1) := by decide +kernel
theorem dX2_giveWholes_20 : decode cX2_giveWholes 20 = .ok (.getfield 22, 3) := by decide +kernel
theorem dX2_giveWholes_23 : decode cX2_giveWholes 23 = .ok (.arraylength, 1) := by decide +kernel
theorem dX2_giveWholes_24 : decode cX2_giveWholes 24 = .ok (.if_icmp .ge 77, 3) := by decide +kernel
theorem dX2_giveWholes_27 : decode cX2_giveWholes 27 = .ok (.aload_n 0, 1) := by decide +kernel
theorem dX2_giveWholes_28 : decode cX2_giveWholes 28 = .ok (.iload_n 1, 1) := by decide +kernel
theorem dX2_giveWholes_29 : decode cX2_giveWholes 29 = .ok (.iload 5, 2) := by decide +kernel
theorem dX2_giveWholes_31 : decode cX2_giveWholes 31 = .ok (.invokevirtual 111, 3) := by decide +kernel
theorem dX2_giveWholes_34 : decode cX2_giveWholes 34 = .ok (.ldc2_w 99, 3) := by decide +kernel
theorem dX2_giveWholes_37 : decode cX2_giveWholes 37 = .ok (.lmul, 1) := by decide +kernel
theorem dX2_giveWholes_38 : decode cX2_giveWholes 38 = .ok (.lstore 6, 2) := by decide +kernel
theorem dX2_giveWholes_40 : decode cX2_giveWholes 40 = .ok (.aload_n 0, 1) := by decide +kernel
theorem dX2_giveWholes_41 : decode cX2_giveWholes 41 = .ok (.getfield 19, 3) := by decide +kernel
theorem dX2_giveWholes_44 : decode cX2_giveWholes 44 = .ok (.iload 5, 2) := by decide +kernel
theorem dX2_giveWholes_46 : decode cX2_giveWholes 46 = .ok (.lload_n 2, 1) := by decide +kernel
theorem dX2_giveWholes_47 : decode cX2_giveWholes 47 = .ok (.lconst 0, 1) := by decide +kernel
theorem dX2_giveWholes_48 : decode cX2_giveWholes 48 = .ok (.lcmp, 1) := by decide +kernel
theorem dX2_giveWholes_49 : decode cX2_giveWholes 49 = .ok (.ifCond .le 11, 3) := by decide +kernel
theorem dX2_giveWholes_52 : decode cX2_giveWholes 52 = .ok (.lload 6, 2) := by decide +kernel
theorem dX2_giveWholes_54 : decode cX2_giveWholes 54 = .ok (.lload_n 2, 1) := by decide +kernel
theorem dX2_giveWholes_55 : decode cX2_giveWholes 55 = .ok (.ldiv, 1) := by decide +kernel
theorem dX2_giveWholes_56 : decode cX2_giveWholes 56 = .ok (.l2i, 1) := by decide +kernel
theorem dX2_giveWholes_57 : decode cX2_giveWholes 57 = .ok (.goto 4, 3) := by decide +kernel
theorem dX2_giveWholes_60 : decode cX2_giveWholes 60 = .ok (.iconst 0, 1) := by decide +kernel
theorem dX2_giveWholes_61 : decode cX2_giveWholes 61 = .ok (.iastore, 1) := by decide +kernel
theorem dX2_giveWholes_62 : decode cX2_giveWholes 62 = .ok (.aload_n 0, 1) := by decide +kernel
theorem dX2_giveWholes_63 : decode cX2_giveWholes 63 = .ok (.getfield 22, 3) := by decide +kernel
theorem dX2_giveWholes_66 : decode cX2_giveWholes 66 = .ok (.iload 5, 2) := by decide +kernel
theorem dX2_giveWholes_68 : decode cX2_giveWholes 68 = .ok (.lload_n 2, 1) := by decide +kernel
theorem dX2_giveWholes_69 : decode cX2_giveWholes 69 = .ok (.lconst 0, 1) := by decide +kernel
theorem dX2_giveWholes_70 : decode cX2_giveWholes 70 = .ok (.lcmp, 1) := by decide +kernel
theorem dX2_giveWholes_71 : decode cX2_giveWholes 71 = .ok (.ifCond .le 10, 3) := by decide +kernel
theorem dX2_giveWholes_74 : decode cX2_giveWholes 74 = .ok (.lload 6, 2) := by decide +kernel
theorem dX2_giveWholes_76 : decode cX2_giveWholes 76 = .ok (.lload_n 2, 1) := by decide +kernel
theorem dX2_giveWholes_77 : decode cX2_giveWholes 77 = .ok (.lrem, 1) := by decide +kernel
theorem dX2_giveWholes_78 : decode cX2_giveWholes 78 = .ok (.goto 4, 3) := by decide +kernel
theorem dX2_giveWholes_81 : decode cX2_giveWholes 81 = .ok (.lconst 0, 1) := by decide +kernel
theorem dX2_giveWholes_82 : decode cX2_giveWholes 82 = .ok (.lastore, 1) := by decide +kernel
theorem dX2_giveWholes_83 : decode cX2_giveWholes 83 = .ok (.iload 4, 2) := by decide +kernel
theorem dX2_giveWholes_85 : decode cX2_giveWholes 85 = .ok (.aload_n 0, 1) := by decide +kernel
theorem dX2_giveWholes_86 : decode cX2_giveWholes 86 = .ok (.getfield 19, 3) := by decide +kernel
theorem dX2_giveWholes_89 : decode cX2_giveWholes 89 = .ok (.iload 5, 2) := by decide +kernel
theorem dX2_giveWholes_91 : decode cX2_giveWholes 91 = .ok (.iaload, 1) := by decide +kernel
theorem dX2_giveWholes_92 : decode cX2_giveWholes 92 = .ok (.isub, 1) := by decide +kernel
theorem dX2_giveWholes_93 : decode cX2_giveWholes 93 = .ok (.istore 4, 2) := by decide +kernel
theorem dX2_giveWholes_95 : decode cX2_giveWholes 95 = .ok (.iinc 5 1, 3) := by decide +kernel
theorem dX2_giveWholes_98 : decode cX2_giveWholes 98 = .ok (.goto (-91), 3) := by decide +kernel
theorem dX2_giveWholes_101 : decode cX2_giveWholes 101 = .ok (.iload 4, 2) := by decide +kernel
theorem dX2_giveWholes_103 : decode cX2_giveWholes 103 = .ok (.ireturn, 1) := by decide +kernel
theorem dX2_giveRests_0 : decode cX2_giveRests 0 = .ok (.iconst 0, 1) := by decide +kernel
theorem dX2_giveRests_1 : decode cX2_giveRests 1 = .ok (.istore_n 2, 1) := by decide +kernel
theorem dX2_giveRests_2 : decode cX2_giveRests 2 = .ok (.iload_n 2, 1) := by decide +kernel
theorem dX2_giveRests_3 : decode cX2_giveRests 3 = .ok (.iload_n 1, 1) := by decide +kernel
theorem dX2_giveRests_4 : decode cX2_giveRests 4 = .ok (.if_icmp .ge 61, 3) := by decide +kernel
theorem dX2_giveRests_7 : decode cX2_giveRests 7 = .ok (.iload_n 2, 1) := by decide +kernel
theorem dX2_giveRests_8 : decode cX2_giveRests 8 = .ok (.bipush 15, 2) := by decide +kernel
theorem dX2_giveRests_10 : decode cX2_giveRests 10 = .ok (.if_icmp .ge 55, 3) := by decide +kernel
theorem dX2_giveRests_13 : decode cX2_giveRests 13 = .ok (.aload_n 0, 1) := by decide +kernel
theorem dX2_giveRests_14 : decode cX2_giveRests 14 = .ok (.invokevirtual 123, 3) := by decide +kernel
theorem dX2_giveRests_17 : decode cX2_giveRests 17 = .ok (.istore_n 3, 1) := by decide +kernel
theorem dX2_giveRests_18 : decode cX2_giveRests 18 = .ok (.iload_n 3, 1) := by decide +kernel
theorem dX2_giveRests_19 : decode cX2_giveRests 19 = .ok (.ifCond .lt 40, 3) := by decide +kernel
theorem dX2_giveRests_22 : decode cX2_giveRests 22 = .ok (.iload_n 3, 1) := by decide +kernel
theorem dX2_giveRests_23 : decode cX2_giveRests 23 = .ok (.aload_n 0, 1) := by decide +kernel
theorem dX2_giveRests_24 : decode cX2_giveRests 24 = .ok (.getfield 19, 3) := by decide +kernel
theorem dX2_giveRests_27 : decode cX2_giveRests 27 = .ok (.arraylength, 1) := by decide +kernel
theorem dX2_giveRests_28 : decode cX2_giveRests 28 = .ok (.if_icmp .ge 31, 3) := by decide +kernel
theorem dX2_giveRests_31 : decode cX2_giveRests 31 = .ok (.iload_n 3, 1) := by decide +kernel
theorem dX2_giveRests_32 : decode cX2_giveRests 32 = .ok (.aload_n 0, 1) := by decide +kernel
theorem dX2_giveRests_33 : decode cX2_giveRests 33 = .ok (.getfield 22, 3) := by decide +kernel
theorem dX2_giveRests_36 : decode cX2_giveRests 36 = .ok (.arraylength, 1) := by decide +kernel
theorem dX2_giveRests_37 : decode cX2_giveRests 37 = .ok (.if_icmp .ge 22, 3) := by decide +kernel
theorem dX2_giveRests_40 : decode cX2_giveRests 40 = .ok (.aload_n 0, 1) := by decide +kernel
theorem dX2_giveRests_41 : decode cX2_giveRests 41 = .ok (.getfield 19, 3) := by decide +kernel
theorem dX2_giveRests_44 : decode cX2_giveRests 44 = .ok (.iload_n 3, 1) := by decide +kernel
theorem dX2_giveRests_45 : decode cX2_giveRests 45 = .ok (.dup2, 1) := by decide +kernel
theorem dX2_giveRests_46 : decode cX2_giveRests 46 = .ok (.iaload, 1) := by decide +kernel
theorem dX2_giveRests_47 : decode cX2_giveRests 47 = .ok (.iconst 1, 1) := by decide +kernel
theorem dX2_giveRests_48 : decode cX2_giveRests 48 = .ok (.iadd, 1) := by decide +kernel
theorem dX2_giveRests_49 : decode cX2_giveRests 49 = .ok (.iastore, 1) := by decide +kernel
theorem dX2_giveRests_50 : decode cX2_giveRests 50 = .ok (.aload_n 0, 1) := by decide +kernel
theorem dX2_giveRests_51 : decode cX2_giveRests 51 = .ok (.getfield 22, 3) := by decide +kernel
theorem dX2_giveRests_54 : decode cX2_giveRests 54 = .ok (.iload_n 3, 1) := by decide +kernel
theorem dX2_giveRests_55 : decode cX2_giveRests 55 = .ok (.ldc2_w 126, 3) := by decide +kernel
theorem dX2_giveRests_58 : decode cX2_giveRests 58 = .ok (.lastore, 1) := by decide +kernel
theorem dX2_giveRests_59 : decode cX2_giveRests 59 = .ok (.iinc 2 1, 3) := by decide +kernel
theorem dX2_giveRests_62 : decode cX2_giveRests 62 = .ok (.goto (-60), 3) := by decide +kernel
theorem dX2_giveRests_65 : decode cX2_giveRests 65 = .ok (.return_, 1) := by decide +kernel
theorem dX2_placeOfGreatestRest_0 : decode cX2_placeOfGreatestRest 0 = .ok (.iconst 0, 1) := by decide +kernel
theorem dX2_placeOfGreatestRest_1 : decode cX2_placeOfGreatestRest 1 = .ok (.istore_n 1, 1) := by decide +kernel
theorem dX2_placeOfGreatestRest_2 : decode cX2_placeOfGreatestRest 2 = .ok (.ldc2_w 126, 3) := by decide +kernel
theorem dX2_placeOfGreatestRest_5 : decode cX2_placeOfGreatestRest 5 = .ok (.lstore_n 2, 1) := by decide +kernel
theorem dX2_placeOfGreatestRest_6 : decode cX2_placeOfGreatestRest 6 = .ok (.iconst 0, 1) := by decide +kernel
theorem dX2_placeOfGreatestRest_7 : decode cX2_placeOfGreatestRest 7 = .ok (.istore 4, 2) := by decide +kernel
theorem dX2_placeOfGreatestRest_9 : decode cX2_placeOfGreatestRest 9 = .ok (.iload 4, 2) := by decide +kernel
theorem dX2_placeOfGreatestRest_11 : decode cX2_placeOfGreatestRest 11 = .ok (.aload_n 0, 1) := by decide +kernel
theorem dX2_placeOfGreatestRest_12 : decode cX2_placeOfGreatestRest 12 = .ok (.getfield 22, 3) := by decide +kernel
theorem dX2_placeOfGreatestRest_15 : decode cX2_placeOfGreatestRest 15 = .ok (.arraylength, 1) := by decide +kernel
theorem dX2_placeOfGreatestRest_16 : decode cX2_placeOfGreatestRest 16 = .ok (.if_icmp .ge 32, 3) := by decide +kernel
theorem dX2_placeOfGreatestRest_19 : decode cX2_placeOfGreatestRest 19 = .ok (.aload_n 0, 1) := by decide +kernel
theorem dX2_placeOfGreatestRest_20 : decode cX2_placeOfGreatestRest 20 = .ok (.getfield 22, 3) := by decide +kernel
theorem dX2_placeOfGreatestRest_23 : decode cX2_placeOfGreatestRest 23 = .ok (.iload 4, 2) := by decide +kernel
theorem dX2_placeOfGreatestRest_25 : decode cX2_placeOfGreatestRest 25 = .ok (.laload, 1) := by decide +kernel
theorem dX2_placeOfGreatestRest_26 : decode cX2_placeOfGreatestRest 26 = .ok (.lload_n 2, 1) := by decide +kernel
theorem dX2_placeOfGreatestRest_27 : decode cX2_placeOfGreatestRest 27 = .ok (.lcmp, 1) := by decide +kernel
theorem dX2_placeOfGreatestRest_28 : decode cX2_placeOfGreatestRest 28 = .ok (.ifCond .le 14, 3) := by decide +kernel
theorem dX2_placeOfGreatestRest_31 : decode cX2_placeOfGreatestRest 31 = .ok (.aload_n 0, 1) := by decide +kernel
theorem dX2_placeOfGreatestRest_32 : decode cX2_placeOfGreatestRest 32 = .ok (.getfield 22, 3) := by decide +kernel
theorem dX2_placeOfGreatestRest_35 : decode cX2_placeOfGreatestRest 35 = .ok (.iload 4, 2) := by decide +kernel
theorem dX2_placeOfGreatestRest_37 : decode cX2_placeOfGreatestRest 37 = .ok (.laload, 1) := by decide +kernel
theorem dX2_placeOfGreatestRest_38 : decode cX2_placeOfGreatestRest 38 = .ok (.lstore_n 2, 1) := by decide +kernel
theorem dX2_placeOfGreatestRest_39 : decode cX2_placeOfGreatestRest 39 = .ok (.iload 4, 2) := by decide +kernel
theorem dX2_placeOfGreatestRest_41 : decode cX2_placeOfGreatestRest 41 = .ok (.istore_n 1, 1) := by decide +kernel
theorem dX2_placeOfGreatestRest_42 : decode cX2_placeOfGreatestRest 42 = .ok (.iinc 4 1, 3) := by decide +kernel
theorem dX2_placeOfGreatestRest_45 : decode cX2_placeOfGreatestRest 45 = .ok (.goto (-36), 3) := by decide +kernel
theorem dX2_placeOfGreatestRest_48 : decode cX2_placeOfGreatestRest 48 = .ok (.iload_n 1, 1) := by decide +kernel
theorem dX2_placeOfGreatestRest_49 : decode cX2_placeOfGreatestRest 49 = .ok (.ireturn, 1) := by decide +kernel
theorem dX2_replaceShares_0 : decode cX2_replaceShares 0 = .ok (.iconst 0, 1) := by decide +kernel
theorem dX2_replaceShares_1 : decode cX2_replaceShares 1 = .ok (.istore_n 2, 1) := by decide +kernel
theorem dX2_replaceShares_2 : decode cX2_replaceShares 2 = .ok (.iconst 0, 1) := by decide +kernel
theorem dX2_replaceShares_3 : decode cX2_replaceShares 3 = .ok (.istore_n 3, 1) := by decide +kernel
theorem dX2_replaceShares_4 : decode cX2_replaceShares 4 = .ok (.iload_n 3, 1) := by decide +kernel
theorem dX2_replaceShares_5 : decode cX2_replaceShares 5 = .ok (.aload_n 0, 1) := by decide +kernel
theorem dX2_replaceShares_6 : decode cX2_replaceShares 6 = .ok (.getfield 19, 3) := by decide +kernel
theorem dX2_replaceShares_9 : decode cX2_replaceShares 9 = .ok (.arraylength, 1) := by decide +kernel
theorem dX2_replaceShares_10 : decode cX2_replaceShares 10 = .ok (.if_icmp .ge 63, 3) := by decide +kernel
theorem dX2_replaceShares_13 : decode cX2_replaceShares 13 = .ok (.iload_n 1, 1) := by decide +kernel
theorem dX2_replaceShares_14 : decode cX2_replaceShares 14 = .ok (.iload_n 3, 1) := by decide +kernel
theorem dX2_replaceShares_15 : decode cX2_replaceShares 15 = .ok (.invokestatic 29, 3) := by decide +kernel
theorem dX2_replaceShares_18 : decode cX2_replaceShares 18 = .ok (.istore 4, 2) := by decide +kernel
theorem dX2_replaceShares_20 : decode cX2_replaceShares 20 = .ok (.iload 4, 2) := by decide +kernel
theorem dX2_replaceShares_22 : decode cX2_replaceShares 22 = .ok (.ifCond .lt 45, 3) := by decide +kernel
theorem dX2_replaceShares_25 : decode cX2_replaceShares 25 = .ok (.iload 4, 2) := by decide +kernel
theorem dX2_replaceShares_27 : decode cX2_replaceShares 27 = .ok (.aload_n 0, 1) := by decide +kernel
theorem dX2_replaceShares_28 : decode cX2_replaceShares 28 = .ok (.getfield 9, 3) := by decide +kernel
theorem dX2_replaceShares_31 : decode cX2_replaceShares 31 = .ok (.arraylength, 1) := by decide +kernel
theorem dX2_replaceShares_32 : decode cX2_replaceShares 32 = .ok (.if_icmp .ge 35, 3) := by decide +kernel
theorem dX2_replaceShares_35 : decode cX2_replaceShares 35 = .ok (.aload_n 0, 1) := by decide +kernel
theorem dX2_replaceShares_36 : decode cX2_replaceShares 36 = .ok (.getfield 9, 3) := by decide +kernel
theorem dX2_replaceShares_39 : decode cX2_replaceShares 39 = .ok (.iload 4, 2) := by decide +kernel
theorem dX2_replaceShares_41 : decode cX2_replaceShares 41 = .ok (.iaload, 1) := by decide +kernel
theorem dX2_replaceShares_42 : decode cX2_replaceShares 42 = .ok (.aload_n 0, 1) := by decide +kernel
theorem dX2_replaceShares_43 : decode cX2_replaceShares 43 = .ok (.getfield 19, 3) := by decide +kernel
theorem dX2_replaceShares_46 : decode cX2_replaceShares 46 = .ok (.iload_n 3, 1) := by decide +kernel
theorem dX2_replaceShares_47 : decode cX2_replaceShares 47 = .ok (.iaload, 1) := by decide +kernel
theorem dX2_replaceShares_48 : decode cX2_replaceShares 48 = .ok (.if_icmp .eq 19, 3) := by decide +kernel
theorem dX2_replaceShares_51 : decode cX2_replaceShares 51 = .ok (.aload_n 0, 1) := by decide +kernel
theorem dX2_replaceShares_52 : decode cX2_replaceShares 52 = .ok (.getfield 9, 3) := by decide +kernel
theorem dX2_replaceShares_55 : decode cX2_replaceShares 55 = .ok (.iload 4, 2) := by decide +kernel
theorem dX2_replaceShares_57 : decode cX2_replaceShares 57 = .ok (.aload_n 0, 1) := by decide +kernel
theorem dX2_replaceShares_58 : decode cX2_replaceShares 58 = .ok (.getfield 19, 3) := by decide +kernel
theorem dX2_replaceShares_61 : decode cX2_replaceShares 61 = .ok (.iload_n 3, 1) := by decide +kernel
theorem dX2_replaceShares_62 : decode cX2_replaceShares 62 = .ok (.iaload, 1) := by decide +kernel
theorem dX2_replaceShares_63 : decode cX2_replaceShares 63 = .ok (.iastore, 1) := by decide +kernel
theorem dX2_replaceShares_64 : decode cX2_replaceShares 64 = .ok (.iinc 2 1, 3) := by decide +kernel
theorem dX2_replaceShares_67 : decode cX2_replaceShares 67 = .ok (.iinc 3 1, 3) := by decide +kernel
theorem dX2_replaceShares_70 : decode cX2_replaceShares 70 = .ok (.goto (-66), 3) := by decide +kernel
theorem dX2_replaceShares_73 : decode cX2_replaceShares 73 = .ok (.iload_n 2, 1) := by decide +kernel
theorem dX2_replaceShares_74 : decode cX2_replaceShares 74 = .ok (.ireturn, 1) := by decide +kernel
theorem dX2_sharesAboveZero_0 : decode cX2_sharesAboveZero 0 = .ok (.iconst 0, 1) := by decide +kernel
theorem dX2_sharesAboveZero_1 : decode cX2_sharesAboveZero 1 = .ok (.istore_n 1, 1) := by decide +kernel
theorem dX2_sharesAboveZero_2 : decode cX2_sharesAboveZero 2 = .ok (.iconst 0, 1) := by decide +kernel
theorem dX2_sharesAboveZero_3 : decode cX2_sharesAboveZero 3 = .ok (.istore_n 2, 1) := by decide +kernel
theorem dX2_sharesAboveZero_4 : decode cX2_sharesAboveZero 4 = .ok (.iload_n 2, 1) := by decide +kernel
theorem dX2_sharesAboveZero_5 : decode cX2_sharesAboveZero 5 = .ok (.aload_n 0, 1) := by decide +kernel
theorem dX2_sharesAboveZero_6 : decode cX2_sharesAboveZero 6 = .ok (.getfield 9, 3) := by decide +kernel
theorem dX2_sharesAboveZero_9 : decode cX2_sharesAboveZero 9 = .ok (.arraylength, 1) := by decide +kernel
theorem dX2_sharesAboveZero_10 : decode cX2_sharesAboveZero 10 = .ok (.if_icmp .ge 21, 3) := by decide +kernel
theorem dX2_sharesAboveZero_13 : decode cX2_sharesAboveZero 13 = .ok (.aload_n 0, 1) := by decide +kernel
theorem dX2_sharesAboveZero_14 : decode cX2_sharesAboveZero 14 = .ok (.getfield 9, 3) := by decide +kernel
theorem dX2_sharesAboveZero_17 : decode cX2_sharesAboveZero 17 = .ok (.iload_n 2, 1) := by decide +kernel
theorem dX2_sharesAboveZero_18 : decode cX2_sharesAboveZero 18 = .ok (.iaload, 1) := by decide +kernel
theorem dX2_sharesAboveZero_19 : decode cX2_sharesAboveZero 19 = .ok (.ifCond .le 6, 3) := by decide +kernel
theorem dX2_sharesAboveZero_22 : decode cX2_sharesAboveZero 22 = .ok (.iinc 1 1, 3) := by decide +kernel
theorem dX2_sharesAboveZero_25 : decode cX2_sharesAboveZero 25 = .ok (.iinc 2 1, 3) := by decide +kernel
theorem dX2_sharesAboveZero_28 : decode cX2_sharesAboveZero 28 = .ok (.goto (-24), 3) := by decide +kernel
theorem dX2_sharesAboveZero_31 : decode cX2_sharesAboveZero 31 = .ok (.iload_n 1, 1) := by decide +kernel
theorem dX2_sharesAboveZero_32 : decode cX2_sharesAboveZero 32 = .ok (.ireturn, 1) := by decide +kernel
theorem dX3_init_0 : decode cX3_init 0 = .ok (.aload_n 0, 1) := by decide +kernel
theorem dX3_init_1 : decode cX3_init 1 = .ok (.invokespecial 3, 3) := by decide +kernel
theorem dX3_init_4 : decode cX3_init 4 = .ok (.aload_n 0, 1) := by decide +kernel
theorem dX3_init_5 : decode cX3_init 5 = .ok (.bipush 36, 2) := by decide +kernel
theorem dX3_init_7 : decode cX3_init 7 = .ok (.newarray .long, 2) := by decide +kernel
theorem dX3_init_9 : decode cX3_init 9 = .ok (.putfield 9, 3) := by decide +kernel
theorem dX3_init_12 : decode cX3_init 12 = .ok (.return_, 1) := by decide +kernel
theorem dX3_consider_0 : decode cX3_consider 0 = .ok (.aload_n 1, 1) := by decide +kernel
theorem dX3_consider_1 : decode cX3_consider 1 = .ok (.iconst 0, 1) := by decide +kernel
theorem dX3_consider_2 : decode cX3_consider 2 = .ok (.invokevirtual 15, 3) := by decide +kernel
theorem dX3_consider_5 : decode cX3_consider 5 = .ok (.astore_n 3, 1) := by decide +kernel
theorem dX3_consider_6 : decode cX3_consider 6 = .ok (.aload_n 1, 1) := by decide +kernel
theorem dX3_consider_7 : decode cX3_consider 7 = .ok (.iconst 1, 1) := by decide +kernel
theorem dX3_consider_8 : decode cX3_consider 8 = .ok (.invokevirtual 15, 3) := by decide +kernel
theorem dX3_consider_11 : decode cX3_consider 11 = .ok (.astore 4, 2) := by decide +kernel
theorem dX3_consider_13 : decode cX3_consider 13 = .ok (.aload_n 0, 1) := by decide +kernel
theorem dX3_consider_14 : decode cX3_consider 14 = .ok (.aload 4, 2) := by decide +kernel
theorem dX3_consider_16 : decode cX3_consider 16 = .ok (.invokevirtual 21, 3) := by decide +kernel
theorem dX3_consider_19 : decode cX3_consider 19 = .ok (.iconst 4, 1) := by decide +kernel
theorem dX3_consider_20 : decode cX3_consider 20 = .ok (.invokestatic 27, 3) := by decide +kernel
theorem dX3_consider_23 : decode cX3_consider 23 = .ok (.putfield 33, 3) := by decide +kernel
theorem dX3_consider_26 : decode cX3_consider 26 = .ok (.aload_n 0, 1) := by decide +kernel
theorem dX3_consider_27 : decode cX3_consider 27 = .ok (.aload_n 3, 1) := by decide +kernel
theorem dX3_consider_28 : decode cX3_consider 28 = .ok (.invokevirtual 21, 3) := by decide +kernel
theorem dX3_consider_31 : decode cX3_consider 31 = .ok (.iconst 1, 1) := by decide +kernel
theorem dX3_consider_32 : decode cX3_consider 32 = .ok (.iadd, 1) := by decide +kernel
theorem dX3_consider_33 : decode cX3_consider 33 = .ok (.putfield 37, 3) := by decide +kernel
theorem dX3_consider_36 : decode cX3_consider 36 = .ok (.iconst 0, 1) := by decide +kernel
theorem dX3_consider_37 : decode cX3_consider 37 = .ok (.istore 5, 2) := by decide +kernel
theorem dX3_consider_39 : decode cX3_consider 39 = .ok (.iload 5, 2) := by decide +kernel
theorem dX3_consider_41 : decode cX3_consider 41 = .ok (.aload_n 0, 1) := by decide +kernel
theorem dX3_consider_42 : decode cX3_consider 42 = .ok (.getfield 33, 3) := by decide +kernel
theorem dX3_consider_45 : decode cX3_consider 45 = .ok (.if_icmp .ge 87, 3) := by decide +kernel
theorem dX3_consider_48 : decode cX3_consider 48 = .ok (.aload 4, 2) := by decide +kernel
theorem dX3_consider_50 : decode cX3_consider 50 = .ok (.iload 5, 2) := by decide +kernel
theorem dX3_consider_52 : decode cX3_consider 52 = .ok (.invokevirtual 40, 3) := by decide +kernel
theorem dX3_consider_55 : decode cX3_consider 55 = .ok (.istore 6, 2) := by decide +kernel
theorem dX3_consider_57 : decode cX3_consider 57 = .ok (.aload_n 0, 1) := by decide +kernel
theorem dX3_consider_58 : decode cX3_consider 58 = .ok (.iload 5, 2) := by decide +kernel
theorem dX3_consider_60 : decode cX3_consider 60 = .ok (.iconst 0, 1) := by decide +kernel
theorem dX3_consider_61 : decode cX3_consider 61 = .ok (.aload_n 2, 1) := by decide +kernel
theorem dX3_consider_62 : decode cX3_consider 62 = .ok (.bipush 15, 2) := by decide +kernel
theorem dX3_consider_64 : decode cX3_consider 64 = .ok (.iload 6, 2) := by decide +kernel
theorem dX3_consider_66 : decode cX3_consider 66 = .ok (.invokevirtual 44, 3) := by decide +kernel
theorem dX3_consider_69 : decode cX3_consider 69 = .ok (.sipush 1000, 3) := by decide +kernel
theorem dX3_consider_72 : decode cX3_consider 72 = .ok (.idiv, 1) := by decide +kernel
theorem dX3_consider_73 : decode cX3_consider 73 = .ok (.i2l, 1) := by decide +kernel
theorem dX3_consider_74 : decode cX3_consider 74 = .ok (.invokevirtual 49, 3) := by decide +kernel
theorem dX3_consider_77 : decode cX3_consider 77 = .ok (.iconst 0, 1) := by decide +kernel
theorem dX3_consider_78 : decode cX3_consider 78 = .ok (.istore 7, 2) := by decide +kernel
theorem dX3_consider_80 : decode cX3_consider 80 = .ok (.iload 7, 2) := by decide +kernel
theorem dX3_consider_82 : decode cX3_consider 82 = .ok (.aload_n 3, 1) := by decide +kernel
theorem dX3_consider_83 : decode cX3_consider 83 = .ok (.invokevirtual 21, 3) := by decide +kernel
theorem dX3_consider_86 : decode cX3_consider 86 = .ok (.if_icmp .ge 40, 3) := by decide +kernel
theorem dX3_consider_89 : decode cX3_consider 89 = .ok (.aload_n 2, 1) := by decide +kernel
theorem dX3_consider_90 : decode cX3_consider 90 = .ok (.aload_n 3, 1) := by decide +kernel
theorem dX3_consider_91 : decode cX3_consider 91 = .ok (.iload 7, 2) := by decide +kernel
theorem dX3_consider_93 : decode cX3_consider 93 = .ok (.invokevirtual 40, 3) := by decide +kernel
theorem dX3_consider_96 : decode cX3_consider 96 = .ok (.iload 6, 2) := by decide +kernel
theorem dX3_consider_98 : decode cX3_consider 98 = .ok (.invokevirtual 44, 3) := by decide +kernel
theorem dX3_consider_101 : decode cX3_consider 101 = .ok (.istore 8, 2) := by decide +kernel
theorem dX3_consider_103 : decode cX3_consider 103 = .ok (.aload_n 0, 1) := by decide +kernel
theorem dX3_consider_104 : decode cX3_consider 104 = .ok (.iload 5, 2) := by decide +kernel
theorem dX3_consider_106 : decode cX3_consider 106 = .ok (.iload 7, 2) := by decide +kernel
theorem dX3_consider_108 : decode cX3_consider 108 = .ok (.iconst 1, 1) := by decide +kernel
theorem dX3_consider_109 : decode cX3_consider 109 = .ok (.iadd, 1) := by decide +kernel
theorem dX3_consider_110 : decode cX3_consider 110 = .ok (.iload 8, 2) := by decide +kernel
theorem dX3_consider_112 : decode cX3_consider 112 = .ok (.sipush 1000, 3) := by decide +kernel
theorem dX3_consider_115 : decode cX3_consider 115 = .ok (.idiv, 1) := by decide +kernel
theorem dX3_consider_116 : decode cX3_consider 116 = .ok (.i2l, 1) := by decide +kernel
theorem dX3_consider_117 : decode cX3_consider 117 = .ok (.invokevirtual 49, 3) := by decide +kernel
theorem dX3_consider_120 : decode cX3_consider 120 = .ok (.iinc 7 1, 3) := by decide +kernel
theorem dX3_consider_123 : decode cX3_consider 123 = .ok (.goto (-43), 3) := by decide +kernel
theorem dX3_consider_126 : decode cX3_consider 126 = .ok (.iinc 5 1, 3) := by decide +kernel
theorem dX3_consider_129 : decode cX3_consider 129 = .ok (.goto (-90), 3) := by decide +kernel
theorem dX3_consider_132 : decode cX3_consider 132 = .ok (.return_, 1) := by decide +kernel
theorem dX3_productOfSums_0 : decode cX3_productOfSums 0 = .ok (.lconst 1, 1) := by decide +kernel
theorem dX3_productOfSums_1 : decode cX3_productOfSums 1 = .ok (.lstore_n 1, 1) := by decide +kernel
theorem dX3_productOfSums_2 : decode cX3_productOfSums 2 = .ok (.iconst 0, 1) := by decide +kernel
theorem dX3_productOfSums_3 : decode cX3_productOfSums 3 = .ok (.istore_n 3, 1) := by decide +kernel
theorem dX3_productOfSums_4 : decode cX3_productOfSums 4 = .ok (.iload_n 3, 1) := by decide +kernel
theorem dX3_productOfSums_5 : decode cX3_productOfSums 5 = .ok (.aload_n 0, 1) := by decide +kernel
theorem dX3_productOfSums_6 : decode cX3_productOfSums 6 = .ok (.getfield 33, 3) := by decide +kernel
theorem dX3_productOfSums_9 : decode cX3_productOfSums 9 = .ok (.if_icmp .ge 50, 3) := by decide +kernel
theorem dX3_productOfSums_12 : decode cX3_productOfSums 12 = .ok (.lconst 0, 1) := by decide +kernel
theorem dX3_productOfSums_13 : decode cX3_productOfSums 13 = .ok (.lstore 4, 2) := by decide +kernel
theorem dX3_productOfSums_15 : decode cX3_productOfSums 15 = .ok (.iconst 0, 1) := by decide +kernel
theorem dX3_productOfSums_16 : decode cX3_productOfSums 16 = .ok (.istore 6, 2) := by decide +kernel
theorem dX3_productOfSums_18 : decode cX3_productOfSums 18 = .ok (.iload 6, 2) := by decide +kernel
theorem dX3_productOfSums_20 : decode cX3_productOfSums 20 = .ok (.aload_n 0, 1) := by decide +kernel
theorem dX3_productOfSums_21 : decode cX3_productOfSums 21 = .ok (.getfield 37, 3) := by decide +kernel
theorem dX3_productOfSums_24 : decode cX3_productOfSums 24 = .ok (.if_icmp .ge 24, 3) := by decide +kernel
theorem dX3_productOfSums_27 : decode cX3_productOfSums 27 = .ok (.lload 4, 2) := by decide +kernel
theorem dX3_productOfSums_29 : decode cX3_productOfSums 29 = .ok (.aload_n 0, 1) := by decide +kernel
theorem dX3_productOfSums_30 : decode cX3_productOfSums 30 = .ok (.getfield 9, 3) := by decide +kernel
theorem dX3_productOfSums_33 : decode cX3_productOfSums 33 = .ok (.iload_n 3, 1) := by decide +kernel
theorem dX3_productOfSums_34 : decode cX3_productOfSums 34 = .ok (.iload 6, 2) := by decide +kernel
theorem dX3_productOfSums_36 : decode cX3_productOfSums 36 = .ok (.invokestatic 53, 3) := by decide +kernel
theorem dX3_productOfSums_39 : decode cX3_productOfSums 39 = .ok (.ladd, 1) := by decide +kernel
theorem dX3_productOfSums_40 : decode cX3_productOfSums 40 = .ok (.lstore 4, 2) := by decide +kernel
theorem dX3_productOfSums_42 : decode cX3_productOfSums 42 = .ok (.iinc 6 1, 3) := by decide +kernel
theorem dX3_productOfSums_45 : decode cX3_productOfSums 45 = .ok (.goto (-27), 3) := by decide +kernel
theorem dX3_productOfSums_48 : decode cX3_productOfSums 48 = .ok (.lload_n 1, 1) := by decide +kernel
theorem dX3_productOfSums_49 : decode cX3_productOfSums 49 = .ok (.lload 4, 2) := by decide +kernel
theorem dX3_productOfSums_51 : decode cX3_productOfSums 51 = .ok (.lmul, 1) := by decide +kernel
theorem dX3_productOfSums_52 : decode cX3_productOfSums 52 = .ok (.lstore_n 1, 1) := by decide +kernel
theorem dX3_productOfSums_53 : decode cX3_productOfSums 53 = .ok (.iinc 3 1, 3) := by decide +kernel
theorem dX3_productOfSums_56 : decode cX3_productOfSums 56 = .ok (.goto (-52), 3) := by decide +kernel
theorem dX3_productOfSums_59 : decode cX3_productOfSums 59 = .ok (.lload_n 1, 1) := by decide +kernel
theorem dX3_productOfSums_60 : decode cX3_productOfSums 60 = .ok (.lreturn, 1) := by decide +kernel
theorem dX3_sumOfProducts_0 : decode cX3_sumOfProducts 0 = .ok (.aload_n 0, 1) := by decide +kernel
theorem dX3_sumOfProducts_1 : decode cX3_sumOfProducts 1 = .ok (.getfield 9, 3) := by decide +kernel
theorem dX3_sumOfProducts_4 : decode cX3_sumOfProducts 4 = .ok (.aload_n 0, 1) := by decide +kernel
theorem dX3_sumOfProducts_5 : decode cX3_sumOfProducts 5 = .ok (.getfield 33, 3) := by decide +kernel
theorem dX3_sumOfProducts_8 : decode cX3_sumOfProducts 8 = .ok (.aload_n 0, 1) := by decide +kernel
theorem dX3_sumOfProducts_9 : decode cX3_sumOfProducts 9 = .ok (.getfield 37, 3) := by decide +kernel
theorem dX3_sumOfProducts_12 : decode cX3_sumOfProducts 12 = .ok (.iconst 0, 1) := by decide +kernel
theorem dX3_sumOfProducts_13 : decode cX3_sumOfProducts 13 = .ok (.lconst 1, 1) := by decide +kernel
theorem dX3_sumOfProducts_14 : decode cX3_sumOfProducts 14 = .ok (.invokestatic 57, 3) := by decide +kernel
theorem dX3_sumOfProducts_17 : decode cX3_sumOfProducts 17 = .ok (.lreturn, 1) := by decide +kernel
theorem dX3_sumOfWays_0 : decode cX3_sumOfWays 0 = .ok (.iload_n 3, 1) := by decide +kernel
theorem dX3_sumOfWays_1 : decode cX3_sumOfWays 1 = .ok (.iload_n 1, 1) := by decide +kernel
theorem dX3_sumOfWays_2 : decode cX3_sumOfWays 2 = .ok (.if_icmp .ge 8, 3) := by decide +kernel
theorem dX3_sumOfWays_5 : decode cX3_sumOfWays 5 = .ok (.iload_n 3, 1) := by decide +kernel
theorem dX3_sumOfWays_6 : decode cX3_sumOfWays 6 = .ok (.iconst 4, 1) := by decide +kernel
theorem dX3_sumOfWays_7 : decode cX3_sumOfWays 7 = .ok (.if_icmp .lt 6, 3) := by decide +kernel
theorem dX3_sumOfWays_10 : decode cX3_sumOfWays 10 = .ok (.lload 4, 2) := by decide +kernel
theorem dX3_sumOfWays_12 : decode cX3_sumOfWays 12 = .ok (.lreturn, 1) := by decide +kernel
theorem dX3_sumOfWays_13 : decode cX3_sumOfWays 13 = .ok (.lconst 0, 1) := by decide +kernel
theorem dX3_sumOfWays_14 : decode cX3_sumOfWays 14 = .ok (.lstore 6, 2) := by decide +kernel
theorem dX3_sumOfWays_16 : decode cX3_sumOfWays 16 = .ok (.iconst 0, 1) := by decide +kernel
theorem dX3_sumOfWays_17 : decode cX3_sumOfWays 17 = .ok (.istore 8, 2) := by decide +kernel
theorem dX3_sumOfWays_19 : decode cX3_sumOfWays 19 = .ok (.iload 8, 2) := by decide +kernel
theorem dX3_sumOfWays_21 : decode cX3_sumOfWays 21 = .ok (.iload_n 2, 1) := by decide +kernel
theorem dX3_sumOfWays_22 : decode cX3_sumOfWays 22 = .ok (.if_icmp .ge 37, 3) := by decide +kernel
theorem dX3_sumOfWays_25 : decode cX3_sumOfWays 25 = .ok (.lload 4, 2) := by decide +kernel
theorem dX3_sumOfWays_27 : decode cX3_sumOfWays 27 = .ok (.aload_n 0, 1) := by decide +kernel
theorem dX3_sumOfWays_28 : decode cX3_sumOfWays 28 = .ok (.iload_n 3, 1) := by decide +kernel
theorem dX3_sumOfWays_29 : decode cX3_sumOfWays 29 = .ok (.iload 8, 2) := by decide +kernel
theorem dX3_sumOfWays_31 : decode cX3_sumOfWays 31 = .ok (.invokestatic 53, 3) := by decide +kernel
theorem dX3_sumOfWays_34 : decode cX3_sumOfWays 34 = .ok (.lmul, 1) := by decide +kernel
theorem dX3_sumOfWays_35 : decode cX3_sumOfWays 35 = .ok (.lstore 9, 2) := by decide +kernel
theorem dX3_sumOfWays_37 : decode cX3_sumOfWays 37 = .ok (.lload 6, 2) := by decide +kernel
theorem dX3_sumOfWays_39 : decode cX3_sumOfWays 39 = .ok (.aload_n 0, 1) := by decide +kernel
theorem dX3_sumOfWays_40 : decode cX3_sumOfWays 40 = .ok (.iload_n 1, 1) := by decide +kernel
theorem dX3_sumOfWays_41 : decode cX3_sumOfWays 41 = .ok (.iload_n 2, 1) := by decide +kernel
theorem dX3_sumOfWays_42 : decode cX3_sumOfWays 42 = .ok (.iload_n 3, 1) := by decide +kernel
theorem dX3_sumOfWays_43 : decode cX3_sumOfWays 43 = .ok (.iconst 1, 1) := by decide +kernel
theorem dX3_sumOfWays_44 : decode cX3_sumOfWays 44 = .ok (.iadd, 1) := by decide +kernel
theorem dX3_sumOfWays_45 : decode cX3_sumOfWays 45 = .ok (.lload 9, 2) := by decide +kernel
theorem dX3_sumOfWays_47 : decode cX3_sumOfWays 47 = .ok (.invokestatic 57, 3) := by decide +kernel
theorem dX3_sumOfWays_50 : decode cX3_sumOfWays 50 = .ok (.ladd, 1) := by decide +kernel
theorem dX3_sumOfWays_51 : decode cX3_sumOfWays 51 = .ok (.lstore 6, 2) := by decide +kernel
theorem dX3_sumOfWays_53 : decode cX3_sumOfWays 53 = .ok (.iinc 8 1, 3) := by decide +kernel
theorem dX3_sumOfWays_56 : decode cX3_sumOfWays 56 = .ok (.goto (-37), 3) := by decide +kernel
theorem dX3_sumOfWays_59 : decode cX3_sumOfWays 59 = .ok (.lload 6, 2) := by decide +kernel
theorem dX3_sumOfWays_61 : decode cX3_sumOfWays 61 = .ok (.lreturn, 1) := by decide +kernel
theorem dX3_setPart_0 : decode cX3_setPart 0 = .ok (.iload_n 1, 1) := by decide +kernel
theorem dX3_setPart_1 : decode cX3_setPart 1 = .ok (.iload_n 2, 1) := by decide +kernel
theorem dX3_setPart_2 : decode cX3_setPart 2 = .ok (.invokestatic 61, 3) := by decide +kernel
theorem dX3_setPart_5 : decode cX3_setPart 5 = .ok (.istore 5, 2) := by decide +kernel
theorem dX3_setPart_7 : decode cX3_setPart 7 = .ok (.iload 5, 2) := by decide +kernel
theorem dX3_setPart_9 : decode cX3_setPart 9 = .ok (.ifCond .lt 21, 3) := by decide +kernel
theorem dX3_setPart_12 : decode cX3_setPart 12 = .ok (.iload 5, 2) := by decide +kernel
theorem dX3_setPart_14 : decode cX3_setPart 14 = .ok (.aload_n 0, 1) := by decide +kernel
theorem dX3_setPart_15 : decode cX3_setPart 15 = .ok (.getfield 9, 3) := by decide +kernel
theorem dX3_setPart_18 : decode cX3_setPart 18 = .ok (.arraylength, 1) := by decide +kernel
theorem dX3_setPart_19 : decode cX3_setPart 19 = .ok (.if_icmp .ge 11, 3) := by decide +kernel
theorem dX3_setPart_22 : decode cX3_setPart 22 = .ok (.aload_n 0, 1) := by decide +kernel
theorem dX3_setPart_23 : decode cX3_setPart 23 = .ok (.getfield 9, 3) := by decide +kernel
theorem dX3_setPart_26 : decode cX3_setPart 26 = .ok (.iload 5, 2) := by decide +kernel
theorem dX3_setPart_28 : decode cX3_setPart 28 = .ok (.lload_n 3, 1) := by decide +kernel
theorem dX3_setPart_29 : decode cX3_setPart 29 = .ok (.lastore, 1) := by decide +kernel
theorem dX3_setPart_30 : decode cX3_setPart 30 = .ok (.return_, 1) := by decide +kernel
theorem dX3_partOf_0 : decode cX3_partOf 0 = .ok (.iload_n 1, 1) := by decide +kernel
theorem dX3_partOf_1 : decode cX3_partOf 1 = .ok (.iload_n 2, 1) := by decide +kernel
theorem dX3_partOf_2 : decode cX3_partOf 2 = .ok (.invokestatic 61, 3) := by decide +kernel
theorem dX3_partOf_5 : decode cX3_partOf 5 = .ok (.istore_n 3, 1) := by decide +kernel
theorem dX3_partOf_6 : decode cX3_partOf 6 = .ok (.aload_n 0, 1) := by decide +kernel
theorem dX3_partOf_7 : decode cX3_partOf 7 = .ok (.ifnull 19, 3) := by decide +kernel
theorem dX3_partOf_10 : decode cX3_partOf 10 = .ok (.iload_n 3, 1) := by decide +kernel
theorem dX3_partOf_11 : decode cX3_partOf 11 = .ok (.ifCond .lt 15, 3) := by decide +kernel
theorem dX3_partOf_14 : decode cX3_partOf 14 = .ok (.iload_n 3, 1) := by decide +kernel
theorem dX3_partOf_15 : decode cX3_partOf 15 = .ok (.aload_n 0, 1) := by decide +kernel
theorem dX3_partOf_16 : decode cX3_partOf 16 = .ok (.arraylength, 1) := by decide +kernel
theorem dX3_partOf_17 : decode cX3_partOf 17 = .ok (.if_icmp .ge 9, 3) := by decide +kernel
theorem dX3_partOf_20 : decode cX3_partOf 20 = .ok (.aload_n 0, 1) := by decide +kernel
theorem dX3_partOf_21 : decode cX3_partOf 21 = .ok (.iload_n 3, 1) := by decide +kernel
theorem dX3_partOf_22 : decode cX3_partOf 22 = .ok (.laload, 1) := by decide +kernel
theorem dX3_partOf_23 : decode cX3_partOf 23 = .ok (.goto 4, 3) := by decide +kernel
theorem dX3_partOf_26 : decode cX3_partOf 26 = .ok (.lconst 0, 1) := by decide +kernel
theorem dX3_partOf_27 : decode cX3_partOf 27 = .ok (.lreturn, 1) := by decide +kernel
theorem dX3_cellOf_0 : decode cX3_cellOf 0 = .ok (.iload_n 0, 1) := by decide +kernel
theorem dX3_cellOf_1 : decode cX3_cellOf 1 = .ok (.bipush 9, 2) := by decide +kernel
theorem dX3_cellOf_3 : decode cX3_cellOf 3 = .ok (.imul, 1) := by decide +kernel
theorem dX3_cellOf_4 : decode cX3_cellOf 4 = .ok (.iload_n 1, 1) := by decide +kernel
theorem dX3_cellOf_5 : decode cX3_cellOf 5 = .ok (.iadd, 1) := by decide +kernel
theorem dX3_cellOf_6 : decode cX3_cellOf 6 = .ok (.ireturn, 1) := by decide +kernel
theorem dX4_init_0 : decode cX4_init 0 = .ok (.aload_n 0, 1) := by decide +kernel
theorem dX4_init_1 : decode cX4_init 1 = .ok (.invokespecial 3, 3) := by decide +kernel
theorem dX4_init_4 : decode cX4_init 4 = .ok (.aload_n 0, 1) := by decide +kernel
theorem dX4_init_5 : decode cX4_init 5 = .ok (.new 9, 3) := by decide +kernel
theorem dX4_init_8 : decode cX4_init 8 = .ok (.dup, 1) := by decide +kernel
theorem dX4_init_9 : decode cX4_init 9 = .ok (.iconst 0, 1) := by decide +kernel
theorem dX4_init_10 : decode cX4_init 10 = .ok (.invokespecial 11, 3) := by decide +kernel
theorem dX4_init_13 : decode cX4_init 13 = .ok (.putfield 14, 3) := by decide +kernel
theorem dX4_init_16 : decode cX4_init 16 = .ok (.aload_n 0, 1) := by decide +kernel
theorem dX4_init_17 : decode cX4_init 17 = .ok (.new 9, 3) := by decide +kernel
theorem dX4_init_20 : decode cX4_init 20 = .ok (.dup, 1) := by decide +kernel
theorem dX4_init_21 : decode cX4_init 21 = .ok (.iconst 1, 1) := by decide +kernel
theorem dX4_init_22 : decode cX4_init 22 = .ok (.invokespecial 11, 3) := by decide +kernel
theorem dX4_init_25 : decode cX4_init 25 = .ok (.putfield 20, 3) := by decide +kernel
theorem dX4_init_28 : decode cX4_init 28 = .ok (.aload_n 0, 1) := by decide +kernel
theorem dX4_init_29 : decode cX4_init 29 = .ok (.new 23, 3) := by decide +kernel
theorem dX4_init_32 : decode cX4_init 32 = .ok (.dup, 1) := by decide +kernel
theorem dX4_init_33 : decode cX4_init 33 = .ok (.invokespecial 25, 3) := by decide +kernel
theorem dX4_init_36 : decode cX4_init 36 = .ok (.putfield 26, 3) := by decide +kernel
theorem dX4_init_39 : decode cX4_init 39 = .ok (.return_, 1) := by decide +kernel
theorem dX4_lexicon_0 : decode cX4_lexicon 0 = .ok (.iload_n 1, 1) := by decide +kernel
theorem dX4_lexicon_1 : decode cX4_lexicon 1 = .ok (.ifCond .ne 10, 3) := by decide +kernel
theorem dX4_lexicon_4 : decode cX4_lexicon 4 = .ok (.aload_n 0, 1) := by decide +kernel
theorem dX4_lexicon_5 : decode cX4_lexicon 5 = .ok (.getfield 14, 3) := by decide +kernel
theorem dX4_lexicon_8 : decode cX4_lexicon 8 = .ok (.goto 7, 3) := by decide +kernel
theorem dX4_lexicon_11 : decode cX4_lexicon 11 = .ok (.aload_n 0, 1) := by decide +kernel
theorem dX4_lexicon_12 : decode cX4_lexicon 12 = .ok (.getfield 20, 3) := by decide +kernel
theorem dX4_lexicon_15 : decode cX4_lexicon 15 = .ok (.areturn, 1) := by decide +kernel
theorem dX4_setWeight_0 : decode cX4_setWeight 0 = .ok (.aload_n 0, 1) := by decide +kernel
theorem dX4_setWeight_1 : decode cX4_setWeight 1 = .ok (.getfield 26, 3) := by decide +kernel
theorem dX4_setWeight_4 : decode cX4_setWeight 4 = .ok (.iload_n 1, 1) := by decide +kernel
theorem dX4_setWeight_5 : decode cX4_setWeight 5 = .ok (.iload_n 2, 1) := by decide +kernel
theorem dX4_setWeight_6 : decode cX4_setWeight 6 = .ok (.invokevirtual 30, 3) := by decide +kernel
theorem dX4_setWeight_9 : decode cX4_setWeight 9 = .ok (.ireturn, 1) := by decide +kernel
theorem dX4_answerFor_0 : decode cX4_answerFor 0 = .ok (.aload_n 0, 1) := by decide +kernel
theorem dX4_answerFor_1 : decode cX4_answerFor 1 = .ok (.iload_n 1, 1) := by decide +kernel
theorem dX4_answerFor_2 : decode cX4_answerFor 2 = .ok (.invokevirtual 34, 3) := by decide +kernel
theorem dX4_answerFor_5 : decode cX4_answerFor 5 = .ok (.astore 4, 2) := by decide +kernel
theorem dX4_answerFor_7 : decode cX4_answerFor 7 = .ok (.aload_n 2, 1) := by decide +kernel
theorem dX4_answerFor_8 : decode cX4_answerFor 8 = .ok (.iload_n 1, 1) := by decide +kernel
theorem dX4_answerFor_9 : decode cX4_answerFor 9 = .ok (.invokevirtual 38, 3) := by decide +kernel
theorem dX4_answerFor_12 : decode cX4_answerFor 12 = .ok (.astore 5, 2) := by decide +kernel
theorem dX4_answerFor_14 : decode cX4_answerFor 14 = .ok (.aload_n 2, 1) := by decide +kernel
theorem dX4_answerFor_15 : decode cX4_answerFor 15 = .ok (.iconst 1, 1) := by decide +kernel
theorem dX4_answerFor_16 : decode cX4_answerFor 16 = .ok (.iload_n 1, 1) := by decide +kernel
theorem dX4_answerFor_17 : decode cX4_answerFor 17 = .ok (.isub, 1) := by decide +kernel
theorem dX4_answerFor_18 : decode cX4_answerFor 18 = .ok (.invokevirtual 38, 3) := by decide +kernel
theorem dX4_answerFor_21 : decode cX4_answerFor 21 = .ok (.iload_n 3, 1) := by decide +kernel
theorem dX4_answerFor_22 : decode cX4_answerFor 22 = .ok (.invokevirtual 44, 3) := by decide +kernel
theorem dX4_answerFor_25 : decode cX4_answerFor 25 = .ok (.istore 6, 2) := by decide +kernel
theorem dX4_answerFor_27 : decode cX4_answerFor 27 = .ok (.iconst (-1), 1) := by decide +kernel
theorem dX4_answerFor_28 : decode cX4_answerFor 28 = .ok (.istore 7, 2) := by decide +kernel
theorem dX4_answerFor_30 : decode cX4_answerFor 30 = .ok (.iconst 0, 1) := by decide +kernel
theorem dX4_answerFor_31 : decode cX4_answerFor 31 = .ok (.istore 8, 2) := by decide +kernel
theorem dX4_answerFor_33 : decode cX4_answerFor 33 = .ok (.iconst 0, 1) := by decide +kernel
theorem dX4_answerFor_34 : decode cX4_answerFor 34 = .ok (.istore 9, 2) := by decide +kernel
theorem dX4_answerFor_36 : decode cX4_answerFor 36 = .ok (.iload 9, 2) := by decide +kernel
theorem dX4_answerFor_38 : decode cX4_answerFor 38 = .ok (.aload 5, 2) := by decide +kernel
theorem dX4_answerFor_40 : decode cX4_answerFor 40 = .ok (.invokevirtual 50, 3) := by decide +kernel
theorem dX4_answerFor_43 : decode cX4_answerFor 43 = .ok (.if_icmp .ge 55, 3) := by decide +kernel
theorem dX4_answerFor_46 : decode cX4_answerFor 46 = .ok (.aload 4, 2) := by decide +kernel
theorem dX4_answerFor_48 : decode cX4_answerFor 48 = .ok (.aload 5, 2) := by decide +kernel
theorem dX4_answerFor_50 : decode cX4_answerFor 50 = .ok (.iload 9, 2) := by decide +kernel
theorem dX4_answerFor_52 : decode cX4_answerFor 52 = .ok (.invokevirtual 44, 3) := by decide +kernel
theorem dX4_answerFor_55 : decode cX4_answerFor 55 = .ok (.iload 6, 2) := by decide +kernel
theorem dX4_answerFor_57 : decode cX4_answerFor 57 = .ok (.invokevirtual 54, 3) := by decide +kernel
theorem dX4_answerFor_60 : decode cX4_answerFor 60 = .ok (.istore 10, 2) := by decide +kernel
theorem dX4_answerFor_62 : decode cX4_answerFor 62 = .ok (.iload 10, 2) := by decide +kernel
theorem dX4_answerFor_64 : decode cX4_answerFor 64 = .ok (.aload_n 0, 1) := by decide +kernel
theorem dX4_answerFor_65 : decode cX4_answerFor 65 = .ok (.getfield 26, 3) := by decide +kernel
theorem dX4_answerFor_68 : decode cX4_answerFor 68 = .ok (.iload 9, 2) := by decide +kernel
theorem dX4_answerFor_70 : decode cX4_answerFor 70 = .ok (.iload_n 3, 1) := by decide +kernel
theorem dX4_answerFor_71 : decode cX4_answerFor 71 = .ok (.invokevirtual 57, 3) := by decide +kernel
theorem dX4_answerFor_74 : decode cX4_answerFor 74 = .ok (.imul, 1) := by decide +kernel
theorem dX4_answerFor_75 : decode cX4_answerFor 75 = .ok (.istore 11, 2) := by decide +kernel
theorem dX4_answerFor_77 : decode cX4_answerFor 77 = .ok (.iload 11, 2) := by decide +kernel
theorem dX4_answerFor_79 : decode cX4_answerFor 79 = .ok (.iload 8, 2) := by decide +kernel
theorem dX4_answerFor_81 : decode cX4_answerFor 81 = .ok (.if_icmp .le 11, 3) := by decide +kernel
theorem dX4_answerFor_84 : decode cX4_answerFor 84 = .ok (.iload 11, 2) := by decide +kernel
theorem dX4_answerFor_86 : decode cX4_answerFor 86 = .ok (.istore 8, 2) := by decide +kernel
theorem dX4_answerFor_88 : decode cX4_answerFor 88 = .ok (.iload 9, 2) := by decide +kernel
theorem dX4_answerFor_90 : decode cX4_answerFor 90 = .ok (.istore 7, 2) := by decide +kernel
theorem dX4_answerFor_92 : decode cX4_answerFor 92 = .ok (.iinc 9 1, 3) := by decide +kernel
theorem dX4_answerFor_95 : decode cX4_answerFor 95 = .ok (.goto (-59), 3) := by decide +kernel
theorem dX4_answerFor_98 : decode cX4_answerFor 98 = .ok (.aload 4, 2) := by decide +kernel
theorem dX4_answerFor_100 : decode cX4_answerFor 100 = .ok (.bipush 15, 2) := by decide +kernel
theorem dX4_answerFor_102 : decode cX4_answerFor 102 = .ok (.iload 6, 2) := by decide +kernel
theorem dX4_answerFor_104 : decode cX4_answerFor 104 = .ok (.invokevirtual 54, 3) := by decide +kernel
theorem dX4_answerFor_107 : decode cX4_answerFor 107 = .ok (.aload_n 0, 1) := by decide +kernel
theorem dX4_answerFor_108 : decode cX4_answerFor 108 = .ok (.getfield 26, 3) := by decide +kernel
theorem dX4_answerFor_111 : decode cX4_answerFor 111 = .ok (.invokevirtual 60, 3) := by decide +kernel
theorem dX4_answerFor_114 : decode cX4_answerFor 114 = .ok (.imul, 1) := by decide +kernel
theorem dX4_answerFor_115 : decode cX4_answerFor 115 = .ok (.istore 9, 2) := by decide +kernel
theorem dX4_answerFor_117 : decode cX4_answerFor 117 = .ok (.iload 9, 2) := by decide +kernel
theorem dX4_answerFor_119 : decode cX4_answerFor 119 = .ok (.iload 8, 2) := by decide +kernel
theorem dX4_answerFor_121 : decode cX4_answerFor 121 = .ok (.if_icmp .le 7, 3) := by decide +kernel
theorem dX4_answerFor_124 : decode cX4_answerFor 124 = .ok (.iconst (-1), 1) := by decide +kernel
theorem dX4_answerFor_125 : decode cX4_answerFor 125 = .ok (.goto 5, 3) := by decide +kernel
theorem dX4_answerFor_128 : decode cX4_answerFor 128 = .ok (.iload 7, 2) := by decide +kernel
theorem dX4_answerFor_130 : decode cX4_answerFor 130 = .ok (.ireturn, 1) := by decide +kernel
theorem dX5_init_0 : decode cX5_init 0 = .ok (.aload_n 0, 1) := by decide +kernel
theorem dX5_init_1 : decode cX5_init 1 = .ok (.invokespecial 3, 3) := by decide +kernel
theorem dX5_init_4 : decode cX5_init 4 = .ok (.aload_n 0, 1) := by decide +kernel
theorem dX5_init_5 : decode cX5_init 5 = .ok (.iconst 4, 1) := by decide +kernel
theorem dX5_init_6 : decode cX5_init 6 = .ok (.newarray .int, 2) := by decide +kernel
theorem dX5_init_8 : decode cX5_init 8 = .ok (.putfield 9, 3) := by decide +kernel
theorem dX5_init_11 : decode cX5_init 11 = .ok (.return_, 1) := by decide +kernel
theorem dX5_count_0 : decode cX5_count 0 = .ok (.aload_n 0, 1) := by decide +kernel
theorem dX5_count_1 : decode cX5_count 1 = .ok (.getfield 15, 3) := by decide +kernel
theorem dX5_count_4 : decode cX5_count 4 = .ok (.ireturn, 1) := by decide +kernel
theorem dX5_endOfFound_0 : decode cX5_endOfFound 0 = .ok (.iload_n 1, 1) := by decide +kernel
theorem dX5_endOfFound_1 : decode cX5_endOfFound 1 = .ok (.ifCond .lt 21, 3) := by decide +kernel
theorem dX5_endOfFound_4 : decode cX5_endOfFound 4 = .ok (.iload_n 1, 1) := by decide +kernel
theorem dX5_endOfFound_5 : decode cX5_endOfFound 5 = .ok (.aload_n 0, 1) := by decide +kernel
theorem dX5_endOfFound_6 : decode cX5_endOfFound 6 = .ok (.getfield 9, 3) := by decide +kernel
theorem dX5_endOfFound_9 : decode cX5_endOfFound 9 = .ok (.arraylength, 1) := by decide +kernel
theorem dX5_endOfFound_10 : decode cX5_endOfFound 10 = .ok (.if_icmp .ge 12, 3) := by decide +kernel
theorem dX5_endOfFound_13 : decode cX5_endOfFound 13 = .ok (.aload_n 0, 1) := by decide +kernel
theorem dX5_endOfFound_14 : decode cX5_endOfFound 14 = .ok (.getfield 9, 3) := by decide +kernel
theorem dX5_endOfFound_17 : decode cX5_endOfFound 17 = .ok (.iload_n 1, 1) := by decide +kernel
theorem dX5_endOfFound_18 : decode cX5_endOfFound 18 = .ok (.iaload, 1) := by decide +kernel
theorem dX5_endOfFound_19 : decode cX5_endOfFound 19 = .ok (.goto 4, 3) := by decide +kernel
theorem dX5_endOfFound_22 : decode cX5_endOfFound 22 = .ok (.iconst (-1), 1) := by decide +kernel
theorem dX5_endOfFound_23 : decode cX5_endOfFound 23 = .ok (.ireturn, 1) := by decide +kernel
theorem dX5_seek_0 : decode cX5_seek 0 = .ok (.aload_n 0, 1) := by decide +kernel
theorem dX5_seek_1 : decode cX5_seek 1 = .ok (.iconst 0, 1) := by decide +kernel
theorem dX5_seek_2 : decode cX5_seek 2 = .ok (.putfield 15, 3) := by decide +kernel
theorem dX5_seek_5 : decode cX5_seek 5 = .ok (.iconst 0, 1) := by decide +kernel
theorem dX5_seek_6 : decode cX5_seek 6 = .ok (.istore_n 3, 1) := by decide +kernel
theorem dX5_seek_7 : decode cX5_seek 7 = .ok (.iload_n 3, 1) := by decide +kernel
theorem dX5_seek_8 : decode cX5_seek 8 = .ok (.aload_n 1, 1) := by decide +kernel
theorem dX5_seek_9 : decode cX5_seek 9 = .ok (.invokevirtual 19, 3) := by decide +kernel
theorem dX5_seek_12 : decode cX5_seek 12 = .ok (.if_icmp .ge 46, 3) := by decide +kernel
theorem dX5_seek_15 : decode cX5_seek 15 = .ok (.iload_n 3, 1) := by decide +kernel
theorem dX5_seek_16 : decode cX5_seek 16 = .ok (.iconst 4, 1) := by decide +kernel
theorem dX5_seek_17 : decode cX5_seek 17 = .ok (.iadd, 1) := by decide +kernel
theorem dX5_seek_18 : decode cX5_seek 18 = .ok (.aload_n 1, 1) := by decide +kernel
theorem dX5_seek_19 : decode cX5_seek 19 = .ok (.invokevirtual 19, 3) := by decide +kernel
theorem dX5_seek_22 : decode cX5_seek 22 = .ok (.invokestatic 25, 3) := by decide +kernel
theorem dX5_seek_25 : decode cX5_seek 25 = .ok (.istore 4, 2) := by decide +kernel
theorem dX5_seek_27 : decode cX5_seek 27 = .ok (.iload_n 3, 1) := by decide +kernel
theorem dX5_seek_28 : decode cX5_seek 28 = .ok (.istore 5, 2) := by decide +kernel
theorem dX5_seek_30 : decode cX5_seek 30 = .ok (.iload 5, 2) := by decide +kernel
theorem dX5_seek_32 : decode cX5_seek 32 = .ok (.iload 4, 2) := by decide +kernel
theorem dX5_seek_34 : decode cX5_seek 34 = .ok (.if_icmp .ge 18, 3) := by decide +kernel
theorem dX5_seek_37 : decode cX5_seek 37 = .ok (.aload_n 0, 1) := by decide +kernel
theorem dX5_seek_38 : decode cX5_seek 38 = .ok (.aload_n 1, 1) := by decide +kernel
theorem dX5_seek_39 : decode cX5_seek 39 = .ok (.iload_n 3, 1) := by decide +kernel
theorem dX5_seek_40 : decode cX5_seek 40 = .ok (.iload 5, 2) := by decide +kernel
theorem dX5_seek_42 : decode cX5_seek 42 = .ok (.iload_n 2, 1) := by decide +kernel
theorem dX5_seek_43 : decode cX5_seek 43 = .ok (.invokevirtual 31, 3) := by decide +kernel
theorem dX5_seek_46 : decode cX5_seek 46 = .ok (.iinc 5 1, 3) := by decide +kernel
theorem dX5_seek_49 : decode cX5_seek 49 = .ok (.goto (-19), 3) := by decide +kernel
theorem dX5_seek_52 : decode cX5_seek 52 = .ok (.iinc 3 1, 3) := by decide +kernel
theorem dX5_seek_55 : decode cX5_seek 55 = .ok (.goto (-48), 3) := by decide +kernel
theorem dX5_seek_58 : decode cX5_seek 58 = .ok (.return_, 1) := by decide +kernel
theorem dX5_seekAcross_0 : decode cX5_seekAcross 0 = .ok (.iconst 0, 1) := by decide +kernel
theorem dX5_seekAcross_1 : decode cX5_seekAcross 1 = .ok (.istore 5, 2) := by decide +kernel
theorem dX5_seekAcross_3 : decode cX5_seekAcross 3 = .ok (.iconst 0, 1) := by decide +kernel
theorem dX5_seekAcross_4 : decode cX5_seekAcross 4 = .ok (.istore 6, 2) := by decide +kernel
theorem dX5_seekAcross_6 : decode cX5_seekAcross 6 = .ok (.iconst 0, 1) := by decide +kernel
theorem dX5_seekAcross_7 : decode cX5_seekAcross 7 = .ok (.istore 7, 2) := by decide +kernel
theorem dX5_seekAcross_9 : decode cX5_seekAcross 9 = .ok (.iload 7, 2) := by decide +kernel
theorem dX5_seekAcross_11 : decode cX5_seekAcross 11 = .ok (.aload_n 1, 1) := by decide +kernel
theorem dX5_seekAcross_12 : decode cX5_seekAcross 12 = .ok (.invokevirtual 19, 3) := by decide +kernel
theorem dX5_seekAcross_15 : decode cX5_seekAcross 15 = .ok (.if_icmp .ge 46, 3) := by decide +kernel
theorem dX5_seekAcross_18 : decode cX5_seekAcross 18 = .ok (.iload 7, 2) := by decide +kernel
theorem dX5_seekAcross_20 : decode cX5_seekAcross 20 = .ok (.iload_n 2, 1) := by decide +kernel
theorem dX5_seekAcross_21 : decode cX5_seekAcross 21 = .ok (.if_icmp .lt 23, 3) := by decide +kernel
theorem dX5_seekAcross_24 : decode cX5_seekAcross 24 = .ok (.iload 7, 2) := by decide +kernel
theorem dX5_seekAcross_26 : decode cX5_seekAcross 26 = .ok (.iload_n 3, 1) := by decide +kernel
theorem dX5_seekAcross_27 : decode cX5_seekAcross 27 = .ok (.if_icmp .gt 17, 3) := by decide +kernel
theorem dX5_seekAcross_30 : decode cX5_seekAcross 30 = .ok (.iload 5, 2) := by decide +kernel
theorem dX5_seekAcross_32 : decode cX5_seekAcross 32 = .ok (.aload_n 1, 1) := by decide +kernel
theorem dX5_seekAcross_33 : decode cX5_seekAcross 33 = .ok (.iload 7, 2) := by decide +kernel
theorem dX5_seekAcross_35 : decode cX5_seekAcross 35 = .ok (.invokevirtual 35, 3) := by decide +kernel
theorem dX5_seekAcross_38 : decode cX5_seekAcross 38 = .ok (.ior, 1) := by decide +kernel
theorem dX5_seekAcross_39 : decode cX5_seekAcross 39 = .ok (.istore 5, 2) := by decide +kernel
theorem dX5_seekAcross_41 : decode cX5_seekAcross 41 = .ok (.goto 14, 3) := by decide +kernel
theorem dX5_seekAcross_44 : decode cX5_seekAcross 44 = .ok (.iload 6, 2) := by decide +kernel
theorem dX5_seekAcross_46 : decode cX5_seekAcross 46 = .ok (.aload_n 1, 1) := by decide +kernel
theorem dX5_seekAcross_47 : decode cX5_seekAcross 47 = .ok (.iload 7, 2) := by decide +kernel
theorem dX5_seekAcross_49 : decode cX5_seekAcross 49 = .ok (.invokevirtual 35, 3) := by decide +kernel
theorem dX5_seekAcross_52 : decode cX5_seekAcross 52 = .ok (.ior, 1) := by decide +kernel
theorem dX5_seekAcross_53 : decode cX5_seekAcross 53 = .ok (.istore 6, 2) := by decide +kernel
theorem dX5_seekAcross_55 : decode cX5_seekAcross 55 = .ok (.iinc 7 1, 3) := by decide +kernel
theorem dX5_seekAcross_58 : decode cX5_seekAcross 58 = .ok (.goto (-49), 3) := by decide +kernel
theorem dX5_seekAcross_61 : decode cX5_seekAcross 61 = .ok (.iconst 0, 1) := by decide +kernel
theorem dX5_seekAcross_62 : decode cX5_seekAcross 62 = .ok (.istore 7, 2) := by decide +kernel
theorem dX5_seekAcross_64 : decode cX5_seekAcross 64 = .ok (.iload 7, 2) := by decide +kernel
theorem dX5_seekAcross_66 : decode cX5_seekAcross 66 = .ok (.aload_n 1, 1) := by decide +kernel
theorem dX5_seekAcross_67 : decode cX5_seekAcross 67 = .ok (.invokevirtual 39, 3) := by decide +kernel
theorem dX5_seekAcross_70 : decode cX5_seekAcross 70 = .ok (.if_icmp .ge 68, 3) := by decide +kernel
theorem dX5_seekAcross_73 : decode cX5_seekAcross 73 = .ok (.iload 7, 2) := by decide +kernel
theorem dX5_seekAcross_75 : decode cX5_seekAcross 75 = .ok (.iconst 4, 1) := by decide +kernel
theorem dX5_seekAcross_76 : decode cX5_seekAcross 76 = .ok (.iadd, 1) := by decide +kernel
theorem dX5_seekAcross_77 : decode cX5_seekAcross 77 = .ok (.aload_n 1, 1) := by decide +kernel
theorem dX5_seekAcross_78 : decode cX5_seekAcross 78 = .ok (.invokevirtual 39, 3) := by decide +kernel
theorem dX5_seekAcross_81 : decode cX5_seekAcross 81 = .ok (.invokestatic 25, 3) := by decide +kernel
theorem dX5_seekAcross_84 : decode cX5_seekAcross 84 = .ok (.istore 8, 2) := by decide +kernel
theorem dX5_seekAcross_86 : decode cX5_seekAcross 86 = .ok (.iload 7, 2) := by decide +kernel
theorem dX5_seekAcross_88 : decode cX5_seekAcross 88 = .ok (.istore 9, 2) := by decide +kernel
theorem dX5_seekAcross_90 : decode cX5_seekAcross 90 = .ok (.iload 9, 2) := by decide +kernel
theorem dX5_seekAcross_92 : decode cX5_seekAcross 92 = .ok (.iload 8, 2) := by decide +kernel
theorem dX5_seekAcross_94 : decode cX5_seekAcross 94 = .ok (.if_icmp .ge 38, 3) := by decide +kernel
theorem dX5_seekAcross_97 : decode cX5_seekAcross 97 = .ok (.iload 5, 2) := by decide +kernel
theorem dX5_seekAcross_99 : decode cX5_seekAcross 99 = .ok (.iload 6, 2) := by decide +kernel
theorem dX5_seekAcross_101 : decode cX5_seekAcross 101 = .ok (.iload 7, 2) := by decide +kernel
theorem dX5_seekAcross_103 : decode cX5_seekAcross 103 = .ok (.iload 9, 2) := by decide +kernel
theorem dX5_seekAcross_105 : decode cX5_seekAcross 105 = .ok (.invokestatic 42, 3) := by decide +kernel
theorem dX5_seekAcross_108 : decode cX5_seekAcross 108 = .ok (.invokestatic 45, 3) := by decide +kernel
theorem dX5_seekAcross_111 : decode cX5_seekAcross 111 = .ok (.ifCond .eq 15, 3) := by decide +kernel
theorem dX5_seekAcross_114 : decode cX5_seekAcross 114 = .ok (.aload_n 0, 1) := by decide +kernel
theorem dX5_seekAcross_115 : decode cX5_seekAcross 115 = .ok (.iload_n 2, 1) := by decide +kernel
theorem dX5_seekAcross_116 : decode cX5_seekAcross 116 = .ok (.iload_n 3, 1) := by decide +kernel
theorem dX5_seekAcross_117 : decode cX5_seekAcross 117 = .ok (.iload 7, 2) := by decide +kernel
theorem dX5_seekAcross_119 : decode cX5_seekAcross 119 = .ok (.iload 9, 2) := by decide +kernel
theorem dX5_seekAcross_121 : decode cX5_seekAcross 121 = .ok (.iload 4, 2) := by decide +kernel
theorem dX5_seekAcross_123 : decode cX5_seekAcross 123 = .ok (.invokevirtual 49, 3) := by decide +kernel
theorem dX5_seekAcross_126 : decode cX5_seekAcross 126 = .ok (.iinc 9 1, 3) := by decide +kernel
theorem dX5_seekAcross_129 : decode cX5_seekAcross 129 = .ok (.goto (-39), 3) := by decide +kernel
theorem dX5_seekAcross_132 : decode cX5_seekAcross 132 = .ok (.iinc 7 1, 3) := by decide +kernel
theorem dX5_seekAcross_135 : decode cX5_seekAcross 135 = .ok (.goto (-71), 3) := by decide +kernel
theorem dX5_seekAcross_138 : decode cX5_seekAcross 138 = .ok (.return_, 1) := by decide +kernel
theorem dX5_isPhrase_0 : decode cX5_isPhrase 0 = .ok (.iload_n 0, 1) := by decide +kernel
theorem dX5_isPhrase_1 : decode cX5_isPhrase 1 = .ok (.ifCond .eq 21, 3) := by decide +kernel
theorem dX5_isPhrase_4 : decode cX5_isPhrase 4 = .ok (.iload_n 0, 1) := by decide +kernel
theorem dX5_isPhrase_5 : decode cX5_isPhrase 5 = .ok (.iload_n 2, 1) := by decide +kernel
theorem dX5_isPhrase_6 : decode cX5_isPhrase 6 = .ok (.iconst (-1), 1) := by decide +kernel
theorem dX5_isPhrase_7 : decode cX5_isPhrase 7 = .ok (.ixor, 1) := by decide +kernel
theorem dX5_isPhrase_8 : decode cX5_isPhrase 8 = .ok (.iand, 1) := by decide +kernel
theorem dX5_isPhrase_9 : decode cX5_isPhrase 9 = .ok (.ifCond .ne 13, 3) := by decide +kernel
theorem dX5_isPhrase_12 : decode cX5_isPhrase 12 = .ok (.iload_n 1, 1) := by decide +kernel
theorem dX5_isPhrase_13 : decode cX5_isPhrase 13 = .ok (.iload_n 2, 1) := by decide +kernel
theorem dX5_isPhrase_14 : decode cX5_isPhrase 14 = .ok (.iand, 1) := by decide +kernel
theorem dX5_isPhrase_15 : decode cX5_isPhrase 15 = .ok (.ifCond .ne 7, 3) := by decide +kernel
theorem dX5_isPhrase_18 : decode cX5_isPhrase 18 = .ok (.iconst 1, 1) := by decide +kernel
theorem dX5_isPhrase_19 : decode cX5_isPhrase 19 = .ok (.goto 4, 3) := by decide +kernel
theorem dX5_isPhrase_22 : decode cX5_isPhrase 22 = .ok (.iconst 0, 1) := by decide +kernel
theorem dX5_isPhrase_23 : decode cX5_isPhrase 23 = .ok (.ireturn, 1) := by decide +kernel
theorem dX5_spanBits_0 : decode cX5_spanBits 0 = .ok (.iconst 0, 1) := by decide +kernel
theorem dX5_spanBits_1 : decode cX5_spanBits 1 = .ok (.istore_n 2, 1) := by decide +kernel
theorem dX5_spanBits_2 : decode cX5_spanBits 2 = .ok (.iload_n 0, 1) := by decide +kernel
theorem dX5_spanBits_3 : decode cX5_spanBits 3 = .ok (.istore_n 3, 1) := by decide +kernel
theorem dX5_spanBits_4 : decode cX5_spanBits 4 = .ok (.iload_n 3, 1) := by decide +kernel
theorem dX5_spanBits_5 : decode cX5_spanBits 5 = .ok (.iload_n 1, 1) := by decide +kernel
theorem dX5_spanBits_6 : decode cX5_spanBits 6 = .ok (.if_icmp .gt 16, 3) := by decide +kernel
theorem dX5_spanBits_9 : decode cX5_spanBits 9 = .ok (.iload_n 2, 1) := by decide +kernel
theorem dX5_spanBits_10 : decode cX5_spanBits 10 = .ok (.iload_n 3, 1) := by decide +kernel
theorem dX5_spanBits_11 : decode cX5_spanBits 11 = .ok (.invokestatic 53, 3) := by decide +kernel
theorem dX5_spanBits_14 : decode cX5_spanBits 14 = .ok (.ior, 1) := by decide +kernel
theorem dX5_spanBits_15 : decode cX5_spanBits 15 = .ok (.istore_n 2, 1) := by decide +kernel
theorem dX5_spanBits_16 : decode cX5_spanBits 16 = .ok (.iinc 3 1, 3) := by decide +kernel
theorem dX5_spanBits_19 : decode cX5_spanBits 19 = .ok (.goto (-15), 3) := by decide +kernel
theorem dX5_spanBits_22 : decode cX5_spanBits 22 = .ok (.iload_n 2, 1) := by decide +kernel
theorem dX5_spanBits_23 : decode cX5_spanBits 23 = .ok (.ireturn, 1) := by decide +kernel
theorem dX5_meet_0 : decode cX5_meet 0 = .ok (.aload_n 0, 1) := by decide +kernel
theorem dX5_meet_1 : decode cX5_meet 1 = .ok (.getfield 15, 3) := by decide +kernel
theorem dX5_meet_4 : decode cX5_meet 4 = .ok (.iload 5, 2) := by decide +kernel
theorem dX5_meet_6 : decode cX5_meet 6 = .ok (.if_icmp .ne 41, 3) := by decide +kernel
theorem dX5_meet_9 : decode cX5_meet 9 = .ok (.aload_n 0, 1) := by decide +kernel
theorem dX5_meet_10 : decode cX5_meet 10 = .ok (.getfield 9, 3) := by decide +kernel
theorem dX5_meet_13 : decode cX5_meet 13 = .ok (.arraylength, 1) := by decide +kernel
theorem dX5_meet_14 : decode cX5_meet 14 = .ok (.iconst 4, 1) := by decide +kernel
theorem dX5_meet_15 : decode cX5_meet 15 = .ok (.if_icmp .ne 32, 3) := by decide +kernel
theorem dX5_meet_18 : decode cX5_meet 18 = .ok (.aload_n 0, 1) := by decide +kernel
theorem dX5_meet_19 : decode cX5_meet 19 = .ok (.getfield 9, 3) := by decide +kernel
theorem dX5_meet_22 : decode cX5_meet 22 = .ok (.iconst 0, 1) := by decide +kernel
theorem dX5_meet_23 : decode cX5_meet 23 = .ok (.iload_n 1, 1) := by decide +kernel
theorem dX5_meet_24 : decode cX5_meet 24 = .ok (.iastore, 1) := by decide +kernel
theorem dX5_meet_25 : decode cX5_meet 25 = .ok (.aload_n 0, 1) := by decide +kernel
theorem dX5_meet_26 : decode cX5_meet 26 = .ok (.getfield 9, 3) := by decide +kernel
theorem dX5_meet_29 : decode cX5_meet 29 = .ok (.iconst 1, 1) := by decide +kernel
theorem dX5_meet_30 : decode cX5_meet 30 = .ok (.iload_n 2, 1) := by decide +kernel
theorem dX5_meet_31 : decode cX5_meet 31 = .ok (.iastore, 1) := by decide +kernel
theorem dX5_meet_32 : decode cX5_meet 32 = .ok (.aload_n 0, 1) := by decide +kernel
theorem dX5_meet_33 : decode cX5_meet 33 = .ok (.getfield 9, 3) := by decide +kernel
theorem dX5_meet_36 : decode cX5_meet 36 = .ok (.iconst 2, 1) := by decide +kernel
theorem dX5_meet_37 : decode cX5_meet 37 = .ok (.iload_n 3, 1) := by decide +kernel
theorem dX5_meet_38 : decode cX5_meet 38 = .ok (.iastore, 1) := by decide +kernel
theorem dX5_meet_39 : decode cX5_meet 39 = .ok (.aload_n 0, 1) := by decide +kernel
theorem dX5_meet_40 : decode cX5_meet 40 = .ok (.getfield 9, 3) := by decide +kernel
theorem dX5_meet_43 : decode cX5_meet 43 = .ok (.iconst 3, 1) := by decide +kernel
theorem dX5_meet_44 : decode cX5_meet 44 = .ok (.iload 4, 2) := by decide +kernel
theorem dX5_meet_46 : decode cX5_meet 46 = .ok (.iastore, 1) := by decide +kernel
theorem dX5_meet_47 : decode cX5_meet 47 = .ok (.aload_n 0, 1) := by decide +kernel
theorem dX5_meet_48 : decode cX5_meet 48 = .ok (.dup, 1) := by decide +kernel
theorem dX5_meet_49 : decode cX5_meet 49 = .ok (.getfield 15, 3) := by decide +kernel
theorem dX5_meet_52 : decode cX5_meet 52 = .ok (.iconst 1, 1) := by decide +kernel
theorem dX5_meet_53 : decode cX5_meet 53 = .ok (.iadd, 1) := by decide +kernel
theorem dX5_meet_54 : decode cX5_meet 54 = .ok (.putfield 15, 3) := by decide +kernel
theorem dX5_meet_57 : decode cX5_meet 57 = .ok (.return_, 1) := by decide +kernel
theorem dX6_init_0 : decode cX6_init 0 = .ok (.aload_n 0, 1) := by decide +kernel
theorem dX6_init_1 : decode cX6_init 1 = .ok (.invokespecial 3, 3) := by decide +kernel
theorem dX6_init_4 : decode cX6_init 4 = .ok (.aload_n 0, 1) := by decide +kernel
theorem dX6_init_5 : decode cX6_init 5 = .ok (.bipush 8, 2) := by decide +kernel
theorem dX6_init_7 : decode cX6_init 7 = .ok (.newarray .int, 2) := by decide +kernel
theorem dX6_init_9 : decode cX6_init 9 = .ok (.putfield 9, 3) := by decide +kernel
theorem dX6_init_12 : decode cX6_init 12 = .ok (.return_, 1) := by decide +kernel
theorem dX6_length_0 : decode cX6_length 0 = .ok (.aload_n 0, 1) := by decide +kernel
theorem dX6_length_1 : decode cX6_length 1 = .ok (.getfield 15, 3) := by decide +kernel
theorem dX6_length_4 : decode cX6_length 4 = .ok (.ireturn, 1) := by decide +kernel
theorem dX6_isFull_0 : decode cX6_isFull 0 = .ok (.aload_n 0, 1) := by decide +kernel
theorem dX6_isFull_1 : decode cX6_isFull 1 = .ok (.getfield 15, 3) := by decide +kernel
theorem dX6_isFull_4 : decode cX6_isFull 4 = .ok (.bipush 8, 2) := by decide +kernel
theorem dX6_isFull_6 : decode cX6_isFull 6 = .ok (.if_icmp .lt 7, 3) := by decide +kernel
theorem dX6_isFull_9 : decode cX6_isFull 9 = .ok (.iconst 1, 1) := by decide +kernel
theorem dX6_isFull_10 : decode cX6_isFull 10 = .ok (.goto 4, 3) := by decide +kernel
theorem dX6_isFull_13 : decode cX6_isFull 13 = .ok (.iconst 0, 1) := by decide +kernel
theorem dX6_isFull_14 : decode cX6_isFull 14 = .ok (.ireturn, 1) := by decide +kernel
theorem dX6_has_0 : decode cX6_has 0 = .ok (.iload_n 1, 1) := by decide +kernel
theorem dX6_has_1 : decode cX6_has 1 = .ok (.ifCond .lt 15, 3) := by decide +kernel
theorem dX6_has_4 : decode cX6_has 4 = .ok (.iload_n 1, 1) := by decide +kernel
theorem dX6_has_5 : decode cX6_has 5 = .ok (.aload_n 0, 1) := by decide +kernel
theorem dX6_has_6 : decode cX6_has 6 = .ok (.getfield 15, 3) := by decide +kernel
theorem dX6_has_9 : decode cX6_has 9 = .ok (.if_icmp .ge 7, 3) := by decide +kernel
theorem dX6_has_12 : decode cX6_has 12 = .ok (.iconst 1, 1) := by decide +kernel
theorem dX6_has_13 : decode cX6_has 13 = .ok (.goto 4, 3) := by decide +kernel
theorem dX6_has_16 : decode cX6_has 16 = .ok (.iconst 0, 1) := by decide +kernel
theorem dX6_has_17 : decode cX6_has 17 = .ok (.ireturn, 1) := by decide +kernel
theorem dX6_at_0 : decode cX6_at 0 = .ok (.aload_n 0, 1) := by decide +kernel
theorem dX6_at_1 : decode cX6_at 1 = .ok (.iload_n 1, 1) := by decide +kernel
theorem dX6_at_2 : decode cX6_at 2 = .ok (.invokevirtual 19, 3) := by decide +kernel
theorem dX6_at_5 : decode cX6_at 5 = .ok (.ifCond .eq 21, 3) := by decide +kernel
theorem dX6_at_8 : decode cX6_at 8 = .ok (.iload_n 1, 1) := by decide +kernel
theorem dX6_at_9 : decode cX6_at 9 = .ok (.aload_n 0, 1) := by decide +kernel
theorem dX6_at_10 : decode cX6_at 10 = .ok (.getfield 9, 3) := by decide +kernel
theorem dX6_at_13 : decode cX6_at 13 = .ok (.arraylength, 1) := by decide +kernel
theorem dX6_at_14 : decode cX6_at 14 = .ok (.if_icmp .ge 12, 3) := by decide +kernel
theorem dX6_at_17 : decode cX6_at 17 = .ok (.aload_n 0, 1) := by decide +kernel
theorem dX6_at_18 : decode cX6_at 18 = .ok (.getfield 9, 3) := by decide +kernel
theorem dX6_at_21 : decode cX6_at 21 = .ok (.iload_n 1, 1) := by decide +kernel
theorem dX6_at_22 : decode cX6_at 22 = .ok (.iaload, 1) := by decide +kernel
theorem dX6_at_23 : decode cX6_at 23 = .ok (.goto 4, 3) := by decide +kernel
theorem dX6_at_26 : decode cX6_at 26 = .ok (.iconst (-1), 1) := by decide +kernel
theorem dX6_at_27 : decode cX6_at 27 = .ok (.ireturn, 1) := by decide +kernel
theorem dX6_append_0 : decode cX6_append 0 = .ok (.aload_n 0, 1) := by decide +kernel
theorem dX6_append_1 : decode cX6_append 1 = .ok (.getfield 15, 3) := by decide +kernel
theorem dX6_append_4 : decode cX6_append 4 = .ok (.ifCond .lt 35, 3) := by decide +kernel
theorem dX6_append_7 : decode cX6_append 7 = .ok (.aload_n 0, 1) := by decide +kernel
theorem dX6_append_8 : decode cX6_append 8 = .ok (.getfield 15, 3) := by decide +kernel
theorem dX6_append_11 : decode cX6_append 11 = .ok (.aload_n 0, 1) := by decide +kernel
theorem dX6_append_12 : decode cX6_append 12 = .ok (.getfield 9, 3) := by decide +kernel
theorem dX6_append_15 : decode cX6_append 15 = .ok (.arraylength, 1) := by decide +kernel
theorem dX6_append_16 : decode cX6_append 16 = .ok (.if_icmp .ge 23, 3) := by decide +kernel
theorem dX6_append_19 : decode cX6_append 19 = .ok (.aload_n 0, 1) := by decide +kernel
theorem dX6_append_20 : decode cX6_append 20 = .ok (.getfield 9, 3) := by decide +kernel
theorem dX6_append_23 : decode cX6_append 23 = .ok (.aload_n 0, 1) := by decide +kernel
theorem dX6_append_24 : decode cX6_append 24 = .ok (.getfield 15, 3) := by decide +kernel
theorem dX6_append_27 : decode cX6_append 27 = .ok (.iload_n 1, 1) := by decide +kernel
theorem dX6_append_28 : decode cX6_append 28 = .ok (.iastore, 1) := by decide +kernel
theorem dX6_append_29 : decode cX6_append 29 = .ok (.aload_n 0, 1) := by decide +kernel
theorem dX6_append_30 : decode cX6_append 30 = .ok (.dup, 1) := by decide +kernel
theorem dX6_append_31 : decode cX6_append 31 = .ok (.getfield 15, 3) := by decide +kernel
theorem dX6_append_34 : decode cX6_append 34 = .ok (.iconst 1, 1) := by decide +kernel
theorem dX6_append_35 : decode cX6_append 35 = .ok (.iadd, 1) := by decide +kernel
theorem dX6_append_36 : decode cX6_append 36 = .ok (.putfield 15, 3) := by decide +kernel
theorem dX6_append_39 : decode cX6_append 39 = .ok (.return_, 1) := by decide +kernel
theorem dX6_clear_0 : decode cX6_clear 0 = .ok (.aload_n 0, 1) := by decide +kernel
theorem dX6_clear_1 : decode cX6_clear 1 = .ok (.iconst 0, 1) := by decide +kernel
theorem dX6_clear_2 : decode cX6_clear 2 = .ok (.putfield 15, 3) := by decide +kernel
theorem dX6_clear_5 : decode cX6_clear 5 = .ok (.return_, 1) := by decide +kernel
theorem dX7_init_0 : decode cX7_init 0 = .ok (.aload_n 0, 1) := by decide +kernel
theorem dX7_init_1 : decode cX7_init 1 = .ok (.invokespecial 1, 3) := by decide +kernel
theorem dX7_init_4 : decode cX7_init 4 = .ok (.aload_n 0, 1) := by decide +kernel
theorem dX7_init_5 : decode cX7_init 5 = .ok (.new 7, 3) := by decide +kernel
theorem dX7_init_8 : decode cX7_init 8 = .ok (.dup, 1) := by decide +kernel
theorem dX7_init_9 : decode cX7_init 9 = .ok (.invokespecial 9, 3) := by decide +kernel
theorem dX7_init_12 : decode cX7_init 12 = .ok (.putfield 10, 3) := by decide +kernel
theorem dX7_init_15 : decode cX7_init 15 = .ok (.aload_n 0, 1) := by decide +kernel
theorem dX7_init_16 : decode cX7_init 16 = .ok (.new 7, 3) := by decide +kernel
theorem dX7_init_19 : decode cX7_init 19 = .ok (.dup, 1) := by decide +kernel
theorem dX7_init_20 : decode cX7_init 20 = .ok (.invokespecial 9, 3) := by decide +kernel
theorem dX7_init_23 : decode cX7_init 23 = .ok (.putfield 16, 3) := by decide +kernel
theorem dX7_init_26 : decode cX7_init 26 = .ok (.return_, 1) := by decide +kernel
theorem dX7_ofSide_0 : decode cX7_ofSide 0 = .ok (.iload_n 1, 1) := by decide +kernel
theorem dX7_ofSide_1 : decode cX7_ofSide 1 = .ok (.ifCond .ne 10, 3) := by decide +kernel
theorem dX7_ofSide_4 : decode cX7_ofSide 4 = .ok (.aload_n 0, 1) := by decide +kernel
theorem dX7_ofSide_5 : decode cX7_ofSide 5 = .ok (.getfield 10, 3) := by decide +kernel
theorem dX7_ofSide_8 : decode cX7_ofSide 8 = .ok (.goto 7, 3) := by decide +kernel
theorem dX7_ofSide_11 : decode cX7_ofSide 11 = .ok (.aload_n 0, 1) := by decide +kernel
theorem dX7_ofSide_12 : decode cX7_ofSide 12 = .ok (.getfield 16, 3) := by decide +kernel
theorem dX7_ofSide_15 : decode cX7_ofSide 15 = .ok (.areturn, 1) := by decide +kernel
theorem dX7_isThere_0 : decode cX7_isThere 0 = .ok (.aload_n 0, 1) := by decide +kernel
theorem dX7_isThere_1 : decode cX7_isThere 1 = .ok (.getfield 19, 3) := by decide +kernel
theorem dX7_isThere_4 : decode cX7_isThere 4 = .ok (.ireturn, 1) := by decide +kernel
theorem dX7_setThere_0 : decode cX7_setThere 0 = .ok (.aload_n 0, 1) := by decide +kernel
theorem dX7_setThere_1 : decode cX7_setThere 1 = .ok (.iload_n 1, 1) := by decide +kernel
theorem dX7_setThere_2 : decode cX7_setThere 2 = .ok (.putfield 19, 3) := by decide +kernel
theorem dX7_setThere_5 : decode cX7_setThere 5 = .ok (.return_, 1) := by decide +kernel
theorem dX8_init_0 : decode cX8_init 0 = .ok (.aload_n 0, 1) := by decide +kernel
theorem dX8_init_1 : decode cX8_init 1 = .ok (.invokespecial 3, 3) := by decide +kernel
theorem dX8_init_4 : decode cX8_init 4 = .ok (.aload_n 0, 1) := by decide +kernel
theorem dX8_init_5 : decode cX8_init 5 = .ok (.getstatic 9, 3) := by decide +kernel
theorem dX8_init_8 : decode cX8_init 8 = .ok (.invokevirtual 13, 3) := by decide +kernel
theorem dX8_init_11 : decode cX8_init 11 = .ok (.checkcast 14, 3) := by decide +kernel
theorem dX8_init_14 : decode cX8_init 14 = .ok (.putfield 18, 3) := by decide +kernel
theorem dX8_init_17 : decode cX8_init 17 = .ok (.return_, 1) := by decide +kernel
theorem dX8_at_0 : decode cX8_at 0 = .ok (.iload_n 1, 1) := by decide +kernel
theorem dX8_at_1 : decode cX8_at 1 = .ok (.ifCond .lt 21, 3) := by decide +kernel
theorem dX8_at_4 : decode cX8_at 4 = .ok (.iload_n 1, 1) := by decide +kernel
theorem dX8_at_5 : decode cX8_at 5 = .ok (.aload_n 0, 1) := by decide +kernel
theorem dX8_at_6 : decode cX8_at 6 = .ok (.getfield 18, 3) := by decide +kernel
theorem dX8_at_9 : decode cX8_at 9 = .ok (.arraylength, 1) := by decide +kernel
theorem dX8_at_10 : decode cX8_at 10 = .ok (.if_icmp .ge 12, 3) := by decide +kernel
theorem dX8_at_13 : decode cX8_at 13 = .ok (.aload_n 0, 1) := by decide +kernel
theorem dX8_at_14 : decode cX8_at 14 = .ok (.getfield 18, 3) := by decide +kernel
theorem dX8_at_17 : decode cX8_at 17 = .ok (.iload_n 1, 1) := by decide +kernel
theorem dX8_at_18 : decode cX8_at 18 = .ok (.iaload, 1) := by decide +kernel
theorem dX8_at_19 : decode cX8_at 19 = .ok (.goto 4, 3) := by decide +kernel
theorem dX8_at_22 : decode cX8_at 22 = .ok (.iconst 0, 1) := by decide +kernel
theorem dX8_at_23 : decode cX8_at 23 = .ok (.ireturn, 1) := by decide +kernel
theorem dX8_replace_0 : decode cX8_replace 0 = .ok (.aload_n 0, 1) := by decide +kernel
theorem dX8_replace_1 : decode cX8_replace 1 = .ok (.iload_n 1, 1) := by decide +kernel
theorem dX8_replace_2 : decode cX8_replace 2 = .ok (.invokevirtual 23, 3) := by decide +kernel
theorem dX8_replace_5 : decode cX8_replace 5 = .ok (.istore_n 3, 1) := by decide +kernel
theorem dX8_replace_6 : decode cX8_replace 6 = .ok (.iload_n 1, 1) := by decide +kernel
theorem dX8_replace_7 : decode cX8_replace 7 = .ok (.ifCond .lt 19, 3) := by decide +kernel
theorem dX8_replace_10 : decode cX8_replace 10 = .ok (.iload_n 1, 1) := by decide +kernel
theorem dX8_replace_11 : decode cX8_replace 11 = .ok (.aload_n 0, 1) := by decide +kernel
theorem dX8_replace_12 : decode cX8_replace 12 = .ok (.getfield 18, 3) := by decide +kernel
theorem dX8_replace_15 : decode cX8_replace 15 = .ok (.arraylength, 1) := by decide +kernel
theorem dX8_replace_16 : decode cX8_replace 16 = .ok (.if_icmp .ge 10, 3) := by decide +kernel
theorem dX8_replace_19 : decode cX8_replace 19 = .ok (.aload_n 0, 1) := by decide +kernel
theorem dX8_replace_20 : decode cX8_replace 20 = .ok (.getfield 18, 3) := by decide +kernel
theorem dX8_replace_23 : decode cX8_replace 23 = .ok (.iload_n 1, 1) := by decide +kernel
theorem dX8_replace_24 : decode cX8_replace 24 = .ok (.iload_n 2, 1) := by decide +kernel
theorem dX8_replace_25 : decode cX8_replace 25 = .ok (.iastore, 1) := by decide +kernel
theorem dX8_replace_26 : decode cX8_replace 26 = .ok (.iload_n 3, 1) := by decide +kernel
theorem dX8_replace_27 : decode cX8_replace 27 = .ok (.ireturn, 1) := by decide +kernel
theorem dX8_between_0 : decode cX8_between 0 = .ok (.aload_n 0, 1) := by decide +kernel
theorem dX8_between_1 : decode cX8_between 1 = .ok (.iload_n 1, 1) := by decide +kernel
theorem dX8_between_2 : decode cX8_between 2 = .ok (.iload_n 2, 1) := by decide +kernel
theorem dX8_between_3 : decode cX8_between 3 = .ok (.isub, 1) := by decide +kernel
theorem dX8_between_4 : decode cX8_between 4 = .ok (.invokestatic 27, 3) := by decide +kernel
theorem dX8_between_7 : decode cX8_between 7 = .ok (.iconst 3, 1) := by decide +kernel
theorem dX8_between_8 : decode cX8_between 8 = .ok (.invokestatic 32, 3) := by decide +kernel
theorem dX8_between_11 : decode cX8_between 11 = .ok (.invokevirtual 23, 3) := by decide +kernel
theorem dX8_between_14 : decode cX8_between 14 = .ok (.ireturn, 1) := by decide +kernel
theorem dX8_ofEmpty_0 : decode cX8_ofEmpty 0 = .ok (.aload_n 0, 1) := by decide +kernel
theorem dX8_ofEmpty_1 : decode cX8_ofEmpty 1 = .ok (.iconst 4, 1) := by decide +kernel
theorem dX8_ofEmpty_2 : decode cX8_ofEmpty 2 = .ok (.invokevirtual 23, 3) := by decide +kernel
theorem dX8_ofEmpty_5 : decode cX8_ofEmpty 5 = .ok (.ireturn, 1) := by decide +kernel
theorem dX9_init_0 : decode cX9_init 0 = .ok (.aload_n 0, 1) := by decide +kernel
theorem dX9_init_1 : decode cX9_init 1 = .ok (.invokespecial 3, 3) := by decide +kernel
theorem dX9_init_4 : decode cX9_init 4 = .ok (.aload_n 0, 1) := by decide +kernel
theorem dX9_init_5 : decode cX9_init 5 = .ok (.new 9, 3) := by decide +kernel
theorem dX9_init_8 : decode cX9_init 8 = .ok (.dup, 1) := by decide +kernel
theorem dX9_init_9 : decode cX9_init 9 = .ok (.invokespecial 11, 3) := by decide +kernel
theorem dX9_init_12 : decode cX9_init 12 = .ok (.putfield 12, 3) := by decide +kernel
theorem dX9_init_15 : decode cX9_init 15 = .ok (.aload_n 0, 1) := by decide +kernel
theorem dX9_init_16 : decode cX9_init 16 = .ok (.new 16, 3) := by decide +kernel
theorem dX9_init_19 : decode cX9_init 19 = .ok (.dup, 1) := by decide +kernel
theorem dX9_init_20 : decode cX9_init 20 = .ok (.invokespecial 18, 3) := by decide +kernel
theorem dX9_init_23 : decode cX9_init 23 = .ok (.putfield 19, 3) := by decide +kernel
theorem dX9_init_26 : decode cX9_init 26 = .ok (.aload_n 0, 1) := by decide +kernel
theorem dX9_init_27 : decode cX9_init 27 = .ok (.new 23, 3) := by decide +kernel
theorem dX9_init_30 : decode cX9_init 30 = .ok (.dup, 1) := by decide +kernel
theorem dX9_init_31 : decode cX9_init 31 = .ok (.invokespecial 25, 3) := by decide +kernel
theorem dX9_init_34 : decode cX9_init 34 = .ok (.putfield 26, 3) := by decide +kernel
theorem dX9_init_37 : decode cX9_init 37 = .ok (.aload_n 0, 1) := by decide +kernel
theorem dX9_init_38 : decode cX9_init 38 = .ok (.new 30, 3) := by decide +kernel
theorem dX9_init_41 : decode cX9_init 41 = .ok (.dup, 1) := by decide +kernel
theorem dX9_init_42 : decode cX9_init 42 = .ok (.invokespecial 32, 3) := by decide +kernel
theorem dX9_init_45 : decode cX9_init 45 = .ok (.putfield 33, 3) := by decide +kernel
theorem dX9_init_48 : decode cX9_init 48 = .ok (.aload_n 0, 1) := by decide +kernel
theorem dX9_init_49 : decode cX9_init 49 = .ok (.new 37, 3) := by decide +kernel
theorem dX9_init_52 : decode cX9_init 52 = .ok (.dup, 1) := by decide +kernel
theorem dX9_init_53 : decode cX9_init 53 = .ok (.invokespecial 39, 3) := by decide +kernel
theorem dX9_init_56 : decode cX9_init 56 = .ok (.putfield 40, 3) := by decide +kernel
theorem dX9_init_59 : decode cX9_init 59 = .ok (.aload_n 0, 1) := by decide +kernel
theorem dX9_init_60 : decode cX9_init 60 = .ok (.new 44, 3) := by decide +kernel
theorem dX9_init_63 : decode cX9_init 63 = .ok (.dup, 1) := by decide +kernel
theorem dX9_init_64 : decode cX9_init 64 = .ok (.invokespecial 46, 3) := by decide +kernel
theorem dX9_init_67 : decode cX9_init 67 = .ok (.putfield 47, 3) := by decide +kernel
theorem dX9_init_70 : decode cX9_init 70 = .ok (.return_, 1) := by decide +kernel
theorem dX9_put_0 : decode cX9_put 0 = .ok (.iload_n 1, 1) := by decide +kernel
theorem dX9_put_1 : decode cX9_put 1 = .ok (.invokestatic 51, 3) := by decide +kernel
theorem dX9_put_4 : decode cX9_put 4 = .ok (.ifCond .eq 10, 3) := by decide +kernel
theorem dX9_put_7 : decode cX9_put 7 = .ok (.iload_n 2, 1) := by decide +kernel
theorem dX9_put_8 : decode cX9_put 8 = .ok (.invokestatic 55, 3) := by decide +kernel
theorem dX9_put_11 : decode cX9_put 11 = .ok (.ifCond .ne 13, 3) := by decide +kernel
theorem dX9_put_14 : decode cX9_put 14 = .ok (.new 58, 3) := by decide +kernel
theorem dX9_put_17 : decode cX9_put 17 = .ok (.dup, 1) := by decide +kernel
theorem dX9_put_18 : decode cX9_put 18 = .ok (.ldc 60, 2) := by decide +kernel
theorem dX9_put_20 : decode cX9_put 20 = .ok (.invokespecial 62, 3) := by decide +kernel
theorem dX9_put_23 : decode cX9_put 23 = .ok (.athrow, 1) := by decide +kernel
theorem dX9_put_24 : decode cX9_put 24 = .ok (.aload_n 0, 1) := by decide +kernel
theorem dX9_put_25 : decode cX9_put 25 = .ok (.getfield 47, 3) := by decide +kernel
theorem dX9_put_28 : decode cX9_put 28 = .ok (.iload_n 1, 1) := by decide +kernel
theorem dX9_put_29 : decode cX9_put 29 = .ok (.invokevirtual 65, 3) := by decide +kernel
theorem dX9_put_32 : decode cX9_put 32 = .ok (.astore_n 3, 1) := by decide +kernel
theorem dX9_put_33 : decode cX9_put 33 = .ok (.aload_n 3, 1) := by decide +kernel
theorem dX9_put_34 : decode cX9_put 34 = .ok (.invokevirtual 69, 3) := by decide +kernel
theorem dX9_put_37 : decode cX9_put 37 = .ok (.ifCond .eq 13, 3) := by decide +kernel
theorem dX9_put_40 : decode cX9_put 40 = .ok (.new 75, 3) := by decide +kernel
theorem dX9_put_43 : decode cX9_put 43 = .ok (.dup, 1) := by decide +kernel
theorem dX9_put_44 : decode cX9_put 44 = .ok (.ldc 77, 2) := by decide +kernel
theorem dX9_put_46 : decode cX9_put 46 = .ok (.invokespecial 79, 3) := by decide +kernel
theorem dX9_put_49 : decode cX9_put 49 = .ok (.athrow, 1) := by decide +kernel
theorem dX9_put_50 : decode cX9_put 50 = .ok (.aload_n 3, 1) := by decide +kernel
theorem dX9_put_51 : decode cX9_put 51 = .ok (.iload_n 2, 1) := by decide +kernel
theorem dX9_put_52 : decode cX9_put 52 = .ok (.invokevirtual 80, 3) := by decide +kernel
theorem dX9_put_55 : decode cX9_put 55 = .ok (.aload_n 3, 1) := by decide +kernel
theorem dX9_put_56 : decode cX9_put 56 = .ok (.invokevirtual 84, 3) := by decide +kernel
theorem dX9_put_59 : decode cX9_put 59 = .ok (.ireturn, 1) := by decide +kernel
theorem dX9_wipe_0 : decode cX9_wipe 0 = .ok (.aload_n 0, 1) := by decide +kernel
theorem dX9_wipe_1 : decode cX9_wipe 1 = .ok (.getfield 47, 3) := by decide +kernel
theorem dX9_wipe_4 : decode cX9_wipe 4 = .ok (.iconst 0, 1) := by decide +kernel
theorem dX9_wipe_5 : decode cX9_wipe 5 = .ok (.invokevirtual 65, 3) := by decide +kernel
theorem dX9_wipe_8 : decode cX9_wipe 8 = .ok (.invokevirtual 84, 3) := by decide +kernel
theorem dX9_wipe_11 : decode cX9_wipe 11 = .ok (.aload_n 0, 1) := by decide +kernel
theorem dX9_wipe_12 : decode cX9_wipe 12 = .ok (.getfield 47, 3) := by decide +kernel
theorem dX9_wipe_15 : decode cX9_wipe 15 = .ok (.iconst 1, 1) := by decide +kernel
theorem dX9_wipe_16 : decode cX9_wipe 16 = .ok (.invokevirtual 65, 3) := by decide +kernel
theorem dX9_wipe_19 : decode cX9_wipe 19 = .ok (.invokevirtual 84, 3) := by decide +kernel
theorem dX9_wipe_22 : decode cX9_wipe 22 = .ok (.iadd, 1) := by decide +kernel
theorem dX9_wipe_23 : decode cX9_wipe 23 = .ok (.istore_n 1, 1) := by decide +kernel
theorem dX9_wipe_24 : decode cX9_wipe 24 = .ok (.aload_n 0, 1) := by decide +kernel
theorem dX9_wipe_25 : decode cX9_wipe 25 = .ok (.getfield 47, 3) := by decide +kernel
theorem dX9_wipe_28 : decode cX9_wipe 28 = .ok (.iconst 0, 1) := by decide +kernel
theorem dX9_wipe_29 : decode cX9_wipe 29 = .ok (.invokevirtual 65, 3) := by decide +kernel
theorem dX9_wipe_32 : decode cX9_wipe 32 = .ok (.invokevirtual 88, 3) := by decide +kernel
theorem dX9_wipe_35 : decode cX9_wipe 35 = .ok (.aload_n 0, 1) := by decide +kernel
theorem dX9_wipe_36 : decode cX9_wipe 36 = .ok (.getfield 47, 3) := by decide +kernel
theorem dX9_wipe_39 : decode cX9_wipe 39 = .ok (.iconst 1, 1) := by decide +kernel
theorem dX9_wipe_40 : decode cX9_wipe 40 = .ok (.invokevirtual 65, 3) := by decide +kernel
theorem dX9_wipe_43 : decode cX9_wipe 43 = .ok (.invokevirtual 88, 3) := by decide +kernel
theorem dX9_wipe_46 : decode cX9_wipe 46 = .ok (.iload_n 1, 1) := by decide +kernel
theorem dX9_wipe_47 : decode cX9_wipe 47 = .ok (.ireturn, 1) := by decide +kernel
theorem dX9_pair_0 : decode cX9_pair 0 = .ok (.aload_n 0, 1) := by decide +kernel
theorem dX9_pair_1 : decode cX9_pair 1 = .ok (.getfield 47, 3) := by decide +kernel
theorem dX9_pair_4 : decode cX9_pair 4 = .ok (.iconst 0, 1) := by decide +kernel
theorem dX9_pair_5 : decode cX9_pair 5 = .ok (.invokevirtual 65, 3) := by decide +kernel
theorem dX9_pair_8 : decode cX9_pair 8 = .ok (.invokevirtual 84, 3) := by decide +kernel
theorem dX9_pair_11 : decode cX9_pair 11 = .ok (.ifCond .eq 17, 3) := by decide +kernel
theorem dX9_pair_14 : decode cX9_pair 14 = .ok (.aload_n 0, 1) := by decide +kernel
theorem dX9_pair_15 : decode cX9_pair 15 = .ok (.getfield 47, 3) := by decide +kernel
theorem dX9_pair_18 : decode cX9_pair 18 = .ok (.iconst 1, 1) := by decide +kernel
theorem dX9_pair_19 : decode cX9_pair 19 = .ok (.invokevirtual 65, 3) := by decide +kernel
theorem dX9_pair_22 : decode cX9_pair 22 = .ok (.invokevirtual 84, 3) := by decide +kernel
theorem dX9_pair_25 : decode cX9_pair 25 = .ok (.ifCond .ne 13, 3) := by decide +kernel
theorem dX9_pair_28 : decode cX9_pair 28 = .ok (.new 75, 3) := by decide +kernel
theorem dX9_pair_31 : decode cX9_pair 31 = .ok (.dup, 1) := by decide +kernel
theorem dX9_pair_32 : decode cX9_pair 32 = .ok (.ldc 91, 2) := by decide +kernel
theorem dX9_pair_34 : decode cX9_pair 34 = .ok (.invokespecial 79, 3) := by decide +kernel
theorem dX9_pair_37 : decode cX9_pair 37 = .ok (.athrow, 1) := by decide +kernel
theorem dX9_pair_38 : decode cX9_pair 38 = .ok (.aload_n 0, 1) := by decide +kernel
theorem dX9_pair_39 : decode cX9_pair 39 = .ok (.getfield 12, 3) := by decide +kernel
theorem dX9_pair_42 : decode cX9_pair 42 = .ok (.invokevirtual 93, 3) := by decide +kernel
theorem dX9_pair_45 : decode cX9_pair 45 = .ok (.ifCond .eq 13, 3) := by decide +kernel
theorem dX9_pair_48 : decode cX9_pair 48 = .ok (.new 75, 3) := by decide +kernel
theorem dX9_pair_51 : decode cX9_pair 51 = .ok (.dup, 1) := by decide +kernel
theorem dX9_pair_52 : decode cX9_pair 52 = .ok (.ldc 94, 2) := by decide +kernel
theorem dX9_pair_54 : decode cX9_pair 54 = .ok (.invokespecial 79, 3) := by decide +kernel
theorem dX9_pair_57 : decode cX9_pair 57 = .ok (.athrow, 1) := by decide +kernel
theorem dX9_pair_58 : decode cX9_pair 58 = .ok (.aload_n 0, 1) := by decide +kernel
theorem dX9_pair_59 : decode cX9_pair 59 = .ok (.getfield 12, 3) := by decide +kernel
theorem dX9_pair_62 : decode cX9_pair 62 = .ok (.aload_n 0, 1) := by decide +kernel
theorem dX9_pair_63 : decode cX9_pair 63 = .ok (.getfield 47, 3) := by decide +kernel
theorem dX9_pair_66 : decode cX9_pair 66 = .ok (.invokevirtual 96, 3) := by decide +kernel
theorem dX9_pair_69 : decode cX9_pair 69 = .ok (.istore_n 1, 1) := by decide +kernel
theorem dX9_pair_70 : decode cX9_pair 70 = .ok (.aload_n 0, 1) := by decide +kernel
theorem dX9_pair_71 : decode cX9_pair 71 = .ok (.new 44, 3) := by decide +kernel
theorem dX9_pair_74 : decode cX9_pair 74 = .ok (.dup, 1) := by decide +kernel
theorem dX9_pair_75 : decode cX9_pair 75 = .ok (.invokespecial 46, 3) := by decide +kernel
theorem dX9_pair_78 : decode cX9_pair 78 = .ok (.putfield 47, 3) := by decide +kernel
theorem dX9_pair_81 : decode cX9_pair 81 = .ok (.iload_n 1, 1) := by decide +kernel
theorem dX9_pair_82 : decode cX9_pair 82 = .ok (.ireturn, 1) := by decide +kernel
theorem dX9_takeBack_0 : decode cX9_takeBack 0 = .ok (.aload_n 0, 1) := by decide +kernel
theorem dX9_takeBack_1 : decode cX9_takeBack 1 = .ok (.iload_n 1, 1) := by decide +kernel
theorem dX9_takeBack_2 : decode cX9_takeBack 2 = .ok (.invokevirtual 100, 3) := by decide +kernel
theorem dX9_takeBack_5 : decode cX9_takeBack 5 = .ok (.astore_n 2, 1) := by decide +kernel
theorem dX9_takeBack_6 : decode cX9_takeBack 6 = .ok (.aload_n 0, 1) := by decide +kernel
theorem dX9_takeBack_7 : decode cX9_takeBack 7 = .ok (.getfield 12, 3) := by decide +kernel
theorem dX9_takeBack_10 : decode cX9_takeBack 10 = .ok (.aload_n 2, 1) := by decide +kernel
theorem dX9_takeBack_11 : decode cX9_takeBack 11 = .ok (.invokevirtual 104, 3) := by decide +kernel
theorem dX9_takeBack_14 : decode cX9_takeBack 14 = .ok (.aload_n 0, 1) := by decide +kernel
theorem dX9_takeBack_15 : decode cX9_takeBack 15 = .ok (.getfield 12, 3) := by decide +kernel
theorem dX9_takeBack_18 : decode cX9_takeBack 18 = .ok (.invokevirtual 108, 3) := by decide +kernel
theorem dX9_takeBack_21 : decode cX9_takeBack 21 = .ok (.ireturn, 1) := by decide +kernel
theorem dX9_begin_0 : decode cX9_begin 0 = .ok (.aload_n 0, 1) := by decide +kernel
theorem dX9_begin_1 : decode cX9_begin 1 = .ok (.getfield 19, 3) := by decide +kernel
theorem dX9_begin_4 : decode cX9_begin 4 = .ok (.iconst 0, 1) := by decide +kernel
theorem dX9_begin_5 : decode cX9_begin 5 = .ok (.invokevirtual 111, 3) := by decide +kernel
theorem dX9_begin_8 : decode cX9_begin 8 = .ok (.aload_n 0, 1) := by decide +kernel
theorem dX9_begin_9 : decode cX9_begin 9 = .ok (.getfield 12, 3) := by decide +kernel
theorem dX9_begin_12 : decode cX9_begin 12 = .ok (.invokevirtual 115, 3) := by decide +kernel
theorem dX9_begin_15 : decode cX9_begin 15 = .ok (.aload_n 0, 1) := by decide +kernel
theorem dX9_begin_16 : decode cX9_begin 16 = .ok (.getfield 19, 3) := by decide +kernel
theorem dX9_begin_19 : decode cX9_begin 19 = .ok (.iconst 1, 1) := by decide +kernel
theorem dX9_begin_20 : decode cX9_begin 20 = .ok (.invokevirtual 111, 3) := by decide +kernel
theorem dX9_begin_23 : decode cX9_begin 23 = .ok (.aload_n 0, 1) := by decide +kernel
theorem dX9_begin_24 : decode cX9_begin 24 = .ok (.getfield 12, 3) := by decide +kernel
theorem dX9_begin_27 : decode cX9_begin 27 = .ok (.invokevirtual 115, 3) := by decide +kernel
theorem dX9_begin_30 : decode cX9_begin 30 = .ok (.iadd, 1) := by decide +kernel
theorem dX9_begin_31 : decode cX9_begin 31 = .ok (.ireturn, 1) := by decide +kernel
theorem dX9_round_0 : decode cX9_round 0 = .ok (.aload_n 0, 1) := by decide +kernel
theorem dX9_round_1 : decode cX9_round 1 = .ok (.getfield 19, 3) := by decide +kernel
theorem dX9_round_4 : decode cX9_round 4 = .ok (.iconst 0, 1) := by decide +kernel
theorem dX9_round_5 : decode cX9_round 5 = .ok (.invokevirtual 111, 3) := by decide +kernel
theorem dX9_round_8 : decode cX9_round 8 = .ok (.aload_n 0, 1) := by decide +kernel
theorem dX9_round_9 : decode cX9_round 9 = .ok (.getfield 12, 3) := by decide +kernel
theorem dX9_round_12 : decode cX9_round 12 = .ok (.invokevirtual 121, 3) := by decide +kernel
theorem dX9_round_15 : decode cX9_round 15 = .ok (.aload_n 0, 1) := by decide +kernel
theorem dX9_round_16 : decode cX9_round 16 = .ok (.getfield 19, 3) := by decide +kernel
theorem dX9_round_19 : decode cX9_round 19 = .ok (.iconst 1, 1) := by decide +kernel
theorem dX9_round_20 : decode cX9_round 20 = .ok (.invokevirtual 111, 3) := by decide +kernel
theorem dX9_round_23 : decode cX9_round 23 = .ok (.aload_n 0, 1) := by decide +kernel
theorem dX9_round_24 : decode cX9_round 24 = .ok (.getfield 12, 3) := by decide +kernel
theorem dX9_round_27 : decode cX9_round 27 = .ok (.invokevirtual 121, 3) := by decide +kernel
theorem dX9_round_30 : decode cX9_round 30 = .ok (.iadd, 1) := by decide +kernel
theorem dX9_round_31 : decode cX9_round 31 = .ok (.ireturn, 1) := by decide +kernel
theorem dX9_weight_0 : decode cX9_weight 0 = .ok (.iload_n 1, 1) := by decide +kernel
theorem dX9_weight_1 : decode cX9_weight 1 = .ok (.ifCond .lt 8, 3) := by decide +kernel
theorem dX9_weight_4 : decode cX9_weight 4 = .ok (.iload_n 1, 1) := by decide +kernel
theorem dX9_weight_5 : decode cX9_weight 5 = .ok (.iconst 4, 1) := by decide +kernel
theorem dX9_weight_6 : decode cX9_weight 6 = .ok (.if_icmp .le 13, 3) := by decide +kernel
theorem dX9_weight_9 : decode cX9_weight 9 = .ok (.new 58, 3) := by decide +kernel
theorem dX9_weight_12 : decode cX9_weight 12 = .ok (.dup, 1) := by decide +kernel
theorem dX9_weight_13 : decode cX9_weight 13 = .ok (.ldc 124, 2) := by decide +kernel
theorem dX9_weight_15 : decode cX9_weight 15 = .ok (.invokespecial 62, 3) := by decide +kernel
theorem dX9_weight_18 : decode cX9_weight 18 = .ok (.athrow, 1) := by decide +kernel
theorem dX9_weight_19 : decode cX9_weight 19 = .ok (.iload_n 2, 1) := by decide +kernel
theorem dX9_weight_20 : decode cX9_weight 20 = .ok (.ifCond .lt 9, 3) := by decide +kernel
theorem dX9_weight_23 : decode cX9_weight 23 = .ok (.iload_n 2, 1) := by decide +kernel
theorem dX9_weight_24 : decode cX9_weight 24 = .ok (.bipush 9, 2) := by decide +kernel
theorem dX9_weight_26 : decode cX9_weight 26 = .ok (.if_icmp .le 13, 3) := by decide +kernel
theorem dX9_weight_29 : decode cX9_weight 29 = .ok (.new 126, 3) := by decide +kernel
theorem dX9_weight_32 : decode cX9_weight 32 = .ok (.dup, 1) := by decide +kernel
theorem dX9_weight_33 : decode cX9_weight 33 = .ok (.ldc 128, 2) := by decide +kernel
theorem dX9_weight_35 : decode cX9_weight 35 = .ok (.invokespecial 130, 3) := by decide +kernel
theorem dX9_weight_38 : decode cX9_weight 38 = .ok (.athrow, 1) := by decide +kernel
theorem dX9_weight_39 : decode cX9_weight 39 = .ok (.aload_n 0, 1) := by decide +kernel
theorem dX9_weight_40 : decode cX9_weight 40 = .ok (.getfield 19, 3) := by decide +kernel
theorem dX9_weight_43 : decode cX9_weight 43 = .ok (.iload_n 1, 1) := by decide +kernel
theorem dX9_weight_44 : decode cX9_weight 44 = .ok (.iload_n 2, 1) := by decide +kernel
theorem dX9_weight_45 : decode cX9_weight 45 = .ok (.invokevirtual 131, 3) := by decide +kernel
theorem dX9_weight_48 : decode cX9_weight 48 = .ok (.ireturn, 1) := by decide +kernel
theorem dX9_pairs_0 : decode cX9_pairs 0 = .ok (.aload_n 0, 1) := by decide +kernel
theorem dX9_pairs_1 : decode cX9_pairs 1 = .ok (.getfield 12, 3) := by decide +kernel
theorem dX9_pairs_4 : decode cX9_pairs 4 = .ok (.invokevirtual 108, 3) := by decide +kernel
theorem dX9_pairs_7 : decode cX9_pairs 7 = .ok (.ireturn, 1) := by decide +kernel
theorem dX9_word_0 : decode cX9_word 0 = .ok (.aload_n 0, 1) := by decide +kernel
theorem dX9_word_1 : decode cX9_word 1 = .ok (.iload_n 1, 1) := by decide +kernel
theorem dX9_word_2 : decode cX9_word 2 = .ok (.invokevirtual 100, 3) := by decide +kernel
theorem dX9_word_5 : decode cX9_word 5 = .ok (.astore 4, 2) := by decide +kernel
theorem dX9_word_7 : decode cX9_word 7 = .ok (.iload_n 2, 1) := by decide +kernel
theorem dX9_word_8 : decode cX9_word 8 = .ok (.invokestatic 51, 3) := by decide +kernel
theorem dX9_word_11 : decode cX9_word 11 = .ok (.ifCond .eq 7, 3) := by decide +kernel
theorem dX9_word_14 : decode cX9_word 14 = .ok (.iload_n 3, 1) := by decide +kernel
theorem dX9_word_15 : decode cX9_word 15 = .ok (.ifCond .ge 13, 3) := by decide +kernel
theorem dX9_word_18 : decode cX9_word 18 = .ok (.new 58, 3) := by decide +kernel
theorem dX9_word_21 : decode cX9_word 21 = .ok (.dup, 1) := by decide +kernel
theorem dX9_word_22 : decode cX9_word 22 = .ok (.ldc 135, 2) := by decide +kernel
theorem dX9_word_24 : decode cX9_word 24 = .ok (.invokespecial 62, 3) := by decide +kernel
theorem dX9_word_27 : decode cX9_word 27 = .ok (.athrow, 1) := by decide +kernel
theorem dX9_word_28 : decode cX9_word 28 = .ok (.aload 4, 2) := by decide +kernel
theorem dX9_word_30 : decode cX9_word 30 = .ok (.iload_n 2, 1) := by decide +kernel
theorem dX9_word_31 : decode cX9_word 31 = .ok (.invokevirtual 65, 3) := by decide +kernel
theorem dX9_word_34 : decode cX9_word 34 = .ok (.iload_n 3, 1) := by decide +kernel
theorem dX9_word_35 : decode cX9_word 35 = .ok (.invokevirtual 137, 3) := by decide +kernel
theorem dX9_word_38 : decode cX9_word 38 = .ok (.ireturn, 1) := by decide +kernel
theorem dX9_share_0 : decode cX9_share 0 = .ok (.iload_n 1, 1) := by decide +kernel
theorem dX9_share_1 : decode cX9_share 1 = .ok (.invokestatic 51, 3) := by decide +kernel
theorem dX9_share_4 : decode cX9_share 4 = .ok (.ifCond .eq 23, 3) := by decide +kernel
theorem dX9_share_7 : decode cX9_share 7 = .ok (.iload_n 2, 1) := by decide +kernel
theorem dX9_share_8 : decode cX9_share 8 = .ok (.invokestatic 55, 3) := by decide +kernel
theorem dX9_share_11 : decode cX9_share 11 = .ok (.ifCond .ne 9, 3) := by decide +kernel
theorem dX9_share_14 : decode cX9_share 14 = .ok (.iload_n 2, 1) := by decide +kernel
theorem dX9_share_15 : decode cX9_share 15 = .ok (.bipush 15, 2) := by decide +kernel
theorem dX9_share_17 : decode cX9_share 17 = .ok (.if_icmp .ne 10, 3) := by decide +kernel
theorem dX9_share_20 : decode cX9_share 20 = .ok (.iload_n 3, 1) := by decide +kernel
theorem dX9_share_21 : decode cX9_share 21 = .ok (.invokestatic 55, 3) := by decide +kernel
theorem dX9_share_24 : decode cX9_share 24 = .ok (.ifCond .ne 13, 3) := by decide +kernel
theorem dX9_share_27 : decode cX9_share 27 = .ok (.new 58, 3) := by decide +kernel
theorem dX9_share_30 : decode cX9_share 30 = .ok (.dup, 1) := by decide +kernel
theorem dX9_share_31 : decode cX9_share 31 = .ok (.ldc 141, 2) := by decide +kernel
theorem dX9_share_33 : decode cX9_share 33 = .ok (.invokespecial 62, 3) := by decide +kernel
theorem dX9_share_36 : decode cX9_share 36 = .ok (.athrow, 1) := by decide +kernel
theorem dX9_share_37 : decode cX9_share 37 = .ok (.aload_n 0, 1) := by decide +kernel
theorem dX9_share_38 : decode cX9_share 38 = .ok (.getfield 19, 3) := by decide +kernel
theorem dX9_share_41 : decode cX9_share 41 = .ok (.iload_n 1, 1) := by decide +kernel
theorem dX9_share_42 : decode cX9_share 42 = .ok (.invokevirtual 111, 3) := by decide +kernel
theorem dX9_share_45 : decode cX9_share 45 = .ok (.iload_n 2, 1) := by decide +kernel
theorem dX9_share_46 : decode cX9_share 46 = .ok (.iload_n 3, 1) := by decide +kernel
theorem dX9_share_47 : decode cX9_share 47 = .ok (.invokevirtual 143, 3) := by decide +kernel
theorem dX9_share_50 : decode cX9_share 50 = .ok (.ireturn, 1) := by decide +kernel
theorem dX9_link_0 : decode cX9_link 0 = .ok (.aload_n 0, 1) := by decide +kernel
theorem dX9_link_1 : decode cX9_link 1 = .ok (.iload_n 2, 1) := by decide +kernel
theorem dX9_link_2 : decode cX9_link 2 = .ok (.invokevirtual 100, 3) := by decide +kernel
theorem dX9_link_5 : decode cX9_link 5 = .ok (.astore 4, 2) := by decide +kernel
theorem dX9_link_7 : decode cX9_link 7 = .ok (.iload_n 1, 1) := by decide +kernel
theorem dX9_link_8 : decode cX9_link 8 = .ok (.invokestatic 51, 3) := by decide +kernel
theorem dX9_link_11 : decode cX9_link 11 = .ok (.ifCond .eq 18, 3) := by decide +kernel
theorem dX9_link_14 : decode cX9_link 14 = .ok (.aload 4, 2) := by decide +kernel
theorem dX9_link_16 : decode cX9_link 16 = .ok (.iconst 1, 1) := by decide +kernel
theorem dX9_link_17 : decode cX9_link 17 = .ok (.iload_n 1, 1) := by decide +kernel
theorem dX9_link_18 : decode cX9_link 18 = .ok (.isub, 1) := by decide +kernel
theorem dX9_link_19 : decode cX9_link 19 = .ok (.invokevirtual 65, 3) := by decide +kernel
theorem dX9_link_22 : decode cX9_link 22 = .ok (.iload_n 3, 1) := by decide +kernel
theorem dX9_link_23 : decode cX9_link 23 = .ok (.invokevirtual 146, 3) := by decide +kernel
theorem dX9_link_26 : decode cX9_link 26 = .ok (.ifCond .ne 13, 3) := by decide +kernel
theorem dX9_link_29 : decode cX9_link 29 = .ok (.new 58, 3) := by decide +kernel
theorem dX9_link_32 : decode cX9_link 32 = .ok (.dup, 1) := by decide +kernel
theorem dX9_link_33 : decode cX9_link 33 = .ok (.ldc 149, 2) := by decide +kernel
theorem dX9_link_35 : decode cX9_link 35 = .ok (.invokespecial 62, 3) := by decide +kernel
theorem dX9_link_38 : decode cX9_link 38 = .ok (.athrow, 1) := by decide +kernel
theorem dX9_link_39 : decode cX9_link 39 = .ok (.aload_n 0, 1) := by decide +kernel
theorem dX9_link_40 : decode cX9_link 40 = .ok (.getfield 19, 3) := by decide +kernel
theorem dX9_link_43 : decode cX9_link 43 = .ok (.iload_n 1, 1) := by decide +kernel
theorem dX9_link_44 : decode cX9_link 44 = .ok (.aload 4, 2) := by decide +kernel
theorem dX9_link_46 : decode cX9_link 46 = .ok (.iload_n 3, 1) := by decide +kernel
theorem dX9_link_47 : decode cX9_link 47 = .ok (.invokevirtual 151, 3) := by decide +kernel
theorem dX9_link_50 : decode cX9_link 50 = .ok (.ireturn, 1) := by decide +kernel
theorem dX9_isJoined_0 : decode cX9_isJoined 0 = .ok (.aload_n 0, 1) := by decide +kernel
theorem dX9_isJoined_1 : decode cX9_isJoined 1 = .ok (.iload_n 1, 1) := by decide +kernel
theorem dX9_isJoined_2 : decode cX9_isJoined 2 = .ok (.invokevirtual 100, 3) := by decide +kernel
theorem dX9_isJoined_5 : decode cX9_isJoined 5 = .ok (.astore 4, 2) := by decide +kernel
theorem dX9_isJoined_7 : decode cX9_isJoined 7 = .ok (.aload 4, 2) := by decide +kernel
theorem dX9_isJoined_9 : decode cX9_isJoined 9 = .ok (.iconst 0, 1) := by decide +kernel
theorem dX9_isJoined_10 : decode cX9_isJoined 10 = .ok (.invokevirtual 65, 3) := by decide +kernel
theorem dX9_isJoined_13 : decode cX9_isJoined 13 = .ok (.iload_n 2, 1) := by decide +kernel
theorem dX9_isJoined_14 : decode cX9_isJoined 14 = .ok (.invokevirtual 146, 3) := by decide +kernel
theorem dX9_isJoined_17 : decode cX9_isJoined 17 = .ok (.ifCond .eq 16, 3) := by decide +kernel
theorem dX9_isJoined_20 : decode cX9_isJoined 20 = .ok (.aload 4, 2) := by decide +kernel
theorem dX9_isJoined_22 : decode cX9_isJoined 22 = .ok (.iconst 1, 1) := by decide +kernel
theorem dX9_isJoined_23 : decode cX9_isJoined 23 = .ok (.invokevirtual 65, 3) := by decide +kernel
theorem dX9_isJoined_26 : decode cX9_isJoined 26 = .ok (.iload_n 3, 1) := by decide +kernel
theorem dX9_isJoined_27 : decode cX9_isJoined 27 = .ok (.invokevirtual 146, 3) := by decide +kernel
theorem dX9_isJoined_30 : decode cX9_isJoined 30 = .ok (.ifCond .ne 13, 3) := by decide +kernel
theorem dX9_isJoined_33 : decode cX9_isJoined 33 = .ok (.new 58, 3) := by decide +kernel
theorem dX9_isJoined_36 : decode cX9_isJoined 36 = .ok (.dup, 1) := by decide +kernel
theorem dX9_isJoined_37 : decode cX9_isJoined 37 = .ok (.ldc 155, 2) := by decide +kernel
theorem dX9_isJoined_39 : decode cX9_isJoined 39 = .ok (.invokespecial 62, 3) := by decide +kernel
theorem dX9_isJoined_42 : decode cX9_isJoined 42 = .ok (.athrow, 1) := by decide +kernel
theorem dX9_isJoined_43 : decode cX9_isJoined 43 = .ok (.aload_n 0, 1) := by decide +kernel
theorem dX9_isJoined_44 : decode cX9_isJoined 44 = .ok (.getfield 26, 3) := by decide +kernel
theorem dX9_isJoined_47 : decode cX9_isJoined 47 = .ok (.aload 4, 2) := by decide +kernel
theorem dX9_isJoined_49 : decode cX9_isJoined 49 = .ok (.aload_n 0, 1) := by decide +kernel
theorem dX9_isJoined_50 : decode cX9_isJoined 50 = .ok (.getfield 19, 3) := by decide +kernel
theorem dX9_isJoined_53 : decode cX9_isJoined 53 = .ok (.invokevirtual 157, 3) := by decide +kernel
theorem dX9_isJoined_56 : decode cX9_isJoined 56 = .ok (.aload_n 0, 1) := by decide +kernel
theorem dX9_isJoined_57 : decode cX9_isJoined 57 = .ok (.getfield 26, 3) := by decide +kernel
theorem dX9_isJoined_60 : decode cX9_isJoined 60 = .ok (.iload_n 2, 1) := by decide +kernel
theorem dX9_isJoined_61 : decode cX9_isJoined 61 = .ok (.iload_n 3, 1) := by decide +kernel
theorem dX9_isJoined_62 : decode cX9_isJoined 62 = .ok (.invokevirtual 161, 3) := by decide +kernel
theorem dX9_isJoined_65 : decode cX9_isJoined 65 = .ok (.ireturn, 1) := by decide +kernel
theorem dX9_phrases_0 : decode cX9_phrases 0 = .ok (.aload_n 0, 1) := by decide +kernel
theorem dX9_phrases_1 : decode cX9_phrases 1 = .ok (.iload_n 1, 1) := by decide +kernel
theorem dX9_phrases_2 : decode cX9_phrases 2 = .ok (.invokevirtual 100, 3) := by decide +kernel
theorem dX9_phrases_5 : decode cX9_phrases 5 = .ok (.astore_n 2, 1) := by decide +kernel
theorem dX9_phrases_6 : decode cX9_phrases 6 = .ok (.aload_n 0, 1) := by decide +kernel
theorem dX9_phrases_7 : decode cX9_phrases 7 = .ok (.getfield 26, 3) := by decide +kernel
theorem dX9_phrases_10 : decode cX9_phrases 10 = .ok (.aload_n 2, 1) := by decide +kernel
theorem dX9_phrases_11 : decode cX9_phrases 11 = .ok (.aload_n 0, 1) := by decide +kernel
theorem dX9_phrases_12 : decode cX9_phrases 12 = .ok (.getfield 19, 3) := by decide +kernel
theorem dX9_phrases_15 : decode cX9_phrases 15 = .ok (.invokevirtual 157, 3) := by decide +kernel
theorem dX9_phrases_18 : decode cX9_phrases 18 = .ok (.aload_n 0, 1) := by decide +kernel
theorem dX9_phrases_19 : decode cX9_phrases 19 = .ok (.getfield 33, 3) := by decide +kernel
theorem dX9_phrases_22 : decode cX9_phrases 22 = .ok (.aload_n 0, 1) := by decide +kernel
theorem dX9_phrases_23 : decode cX9_phrases 23 = .ok (.getfield 26, 3) := by decide +kernel
theorem dX9_phrases_26 : decode cX9_phrases 26 = .ok (.iconst (-1), 1) := by decide +kernel
theorem dX9_phrases_27 : decode cX9_phrases 27 = .ok (.invokevirtual 165, 3) := by decide +kernel
theorem dX9_phrases_30 : decode cX9_phrases 30 = .ok (.aload_n 0, 1) := by decide +kernel
theorem dX9_phrases_31 : decode cX9_phrases 31 = .ok (.getfield 33, 3) := by decide +kernel
theorem dX9_phrases_34 : decode cX9_phrases 34 = .ok (.invokevirtual 169, 3) := by decide +kernel
theorem dX9_phrases_37 : decode cX9_phrases 37 = .ok (.ireturn, 1) := by decide +kernel
theorem dX9_phrase_0 : decode cX9_phrase 0 = .ok (.aload_n 0, 1) := by decide +kernel
theorem dX9_phrase_1 : decode cX9_phrase 1 = .ok (.iload_n 1, 1) := by decide +kernel
theorem dX9_phrase_2 : decode cX9_phrase 2 = .ok (.invokevirtual 100, 3) := by decide +kernel
theorem dX9_phrase_5 : decode cX9_phrase 5 = .ok (.astore 4, 2) := by decide +kernel
theorem dX9_phrase_7 : decode cX9_phrase 7 = .ok (.aload_n 0, 1) := by decide +kernel
theorem dX9_phrase_8 : decode cX9_phrase 8 = .ok (.getfield 26, 3) := by decide +kernel
theorem dX9_phrase_11 : decode cX9_phrase 11 = .ok (.aload 4, 2) := by decide +kernel
theorem dX9_phrase_13 : decode cX9_phrase 13 = .ok (.aload_n 0, 1) := by decide +kernel
theorem dX9_phrase_14 : decode cX9_phrase 14 = .ok (.getfield 19, 3) := by decide +kernel
theorem dX9_phrase_17 : decode cX9_phrase 17 = .ok (.invokevirtual 157, 3) := by decide +kernel
theorem dX9_phrase_20 : decode cX9_phrase 20 = .ok (.aload_n 0, 1) := by decide +kernel
theorem dX9_phrase_21 : decode cX9_phrase 21 = .ok (.getfield 33, 3) := by decide +kernel
theorem dX9_phrase_24 : decode cX9_phrase 24 = .ok (.aload_n 0, 1) := by decide +kernel
theorem dX9_phrase_25 : decode cX9_phrase 25 = .ok (.getfield 26, 3) := by decide +kernel
theorem dX9_phrase_28 : decode cX9_phrase 28 = .ok (.iload_n 2, 1) := by decide +kernel
theorem dX9_phrase_29 : decode cX9_phrase 29 = .ok (.invokevirtual 165, 3) := by decide +kernel
theorem dX9_phrase_32 : decode cX9_phrase 32 = .ok (.iload_n 2, 1) := by decide +kernel
theorem dX9_phrase_33 : decode cX9_phrase 33 = .ok (.ifCond .lt 14, 3) := by decide +kernel
theorem dX9_phrase_36 : decode cX9_phrase 36 = .ok (.iload_n 2, 1) := by decide +kernel
theorem dX9_phrase_37 : decode cX9_phrase 37 = .ok (.aload_n 0, 1) := by decide +kernel
theorem dX9_phrase_38 : decode cX9_phrase 38 = .ok (.getfield 33, 3) := by decide +kernel
theorem dX9_phrase_41 : decode cX9_phrase 41 = .ok (.invokevirtual 169, 3) := by decide +kernel
theorem dX9_phrase_44 : decode cX9_phrase 44 = .ok (.if_icmp .lt 13, 3) := by decide +kernel
theorem dX9_phrase_47 : decode cX9_phrase 47 = .ok (.new 58, 3) := by decide +kernel
theorem dX9_phrase_50 : decode cX9_phrase 50 = .ok (.dup, 1) := by decide +kernel
theorem dX9_phrase_51 : decode cX9_phrase 51 = .ok (.ldc 172, 2) := by decide +kernel
theorem dX9_phrase_53 : decode cX9_phrase 53 = .ok (.invokespecial 62, 3) := by decide +kernel
theorem dX9_phrase_56 : decode cX9_phrase 56 = .ok (.athrow, 1) := by decide +kernel
theorem dX9_phrase_57 : decode cX9_phrase 57 = .ok (.iload_n 3, 1) := by decide +kernel
theorem dX9_phrase_58 : decode cX9_phrase 58 = .ok (.ifCond .lt 8, 3) := by decide +kernel
theorem dX9_phrase_61 : decode cX9_phrase 61 = .ok (.iload_n 3, 1) := by decide +kernel
theorem dX9_phrase_62 : decode cX9_phrase 62 = .ok (.iconst 4, 1) := by decide +kernel
theorem dX9_phrase_63 : decode cX9_phrase 63 = .ok (.if_icmp .lt 13, 3) := by decide +kernel
theorem dX9_phrase_66 : decode cX9_phrase 66 = .ok (.new 126, 3) := by decide +kernel
theorem dX9_phrase_69 : decode cX9_phrase 69 = .ok (.dup, 1) := by decide +kernel
theorem dX9_phrase_70 : decode cX9_phrase 70 = .ok (.ldc 174, 2) := by decide +kernel
theorem dX9_phrase_72 : decode cX9_phrase 72 = .ok (.invokespecial 130, 3) := by decide +kernel
theorem dX9_phrase_75 : decode cX9_phrase 75 = .ok (.athrow, 1) := by decide +kernel
theorem dX9_phrase_76 : decode cX9_phrase 76 = .ok (.aload_n 0, 1) := by decide +kernel
theorem dX9_phrase_77 : decode cX9_phrase 77 = .ok (.getfield 33, 3) := by decide +kernel
theorem dX9_phrase_80 : decode cX9_phrase 80 = .ok (.iload_n 3, 1) := by decide +kernel
theorem dX9_phrase_81 : decode cX9_phrase 81 = .ok (.invokevirtual 176, 3) := by decide +kernel
theorem dX9_phrase_84 : decode cX9_phrase 84 = .ok (.ireturn, 1) := by decide +kernel
theorem dX9_fertility_0 : decode cX9_fertility 0 = .ok (.iload_n 1, 1) := by decide +kernel
theorem dX9_fertility_1 : decode cX9_fertility 1 = .ok (.invokestatic 55, 3) := by decide +kernel
theorem dX9_fertility_4 : decode cX9_fertility 4 = .ok (.ifCond .ne 13, 3) := by decide +kernel
theorem dX9_fertility_7 : decode cX9_fertility 7 = .ok (.new 58, 3) := by decide +kernel
theorem dX9_fertility_10 : decode cX9_fertility 10 = .ok (.dup, 1) := by decide +kernel
theorem dX9_fertility_11 : decode cX9_fertility 11 = .ok (.ldc 179, 2) := by decide +kernel
theorem dX9_fertility_13 : decode cX9_fertility 13 = .ok (.invokespecial 62, 3) := by decide +kernel
theorem dX9_fertility_16 : decode cX9_fertility 16 = .ok (.athrow, 1) := by decide +kernel
theorem dX9_fertility_17 : decode cX9_fertility 17 = .ok (.iload_n 2, 1) := by decide +kernel
theorem dX9_fertility_18 : decode cX9_fertility 18 = .ok (.ifCond .lt 9, 3) := by decide +kernel
theorem dX9_fertility_21 : decode cX9_fertility 21 = .ok (.iload_n 2, 1) := by decide +kernel
theorem dX9_fertility_22 : decode cX9_fertility 22 = .ok (.bipush 8, 2) := by decide +kernel
theorem dX9_fertility_24 : decode cX9_fertility 24 = .ok (.if_icmp .le 13, 3) := by decide +kernel
theorem dX9_fertility_27 : decode cX9_fertility 27 = .ok (.new 126, 3) := by decide +kernel
theorem dX9_fertility_30 : decode cX9_fertility 30 = .ok (.dup, 1) := by decide +kernel
theorem dX9_fertility_31 : decode cX9_fertility 31 = .ok (.ldc 181, 2) := by decide +kernel
theorem dX9_fertility_33 : decode cX9_fertility 33 = .ok (.invokespecial 130, 3) := by decide +kernel
theorem dX9_fertility_36 : decode cX9_fertility 36 = .ok (.athrow, 1) := by decide +kernel
theorem dX9_fertility_37 : decode cX9_fertility 37 = .ok (.iconst 0, 1) := by decide +kernel
theorem dX9_fertility_38 : decode cX9_fertility 38 = .ok (.istore_n 3, 1) := by decide +kernel
theorem dX9_fertility_39 : decode cX9_fertility 39 = .ok (.iconst 0, 1) := by decide +kernel
theorem dX9_fertility_40 : decode cX9_fertility 40 = .ok (.istore 4, 2) := by decide +kernel
theorem dX9_fertility_42 : decode cX9_fertility 42 = .ok (.iload 4, 2) := by decide +kernel
theorem dX9_fertility_44 : decode cX9_fertility 44 = .ok (.aload_n 0, 1) := by decide +kernel
theorem dX9_fertility_45 : decode cX9_fertility 45 = .ok (.getfield 12, 3) := by decide +kernel
theorem dX9_fertility_48 : decode cX9_fertility 48 = .ok (.invokevirtual 183, 3) := by decide +kernel
theorem dX9_fertility_51 : decode cX9_fertility 51 = .ok (.if_icmp .ge 53, 3) := by decide +kernel
theorem dX9_fertility_54 : decode cX9_fertility 54 = .ok (.aload_n 0, 1) := by decide +kernel
theorem dX9_fertility_55 : decode cX9_fertility 55 = .ok (.getfield 12, 3) := by decide +kernel
theorem dX9_fertility_58 : decode cX9_fertility 58 = .ok (.iload 4, 2) := by decide +kernel
theorem dX9_fertility_60 : decode cX9_fertility 60 = .ok (.invokevirtual 186, 3) := by decide +kernel
theorem dX9_fertility_63 : decode cX9_fertility 63 = .ok (.astore 5, 2) := by decide +kernel
theorem dX9_fertility_65 : decode cX9_fertility 65 = .ok (.aload 5, 2) := by decide +kernel
theorem dX9_fertility_67 : decode cX9_fertility 67 = .ok (.ifnull 31, 3) := by decide +kernel
theorem dX9_fertility_70 : decode cX9_fertility 70 = .ok (.aload_n 0, 1) := by decide +kernel
theorem dX9_fertility_71 : decode cX9_fertility 71 = .ok (.getfield 26, 3) := by decide +kernel
theorem dX9_fertility_74 : decode cX9_fertility 74 = .ok (.aload 5, 2) := by decide +kernel
theorem dX9_fertility_76 : decode cX9_fertility 76 = .ok (.aload_n 0, 1) := by decide +kernel
theorem dX9_fertility_77 : decode cX9_fertility 77 = .ok (.getfield 19, 3) := by decide +kernel
theorem dX9_fertility_80 : decode cX9_fertility 80 = .ok (.invokevirtual 157, 3) := by decide +kernel
theorem dX9_fertility_83 : decode cX9_fertility 83 = .ok (.iload_n 3, 1) := by decide +kernel
theorem dX9_fertility_84 : decode cX9_fertility 84 = .ok (.aload_n 0, 1) := by decide +kernel
theorem dX9_fertility_85 : decode cX9_fertility 85 = .ok (.aload 5, 2) := by decide +kernel
theorem dX9_fertility_87 : decode cX9_fertility 87 = .ok (.iconst 0, 1) := by decide +kernel
theorem dX9_fertility_88 : decode cX9_fertility 88 = .ok (.invokevirtual 65, 3) := by decide +kernel
theorem dX9_fertility_91 : decode cX9_fertility 91 = .ok (.iload_n 1, 1) := by decide +kernel
theorem dX9_fertility_92 : decode cX9_fertility 92 = .ok (.iload_n 2, 1) := by decide +kernel
theorem dX9_fertility_93 : decode cX9_fertility 93 = .ok (.invokevirtual 189, 3) := by decide +kernel
theorem dX9_fertility_96 : decode cX9_fertility 96 = .ok (.iadd, 1) := by decide +kernel
theorem dX9_fertility_97 : decode cX9_fertility 97 = .ok (.istore_n 3, 1) := by decide +kernel
theorem dX9_fertility_98 : decode cX9_fertility 98 = .ok (.iinc 4 1, 3) := by decide +kernel
theorem dX9_fertility_101 : decode cX9_fertility 101 = .ok (.goto (-59), 3) := by decide +kernel
theorem dX9_fertility_104 : decode cX9_fertility 104 = .ok (.iload_n 3, 1) := by decide +kernel
theorem dX9_fertility_105 : decode cX9_fertility 105 = .ok (.ireturn, 1) := by decide +kernel
theorem dX9_total_0 : decode cX9_total 0 = .ok (.aload_n 0, 1) := by decide +kernel
theorem dX9_total_1 : decode cX9_total 1 = .ok (.getfield 40, 3) := by decide +kernel
theorem dX9_total_4 : decode cX9_total 4 = .ok (.aload_n 0, 1) := by decide +kernel
theorem dX9_total_5 : decode cX9_total 5 = .ok (.iload_n 1, 1) := by decide +kernel
theorem dX9_total_6 : decode cX9_total 6 = .ok (.invokevirtual 193, 3) := by decide +kernel
theorem dX9_total_9 : decode cX9_total 9 = .ok (.aload_n 0, 1) := by decide +kernel
theorem dX9_total_10 : decode cX9_total 10 = .ok (.getfield 19, 3) := by decide +kernel
theorem dX9_total_13 : decode cX9_total 13 = .ok (.iconst 0, 1) := by decide +kernel
theorem dX9_total_14 : decode cX9_total 14 = .ok (.invokevirtual 111, 3) := by decide +kernel
theorem dX9_total_17 : decode cX9_total 17 = .ok (.invokevirtual 196, 3) := by decide +kernel
theorem dX9_total_20 : decode cX9_total 20 = .ok (.aload_n 0, 1) := by decide +kernel
theorem dX9_total_21 : decode cX9_total 21 = .ok (.getfield 40, 3) := by decide +kernel
theorem dX9_total_24 : decode cX9_total 24 = .ok (.invokevirtual 200, 3) := by decide +kernel
theorem dX9_total_27 : decode cX9_total 27 = .ok (.lreturn, 1) := by decide +kernel
theorem dX9_totalAnew_0 : decode cX9_totalAnew 0 = .ok (.aload_n 0, 1) := by decide +kernel
theorem dX9_totalAnew_1 : decode cX9_totalAnew 1 = .ok (.getfield 40, 3) := by decide +kernel
theorem dX9_totalAnew_4 : decode cX9_totalAnew 4 = .ok (.aload_n 0, 1) := by decide +kernel
theorem dX9_totalAnew_5 : decode cX9_totalAnew 5 = .ok (.iload_n 1, 1) := by decide +kernel
theorem dX9_totalAnew_6 : decode cX9_totalAnew 6 = .ok (.invokevirtual 193, 3) := by decide +kernel
theorem dX9_totalAnew_9 : decode cX9_totalAnew 9 = .ok (.aload_n 0, 1) := by decide +kernel
theorem dX9_totalAnew_10 : decode cX9_totalAnew 10 = .ok (.getfield 19, 3) := by decide +kernel
theorem dX9_totalAnew_13 : decode cX9_totalAnew 13 = .ok (.iconst 0, 1) := by decide +kernel
theorem dX9_totalAnew_14 : decode cX9_totalAnew 14 = .ok (.invokevirtual 111, 3) := by decide +kernel
theorem dX9_totalAnew_17 : decode cX9_totalAnew 17 = .ok (.invokevirtual 196, 3) := by decide +kernel
theorem dX9_totalAnew_20 : decode cX9_totalAnew 20 = .ok (.aload_n 0, 1) := by decide +kernel
theorem dX9_totalAnew_21 : decode cX9_totalAnew 21 = .ok (.getfield 40, 3) := by decide +kernel
theorem dX9_totalAnew_24 : decode cX9_totalAnew 24 = .ok (.invokevirtual 204, 3) := by decide +kernel
theorem dX9_totalAnew_27 : decode cX9_totalAnew 27 = .ok (.lreturn, 1) := by decide +kernel
theorem dX9_isSide_0 : decode cX9_isSide 0 = .ok (.iload_n 0, 1) := by decide +kernel
theorem dX9_isSide_1 : decode cX9_isSide 1 = .ok (.ifCond .lt 12, 3) := by decide +kernel
theorem dX9_isSide_4 : decode cX9_isSide 4 = .ok (.iload_n 0, 1) := by decide +kernel
theorem dX9_isSide_5 : decode cX9_isSide 5 = .ok (.iconst 2, 1) := by decide +kernel
theorem dX9_isSide_6 : decode cX9_isSide 6 = .ok (.if_icmp .ge 7, 3) := by decide +kernel
theorem dX9_isSide_9 : decode cX9_isSide 9 = .ok (.iconst 1, 1) := by decide +kernel
theorem dX9_isSide_10 : decode cX9_isSide 10 = .ok (.goto 4, 3) := by decide +kernel
theorem dX9_isSide_13 : decode cX9_isSide 13 = .ok (.iconst 0, 1) := by decide +kernel
theorem dX9_isSide_14 : decode cX9_isSide 14 = .ok (.ireturn, 1) := by decide +kernel
theorem dX9_isWord_0 : decode cX9_isWord 0 = .ok (.iload_n 0, 1) := by decide +kernel
theorem dX9_isWord_1 : decode cX9_isWord 1 = .ok (.ifCond .lt 13, 3) := by decide +kernel
theorem dX9_isWord_4 : decode cX9_isWord 4 = .ok (.iload_n 0, 1) := by decide +kernel
theorem dX9_isWord_5 : decode cX9_isWord 5 = .ok (.bipush 15, 2) := by decide +kernel
theorem dX9_isWord_7 : decode cX9_isWord 7 = .ok (.if_icmp .ge 7, 3) := by decide +kernel
theorem dX9_isWord_10 : decode cX9_isWord 10 = .ok (.iconst 1, 1) := by decide +kernel
theorem dX9_isWord_11 : decode cX9_isWord 11 = .ok (.goto 4, 3) := by decide +kernel
theorem dX9_isWord_14 : decode cX9_isWord 14 = .ok (.iconst 0, 1) := by decide +kernel
theorem dX9_isWord_15 : decode cX9_isWord 15 = .ok (.ireturn, 1) := by decide +kernel
theorem dX9_pairThatIsThere_0 : decode cX9_pairThatIsThere 0 = .ok (.aload_n 0, 1) := by decide +kernel
theorem dX9_pairThatIsThere_1 : decode cX9_pairThatIsThere 1 = .ok (.getfield 12, 3) := by decide +kernel
theorem dX9_pairThatIsThere_4 : decode cX9_pairThatIsThere 4 = .ok (.iload_n 1, 1) := by decide +kernel
theorem dX9_pairThatIsThere_5 : decode cX9_pairThatIsThere 5 = .ok (.invokevirtual 186, 3) := by decide +kernel
theorem dX9_pairThatIsThere_8 : decode cX9_pairThatIsThere 8 = .ok (.astore_n 2, 1) := by decide +kernel
theorem dX9_pairThatIsThere_9 : decode cX9_pairThatIsThere 9 = .ok (.aload_n 2, 1) := by decide +kernel
theorem dX9_pairThatIsThere_10 : decode cX9_pairThatIsThere 10 = .ok (.ifnonnull 13, 3) := by decide +kernel
theorem dX9_pairThatIsThere_13 : decode cX9_pairThatIsThere 13 = .ok (.new 58, 3) := by decide +kernel
theorem dX9_pairThatIsThere_16 : decode cX9_pairThatIsThere 16 = .ok (.dup, 1) := by decide +kernel
theorem dX9_pairThatIsThere_17 : decode cX9_pairThatIsThere 17 = .ok (.ldc 207, 2) := by decide +kernel
theorem dX9_pairThatIsThere_19 : decode cX9_pairThatIsThere 19 = .ok (.invokespecial 62, 3) := by decide +kernel
theorem dX9_pairThatIsThere_22 : decode cX9_pairThatIsThere 22 = .ok (.athrow, 1) := by decide +kernel
theorem dX9_pairThatIsThere_23 : decode cX9_pairThatIsThere 23 = .ok (.aload_n 2, 1) := by decide +kernel
theorem dX9_pairThatIsThere_24 : decode cX9_pairThatIsThere 24 = .ok (.areturn, 1) := by decide +kernel
theorem dX9_shortPair_0 : decode cX9_shortPair 0 = .ok (.aload_n 0, 1) := by decide +kernel
theorem dX9_shortPair_1 : decode cX9_shortPair 1 = .ok (.iload_n 1, 1) := by decide +kernel
theorem dX9_shortPair_2 : decode cX9_shortPair 2 = .ok (.invokevirtual 100, 3) := by decide +kernel
theorem dX9_shortPair_5 : decode cX9_shortPair 5 = .ok (.astore_n 2, 1) := by decide +kernel
theorem dX9_shortPair_6 : decode cX9_shortPair 6 = .ok (.aload_n 2, 1) := by decide +kernel
theorem dX9_shortPair_7 : decode cX9_shortPair 7 = .ok (.iconst 1, 1) := by decide +kernel
theorem dX9_shortPair_8 : decode cX9_shortPair 8 = .ok (.invokevirtual 65, 3) := by decide +kernel
theorem dX9_shortPair_11 : decode cX9_shortPair 11 = .ok (.invokevirtual 84, 3) := by decide +kernel
theorem dX9_shortPair_14 : decode cX9_shortPair 14 = .ok (.iconst 4, 1) := by decide +kernel
theorem dX9_shortPair_15 : decode cX9_shortPair 15 = .ok (.if_icmp .le 13, 3) := by decide +kernel
theorem dX9_shortPair_18 : decode cX9_shortPair 18 = .ok (.new 75, 3) := by decide +kernel
theorem dX9_shortPair_21 : decode cX9_shortPair 21 = .ok (.dup, 1) := by decide +kernel
theorem dX9_shortPair_22 : decode cX9_shortPair 22 = .ok (.ldc 209, 2) := by decide +kernel
theorem dX9_shortPair_24 : decode cX9_shortPair 24 = .ok (.invokespecial 79, 3) := by decide +kernel
theorem dX9_shortPair_27 : decode cX9_shortPair 27 = .ok (.athrow, 1) := by decide +kernel
theorem dX9_shortPair_28 : decode cX9_shortPair 28 = .ok (.aload_n 2, 1) := by decide +kernel
theorem dX9_shortPair_29 : decode cX9_shortPair 29 = .ok (.areturn, 1) := by decide +kernel
theorem dX9_placesWith_0 : decode cX9_placesWith 0 = .ok (.iconst 0, 1) := by decide +kernel
theorem dX9_placesWith_1 : decode cX9_placesWith 1 = .ok (.istore 4, 2) := by decide +kernel
theorem dX9_placesWith_3 : decode cX9_placesWith 3 = .ok (.iconst 0, 1) := by decide +kernel
theorem dX9_placesWith_4 : decode cX9_placesWith 4 = .ok (.istore 5, 2) := by decide +kernel
theorem dX9_placesWith_6 : decode cX9_placesWith 6 = .ok (.iload 5, 2) := by decide +kernel
theorem dX9_placesWith_8 : decode cX9_placesWith 8 = .ok (.aload_n 1, 1) := by decide +kernel
theorem dX9_placesWith_9 : decode cX9_placesWith 9 = .ok (.invokevirtual 84, 3) := by decide +kernel
theorem dX9_placesWith_12 : decode cX9_placesWith 12 = .ok (.if_icmp .ge 35, 3) := by decide +kernel
theorem dX9_placesWith_15 : decode cX9_placesWith 15 = .ok (.aload_n 1, 1) := by decide +kernel
theorem dX9_placesWith_16 : decode cX9_placesWith 16 = .ok (.iload 5, 2) := by decide +kernel
theorem dX9_placesWith_18 : decode cX9_placesWith 18 = .ok (.invokevirtual 137, 3) := by decide +kernel
theorem dX9_placesWith_21 : decode cX9_placesWith 21 = .ok (.iload_n 2, 1) := by decide +kernel
theorem dX9_placesWith_22 : decode cX9_placesWith 22 = .ok (.if_icmp .ne 19, 3) := by decide +kernel
theorem dX9_placesWith_25 : decode cX9_placesWith 25 = .ok (.aload_n 0, 1) := by decide +kernel
theorem dX9_placesWith_26 : decode cX9_placesWith 26 = .ok (.getfield 26, 3) := by decide +kernel
theorem dX9_placesWith_29 : decode cX9_placesWith 29 = .ok (.iload 5, 2) := by decide +kernel
theorem dX9_placesWith_31 : decode cX9_placesWith 31 = .ok (.invokevirtual 211, 3) := by decide +kernel
theorem dX9_placesWith_34 : decode cX9_placesWith 34 = .ok (.iload_n 3, 1) := by decide +kernel
theorem dX9_placesWith_35 : decode cX9_placesWith 35 = .ok (.if_icmp .ne 6, 3) := by decide +kernel
theorem dX9_placesWith_38 : decode cX9_placesWith 38 = .ok (.iinc 4 1, 3) := by decide +kernel
theorem dX9_placesWith_41 : decode cX9_placesWith 41 = .ok (.iinc 5 1, 3) := by decide +kernel
theorem dX9_placesWith_44 : decode cX9_placesWith 44 = .ok (.goto (-38), 3) := by decide +kernel
theorem dX9_placesWith_47 : decode cX9_placesWith 47 = .ok (.iload 4, 2) := by decide +kernel
theorem dX9_placesWith_49 : decode cX9_placesWith 49 = .ok (.ireturn, 1) := by decide +kernel
theorem dX10_init_0 : decode cX10_init 0 = .ok (.aload_n 0, 1) := by decide +kernel
theorem dX10_init_1 : decode cX10_init 1 = .ok (.invokespecial 1, 3) := by decide +kernel
theorem dX10_init_4 : decode cX10_init 4 = .ok (.aload_n 0, 1) := by decide +kernel
theorem dX10_init_5 : decode cX10_init 5 = .ok (.iconst 2, 1) := by decide +kernel
theorem dX10_init_6 : decode cX10_init 6 = .ok (.newarray .int, 2) := by decide +kernel
theorem dX10_init_8 : decode cX10_init 8 = .ok (.putfield 7, 3) := by decide +kernel
theorem dX10_init_11 : decode cX10_init 11 = .ok (.aload_n 0, 1) := by decide +kernel
theorem dX10_init_12 : decode cX10_init 12 = .ok (.bipush 16, 2) := by decide +kernel
theorem dX10_init_14 : decode cX10_init 14 = .ok (.newarray .int, 2) := by decide +kernel
theorem dX10_init_16 : decode cX10_init 16 = .ok (.putfield 13, 3) := by decide +kernel
theorem dX10_init_19 : decode cX10_init 19 = .ok (.aload_n 0, 1) := by decide +kernel
theorem dX10_init_20 : decode cX10_init 20 = .ok (.bipush 40, 2) := by decide +kernel
theorem dX10_init_22 : decode cX10_init 22 = .ok (.newarray .int, 2) := by decide +kernel
theorem dX10_init_24 : decode cX10_init 24 = .ok (.putfield 16, 3) := by decide +kernel
theorem dX10_init_27 : decode cX10_init 27 = .ok (.aload_n 0, 1) := by decide +kernel
theorem dX10_init_28 : decode cX10_init 28 = .ok (.sipush 320, 3) := by decide +kernel
theorem dX10_init_31 : decode cX10_init 31 = .ok (.newarray .int, 2) := by decide +kernel
theorem dX10_init_33 : decode cX10_init 33 = .ok (.putfield 19, 3) := by decide +kernel
theorem dX10_init_36 : decode cX10_init 36 = .ok (.aload_n 0, 1) := by decide +kernel
theorem dX10_init_37 : decode cX10_init 37 = .ok (.bipush 20, 2) := by decide +kernel
theorem dX10_init_39 : decode cX10_init 39 = .ok (.newarray .boolean, 2) := by decide +kernel
theorem dX10_init_41 : decode cX10_init 41 = .ok (.putfield 22, 3) := by decide +kernel
theorem dX10_init_44 : decode cX10_init 44 = .ok (.aload_n 0, 1) := by decide +kernel
theorem dX10_init_45 : decode cX10_init 45 = .ok (.iconst 5, 1) := by decide +kernel
theorem dX10_init_46 : decode cX10_init 46 = .ok (.newarray .int, 2) := by decide +kernel
theorem dX10_init_48 : decode cX10_init 48 = .ok (.putfield 26, 3) := by decide +kernel
theorem dX10_init_51 : decode cX10_init 51 = .ok (.aload_n 0, 1) := by decide +kernel
theorem dX10_init_52 : decode cX10_init 52 = .ok (.sipush 480, 3) := by decide +kernel
theorem dX10_init_55 : decode cX10_init 55 = .ok (.newarray .int, 2) := by decide +kernel
theorem dX10_init_57 : decode cX10_init 57 = .ok (.putfield 29, 3) := by decide +kernel
theorem dX10_init_60 : decode cX10_init 60 = .ok (.aload_n 0, 1) := by decide +kernel
theorem dX10_init_61 : decode cX10_init 61 = .ok (.sipush 480, 3) := by decide +kernel
theorem dX10_init_64 : decode cX10_init 64 = .ok (.newarray .long, 2) := by decide +kernel
theorem dX10_init_66 : decode cX10_init 66 = .ok (.putfield 32, 3) := by decide +kernel
theorem dX10_init_69 : decode cX10_init 69 = .ok (.aload_n 0, 1) := by decide +kernel
theorem dX10_init_70 : decode cX10_init 70 = .ok (.bipush 15, 2) := by decide +kernel
theorem dX10_init_72 : decode cX10_init 72 = .ok (.newarray .long, 2) := by decide +kernel
theorem dX10_init_74 : decode cX10_init 74 = .ok (.putfield 36, 3) := by decide +kernel
theorem dX10_init_77 : decode cX10_init 77 = .ok (.aload_n 0, 1) := by decide +kernel
theorem dX10_init_78 : decode cX10_init 78 = .ok (.bipush 15, 2) := by decide +kernel
theorem dX10_init_80 : decode cX10_init 80 = .ok (.newarray .int, 2) := by decide +kernel
theorem dX10_init_82 : decode cX10_init 82 = .ok (.putfield 39, 3) := by decide +kernel
theorem dX10_init_85 : decode cX10_init 85 = .ok (.aload_n 0, 1) := by decide +kernel
theorem dX10_init_86 : decode cX10_init 86 = .ok (.bipush 64, 2) := by decide +kernel
theorem dX10_init_88 : decode cX10_init 88 = .ok (.newarray .int, 2) := by decide +kernel
theorem dX10_init_90 : decode cX10_init 90 = .ok (.putfield 42, 3) := by decide +kernel
theorem dX10_init_93 : decode cX10_init 93 = .ok (.aload_n 0, 1) := by decide +kernel
theorem dX10_init_94 : decode cX10_init 94 = .ok (.bipush 64, 2) := by decide +kernel
theorem dX10_init_96 : decode cX10_init 96 = .ok (.newarray .boolean, 2) := by decide +kernel
theorem dX10_init_98 : decode cX10_init 98 = .ok (.putfield 45, 3) := by decide +kernel
theorem dX10_init_101 : decode cX10_init 101 = .ok (.aload_n 0, 1) := by decide +kernel
theorem dX10_init_102 : decode cX10_init 102 = .ok (.getfield 26, 3) := by decide +kernel
theorem dX10_init_105 : decode cX10_init 105 = .ok (.iconst 0, 1) := by decide +kernel
theorem dX10_init_106 : decode cX10_init 106 = .ok (.iconst 4, 1) := by decide +kernel
theorem dX10_init_107 : decode cX10_init 107 = .ok (.iastore, 1) := by decide +kernel
theorem dX10_init_108 : decode cX10_init 108 = .ok (.aload_n 0, 1) := by decide +kernel
theorem dX10_init_109 : decode cX10_init 109 = .ok (.getfield 26, 3) := by decide +kernel
theorem dX10_init_112 : decode cX10_init 112 = .ok (.iconst 1, 1) := by decide +kernel
theorem dX10_init_113 : decode cX10_init 113 = .ok (.iconst 3, 1) := by decide +kernel
theorem dX10_init_114 : decode cX10_init 114 = .ok (.iastore, 1) := by decide +kernel
theorem dX10_init_115 : decode cX10_init 115 = .ok (.aload_n 0, 1) := by decide +kernel
theorem dX10_init_116 : decode cX10_init 116 = .ok (.getfield 26, 3) := by decide +kernel
theorem dX10_init_119 : decode cX10_init 119 = .ok (.iconst 2, 1) := by decide +kernel
theorem dX10_init_120 : decode cX10_init 120 = .ok (.iconst 2, 1) := by decide +kernel
theorem dX10_init_121 : decode cX10_init 121 = .ok (.iastore, 1) := by decide +kernel
theorem dX10_init_122 : decode cX10_init 122 = .ok (.aload_n 0, 1) := by decide +kernel
theorem dX10_init_123 : decode cX10_init 123 = .ok (.getfield 26, 3) := by decide +kernel
theorem dX10_init_126 : decode cX10_init 126 = .ok (.iconst 3, 1) := by decide +kernel
theorem dX10_init_127 : decode cX10_init 127 = .ok (.iconst 1, 1) := by decide +kernel
theorem dX10_init_128 : decode cX10_init 128 = .ok (.iastore, 1) := by decide +kernel
theorem dX10_init_129 : decode cX10_init 129 = .ok (.aload_n 0, 1) := by decide +kernel
theorem dX10_init_130 : decode cX10_init 130 = .ok (.getfield 26, 3) := by decide +kernel
theorem dX10_init_133 : decode cX10_init 133 = .ok (.iconst 4, 1) := by decide +kernel
theorem dX10_init_134 : decode cX10_init 134 = .ok (.iconst 1, 1) := by decide +kernel
theorem dX10_init_135 : decode cX10_init 135 = .ok (.iastore, 1) := by decide +kernel
theorem dX10_init_136 : decode cX10_init 136 = .ok (.return_, 1) := by decide +kernel
theorem dX10_thrown_0 : decode cX10_thrown 0 = .ok (.aload_n 0, 1) := by decide +kernel
theorem dX10_thrown_1 : decode cX10_thrown 1 = .ok (.getfield 48, 3) := by decide +kernel
theorem dX10_thrown_4 : decode cX10_thrown 4 = .ok (.ireturn, 1) := by decide +kernel
theorem dX10_in_0 : decode cX10_in 0 = .ok (.iload_n 0, 1) := by decide +kernel
theorem dX10_in_1 : decode cX10_in 1 = .ok (.iload_n 1, 1) := by decide +kernel
theorem dX10_in_2 : decode cX10_in 2 = .ok (.if_icmp .lt 12, 3) := by decide +kernel
theorem dX10_in_5 : decode cX10_in 5 = .ok (.iload_n 0, 1) := by decide +kernel
theorem dX10_in_6 : decode cX10_in 6 = .ok (.iload_n 2, 1) := by decide +kernel
theorem dX10_in_7 : decode cX10_in 7 = .ok (.if_icmp .gt 7, 3) := by decide +kernel
theorem dX10_in_10 : decode cX10_in 10 = .ok (.iconst 1, 1) := by decide +kernel
theorem dX10_in_11 : decode cX10_in 11 = .ok (.goto 4, 3) := by decide +kernel
theorem dX10_in_14 : decode cX10_in 14 = .ok (.iconst 0, 1) := by decide +kernel
theorem dX10_in_15 : decode cX10_in 15 = .ok (.ireturn, 1) := by decide +kernel
theorem dX10_goes_0 : decode cX10_goes 0 = .ok (.aload_n 0, 1) := by decide +kernel
theorem dX10_goes_1 : decode cX10_goes 1 = .ok (.iload_n 1, 1) := by decide +kernel
theorem dX10_goes_2 : decode cX10_goes 2 = .ok (.ifCond .ne 7, 3) := by decide +kernel
theorem dX10_goes_5 : decode cX10_goes 5 = .ok (.iconst 1, 1) := by decide +kernel
theorem dX10_goes_6 : decode cX10_goes 6 = .ok (.goto 20, 3) := by decide +kernel
theorem dX10_goes_9 : decode cX10_goes 9 = .ok (.iload_n 2, 1) := by decide +kernel
theorem dX10_goes_10 : decode cX10_goes 10 = .ok (.ifCond .ne 7, 3) := by decide +kernel
theorem dX10_goes_13 : decode cX10_goes 13 = .ok (.iconst 2, 1) := by decide +kernel
theorem dX10_goes_14 : decode cX10_goes 14 = .ok (.goto 12, 3) := by decide +kernel
theorem dX10_goes_17 : decode cX10_goes 17 = .ok (.iload_n 3, 1) := by decide +kernel
theorem dX10_goes_18 : decode cX10_goes 18 = .ok (.ifCond .ne 7, 3) := by decide +kernel
theorem dX10_goes_21 : decode cX10_goes 21 = .ok (.iconst 3, 1) := by decide +kernel
theorem dX10_goes_22 : decode cX10_goes 22 = .ok (.goto 4, 3) := by decide +kernel
theorem dX10_goes_25 : decode cX10_goes 25 = .ok (.iconst 0, 1) := by decide +kernel
theorem dX10_goes_26 : decode cX10_goes 26 = .ok (.putfield 48, 3) := by decide +kernel
theorem dX10_goes_29 : decode cX10_goes 29 = .ok (.aload_n 0, 1) := by decide +kernel
theorem dX10_goes_30 : decode cX10_goes 30 = .ok (.getfield 48, 3) := by decide +kernel
theorem dX10_goes_33 : decode cX10_goes 33 = .ok (.ifCond .ne 7, 3) := by decide +kernel
theorem dX10_goes_36 : decode cX10_goes 36 = .ok (.iconst 1, 1) := by decide +kernel
theorem dX10_goes_37 : decode cX10_goes 37 = .ok (.goto 4, 3) := by decide +kernel
theorem dX10_goes_40 : decode cX10_goes 40 = .ok (.iconst 0, 1) := by decide +kernel
theorem dX10_goes_41 : decode cX10_goes 41 = .ok (.ireturn, 1) := by decide +kernel
theorem dX10_isThere_0 : decode cX10_isThere 0 = .ok (.iload_n 1, 1) := by decide +kernel
theorem dX10_isThere_1 : decode cX10_isThere 1 = .ok (.iconst 0, 1) := by decide +kernel
theorem dX10_isThere_2 : decode cX10_isThere 2 = .ok (.aload_n 0, 1) := by decide +kernel
theorem dX10_isThere_3 : decode cX10_isThere 3 = .ok (.getfield 52, 3) := by decide +kernel
theorem dX10_isThere_6 : decode cX10_isThere 6 = .ok (.iconst 1, 1) := by decide +kernel
theorem dX10_isThere_7 : decode cX10_isThere 7 = .ok (.isub, 1) := by decide +kernel
theorem dX10_isThere_8 : decode cX10_isThere 8 = .ok (.invokestatic 55, 3) := by decide +kernel
theorem dX10_isThere_11 : decode cX10_isThere 11 = .ok (.ifCond .eq 16, 3) := by decide +kernel
theorem dX10_isThere_14 : decode cX10_isThere 14 = .ok (.aload_n 0, 1) := by decide +kernel
theorem dX10_isThere_15 : decode cX10_isThere 15 = .ok (.getfield 22, 3) := by decide +kernel
theorem dX10_isThere_18 : decode cX10_isThere 18 = .ok (.iload_n 1, 1) := by decide +kernel
theorem dX10_isThere_19 : decode cX10_isThere 19 = .ok (.baload, 1) := by decide +kernel
theorem dX10_isThere_20 : decode cX10_isThere 20 = .ok (.ifCond .ne 7, 3) := by decide +kernel
theorem dX10_isThere_23 : decode cX10_isThere 23 = .ok (.iconst 1, 1) := by decide +kernel
theorem dX10_isThere_24 : decode cX10_isThere 24 = .ok (.goto 4, 3) := by decide +kernel
theorem dX10_isThere_27 : decode cX10_isThere 27 = .ok (.iconst 0, 1) := by decide +kernel
theorem dX10_isThere_28 : decode cX10_isThere 28 = .ok (.ireturn, 1) := by decide +kernel
theorem dX10_longOf_0 : decode cX10_longOf 0 = .ok (.aload_n 0, 1) := by decide +kernel
theorem dX10_longOf_1 : decode cX10_longOf 1 = .ok (.getfield 16, 3) := by decide +kernel
theorem dX10_longOf_4 : decode cX10_longOf 4 = .ok (.iconst 2, 1) := by decide +kernel
theorem dX10_longOf_5 : decode cX10_longOf 5 = .ok (.iload_n 1, 1) := by decide +kernel
theorem dX10_longOf_6 : decode cX10_longOf 6 = .ok (.imul, 1) := by decide +kernel
theorem dX10_longOf_7 : decode cX10_longOf 7 = .ok (.iload_n 2, 1) := by decide +kernel
theorem dX10_longOf_8 : decode cX10_longOf 8 = .ok (.iadd, 1) := by decide +kernel
theorem dX10_longOf_9 : decode cX10_longOf 9 = .ok (.iaload, 1) := by decide +kernel
theorem dX10_longOf_10 : decode cX10_longOf 10 = .ok (.ireturn, 1) := by decide +kernel
theorem dX10_wordAt_0 : decode cX10_wordAt 0 = .ok (.aload_n 0, 1) := by decide +kernel
theorem dX10_wordAt_1 : decode cX10_wordAt 1 = .ok (.getfield 19, 3) := by decide +kernel
theorem dX10_wordAt_4 : decode cX10_wordAt 4 = .ok (.bipush 16, 2) := by decide +kernel
theorem dX10_wordAt_6 : decode cX10_wordAt 6 = .ok (.iload_n 1, 1) := by decide +kernel
theorem dX10_wordAt_7 : decode cX10_wordAt 7 = .ok (.imul, 1) := by decide +kernel
theorem dX10_wordAt_8 : decode cX10_wordAt 8 = .ok (.bipush 8, 2) := by decide +kernel
theorem dX10_wordAt_10 : decode cX10_wordAt 10 = .ok (.iload_n 2, 1) := by decide +kernel
theorem dX10_wordAt_11 : decode cX10_wordAt 11 = .ok (.imul, 1) := by decide +kernel
theorem dX10_wordAt_12 : decode cX10_wordAt 12 = .ok (.iadd, 1) := by decide +kernel
theorem dX10_wordAt_13 : decode cX10_wordAt 13 = .ok (.iload_n 3, 1) := by decide +kernel
theorem dX10_wordAt_14 : decode cX10_wordAt 14 = .ok (.iadd, 1) := by decide +kernel
theorem dX10_wordAt_15 : decode cX10_wordAt 15 = .ok (.iaload, 1) := by decide +kernel
theorem dX10_wordAt_16 : decode cX10_wordAt 16 = .ok (.ireturn, 1) := by decide +kernel
theorem dX10_at_0 : decode cX10_at 0 = .ok (.sipush 240, 3) := by decide +kernel
theorem dX10_at_3 : decode cX10_at 3 = .ok (.iload_n 0, 1) := by decide +kernel
theorem dX10_at_4 : decode cX10_at 4 = .ok (.imul, 1) := by decide +kernel
theorem dX10_at_5 : decode cX10_at 5 = .ok (.bipush 15, 2) := by decide +kernel
theorem dX10_at_7 : decode cX10_at 7 = .ok (.iload_n 1, 1) := by decide +kernel
theorem dX10_at_8 : decode cX10_at 8 = .ok (.imul, 1) := by decide +kernel
theorem dX10_at_9 : decode cX10_at 9 = .ok (.iadd, 1) := by decide +kernel
theorem dX10_at_10 : decode cX10_at 10 = .ok (.iload_n 2, 1) := by decide +kernel
theorem dX10_at_11 : decode cX10_at 11 = .ok (.iadd, 1) := by decide +kernel
theorem dX10_at_12 : decode cX10_at 12 = .ok (.ireturn, 1) := by decide +kernel
theorem dX10_put_0 : decode cX10_put 0 = .ok (.iload_n 1, 1) := by decide +kernel
theorem dX10_put_1 : decode cX10_put 1 = .ok (.iconst 0, 1) := by decide +kernel
theorem dX10_put_2 : decode cX10_put 2 = .ok (.iconst 1, 1) := by decide +kernel
theorem dX10_put_3 : decode cX10_put 3 = .ok (.invokestatic 55, 3) := by decide +kernel
theorem dX10_put_6 : decode cX10_put 6 = .ok (.ifCond .eq 17, 3) := by decide +kernel
theorem dX10_put_9 : decode cX10_put 9 = .ok (.iload_n 2, 1) := by decide +kernel
theorem dX10_put_10 : decode cX10_put 10 = .ok (.iconst 0, 1) := by decide +kernel
theorem dX10_put_11 : decode cX10_put 11 = .ok (.bipush 14, 2) := by decide +kernel
theorem dX10_put_13 : decode cX10_put 13 = .ok (.invokestatic 55, 3) := by decide +kernel
theorem dX10_put_16 : decode cX10_put 16 = .ok (.ifCond .eq 7, 3) := by decide +kernel
theorem dX10_put_19 : decode cX10_put 19 = .ok (.iconst 1, 1) := by decide +kernel
theorem dX10_put_20 : decode cX10_put 20 = .ok (.goto 4, 3) := by decide +kernel
theorem dX10_put_23 : decode cX10_put 23 = .ok (.iconst 0, 1) := by decide +kernel
theorem dX10_put_24 : decode cX10_put 24 = .ok (.istore_n 3, 1) := by decide +kernel
theorem dX10_put_25 : decode cX10_put 25 = .ok (.aload_n 0, 1) := by decide +kernel
theorem dX10_put_26 : decode cX10_put 26 = .ok (.iload_n 3, 1) := by decide +kernel
theorem dX10_put_27 : decode cX10_put 27 = .ok (.iload_n 3, 1) := by decide +kernel
theorem dX10_put_28 : decode cX10_put 28 = .ok (.ifCond .eq 18, 3) := by decide +kernel
theorem dX10_put_31 : decode cX10_put 31 = .ok (.aload_n 0, 1) := by decide +kernel
theorem dX10_put_32 : decode cX10_put 32 = .ok (.getfield 7, 3) := by decide +kernel
theorem dX10_put_35 : decode cX10_put 35 = .ok (.iload_n 1, 1) := by decide +kernel
theorem dX10_put_36 : decode cX10_put 36 = .ok (.iaload, 1) := by decide +kernel
theorem dX10_put_37 : decode cX10_put 37 = .ok (.bipush 8, 2) := by decide +kernel
theorem dX10_put_39 : decode cX10_put 39 = .ok (.if_icmp .ge 7, 3) := by decide +kernel
theorem dX10_put_42 : decode cX10_put 42 = .ok (.iconst 1, 1) := by decide +kernel
theorem dX10_put_43 : decode cX10_put 43 = .ok (.goto 4, 3) := by decide +kernel
theorem dX10_put_46 : decode cX10_put 46 = .ok (.iconst 0, 1) := by decide +kernel
theorem dX10_put_47 : decode cX10_put 47 = .ok (.iconst 1, 1) := by decide +kernel
theorem dX10_put_48 : decode cX10_put 48 = .ok (.invokevirtual 59, 3) := by decide +kernel
theorem dX10_put_51 : decode cX10_put 51 = .ok (.ifCond .ne 5, 3) := by decide +kernel
theorem dX10_put_54 : decode cX10_put 54 = .ok (.iconst 0, 1) := by decide +kernel
theorem dX10_put_55 : decode cX10_put 55 = .ok (.ireturn, 1) := by decide +kernel
theorem dX10_put_56 : decode cX10_put 56 = .ok (.aload_n 0, 1) := by decide +kernel
theorem dX10_put_57 : decode cX10_put 57 = .ok (.getfield 13, 3) := by decide +kernel
theorem dX10_put_60 : decode cX10_put 60 = .ok (.bipush 8, 2) := by decide +kernel
theorem dX10_put_62 : decode cX10_put 62 = .ok (.iload_n 1, 1) := by decide +kernel
theorem dX10_put_63 : decode cX10_put 63 = .ok (.imul, 1) := by decide +kernel
theorem dX10_put_64 : decode cX10_put 64 = .ok (.aload_n 0, 1) := by decide +kernel
theorem dX10_put_65 : decode cX10_put 65 = .ok (.getfield 7, 3) := by decide +kernel
theorem dX10_put_68 : decode cX10_put 68 = .ok (.iload_n 1, 1) := by decide +kernel
theorem dX10_put_69 : decode cX10_put 69 = .ok (.iaload, 1) := by decide +kernel
theorem dX10_put_70 : decode cX10_put 70 = .ok (.iadd, 1) := by decide +kernel
theorem dX10_put_71 : decode cX10_put 71 = .ok (.iload_n 2, 1) := by decide +kernel
theorem dX10_put_72 : decode cX10_put 72 = .ok (.iastore, 1) := by decide +kernel
theorem dX10_put_73 : decode cX10_put 73 = .ok (.aload_n 0, 1) := by decide +kernel
theorem dX10_put_74 : decode cX10_put 74 = .ok (.getfield 7, 3) := by decide +kernel
theorem dX10_put_77 : decode cX10_put 77 = .ok (.iload_n 1, 1) := by decide +kernel
theorem dX10_put_78 : decode cX10_put 78 = .ok (.dup2, 1) := by decide +kernel
theorem dX10_put_79 : decode cX10_put 79 = .ok (.iaload, 1) := by decide +kernel
theorem dX10_put_80 : decode cX10_put 80 = .ok (.iconst 1, 1) := by decide +kernel
theorem dX10_put_81 : decode cX10_put 81 = .ok (.iadd, 1) := by decide +kernel
theorem dX10_put_82 : decode cX10_put 82 = .ok (.iastore, 1) := by decide +kernel
theorem dX10_put_83 : decode cX10_put 83 = .ok (.aload_n 0, 1) := by decide +kernel
theorem dX10_put_84 : decode cX10_put 84 = .ok (.getfield 7, 3) := by decide +kernel
theorem dX10_put_87 : decode cX10_put 87 = .ok (.iload_n 1, 1) := by decide +kernel
theorem dX10_put_88 : decode cX10_put 88 = .ok (.iaload, 1) := by decide +kernel
theorem dX10_put_89 : decode cX10_put 89 = .ok (.ireturn, 1) := by decide +kernel
theorem dX10_wipe_0 : decode cX10_wipe 0 = .ok (.aload_n 0, 1) := by decide +kernel
theorem dX10_wipe_1 : decode cX10_wipe 1 = .ok (.iconst 0, 1) := by decide +kernel
theorem dX10_wipe_2 : decode cX10_wipe 2 = .ok (.putfield 48, 3) := by decide +kernel
theorem dX10_wipe_5 : decode cX10_wipe 5 = .ok (.aload_n 0, 1) := by decide +kernel
theorem dX10_wipe_6 : decode cX10_wipe 6 = .ok (.getfield 7, 3) := by decide +kernel
theorem dX10_wipe_9 : decode cX10_wipe 9 = .ok (.iconst 0, 1) := by decide +kernel
theorem dX10_wipe_10 : decode cX10_wipe 10 = .ok (.iaload, 1) := by decide +kernel
theorem dX10_wipe_11 : decode cX10_wipe 11 = .ok (.aload_n 0, 1) := by decide +kernel
theorem dX10_wipe_12 : decode cX10_wipe 12 = .ok (.getfield 7, 3) := by decide +kernel
theorem dX10_wipe_15 : decode cX10_wipe 15 = .ok (.iconst 1, 1) := by decide +kernel
theorem dX10_wipe_16 : decode cX10_wipe 16 = .ok (.iaload, 1) := by decide +kernel
theorem dX10_wipe_17 : decode cX10_wipe 17 = .ok (.iadd, 1) := by decide +kernel
theorem dX10_wipe_18 : decode cX10_wipe 18 = .ok (.istore_n 1, 1) := by decide +kernel
theorem dX10_wipe_19 : decode cX10_wipe 19 = .ok (.aload_n 0, 1) := by decide +kernel
theorem dX10_wipe_20 : decode cX10_wipe 20 = .ok (.getfield 7, 3) := by decide +kernel
theorem dX10_wipe_23 : decode cX10_wipe 23 = .ok (.iconst 0, 1) := by decide +kernel
theorem dX10_wipe_24 : decode cX10_wipe 24 = .ok (.iconst 0, 1) := by decide +kernel
theorem dX10_wipe_25 : decode cX10_wipe 25 = .ok (.iastore, 1) := by decide +kernel
theorem dX10_wipe_26 : decode cX10_wipe 26 = .ok (.aload_n 0, 1) := by decide +kernel
theorem dX10_wipe_27 : decode cX10_wipe 27 = .ok (.getfield 7, 3) := by decide +kernel
theorem dX10_wipe_30 : decode cX10_wipe 30 = .ok (.iconst 1, 1) := by decide +kernel
theorem dX10_wipe_31 : decode cX10_wipe 31 = .ok (.iconst 0, 1) := by decide +kernel
theorem dX10_wipe_32 : decode cX10_wipe 32 = .ok (.iastore, 1) := by decide +kernel
theorem dX10_wipe_33 : decode cX10_wipe 33 = .ok (.iload_n 1, 1) := by decide +kernel
theorem dX10_wipe_34 : decode cX10_wipe 34 = .ok (.ireturn, 1) := by decide +kernel
theorem dX10_pair_0 : decode cX10_pair 0 = .ok (.aload_n 0, 1) := by decide +kernel
theorem dX10_pair_1 : decode cX10_pair 1 = .ok (.aload_n 0, 1) := by decide +kernel
theorem dX10_pair_2 : decode cX10_pair 2 = .ok (.getfield 7, 3) := by decide +kernel
theorem dX10_pair_5 : decode cX10_pair 5 = .ok (.iconst 0, 1) := by decide +kernel
theorem dX10_pair_6 : decode cX10_pair 6 = .ok (.iaload, 1) := by decide +kernel
theorem dX10_pair_7 : decode cX10_pair 7 = .ok (.ifCond .le 25, 3) := by decide +kernel
theorem dX10_pair_10 : decode cX10_pair 10 = .ok (.aload_n 0, 1) := by decide +kernel
theorem dX10_pair_11 : decode cX10_pair 11 = .ok (.getfield 7, 3) := by decide +kernel
theorem dX10_pair_14 : decode cX10_pair 14 = .ok (.iconst 1, 1) := by decide +kernel
theorem dX10_pair_15 : decode cX10_pair 15 = .ok (.iaload, 1) := by decide +kernel
theorem dX10_pair_16 : decode cX10_pair 16 = .ok (.ifCond .le 16, 3) := by decide +kernel
theorem dX10_pair_19 : decode cX10_pair 19 = .ok (.aload_n 0, 1) := by decide +kernel
theorem dX10_pair_20 : decode cX10_pair 20 = .ok (.getfield 52, 3) := by decide +kernel
theorem dX10_pair_23 : decode cX10_pair 23 = .ok (.bipush 20, 2) := by decide +kernel
theorem dX10_pair_25 : decode cX10_pair 25 = .ok (.if_icmp .ge 7, 3) := by decide +kernel
theorem dX10_pair_28 : decode cX10_pair 28 = .ok (.iconst 1, 1) := by decide +kernel
theorem dX10_pair_29 : decode cX10_pair 29 = .ok (.goto 4, 3) := by decide +kernel
theorem dX10_pair_32 : decode cX10_pair 32 = .ok (.iconst 0, 1) := by decide +kernel
theorem dX10_pair_33 : decode cX10_pair 33 = .ok (.iconst 1, 1) := by decide +kernel
theorem dX10_pair_34 : decode cX10_pair 34 = .ok (.iconst 1, 1) := by decide +kernel
theorem dX10_pair_35 : decode cX10_pair 35 = .ok (.invokevirtual 59, 3) := by decide +kernel
theorem dX10_pair_38 : decode cX10_pair 38 = .ok (.ifCond .ne 5, 3) := by decide +kernel
theorem dX10_pair_41 : decode cX10_pair 41 = .ok (.iconst 0, 1) := by decide +kernel
theorem dX10_pair_42 : decode cX10_pair 42 = .ok (.ireturn, 1) := by decide +kernel
theorem dX10_pair_43 : decode cX10_pair 43 = .ok (.iconst 0, 1) := by decide +kernel
theorem dX10_pair_44 : decode cX10_pair 44 = .ok (.istore_n 1, 1) := by decide +kernel
theorem dX10_pair_45 : decode cX10_pair 45 = .ok (.iload_n 1, 1) := by decide +kernel
theorem dX10_pair_46 : decode cX10_pair 46 = .ok (.bipush 16, 2) := by decide +kernel
theorem dX10_pair_48 : decode cX10_pair 48 = .ok (.if_icmp .ge 29, 3) := by decide +kernel
theorem dX10_pair_51 : decode cX10_pair 51 = .ok (.aload_n 0, 1) := by decide +kernel
theorem dX10_pair_52 : decode cX10_pair 52 = .ok (.getfield 19, 3) := by decide +kernel
theorem dX10_pair_55 : decode cX10_pair 55 = .ok (.bipush 16, 2) := by decide +kernel
theorem dX10_pair_57 : decode cX10_pair 57 = .ok (.aload_n 0, 1) := by decide +kernel
theorem dX10_pair_58 : decode cX10_pair 58 = .ok (.getfield 52, 3) := by decide +kernel
theorem dX10_pair_61 : decode cX10_pair 61 = .ok (.imul, 1) := by decide +kernel
theorem dX10_pair_62 : decode cX10_pair 62 = .ok (.iload_n 1, 1) := by decide +kernel
theorem dX10_pair_63 : decode cX10_pair 63 = .ok (.iadd, 1) := by decide +kernel
theorem dX10_pair_64 : decode cX10_pair 64 = .ok (.aload_n 0, 1) := by decide +kernel
theorem dX10_pair_65 : decode cX10_pair 65 = .ok (.getfield 13, 3) := by decide +kernel
theorem dX10_pair_68 : decode cX10_pair 68 = .ok (.iload_n 1, 1) := by decide +kernel
theorem dX10_pair_69 : decode cX10_pair 69 = .ok (.iaload, 1) := by decide +kernel
theorem dX10_pair_70 : decode cX10_pair 70 = .ok (.iastore, 1) := by decide +kernel
theorem dX10_pair_71 : decode cX10_pair 71 = .ok (.iinc 1 1, 3) := by decide +kernel
theorem dX10_pair_74 : decode cX10_pair 74 = .ok (.goto (-29), 3) := by decide +kernel
theorem dX10_pair_77 : decode cX10_pair 77 = .ok (.aload_n 0, 1) := by decide +kernel
theorem dX10_pair_78 : decode cX10_pair 78 = .ok (.getfield 16, 3) := by decide +kernel
theorem dX10_pair_81 : decode cX10_pair 81 = .ok (.iconst 2, 1) := by decide +kernel
theorem dX10_pair_82 : decode cX10_pair 82 = .ok (.aload_n 0, 1) := by decide +kernel
theorem dX10_pair_83 : decode cX10_pair 83 = .ok (.getfield 52, 3) := by decide +kernel
theorem dX10_pair_86 : decode cX10_pair 86 = .ok (.imul, 1) := by decide +kernel
theorem dX10_pair_87 : decode cX10_pair 87 = .ok (.aload_n 0, 1) := by decide +kernel
theorem dX10_pair_88 : decode cX10_pair 88 = .ok (.getfield 7, 3) := by decide +kernel
theorem dX10_pair_91 : decode cX10_pair 91 = .ok (.iconst 0, 1) := by decide +kernel
theorem dX10_pair_92 : decode cX10_pair 92 = .ok (.iaload, 1) := by decide +kernel
theorem dX10_pair_93 : decode cX10_pair 93 = .ok (.iastore, 1) := by decide +kernel
theorem dX10_pair_94 : decode cX10_pair 94 = .ok (.aload_n 0, 1) := by decide +kernel
theorem dX10_pair_95 : decode cX10_pair 95 = .ok (.getfield 16, 3) := by decide +kernel
theorem dX10_pair_98 : decode cX10_pair 98 = .ok (.iconst 2, 1) := by decide +kernel
theorem dX10_pair_99 : decode cX10_pair 99 = .ok (.aload_n 0, 1) := by decide +kernel
theorem dX10_pair_100 : decode cX10_pair 100 = .ok (.getfield 52, 3) := by decide +kernel
theorem dX10_pair_103 : decode cX10_pair 103 = .ok (.imul, 1) := by decide +kernel
theorem dX10_pair_104 : decode cX10_pair 104 = .ok (.iconst 1, 1) := by decide +kernel
theorem dX10_pair_105 : decode cX10_pair 105 = .ok (.iadd, 1) := by decide +kernel
theorem dX10_pair_106 : decode cX10_pair 106 = .ok (.aload_n 0, 1) := by decide +kernel
theorem dX10_pair_107 : decode cX10_pair 107 = .ok (.getfield 7, 3) := by decide +kernel
theorem dX10_pair_110 : decode cX10_pair 110 = .ok (.iconst 1, 1) := by decide +kernel
theorem dX10_pair_111 : decode cX10_pair 111 = .ok (.iaload, 1) := by decide +kernel
theorem dX10_pair_112 : decode cX10_pair 112 = .ok (.iastore, 1) := by decide +kernel
theorem dX10_pair_113 : decode cX10_pair 113 = .ok (.aload_n 0, 1) := by decide +kernel
theorem dX10_pair_114 : decode cX10_pair 114 = .ok (.invokevirtual 63, 3) := by decide +kernel
theorem dX10_pair_117 : decode cX10_pair 117 = .ok (.istore_n 1, 1) := by decide +kernel
theorem dX10_pair_118 : decode cX10_pair 118 = .ok (.aload_n 0, 1) := by decide +kernel
theorem dX10_pair_119 : decode cX10_pair 119 = .ok (.dup, 1) := by decide +kernel
theorem dX10_pair_120 : decode cX10_pair 120 = .ok (.getfield 52, 3) := by decide +kernel
theorem dX10_pair_123 : decode cX10_pair 123 = .ok (.iconst 1, 1) := by decide +kernel
theorem dX10_pair_124 : decode cX10_pair 124 = .ok (.iadd, 1) := by decide +kernel
theorem dX10_pair_125 : decode cX10_pair 125 = .ok (.putfield 52, 3) := by decide +kernel
theorem dX10_pair_128 : decode cX10_pair 128 = .ok (.aload_n 0, 1) := by decide +kernel
theorem dX10_pair_129 : decode cX10_pair 129 = .ok (.getfield 52, 3) := by decide +kernel
theorem dX10_pair_132 : decode cX10_pair 132 = .ok (.iconst 1, 1) := by decide +kernel
theorem dX10_pair_133 : decode cX10_pair 133 = .ok (.isub, 1) := by decide +kernel
theorem dX10_pair_134 : decode cX10_pair 134 = .ok (.ireturn, 1) := by decide +kernel
theorem dX10_there_0 : decode cX10_there 0 = .ok (.iconst 0, 1) := by decide +kernel
theorem dX10_there_1 : decode cX10_there 1 = .ok (.istore_n 1, 1) := by decide +kernel
theorem dX10_there_2 : decode cX10_there 2 = .ok (.iconst 0, 1) := by decide +kernel
theorem dX10_there_3 : decode cX10_there 3 = .ok (.istore_n 2, 1) := by decide +kernel
theorem dX10_there_4 : decode cX10_there 4 = .ok (.iload_n 2, 1) := by decide +kernel
theorem dX10_there_5 : decode cX10_there 5 = .ok (.aload_n 0, 1) := by decide +kernel
theorem dX10_there_6 : decode cX10_there 6 = .ok (.getfield 52, 3) := by decide +kernel
theorem dX10_there_9 : decode cX10_there 9 = .ok (.if_icmp .ge 26, 3) := by decide +kernel
theorem dX10_there_12 : decode cX10_there 12 = .ok (.iload_n 1, 1) := by decide +kernel
theorem dX10_there_13 : decode cX10_there 13 = .ok (.aload_n 0, 1) := by decide +kernel
theorem dX10_there_14 : decode cX10_there 14 = .ok (.getfield 22, 3) := by decide +kernel
theorem dX10_there_17 : decode cX10_there 17 = .ok (.iload_n 2, 1) := by decide +kernel
theorem dX10_there_18 : decode cX10_there 18 = .ok (.baload, 1) := by decide +kernel
theorem dX10_there_19 : decode cX10_there 19 = .ok (.ifCond .eq 7, 3) := by decide +kernel
theorem dX10_there_22 : decode cX10_there 22 = .ok (.iconst 0, 1) := by decide +kernel
theorem dX10_there_23 : decode cX10_there 23 = .ok (.goto 4, 3) := by decide +kernel
theorem dX10_there_26 : decode cX10_there 26 = .ok (.iconst 1, 1) := by decide +kernel
theorem dX10_there_27 : decode cX10_there 27 = .ok (.iadd, 1) := by decide +kernel
theorem dX10_there_28 : decode cX10_there 28 = .ok (.istore_n 1, 1) := by decide +kernel
theorem dX10_there_29 : decode cX10_there 29 = .ok (.iinc 2 1, 3) := by decide +kernel
theorem dX10_there_32 : decode cX10_there 32 = .ok (.goto (-28), 3) := by decide +kernel
theorem dX10_there_35 : decode cX10_there 35 = .ok (.iload_n 1, 1) := by decide +kernel
theorem dX10_there_36 : decode cX10_there 36 = .ok (.ireturn, 1) := by decide +kernel
theorem dX10_takeBack_0 : decode cX10_takeBack 0 = .ok (.aload_n 0, 1) := by decide +kernel
theorem dX10_takeBack_1 : decode cX10_takeBack 1 = .ok (.aload_n 0, 1) := by decide +kernel
theorem dX10_takeBack_2 : decode cX10_takeBack 2 = .ok (.iload_n 1, 1) := by decide +kernel
theorem dX10_takeBack_3 : decode cX10_takeBack 3 = .ok (.invokevirtual 67, 3) := by decide +kernel
theorem dX10_takeBack_6 : decode cX10_takeBack 6 = .ok (.iconst 1, 1) := by decide +kernel
theorem dX10_takeBack_7 : decode cX10_takeBack 7 = .ok (.iconst 1, 1) := by decide +kernel
theorem dX10_takeBack_8 : decode cX10_takeBack 8 = .ok (.invokevirtual 59, 3) := by decide +kernel
theorem dX10_takeBack_11 : decode cX10_takeBack 11 = .ok (.ifCond .ne 5, 3) := by decide +kernel
theorem dX10_takeBack_14 : decode cX10_takeBack 14 = .ok (.iconst 0, 1) := by decide +kernel
theorem dX10_takeBack_15 : decode cX10_takeBack 15 = .ok (.ireturn, 1) := by decide +kernel
theorem dX10_takeBack_16 : decode cX10_takeBack 16 = .ok (.aload_n 0, 1) := by decide +kernel
theorem dX10_takeBack_17 : decode cX10_takeBack 17 = .ok (.getfield 22, 3) := by decide +kernel
theorem dX10_takeBack_20 : decode cX10_takeBack 20 = .ok (.iload_n 1, 1) := by decide +kernel
theorem dX10_takeBack_21 : decode cX10_takeBack 21 = .ok (.iconst 1, 1) := by decide +kernel
theorem dX10_takeBack_22 : decode cX10_takeBack 22 = .ok (.bastore, 1) := by decide +kernel
theorem dX10_takeBack_23 : decode cX10_takeBack 23 = .ok (.aload_n 0, 1) := by decide +kernel
theorem dX10_takeBack_24 : decode cX10_takeBack 24 = .ok (.invokevirtual 71, 3) := by decide +kernel
theorem dX10_takeBack_27 : decode cX10_takeBack 27 = .ok (.ireturn, 1) := by decide +kernel
theorem dX10_marks_0 : decode cX10_marks 0 = .ok (.iconst 0, 1) := by decide +kernel
theorem dX10_marks_1 : decode cX10_marks 1 = .ok (.istore_n 3, 1) := by decide +kernel
theorem dX10_marks_2 : decode cX10_marks 2 = .ok (.iload_n 3, 1) := by decide +kernel
theorem dX10_marks_3 : decode cX10_marks 3 = .ok (.aload_n 0, 1) := by decide +kernel
theorem dX10_marks_4 : decode cX10_marks 4 = .ok (.iload_n 2, 1) := by decide +kernel
theorem dX10_marks_5 : decode cX10_marks 5 = .ok (.iconst 1, 1) := by decide +kernel
theorem dX10_marks_6 : decode cX10_marks 6 = .ok (.iload_n 1, 1) := by decide +kernel
theorem dX10_marks_7 : decode cX10_marks 7 = .ok (.isub, 1) := by decide +kernel
theorem dX10_marks_8 : decode cX10_marks 8 = .ok (.invokevirtual 74, 3) := by decide +kernel
theorem dX10_marks_11 : decode cX10_marks 11 = .ok (.if_icmp .ge 74, 3) := by decide +kernel
theorem dX10_marks_14 : decode cX10_marks 14 = .ok (.aload_n 0, 1) := by decide +kernel
theorem dX10_marks_15 : decode cX10_marks 15 = .ok (.iload_n 2, 1) := by decide +kernel
theorem dX10_marks_16 : decode cX10_marks 16 = .ok (.iconst 1, 1) := by decide +kernel
theorem dX10_marks_17 : decode cX10_marks 17 = .ok (.iload_n 1, 1) := by decide +kernel
theorem dX10_marks_18 : decode cX10_marks 18 = .ok (.isub, 1) := by decide +kernel
theorem dX10_marks_19 : decode cX10_marks 19 = .ok (.iload_n 3, 1) := by decide +kernel
theorem dX10_marks_20 : decode cX10_marks 20 = .ok (.invokevirtual 77, 3) := by decide +kernel
theorem dX10_marks_23 : decode cX10_marks 23 = .ok (.istore 4, 2) := by decide +kernel
theorem dX10_marks_25 : decode cX10_marks 25 = .ok (.aload_n 0, 1) := by decide +kernel
theorem dX10_marks_26 : decode cX10_marks 26 = .ok (.getfield 32, 3) := by decide +kernel
theorem dX10_marks_29 : decode cX10_marks 29 = .ok (.iload_n 1, 1) := by decide +kernel
theorem dX10_marks_30 : decode cX10_marks 30 = .ok (.bipush 15, 2) := by decide +kernel
theorem dX10_marks_32 : decode cX10_marks 32 = .ok (.iload 4, 2) := by decide +kernel
theorem dX10_marks_34 : decode cX10_marks 34 = .ok (.invokestatic 81, 3) := by decide +kernel
theorem dX10_marks_37 : decode cX10_marks 37 = .ok (.lconst 1, 1) := by decide +kernel
theorem dX10_marks_38 : decode cX10_marks 38 = .ok (.lastore, 1) := by decide +kernel
theorem dX10_marks_39 : decode cX10_marks 39 = .ok (.iconst 0, 1) := by decide +kernel
theorem dX10_marks_40 : decode cX10_marks 40 = .ok (.istore 5, 2) := by decide +kernel
theorem dX10_marks_42 : decode cX10_marks 42 = .ok (.iload 5, 2) := by decide +kernel
theorem dX10_marks_44 : decode cX10_marks 44 = .ok (.aload_n 0, 1) := by decide +kernel
theorem dX10_marks_45 : decode cX10_marks 45 = .ok (.iload_n 2, 1) := by decide +kernel
theorem dX10_marks_46 : decode cX10_marks 46 = .ok (.iload_n 1, 1) := by decide +kernel
theorem dX10_marks_47 : decode cX10_marks 47 = .ok (.invokevirtual 74, 3) := by decide +kernel
theorem dX10_marks_50 : decode cX10_marks 50 = .ok (.if_icmp .ge 29, 3) := by decide +kernel
theorem dX10_marks_53 : decode cX10_marks 53 = .ok (.aload_n 0, 1) := by decide +kernel
theorem dX10_marks_54 : decode cX10_marks 54 = .ok (.getfield 32, 3) := by decide +kernel
theorem dX10_marks_57 : decode cX10_marks 57 = .ok (.iload_n 1, 1) := by decide +kernel
theorem dX10_marks_58 : decode cX10_marks 58 = .ok (.aload_n 0, 1) := by decide +kernel
theorem dX10_marks_59 : decode cX10_marks 59 = .ok (.iload_n 2, 1) := by decide +kernel
theorem dX10_marks_60 : decode cX10_marks 60 = .ok (.iload_n 1, 1) := by decide +kernel
theorem dX10_marks_61 : decode cX10_marks 61 = .ok (.iload 5, 2) := by decide +kernel
theorem dX10_marks_63 : decode cX10_marks 63 = .ok (.invokevirtual 77, 3) := by decide +kernel
theorem dX10_marks_66 : decode cX10_marks 66 = .ok (.iload 4, 2) := by decide +kernel
theorem dX10_marks_68 : decode cX10_marks 68 = .ok (.invokestatic 81, 3) := by decide +kernel
theorem dX10_marks_71 : decode cX10_marks 71 = .ok (.lconst 1, 1) := by decide +kernel
theorem dX10_marks_72 : decode cX10_marks 72 = .ok (.lastore, 1) := by decide +kernel
theorem dX10_marks_73 : decode cX10_marks 73 = .ok (.iinc 5 1, 3) := by decide +kernel
theorem dX10_marks_76 : decode cX10_marks 76 = .ok (.goto (-34), 3) := by decide +kernel
theorem dX10_marks_79 : decode cX10_marks 79 = .ok (.iinc 3 1, 3) := by decide +kernel
theorem dX10_marks_82 : decode cX10_marks 82 = .ok (.goto (-80), 3) := by decide +kernel
theorem dX10_marks_85 : decode cX10_marks 85 = .ok (.return_, 1) := by decide +kernel
theorem dX10_clears_0 : decode cX10_clears 0 = .ok (.iconst 0, 1) := by decide +kernel
theorem dX10_clears_1 : decode cX10_clears 1 = .ok (.istore_n 1, 1) := by decide +kernel
theorem dX10_clears_2 : decode cX10_clears 2 = .ok (.iload_n 1, 1) := by decide +kernel
theorem dX10_clears_3 : decode cX10_clears 3 = .ok (.sipush 480, 3) := by decide +kernel
theorem dX10_clears_6 : decode cX10_clears 6 = .ok (.if_icmp .ge 16, 3) := by decide +kernel
theorem dX10_clears_9 : decode cX10_clears 9 = .ok (.aload_n 0, 1) := by decide +kernel
theorem dX10_clears_10 : decode cX10_clears 10 = .ok (.getfield 32, 3) := by decide +kernel
theorem dX10_clears_13 : decode cX10_clears 13 = .ok (.iload_n 1, 1) := by decide +kernel
theorem dX10_clears_14 : decode cX10_clears 14 = .ok (.lconst 0, 1) := by decide +kernel
theorem dX10_clears_15 : decode cX10_clears 15 = .ok (.lastore, 1) := by decide +kernel
theorem dX10_clears_16 : decode cX10_clears 16 = .ok (.iinc 1 1, 3) := by decide +kernel
theorem dX10_clears_19 : decode cX10_clears 19 = .ok (.goto (-17), 3) := by decide +kernel
theorem dX10_clears_22 : decode cX10_clears 22 = .ok (.return_, 1) := by decide +kernel
theorem dX10_begin_0 : decode cX10_begin 0 = .ok (.aload_n 0, 1) := by decide +kernel
theorem dX10_begin_1 : decode cX10_begin 1 = .ok (.iconst 0, 1) := by decide +kernel
theorem dX10_begin_2 : decode cX10_begin 2 = .ok (.putfield 48, 3) := by decide +kernel
theorem dX10_begin_5 : decode cX10_begin 5 = .ok (.aload_n 0, 1) := by decide +kernel
theorem dX10_begin_6 : decode cX10_begin 6 = .ok (.invokevirtual 84, 3) := by decide +kernel
theorem dX10_begin_9 : decode cX10_begin 9 = .ok (.iconst 0, 1) := by decide +kernel
theorem dX10_begin_10 : decode cX10_begin 10 = .ok (.istore_n 1, 1) := by decide +kernel
theorem dX10_begin_11 : decode cX10_begin 11 = .ok (.iload_n 1, 1) := by decide +kernel
theorem dX10_begin_12 : decode cX10_begin 12 = .ok (.aload_n 0, 1) := by decide +kernel
theorem dX10_begin_13 : decode cX10_begin 13 = .ok (.getfield 52, 3) := by decide +kernel
theorem dX10_begin_16 : decode cX10_begin 16 = .ok (.if_icmp .ge 30, 3) := by decide +kernel
theorem dX10_begin_19 : decode cX10_begin 19 = .ok (.aload_n 0, 1) := by decide +kernel
theorem dX10_begin_20 : decode cX10_begin 20 = .ok (.getfield 22, 3) := by decide +kernel
theorem dX10_begin_23 : decode cX10_begin 23 = .ok (.iload_n 1, 1) := by decide +kernel
theorem dX10_begin_24 : decode cX10_begin 24 = .ok (.baload, 1) := by decide +kernel
theorem dX10_begin_25 : decode cX10_begin 25 = .ok (.ifCond .ne 15, 3) := by decide +kernel
theorem dX10_begin_28 : decode cX10_begin 28 = .ok (.aload_n 0, 1) := by decide +kernel
theorem dX10_begin_29 : decode cX10_begin 29 = .ok (.iconst 0, 1) := by decide +kernel
theorem dX10_begin_30 : decode cX10_begin 30 = .ok (.iload_n 1, 1) := by decide +kernel
theorem dX10_begin_31 : decode cX10_begin 31 = .ok (.invokevirtual 87, 3) := by decide +kernel
theorem dX10_begin_34 : decode cX10_begin 34 = .ok (.aload_n 0, 1) := by decide +kernel
theorem dX10_begin_35 : decode cX10_begin 35 = .ok (.iconst 1, 1) := by decide +kernel
theorem dX10_begin_36 : decode cX10_begin 36 = .ok (.iload_n 1, 1) := by decide +kernel
theorem dX10_begin_37 : decode cX10_begin 37 = .ok (.invokevirtual 87, 3) := by decide +kernel
theorem dX10_begin_40 : decode cX10_begin 40 = .ok (.iinc 1 1, 3) := by decide +kernel
theorem dX10_begin_43 : decode cX10_begin 43 = .ok (.goto (-32), 3) := by decide +kernel
theorem dX10_begin_46 : decode cX10_begin 46 = .ok (.iconst 0, 1) := by decide +kernel
theorem dX10_begin_47 : decode cX10_begin 47 = .ok (.istore_n 1, 1) := by decide +kernel
theorem dX10_begin_48 : decode cX10_begin 48 = .ok (.iconst 0, 1) := by decide +kernel
theorem dX10_begin_49 : decode cX10_begin 49 = .ok (.istore_n 2, 1) := by decide +kernel
theorem dX10_begin_50 : decode cX10_begin 50 = .ok (.iload_n 2, 1) := by decide +kernel
theorem dX10_begin_51 : decode cX10_begin 51 = .ok (.sipush 480, 3) := by decide +kernel
theorem dX10_begin_54 : decode cX10_begin 54 = .ok (.if_icmp .ge 150, 3) := by decide +kernel
theorem dX10_begin_57 : decode cX10_begin 57 = .ok (.iconst 0, 1) := by decide +kernel
theorem dX10_begin_58 : decode cX10_begin 58 = .ok (.istore_n 3, 1) := by decide +kernel
theorem dX10_begin_59 : decode cX10_begin 59 = .ok (.iload_n 2, 1) := by decide +kernel
theorem dX10_begin_60 : decode cX10_begin 60 = .ok (.istore 4, 2) := by decide +kernel
theorem dX10_begin_62 : decode cX10_begin 62 = .ok (.iload 4, 2) := by decide +kernel
theorem dX10_begin_64 : decode cX10_begin 64 = .ok (.iload_n 2, 1) := by decide +kernel
theorem dX10_begin_65 : decode cX10_begin 65 = .ok (.bipush 15, 2) := by decide +kernel
theorem dX10_begin_67 : decode cX10_begin 67 = .ok (.iadd, 1) := by decide +kernel
theorem dX10_begin_68 : decode cX10_begin 68 = .ok (.if_icmp .ge 29, 3) := by decide +kernel
theorem dX10_begin_71 : decode cX10_begin 71 = .ok (.iload_n 3, 1) := by decide +kernel
theorem dX10_begin_72 : decode cX10_begin 72 = .ok (.aload_n 0, 1) := by decide +kernel
theorem dX10_begin_73 : decode cX10_begin 73 = .ok (.getfield 32, 3) := by decide +kernel
theorem dX10_begin_76 : decode cX10_begin 76 = .ok (.iload 4, 2) := by decide +kernel
theorem dX10_begin_78 : decode cX10_begin 78 = .ok (.laload, 1) := by decide +kernel
theorem dX10_begin_79 : decode cX10_begin 79 = .ok (.lconst 0, 1) := by decide +kernel
theorem dX10_begin_80 : decode cX10_begin 80 = .ok (.lcmp, 1) := by decide +kernel
theorem dX10_begin_81 : decode cX10_begin 81 = .ok (.ifCond .le 7, 3) := by decide +kernel
theorem dX10_begin_84 : decode cX10_begin 84 = .ok (.iconst 1, 1) := by decide +kernel
theorem dX10_begin_85 : decode cX10_begin 85 = .ok (.goto 4, 3) := by decide +kernel
theorem dX10_begin_88 : decode cX10_begin 88 = .ok (.iconst 0, 1) := by decide +kernel
theorem dX10_begin_89 : decode cX10_begin 89 = .ok (.iadd, 1) := by decide +kernel
theorem dX10_begin_90 : decode cX10_begin 90 = .ok (.istore_n 3, 1) := by decide +kernel
theorem dX10_begin_91 : decode cX10_begin 91 = .ok (.iinc 4 1, 3) := by decide +kernel
theorem dX10_begin_94 : decode cX10_begin 94 = .ok (.goto (-32), 3) := by decide +kernel
theorem dX10_begin_97 : decode cX10_begin 97 = .ok (.iload_n 3, 1) := by decide +kernel
theorem dX10_begin_98 : decode cX10_begin 98 = .ok (.ifCond .ne 7, 3) := by decide +kernel
theorem dX10_begin_101 : decode cX10_begin 101 = .ok (.iconst 0, 1) := by decide +kernel
theorem dX10_begin_102 : decode cX10_begin 102 = .ok (.goto 7, 3) := by decide +kernel
theorem dX10_begin_105 : decode cX10_begin 105 = .ok (.ldc 91, 2) := by decide +kernel
theorem dX10_begin_107 : decode cX10_begin 107 = .ok (.iload_n 3, 1) := by decide +kernel
theorem dX10_begin_108 : decode cX10_begin 108 = .ok (.irem, 1) := by decide +kernel
theorem dX10_begin_109 : decode cX10_begin 109 = .ok (.istore 4, 2) := by decide +kernel
theorem dX10_begin_111 : decode cX10_begin 111 = .ok (.iload_n 2, 1) := by decide +kernel
theorem dX10_begin_112 : decode cX10_begin 112 = .ok (.istore 5, 2) := by decide +kernel
theorem dX10_begin_114 : decode cX10_begin 114 = .ok (.iload 5, 2) := by decide +kernel
theorem dX10_begin_116 : decode cX10_begin 116 = .ok (.iload_n 2, 1) := by decide +kernel
theorem dX10_begin_117 : decode cX10_begin 117 = .ok (.bipush 15, 2) := by decide +kernel
theorem dX10_begin_119 : decode cX10_begin 119 = .ok (.iadd, 1) := by decide +kernel
theorem dX10_begin_120 : decode cX10_begin 120 = .ok (.if_icmp .ge 74, 3) := by decide +kernel
theorem dX10_begin_123 : decode cX10_begin 123 = .ok (.aload_n 0, 1) := by decide +kernel
theorem dX10_begin_124 : decode cX10_begin 124 = .ok (.getfield 29, 3) := by decide +kernel
theorem dX10_begin_127 : decode cX10_begin 127 = .ok (.iload 5, 2) := by decide +kernel
theorem dX10_begin_129 : decode cX10_begin 129 = .ok (.aload_n 0, 1) := by decide +kernel
theorem dX10_begin_130 : decode cX10_begin 130 = .ok (.getfield 32, 3) := by decide +kernel
theorem dX10_begin_133 : decode cX10_begin 133 = .ok (.iload 5, 2) := by decide +kernel
theorem dX10_begin_135 : decode cX10_begin 135 = .ok (.laload, 1) := by decide +kernel
theorem dX10_begin_136 : decode cX10_begin 136 = .ok (.lconst 0, 1) := by decide +kernel
theorem dX10_begin_137 : decode cX10_begin 137 = .ok (.lcmp, 1) := by decide +kernel
theorem dX10_begin_138 : decode cX10_begin 138 = .ok (.ifCond .ne 7, 3) := by decide +kernel
theorem dX10_begin_141 : decode cX10_begin 141 = .ok (.iconst 0, 1) := by decide +kernel
theorem dX10_begin_142 : decode cX10_begin 142 = .ok (.goto 18, 3) := by decide +kernel
theorem dX10_begin_145 : decode cX10_begin 145 = .ok (.ldc 91, 2) := by decide +kernel
theorem dX10_begin_147 : decode cX10_begin 147 = .ok (.iload_n 3, 1) := by decide +kernel
theorem dX10_begin_148 : decode cX10_begin 148 = .ok (.idiv, 1) := by decide +kernel
theorem dX10_begin_149 : decode cX10_begin 149 = .ok (.iload 4, 2) := by decide +kernel
theorem dX10_begin_151 : decode cX10_begin 151 = .ok (.ifCond .le 7, 3) := by decide +kernel
theorem dX10_begin_154 : decode cX10_begin 154 = .ok (.iconst 1, 1) := by decide +kernel
theorem dX10_begin_155 : decode cX10_begin 155 = .ok (.goto 4, 3) := by decide +kernel
theorem dX10_begin_158 : decode cX10_begin 158 = .ok (.iconst 0, 1) := by decide +kernel
theorem dX10_begin_159 : decode cX10_begin 159 = .ok (.iadd, 1) := by decide +kernel
theorem dX10_begin_160 : decode cX10_begin 160 = .ok (.iastore, 1) := by decide +kernel
theorem dX10_begin_161 : decode cX10_begin 161 = .ok (.iload 4, 2) := by decide +kernel
theorem dX10_begin_163 : decode cX10_begin 163 = .ok (.aload_n 0, 1) := by decide +kernel
theorem dX10_begin_164 : decode cX10_begin 164 = .ok (.getfield 32, 3) := by decide +kernel
theorem dX10_begin_167 : decode cX10_begin 167 = .ok (.iload 5, 2) := by decide +kernel
theorem dX10_begin_169 : decode cX10_begin 169 = .ok (.laload, 1) := by decide +kernel
theorem dX10_begin_170 : decode cX10_begin 170 = .ok (.lconst 0, 1) := by decide +kernel
theorem dX10_begin_171 : decode cX10_begin 171 = .ok (.lcmp, 1) := by decide +kernel
theorem dX10_begin_172 : decode cX10_begin 172 = .ok (.ifCond .le 12, 3) := by decide +kernel
theorem dX10_begin_175 : decode cX10_begin 175 = .ok (.iload 4, 2) := by decide +kernel
theorem dX10_begin_177 : decode cX10_begin 177 = .ok (.ifCond .le 7, 3) := by decide +kernel
theorem dX10_begin_180 : decode cX10_begin 180 = .ok (.iconst 1, 1) := by decide +kernel
theorem dX10_begin_181 : decode cX10_begin 181 = .ok (.goto 4, 3) := by decide +kernel
theorem dX10_begin_184 : decode cX10_begin 184 = .ok (.iconst 0, 1) := by decide +kernel
theorem dX10_begin_185 : decode cX10_begin 185 = .ok (.isub, 1) := by decide +kernel
theorem dX10_begin_186 : decode cX10_begin 186 = .ok (.istore 4, 2) := by decide +kernel
theorem dX10_begin_188 : decode cX10_begin 188 = .ok (.iinc 5 1, 3) := by decide +kernel
theorem dX10_begin_191 : decode cX10_begin 191 = .ok (.goto (-77), 3) := by decide +kernel
theorem dX10_begin_194 : decode cX10_begin 194 = .ok (.iload_n 1, 1) := by decide +kernel
theorem dX10_begin_195 : decode cX10_begin 195 = .ok (.iload_n 3, 1) := by decide +kernel
theorem dX10_begin_196 : decode cX10_begin 196 = .ok (.iadd, 1) := by decide +kernel
theorem dX10_begin_197 : decode cX10_begin 197 = .ok (.istore_n 1, 1) := by decide +kernel
theorem dX10_begin_198 : decode cX10_begin 198 = .ok (.iinc 2 15, 3) := by decide +kernel
theorem dX10_begin_201 : decode cX10_begin 201 = .ok (.goto (-151), 3) := by decide +kernel
theorem dX10_begin_204 : decode cX10_begin 204 = .ok (.iload_n 1, 1) := by decide +kernel
theorem dX10_begin_205 : decode cX10_begin 205 = .ok (.ireturn, 1) := by decide +kernel
theorem dX10_allFor_0 : decode cX10_allFor 0 = .ok (.aload_n 0, 1) := by decide +kernel
theorem dX10_allFor_1 : decode cX10_allFor 1 = .ok (.getfield 29, 3) := by decide +kernel
theorem dX10_allFor_4 : decode cX10_allFor 4 = .ok (.iload_n 1, 1) := by decide +kernel
theorem dX10_allFor_5 : decode cX10_allFor 5 = .ok (.bipush 15, 2) := by decide +kernel
theorem dX10_allFor_7 : decode cX10_allFor 7 = .ok (.iload_n 3, 1) := by decide +kernel
theorem dX10_allFor_8 : decode cX10_allFor 8 = .ok (.invokestatic 81, 3) := by decide +kernel
theorem dX10_allFor_11 : decode cX10_allFor 11 = .ok (.iaload, 1) := by decide +kernel
theorem dX10_allFor_12 : decode cX10_allFor 12 = .ok (.i2l, 1) := by decide +kernel
theorem dX10_allFor_13 : decode cX10_allFor 13 = .ok (.lstore 4, 2) := by decide +kernel
theorem dX10_allFor_15 : decode cX10_allFor 15 = .ok (.iconst 0, 1) := by decide +kernel
theorem dX10_allFor_16 : decode cX10_allFor 16 = .ok (.istore 6, 2) := by decide +kernel
theorem dX10_allFor_18 : decode cX10_allFor 18 = .ok (.iload 6, 2) := by decide +kernel
theorem dX10_allFor_20 : decode cX10_allFor 20 = .ok (.aload_n 0, 1) := by decide +kernel
theorem dX10_allFor_21 : decode cX10_allFor 21 = .ok (.iload_n 2, 1) := by decide +kernel
theorem dX10_allFor_22 : decode cX10_allFor 22 = .ok (.iload_n 1, 1) := by decide +kernel
theorem dX10_allFor_23 : decode cX10_allFor 23 = .ok (.invokevirtual 74, 3) := by decide +kernel
theorem dX10_allFor_26 : decode cX10_allFor 26 = .ok (.if_icmp .ge 33, 3) := by decide +kernel
theorem dX10_allFor_29 : decode cX10_allFor 29 = .ok (.lload 4, 2) := by decide +kernel
theorem dX10_allFor_31 : decode cX10_allFor 31 = .ok (.aload_n 0, 1) := by decide +kernel
theorem dX10_allFor_32 : decode cX10_allFor 32 = .ok (.getfield 29, 3) := by decide +kernel
theorem dX10_allFor_35 : decode cX10_allFor 35 = .ok (.iload_n 1, 1) := by decide +kernel
theorem dX10_allFor_36 : decode cX10_allFor 36 = .ok (.aload_n 0, 1) := by decide +kernel
theorem dX10_allFor_37 : decode cX10_allFor 37 = .ok (.iload_n 2, 1) := by decide +kernel
theorem dX10_allFor_38 : decode cX10_allFor 38 = .ok (.iload_n 1, 1) := by decide +kernel
theorem dX10_allFor_39 : decode cX10_allFor 39 = .ok (.iload 6, 2) := by decide +kernel
theorem dX10_allFor_41 : decode cX10_allFor 41 = .ok (.invokevirtual 77, 3) := by decide +kernel
theorem dX10_allFor_44 : decode cX10_allFor 44 = .ok (.iload_n 3, 1) := by decide +kernel
theorem dX10_allFor_45 : decode cX10_allFor 45 = .ok (.invokestatic 81, 3) := by decide +kernel
theorem dX10_allFor_48 : decode cX10_allFor 48 = .ok (.iaload, 1) := by decide +kernel
theorem dX10_allFor_49 : decode cX10_allFor 49 = .ok (.i2l, 1) := by decide +kernel
theorem dX10_allFor_50 : decode cX10_allFor 50 = .ok (.ladd, 1) := by decide +kernel
theorem dX10_allFor_51 : decode cX10_allFor 51 = .ok (.lstore 4, 2) := by decide +kernel
theorem dX10_allFor_53 : decode cX10_allFor 53 = .ok (.iinc 6 1, 3) := by decide +kernel
theorem dX10_allFor_56 : decode cX10_allFor 56 = .ok (.goto (-38), 3) := by decide +kernel
theorem dX10_allFor_59 : decode cX10_allFor 59 = .ok (.lload 4, 2) := by decide +kernel
theorem dX10_allFor_61 : decode cX10_allFor 61 = .ok (.lreturn, 1) := by decide +kernel
theorem dX10_adds_0 : decode cX10_adds 0 = .ok (.iconst 0, 1) := by decide +kernel
theorem dX10_adds_1 : decode cX10_adds 1 = .ok (.istore_n 3, 1) := by decide +kernel
theorem dX10_adds_2 : decode cX10_adds 2 = .ok (.iload_n 3, 1) := by decide +kernel
theorem dX10_adds_3 : decode cX10_adds 3 = .ok (.aload_n 0, 1) := by decide +kernel
theorem dX10_adds_4 : decode cX10_adds 4 = .ok (.iload_n 2, 1) := by decide +kernel
theorem dX10_adds_5 : decode cX10_adds 5 = .ok (.iconst 1, 1) := by decide +kernel
theorem dX10_adds_6 : decode cX10_adds 6 = .ok (.iload_n 1, 1) := by decide +kernel
theorem dX10_adds_7 : decode cX10_adds 7 = .ok (.isub, 1) := by decide +kernel
theorem dX10_adds_8 : decode cX10_adds 8 = .ok (.invokevirtual 74, 3) := by decide +kernel
theorem dX10_adds_11 : decode cX10_adds 11 = .ok (.if_icmp .ge 108, 3) := by decide +kernel
theorem dX10_adds_14 : decode cX10_adds 14 = .ok (.aload_n 0, 1) := by decide +kernel
theorem dX10_adds_15 : decode cX10_adds 15 = .ok (.iload_n 2, 1) := by decide +kernel
theorem dX10_adds_16 : decode cX10_adds 16 = .ok (.iconst 1, 1) := by decide +kernel
theorem dX10_adds_17 : decode cX10_adds 17 = .ok (.iload_n 1, 1) := by decide +kernel
theorem dX10_adds_18 : decode cX10_adds 18 = .ok (.isub, 1) := by decide +kernel
theorem dX10_adds_19 : decode cX10_adds 19 = .ok (.iload_n 3, 1) := by decide +kernel
theorem dX10_adds_20 : decode cX10_adds 20 = .ok (.invokevirtual 77, 3) := by decide +kernel
theorem dX10_adds_23 : decode cX10_adds 23 = .ok (.istore 4, 2) := by decide +kernel
theorem dX10_adds_25 : decode cX10_adds 25 = .ok (.aload_n 0, 1) := by decide +kernel
theorem dX10_adds_26 : decode cX10_adds 26 = .ok (.iload_n 1, 1) := by decide +kernel
theorem dX10_adds_27 : decode cX10_adds 27 = .ok (.iload_n 2, 1) := by decide +kernel
theorem dX10_adds_28 : decode cX10_adds 28 = .ok (.iload 4, 2) := by decide +kernel
theorem dX10_adds_30 : decode cX10_adds 30 = .ok (.invokevirtual 92, 3) := by decide +kernel
theorem dX10_adds_33 : decode cX10_adds 33 = .ok (.lstore 5, 2) := by decide +kernel
theorem dX10_adds_35 : decode cX10_adds 35 = .ok (.iconst (-1), 1) := by decide +kernel
theorem dX10_adds_36 : decode cX10_adds 36 = .ok (.istore 7, 2) := by decide +kernel
theorem dX10_adds_38 : decode cX10_adds 38 = .ok (.iload 7, 2) := by decide +kernel
theorem dX10_adds_40 : decode cX10_adds 40 = .ok (.aload_n 0, 1) := by decide +kernel
theorem dX10_adds_41 : decode cX10_adds 41 = .ok (.iload_n 2, 1) := by decide +kernel
theorem dX10_adds_42 : decode cX10_adds 42 = .ok (.iload_n 1, 1) := by decide +kernel
theorem dX10_adds_43 : decode cX10_adds 43 = .ok (.invokevirtual 74, 3) := by decide +kernel
theorem dX10_adds_46 : decode cX10_adds 46 = .ok (.if_icmp .ge 67, 3) := by decide +kernel
theorem dX10_adds_49 : decode cX10_adds 49 = .ok (.lload 5, 2) := by decide +kernel
theorem dX10_adds_51 : decode cX10_adds 51 = .ok (.lconst 0, 1) := by decide +kernel
theorem dX10_adds_52 : decode cX10_adds 52 = .ok (.lcmp, 1) := by decide +kernel
theorem dX10_adds_53 : decode cX10_adds 53 = .ok (.ifCond .le 60, 3) := by decide +kernel
theorem dX10_adds_56 : decode cX10_adds 56 = .ok (.iload_n 1, 1) := by decide +kernel
theorem dX10_adds_57 : decode cX10_adds 57 = .ok (.iload 7, 2) := by decide +kernel
theorem dX10_adds_59 : decode cX10_adds 59 = .ok (.ifCond .ge 8, 3) := by decide +kernel
theorem dX10_adds_62 : decode cX10_adds 62 = .ok (.bipush 15, 2) := by decide +kernel
theorem dX10_adds_64 : decode cX10_adds 64 = .ok (.goto 11, 3) := by decide +kernel
theorem dX10_adds_67 : decode cX10_adds 67 = .ok (.aload_n 0, 1) := by decide +kernel
theorem dX10_adds_68 : decode cX10_adds 68 = .ok (.iload_n 2, 1) := by decide +kernel
theorem dX10_adds_69 : decode cX10_adds 69 = .ok (.iload_n 1, 1) := by decide +kernel
theorem dX10_adds_70 : decode cX10_adds 70 = .ok (.iload 7, 2) := by decide +kernel
theorem dX10_adds_72 : decode cX10_adds 72 = .ok (.invokevirtual 77, 3) := by decide +kernel
theorem dX10_adds_75 : decode cX10_adds 75 = .ok (.iload 4, 2) := by decide +kernel
theorem dX10_adds_77 : decode cX10_adds 77 = .ok (.invokestatic 81, 3) := by decide +kernel
theorem dX10_adds_80 : decode cX10_adds 80 = .ok (.istore 8, 2) := by decide +kernel
theorem dX10_adds_82 : decode cX10_adds 82 = .ok (.aload_n 0, 1) := by decide +kernel
theorem dX10_adds_83 : decode cX10_adds 83 = .ok (.getfield 32, 3) := by decide +kernel
theorem dX10_adds_86 : decode cX10_adds 86 = .ok (.iload 8, 2) := by decide +kernel
theorem dX10_adds_88 : decode cX10_adds 88 = .ok (.dup2, 1) := by decide +kernel
theorem dX10_adds_89 : decode cX10_adds 89 = .ok (.laload, 1) := by decide +kernel
theorem dX10_adds_90 : decode cX10_adds 90 = .ok (.aload_n 0, 1) := by decide +kernel
theorem dX10_adds_91 : decode cX10_adds 91 = .ok (.getfield 29, 3) := by decide +kernel
theorem dX10_adds_94 : decode cX10_adds 94 = .ok (.iload 8, 2) := by decide +kernel
theorem dX10_adds_96 : decode cX10_adds 96 = .ok (.iaload, 1) := by decide +kernel
theorem dX10_adds_97 : decode cX10_adds 97 = .ok (.i2l, 1) := by decide +kernel
theorem dX10_adds_98 : decode cX10_adds 98 = .ok (.ldc2_w 96, 3) := by decide +kernel
theorem dX10_adds_101 : decode cX10_adds 101 = .ok (.lmul, 1) := by decide +kernel
theorem dX10_adds_102 : decode cX10_adds 102 = .ok (.lload 5, 2) := by decide +kernel
theorem dX10_adds_104 : decode cX10_adds 104 = .ok (.ldiv, 1) := by decide +kernel
theorem dX10_adds_105 : decode cX10_adds 105 = .ok (.ladd, 1) := by decide +kernel
theorem dX10_adds_106 : decode cX10_adds 106 = .ok (.lastore, 1) := by decide +kernel
theorem dX10_adds_107 : decode cX10_adds 107 = .ok (.iinc 7 1, 3) := by decide +kernel
theorem dX10_adds_110 : decode cX10_adds 110 = .ok (.goto (-72), 3) := by decide +kernel
theorem dX10_adds_113 : decode cX10_adds 113 = .ok (.iinc 3 1, 3) := by decide +kernel
theorem dX10_adds_116 : decode cX10_adds 116 = .ok (.goto (-114), 3) := by decide +kernel
theorem dX10_adds_119 : decode cX10_adds 119 = .ok (.return_, 1) := by decide +kernel
theorem dX10_renews_0 : decode cX10_renews 0 = .ok (.lconst 0, 1) := by decide +kernel
theorem dX10_renews_1 : decode cX10_renews 1 = .ok (.lstore_n 2, 1) := by decide +kernel
theorem dX10_renews_2 : decode cX10_renews 2 = .ok (.iconst 0, 1) := by decide +kernel
theorem dX10_renews_3 : decode cX10_renews 3 = .ok (.istore 4, 2) := by decide +kernel
theorem dX10_renews_5 : decode cX10_renews 5 = .ok (.iload 4, 2) := by decide +kernel
theorem dX10_renews_7 : decode cX10_renews 7 = .ok (.bipush 15, 2) := by decide +kernel
theorem dX10_renews_9 : decode cX10_renews 9 = .ok (.if_icmp .ge 21, 3) := by decide +kernel
theorem dX10_renews_12 : decode cX10_renews 12 = .ok (.lload_n 2, 1) := by decide +kernel
theorem dX10_renews_13 : decode cX10_renews 13 = .ok (.aload_n 0, 1) := by decide +kernel
theorem dX10_renews_14 : decode cX10_renews 14 = .ok (.getfield 32, 3) := by decide +kernel
theorem dX10_renews_17 : decode cX10_renews 17 = .ok (.iload_n 1, 1) := by decide +kernel
theorem dX10_renews_18 : decode cX10_renews 18 = .ok (.iload 4, 2) := by decide +kernel
theorem dX10_renews_20 : decode cX10_renews 20 = .ok (.iadd, 1) := by decide +kernel
theorem dX10_renews_21 : decode cX10_renews 21 = .ok (.laload, 1) := by decide +kernel
theorem dX10_renews_22 : decode cX10_renews 22 = .ok (.ladd, 1) := by decide +kernel
theorem dX10_renews_23 : decode cX10_renews 23 = .ok (.lstore_n 2, 1) := by decide +kernel
theorem dX10_renews_24 : decode cX10_renews 24 = .ok (.iinc 4 1, 3) := by decide +kernel
theorem dX10_renews_27 : decode cX10_renews 27 = .ok (.goto (-22), 3) := by decide +kernel
theorem dX10_renews_30 : decode cX10_renews 30 = .ok (.lload_n 2, 1) := by decide +kernel
theorem dX10_renews_31 : decode cX10_renews 31 = .ok (.lconst 0, 1) := by decide +kernel
theorem dX10_renews_32 : decode cX10_renews 32 = .ok (.lcmp, 1) := by decide +kernel
theorem dX10_renews_33 : decode cX10_renews 33 = .ok (.ifCond .ne 7, 3) := by decide +kernel
theorem dX10_renews_36 : decode cX10_renews 36 = .ok (.iconst 0, 1) := by decide +kernel
theorem dX10_renews_37 : decode cX10_renews 37 = .ok (.goto 5, 3) := by decide +kernel
theorem dX10_renews_40 : decode cX10_renews 40 = .ok (.ldc 91, 2) := by decide +kernel
theorem dX10_renews_42 : decode cX10_renews 42 = .ok (.istore 4, 2) := by decide +kernel
theorem dX10_renews_44 : decode cX10_renews 44 = .ok (.iconst 0, 1) := by decide +kernel
theorem dX10_renews_45 : decode cX10_renews 45 = .ok (.istore 5, 2) := by decide +kernel
theorem dX10_renews_47 : decode cX10_renews 47 = .ok (.iload 5, 2) := by decide +kernel
theorem dX10_renews_49 : decode cX10_renews 49 = .ok (.bipush 15, 2) := by decide +kernel
theorem dX10_renews_51 : decode cX10_renews 51 = .ok (.if_icmp .ge 79, 3) := by decide +kernel
theorem dX10_renews_54 : decode cX10_renews 54 = .ok (.aload_n 0, 1) := by decide +kernel
theorem dX10_renews_55 : decode cX10_renews 55 = .ok (.getfield 32, 3) := by decide +kernel
theorem dX10_renews_58 : decode cX10_renews 58 = .ok (.iload_n 1, 1) := by decide +kernel
theorem dX10_renews_59 : decode cX10_renews 59 = .ok (.iload 5, 2) := by decide +kernel
theorem dX10_renews_61 : decode cX10_renews 61 = .ok (.iadd, 1) := by decide +kernel
theorem dX10_renews_62 : decode cX10_renews 62 = .ok (.laload, 1) := by decide +kernel
theorem dX10_renews_63 : decode cX10_renews 63 = .ok (.ldc2_w 96, 3) := by decide +kernel
theorem dX10_renews_66 : decode cX10_renews 66 = .ok (.lmul, 1) := by decide +kernel
theorem dX10_renews_67 : decode cX10_renews 67 = .ok (.lstore 6, 2) := by decide +kernel
theorem dX10_renews_69 : decode cX10_renews 69 = .ok (.aload_n 0, 1) := by decide +kernel
theorem dX10_renews_70 : decode cX10_renews 70 = .ok (.getfield 39, 3) := by decide +kernel
theorem dX10_renews_73 : decode cX10_renews 73 = .ok (.iload 5, 2) := by decide +kernel
theorem dX10_renews_75 : decode cX10_renews 75 = .ok (.lload_n 2, 1) := by decide +kernel
theorem dX10_renews_76 : decode cX10_renews 76 = .ok (.lconst 0, 1) := by decide +kernel
theorem dX10_renews_77 : decode cX10_renews 77 = .ok (.lcmp, 1) := by decide +kernel
theorem dX10_renews_78 : decode cX10_renews 78 = .ok (.ifCond .ne 7, 3) := by decide +kernel
theorem dX10_renews_81 : decode cX10_renews 81 = .ok (.iconst 0, 1) := by decide +kernel
theorem dX10_renews_82 : decode cX10_renews 82 = .ok (.goto 8, 3) := by decide +kernel
theorem dX10_renews_85 : decode cX10_renews 85 = .ok (.lload 6, 2) := by decide +kernel
theorem dX10_renews_87 : decode cX10_renews 87 = .ok (.lload_n 2, 1) := by decide +kernel
theorem dX10_renews_88 : decode cX10_renews 88 = .ok (.ldiv, 1) := by decide +kernel
theorem dX10_renews_89 : decode cX10_renews 89 = .ok (.l2i, 1) := by decide +kernel
theorem dX10_renews_90 : decode cX10_renews 90 = .ok (.iastore, 1) := by decide +kernel
theorem dX10_renews_91 : decode cX10_renews 91 = .ok (.aload_n 0, 1) := by decide +kernel
theorem dX10_renews_92 : decode cX10_renews 92 = .ok (.getfield 36, 3) := by decide +kernel
theorem dX10_renews_95 : decode cX10_renews 95 = .ok (.iload 5, 2) := by decide +kernel
theorem dX10_renews_97 : decode cX10_renews 97 = .ok (.lload_n 2, 1) := by decide +kernel
theorem dX10_renews_98 : decode cX10_renews 98 = .ok (.lconst 0, 1) := by decide +kernel
theorem dX10_renews_99 : decode cX10_renews 99 = .ok (.lcmp, 1) := by decide +kernel
theorem dX10_renews_100 : decode cX10_renews 100 = .ok (.ifCond .ne 7, 3) := by decide +kernel
theorem dX10_renews_103 : decode cX10_renews 103 = .ok (.lconst 0, 1) := by decide +kernel
theorem dX10_renews_104 : decode cX10_renews 104 = .ok (.goto 7, 3) := by decide +kernel
theorem dX10_renews_107 : decode cX10_renews 107 = .ok (.lload 6, 2) := by decide +kernel
theorem dX10_renews_109 : decode cX10_renews 109 = .ok (.lload_n 2, 1) := by decide +kernel
theorem dX10_renews_110 : decode cX10_renews 110 = .ok (.lrem, 1) := by decide +kernel
theorem dX10_renews_111 : decode cX10_renews 111 = .ok (.lastore, 1) := by decide +kernel
theorem dX10_renews_112 : decode cX10_renews 112 = .ok (.iload 4, 2) := by decide +kernel
theorem dX10_renews_114 : decode cX10_renews 114 = .ok (.aload_n 0, 1) := by decide +kernel
theorem dX10_renews_115 : decode cX10_renews 115 = .ok (.getfield 39, 3) := by decide +kernel
theorem dX10_renews_118 : decode cX10_renews 118 = .ok (.iload 5, 2) := by decide +kernel
theorem dX10_renews_120 : decode cX10_renews 120 = .ok (.iaload, 1) := by decide +kernel
theorem dX10_renews_121 : decode cX10_renews 121 = .ok (.isub, 1) := by decide +kernel
theorem dX10_renews_122 : decode cX10_renews 122 = .ok (.istore 4, 2) := by decide +kernel
theorem dX10_renews_124 : decode cX10_renews 124 = .ok (.iinc 5 1, 3) := by decide +kernel
theorem dX10_renews_127 : decode cX10_renews 127 = .ok (.goto (-80), 3) := by decide +kernel
theorem dX10_renews_130 : decode cX10_renews 130 = .ok (.iload 4, 2) := by decide +kernel
theorem dX10_renews_132 : decode cX10_renews 132 = .ok (.ifCond .le 76, 3) := by decide +kernel
theorem dX10_renews_135 : decode cX10_renews 135 = .ok (.iconst 0, 1) := by decide +kernel
theorem dX10_renews_136 : decode cX10_renews 136 = .ok (.istore 5, 2) := by decide +kernel
theorem dX10_renews_138 : decode cX10_renews 138 = .ok (.iconst 1, 1) := by decide +kernel
theorem dX10_renews_139 : decode cX10_renews 139 = .ok (.istore 6, 2) := by decide +kernel
theorem dX10_renews_141 : decode cX10_renews 141 = .ok (.iload 6, 2) := by decide +kernel
theorem dX10_renews_143 : decode cX10_renews 143 = .ok (.bipush 15, 2) := by decide +kernel
theorem dX10_renews_145 : decode cX10_renews 145 = .ok (.if_icmp .ge 36, 3) := by decide +kernel
theorem dX10_renews_148 : decode cX10_renews 148 = .ok (.aload_n 0, 1) := by decide +kernel
theorem dX10_renews_149 : decode cX10_renews 149 = .ok (.getfield 36, 3) := by decide +kernel
theorem dX10_renews_152 : decode cX10_renews 152 = .ok (.iload 6, 2) := by decide +kernel
theorem dX10_renews_154 : decode cX10_renews 154 = .ok (.laload, 1) := by decide +kernel
theorem dX10_renews_155 : decode cX10_renews 155 = .ok (.aload_n 0, 1) := by decide +kernel
theorem dX10_renews_156 : decode cX10_renews 156 = .ok (.getfield 36, 3) := by decide +kernel
theorem dX10_renews_159 : decode cX10_renews 159 = .ok (.iload 5, 2) := by decide +kernel
theorem dX10_renews_161 : decode cX10_renews 161 = .ok (.laload, 1) := by decide +kernel
theorem dX10_renews_162 : decode cX10_renews 162 = .ok (.lcmp, 1) := by decide +kernel
theorem dX10_renews_163 : decode cX10_renews 163 = .ok (.ifCond .le 8, 3) := by decide +kernel
theorem dX10_renews_166 : decode cX10_renews 166 = .ok (.iload 6, 2) := by decide +kernel
theorem dX10_renews_168 : decode cX10_renews 168 = .ok (.goto 5, 3) := by decide +kernel
theorem dX10_renews_171 : decode cX10_renews 171 = .ok (.iload 5, 2) := by decide +kernel
theorem dX10_renews_173 : decode cX10_renews 173 = .ok (.istore 5, 2) := by decide +kernel
theorem dX10_renews_175 : decode cX10_renews 175 = .ok (.iinc 6 1, 3) := by decide +kernel
theorem dX10_renews_178 : decode cX10_renews 178 = .ok (.goto (-37), 3) := by decide +kernel
theorem dX10_renews_181 : decode cX10_renews 181 = .ok (.aload_n 0, 1) := by decide +kernel
theorem dX10_renews_182 : decode cX10_renews 182 = .ok (.getfield 39, 3) := by decide +kernel
theorem dX10_renews_185 : decode cX10_renews 185 = .ok (.iload 5, 2) := by decide +kernel
theorem dX10_renews_187 : decode cX10_renews 187 = .ok (.dup2, 1) := by decide +kernel
theorem dX10_renews_188 : decode cX10_renews 188 = .ok (.iaload, 1) := by decide +kernel
theorem dX10_renews_189 : decode cX10_renews 189 = .ok (.iconst 1, 1) := by decide +kernel
theorem dX10_renews_190 : decode cX10_renews 190 = .ok (.iadd, 1) := by decide +kernel
theorem dX10_renews_191 : decode cX10_renews 191 = .ok (.iastore, 1) := by decide +kernel
theorem dX10_renews_192 : decode cX10_renews 192 = .ok (.aload_n 0, 1) := by decide +kernel
theorem dX10_renews_193 : decode cX10_renews 193 = .ok (.getfield 36, 3) := by decide +kernel
theorem dX10_renews_196 : decode cX10_renews 196 = .ok (.iload 5, 2) := by decide +kernel
theorem dX10_renews_198 : decode cX10_renews 198 = .ok (.ldc2_w 98, 3) := by decide +kernel
theorem dX10_renews_201 : decode cX10_renews 201 = .ok (.lastore, 1) := by decide +kernel
theorem dX10_renews_202 : decode cX10_renews 202 = .ok (.iinc 4 (-1), 3) := by decide +kernel
theorem dX10_renews_205 : decode cX10_renews 205 = .ok (.goto (-75), 3) := by decide +kernel
theorem dX10_renews_208 : decode cX10_renews 208 = .ok (.return_, 1) := by decide +kernel
theorem dX10_round_0 : decode cX10_round 0 = .ok (.aload_n 0, 1) := by decide +kernel
theorem dX10_round_1 : decode cX10_round 1 = .ok (.iconst 0, 1) := by decide +kernel
theorem dX10_round_2 : decode cX10_round 2 = .ok (.putfield 48, 3) := by decide +kernel
theorem dX10_round_5 : decode cX10_round 5 = .ok (.aload_n 0, 1) := by decide +kernel
theorem dX10_round_6 : decode cX10_round 6 = .ok (.invokevirtual 84, 3) := by decide +kernel
theorem dX10_round_9 : decode cX10_round 9 = .ok (.iconst 0, 1) := by decide +kernel
theorem dX10_round_10 : decode cX10_round 10 = .ok (.istore_n 1, 1) := by decide +kernel
theorem dX10_round_11 : decode cX10_round 11 = .ok (.iload_n 1, 1) := by decide +kernel
theorem dX10_round_12 : decode cX10_round 12 = .ok (.aload_n 0, 1) := by decide +kernel
theorem dX10_round_13 : decode cX10_round 13 = .ok (.getfield 52, 3) := by decide +kernel
theorem dX10_round_16 : decode cX10_round 16 = .ok (.if_icmp .ge 30, 3) := by decide +kernel
theorem dX10_round_19 : decode cX10_round 19 = .ok (.aload_n 0, 1) := by decide +kernel
theorem dX10_round_20 : decode cX10_round 20 = .ok (.getfield 22, 3) := by decide +kernel
theorem dX10_round_23 : decode cX10_round 23 = .ok (.iload_n 1, 1) := by decide +kernel
theorem dX10_round_24 : decode cX10_round 24 = .ok (.baload, 1) := by decide +kernel
theorem dX10_round_25 : decode cX10_round 25 = .ok (.ifCond .ne 15, 3) := by decide +kernel
theorem dX10_round_28 : decode cX10_round 28 = .ok (.aload_n 0, 1) := by decide +kernel
theorem dX10_round_29 : decode cX10_round 29 = .ok (.iconst 0, 1) := by decide +kernel
theorem dX10_round_30 : decode cX10_round 30 = .ok (.iload_n 1, 1) := by decide +kernel
theorem dX10_round_31 : decode cX10_round 31 = .ok (.invokevirtual 100, 3) := by decide +kernel
theorem dX10_round_34 : decode cX10_round 34 = .ok (.aload_n 0, 1) := by decide +kernel
theorem dX10_round_35 : decode cX10_round 35 = .ok (.iconst 1, 1) := by decide +kernel
theorem dX10_round_36 : decode cX10_round 36 = .ok (.iload_n 1, 1) := by decide +kernel
theorem dX10_round_37 : decode cX10_round 37 = .ok (.invokevirtual 100, 3) := by decide +kernel
theorem dX10_round_40 : decode cX10_round 40 = .ok (.iinc 1 1, 3) := by decide +kernel
theorem dX10_round_43 : decode cX10_round 43 = .ok (.goto (-32), 3) := by decide +kernel
theorem dX10_round_46 : decode cX10_round 46 = .ok (.iconst 0, 1) := by decide +kernel
theorem dX10_round_47 : decode cX10_round 47 = .ok (.istore_n 1, 1) := by decide +kernel
theorem dX10_round_48 : decode cX10_round 48 = .ok (.iconst 0, 1) := by decide +kernel
theorem dX10_round_49 : decode cX10_round 49 = .ok (.istore_n 2, 1) := by decide +kernel
theorem dX10_round_50 : decode cX10_round 50 = .ok (.iload_n 2, 1) := by decide +kernel
theorem dX10_round_51 : decode cX10_round 51 = .ok (.sipush 480, 3) := by decide +kernel
theorem dX10_round_54 : decode cX10_round 54 = .ok (.if_icmp .ge 67, 3) := by decide +kernel
theorem dX10_round_57 : decode cX10_round 57 = .ok (.aload_n 0, 1) := by decide +kernel
theorem dX10_round_58 : decode cX10_round 58 = .ok (.iload_n 2, 1) := by decide +kernel
theorem dX10_round_59 : decode cX10_round 59 = .ok (.invokevirtual 103, 3) := by decide +kernel
theorem dX10_round_62 : decode cX10_round 62 = .ok (.iconst 0, 1) := by decide +kernel
theorem dX10_round_63 : decode cX10_round 63 = .ok (.istore_n 3, 1) := by decide +kernel
theorem dX10_round_64 : decode cX10_round 64 = .ok (.iload_n 3, 1) := by decide +kernel
theorem dX10_round_65 : decode cX10_round 65 = .ok (.bipush 15, 2) := by decide +kernel
theorem dX10_round_67 : decode cX10_round 67 = .ok (.if_icmp .ge 48, 3) := by decide +kernel
theorem dX10_round_70 : decode cX10_round 70 = .ok (.iload_n 1, 1) := by decide +kernel
theorem dX10_round_71 : decode cX10_round 71 = .ok (.aload_n 0, 1) := by decide +kernel
theorem dX10_round_72 : decode cX10_round 72 = .ok (.getfield 29, 3) := by decide +kernel
theorem dX10_round_75 : decode cX10_round 75 = .ok (.iload_n 2, 1) := by decide +kernel
theorem dX10_round_76 : decode cX10_round 76 = .ok (.iload_n 3, 1) := by decide +kernel
theorem dX10_round_77 : decode cX10_round 77 = .ok (.iadd, 1) := by decide +kernel
theorem dX10_round_78 : decode cX10_round 78 = .ok (.iaload, 1) := by decide +kernel
theorem dX10_round_79 : decode cX10_round 79 = .ok (.aload_n 0, 1) := by decide +kernel
theorem dX10_round_80 : decode cX10_round 80 = .ok (.getfield 39, 3) := by decide +kernel
theorem dX10_round_83 : decode cX10_round 83 = .ok (.iload_n 3, 1) := by decide +kernel
theorem dX10_round_84 : decode cX10_round 84 = .ok (.iaload, 1) := by decide +kernel
theorem dX10_round_85 : decode cX10_round 85 = .ok (.if_icmp .eq 7, 3) := by decide +kernel
theorem dX10_round_88 : decode cX10_round 88 = .ok (.iconst 1, 1) := by decide +kernel
theorem dX10_round_89 : decode cX10_round 89 = .ok (.goto 4, 3) := by decide +kernel
theorem dX10_round_92 : decode cX10_round 92 = .ok (.iconst 0, 1) := by decide +kernel
theorem dX10_round_93 : decode cX10_round 93 = .ok (.iadd, 1) := by decide +kernel
theorem dX10_round_94 : decode cX10_round 94 = .ok (.istore_n 1, 1) := by decide +kernel
theorem dX10_round_95 : decode cX10_round 95 = .ok (.aload_n 0, 1) := by decide +kernel
theorem dX10_round_96 : decode cX10_round 96 = .ok (.getfield 29, 3) := by decide +kernel
theorem dX10_round_99 : decode cX10_round 99 = .ok (.iload_n 2, 1) := by decide +kernel
theorem dX10_round_100 : decode cX10_round 100 = .ok (.iload_n 3, 1) := by decide +kernel
theorem dX10_round_101 : decode cX10_round 101 = .ok (.iadd, 1) := by decide +kernel
theorem dX10_round_102 : decode cX10_round 102 = .ok (.aload_n 0, 1) := by decide +kernel
theorem dX10_round_103 : decode cX10_round 103 = .ok (.getfield 39, 3) := by decide +kernel
theorem dX10_round_106 : decode cX10_round 106 = .ok (.iload_n 3, 1) := by decide +kernel
theorem dX10_round_107 : decode cX10_round 107 = .ok (.iaload, 1) := by decide +kernel
theorem dX10_round_108 : decode cX10_round 108 = .ok (.iastore, 1) := by decide +kernel
theorem dX10_round_109 : decode cX10_round 109 = .ok (.iinc 3 1, 3) := by decide +kernel
theorem dX10_round_112 : decode cX10_round 112 = .ok (.goto (-48), 3) := by decide +kernel
theorem dX10_round_115 : decode cX10_round 115 = .ok (.iinc 2 15, 3) := by decide +kernel
theorem dX10_round_118 : decode cX10_round 118 = .ok (.goto (-68), 3) := by decide +kernel
theorem dX10_round_121 : decode cX10_round 121 = .ok (.iload_n 1, 1) := by decide +kernel
theorem dX10_round_122 : decode cX10_round 122 = .ok (.ireturn, 1) := by decide +kernel
theorem dX10_weight_0 : decode cX10_weight 0 = .ok (.aload_n 0, 1) := by decide +kernel
theorem dX10_weight_1 : decode cX10_weight 1 = .ok (.iload_n 1, 1) := by decide +kernel
theorem dX10_weight_2 : decode cX10_weight 2 = .ok (.iconst 0, 1) := by decide +kernel
theorem dX10_weight_3 : decode cX10_weight 3 = .ok (.iconst 4, 1) := by decide +kernel
theorem dX10_weight_4 : decode cX10_weight 4 = .ok (.invokestatic 55, 3) := by decide +kernel
theorem dX10_weight_7 : decode cX10_weight 7 = .ok (.iload_n 2, 1) := by decide +kernel
theorem dX10_weight_8 : decode cX10_weight 8 = .ok (.iconst 0, 1) := by decide +kernel
theorem dX10_weight_9 : decode cX10_weight 9 = .ok (.bipush 9, 2) := by decide +kernel
theorem dX10_weight_11 : decode cX10_weight 11 = .ok (.invokestatic 55, 3) := by decide +kernel
theorem dX10_weight_14 : decode cX10_weight 14 = .ok (.iconst 1, 1) := by decide +kernel
theorem dX10_weight_15 : decode cX10_weight 15 = .ok (.invokevirtual 59, 3) := by decide +kernel
theorem dX10_weight_18 : decode cX10_weight 18 = .ok (.ifCond .ne 5, 3) := by decide +kernel
theorem dX10_weight_21 : decode cX10_weight 21 = .ok (.iconst 0, 1) := by decide +kernel
theorem dX10_weight_22 : decode cX10_weight 22 = .ok (.ireturn, 1) := by decide +kernel
theorem dX10_weight_23 : decode cX10_weight 23 = .ok (.aload_n 0, 1) := by decide +kernel
theorem dX10_weight_24 : decode cX10_weight 24 = .ok (.getfield 26, 3) := by decide +kernel
theorem dX10_weight_27 : decode cX10_weight 27 = .ok (.iload_n 1, 1) := by decide +kernel
theorem dX10_weight_28 : decode cX10_weight 28 = .ok (.iaload, 1) := by decide +kernel
theorem dX10_weight_29 : decode cX10_weight 29 = .ok (.istore_n 3, 1) := by decide +kernel
theorem dX10_weight_30 : decode cX10_weight 30 = .ok (.aload_n 0, 1) := by decide +kernel
theorem dX10_weight_31 : decode cX10_weight 31 = .ok (.getfield 26, 3) := by decide +kernel
theorem dX10_weight_34 : decode cX10_weight 34 = .ok (.iload_n 1, 1) := by decide +kernel
theorem dX10_weight_35 : decode cX10_weight 35 = .ok (.iload_n 2, 1) := by decide +kernel
theorem dX10_weight_36 : decode cX10_weight 36 = .ok (.iastore, 1) := by decide +kernel
theorem dX10_weight_37 : decode cX10_weight 37 = .ok (.iload_n 3, 1) := by decide +kernel
theorem dX10_weight_38 : decode cX10_weight 38 = .ok (.ireturn, 1) := by decide +kernel
theorem dX10_between_0 : decode cX10_between 0 = .ok (.iload_n 0, 1) := by decide +kernel
theorem dX10_between_1 : decode cX10_between 1 = .ok (.iload_n 1, 1) := by decide +kernel
theorem dX10_between_2 : decode cX10_between 2 = .ok (.if_icmp .ge 9, 3) := by decide +kernel
theorem dX10_between_5 : decode cX10_between 5 = .ok (.iload_n 1, 1) := by decide +kernel
theorem dX10_between_6 : decode cX10_between 6 = .ok (.iload_n 0, 1) := by decide +kernel
theorem dX10_between_7 : decode cX10_between 7 = .ok (.isub, 1) := by decide +kernel
theorem dX10_between_8 : decode cX10_between 8 = .ok (.goto 6, 3) := by decide +kernel
theorem dX10_between_11 : decode cX10_between 11 = .ok (.iload_n 0, 1) := by decide +kernel
theorem dX10_between_12 : decode cX10_between 12 = .ok (.iload_n 1, 1) := by decide +kernel
theorem dX10_between_13 : decode cX10_between 13 = .ok (.isub, 1) := by decide +kernel
theorem dX10_between_14 : decode cX10_between 14 = .ok (.ireturn, 1) := by decide +kernel
theorem dX10_linkOf_0 : decode cX10_linkOf 0 = .ok (.aload_n 0, 1) := by decide +kernel
theorem dX10_linkOf_1 : decode cX10_linkOf 1 = .ok (.iload_n 2, 1) := by decide +kernel
theorem dX10_linkOf_2 : decode cX10_linkOf 2 = .ok (.iconst 1, 1) := by decide +kernel
theorem dX10_linkOf_3 : decode cX10_linkOf 3 = .ok (.iload_n 1, 1) := by decide +kernel
theorem dX10_linkOf_4 : decode cX10_linkOf 4 = .ok (.isub, 1) := by decide +kernel
theorem dX10_linkOf_5 : decode cX10_linkOf 5 = .ok (.iload_n 3, 1) := by decide +kernel
theorem dX10_linkOf_6 : decode cX10_linkOf 6 = .ok (.invokevirtual 77, 3) := by decide +kernel
theorem dX10_linkOf_9 : decode cX10_linkOf 9 = .ok (.istore 4, 2) := by decide +kernel
theorem dX10_linkOf_11 : decode cX10_linkOf 11 = .ok (.iconst (-1), 1) := by decide +kernel
theorem dX10_linkOf_12 : decode cX10_linkOf 12 = .ok (.istore 5, 2) := by decide +kernel
theorem dX10_linkOf_14 : decode cX10_linkOf 14 = .ok (.iconst 0, 1) := by decide +kernel
theorem dX10_linkOf_15 : decode cX10_linkOf 15 = .ok (.istore 6, 2) := by decide +kernel
theorem dX10_linkOf_17 : decode cX10_linkOf 17 = .ok (.iconst 0, 1) := by decide +kernel
theorem dX10_linkOf_18 : decode cX10_linkOf 18 = .ok (.istore 7, 2) := by decide +kernel
theorem dX10_linkOf_20 : decode cX10_linkOf 20 = .ok (.iload 7, 2) := by decide +kernel
theorem dX10_linkOf_22 : decode cX10_linkOf 22 = .ok (.aload_n 0, 1) := by decide +kernel
theorem dX10_linkOf_23 : decode cX10_linkOf 23 = .ok (.iload_n 2, 1) := by decide +kernel
theorem dX10_linkOf_24 : decode cX10_linkOf 24 = .ok (.iload_n 1, 1) := by decide +kernel
theorem dX10_linkOf_25 : decode cX10_linkOf 25 = .ok (.invokevirtual 74, 3) := by decide +kernel
theorem dX10_linkOf_28 : decode cX10_linkOf 28 = .ok (.if_icmp .ge 88, 3) := by decide +kernel
theorem dX10_linkOf_31 : decode cX10_linkOf 31 = .ok (.iload 7, 2) := by decide +kernel
theorem dX10_linkOf_33 : decode cX10_linkOf 33 = .ok (.iload_n 3, 1) := by decide +kernel
theorem dX10_linkOf_34 : decode cX10_linkOf 34 = .ok (.invokestatic 107, 3) := by decide +kernel
theorem dX10_linkOf_37 : decode cX10_linkOf 37 = .ok (.istore 8, 2) := by decide +kernel
theorem dX10_linkOf_39 : decode cX10_linkOf 39 = .ok (.aload_n 0, 1) := by decide +kernel
theorem dX10_linkOf_40 : decode cX10_linkOf 40 = .ok (.getfield 29, 3) := by decide +kernel
theorem dX10_linkOf_43 : decode cX10_linkOf 43 = .ok (.iload_n 1, 1) := by decide +kernel
theorem dX10_linkOf_44 : decode cX10_linkOf 44 = .ok (.aload_n 0, 1) := by decide +kernel
theorem dX10_linkOf_45 : decode cX10_linkOf 45 = .ok (.iload_n 2, 1) := by decide +kernel
theorem dX10_linkOf_46 : decode cX10_linkOf 46 = .ok (.iload_n 1, 1) := by decide +kernel
theorem dX10_linkOf_47 : decode cX10_linkOf 47 = .ok (.iload 7, 2) := by decide +kernel
theorem dX10_linkOf_49 : decode cX10_linkOf 49 = .ok (.invokevirtual 77, 3) := by decide +kernel
theorem dX10_linkOf_52 : decode cX10_linkOf 52 = .ok (.iload 4, 2) := by decide +kernel
theorem dX10_linkOf_54 : decode cX10_linkOf 54 = .ok (.invokestatic 81, 3) := by decide +kernel
theorem dX10_linkOf_57 : decode cX10_linkOf 57 = .ok (.iaload, 1) := by decide +kernel
theorem dX10_linkOf_58 : decode cX10_linkOf 58 = .ok (.aload_n 0, 1) := by decide +kernel
theorem dX10_linkOf_59 : decode cX10_linkOf 59 = .ok (.getfield 26, 3) := by decide +kernel
theorem dX10_linkOf_62 : decode cX10_linkOf 62 = .ok (.iload 8, 2) := by decide +kernel
theorem dX10_linkOf_64 : decode cX10_linkOf 64 = .ok (.iconst 3, 1) := by decide +kernel
theorem dX10_linkOf_65 : decode cX10_linkOf 65 = .ok (.if_icmp .le 7, 3) := by decide +kernel
theorem dX10_linkOf_68 : decode cX10_linkOf 68 = .ok (.iconst 3, 1) := by decide +kernel
theorem dX10_linkOf_69 : decode cX10_linkOf 69 = .ok (.goto 5, 3) := by decide +kernel
theorem dX10_linkOf_72 : decode cX10_linkOf 72 = .ok (.iload 8, 2) := by decide +kernel
theorem dX10_linkOf_74 : decode cX10_linkOf 74 = .ok (.iaload, 1) := by decide +kernel
theorem dX10_linkOf_75 : decode cX10_linkOf 75 = .ok (.imul, 1) := by decide +kernel
theorem dX10_linkOf_76 : decode cX10_linkOf 76 = .ok (.istore 9, 2) := by decide +kernel
theorem dX10_linkOf_78 : decode cX10_linkOf 78 = .ok (.iload 9, 2) := by decide +kernel
theorem dX10_linkOf_80 : decode cX10_linkOf 80 = .ok (.iload 6, 2) := by decide +kernel
theorem dX10_linkOf_82 : decode cX10_linkOf 82 = .ok (.if_icmp .le 8, 3) := by decide +kernel
theorem dX10_linkOf_85 : decode cX10_linkOf 85 = .ok (.iload 7, 2) := by decide +kernel
theorem dX10_linkOf_87 : decode cX10_linkOf 87 = .ok (.goto 5, 3) := by decide +kernel
theorem dX10_linkOf_90 : decode cX10_linkOf 90 = .ok (.iload 5, 2) := by decide +kernel
theorem dX10_linkOf_92 : decode cX10_linkOf 92 = .ok (.istore 5, 2) := by decide +kernel
theorem dX10_linkOf_94 : decode cX10_linkOf 94 = .ok (.iload 9, 2) := by decide +kernel
theorem dX10_linkOf_96 : decode cX10_linkOf 96 = .ok (.iload 6, 2) := by decide +kernel
theorem dX10_linkOf_98 : decode cX10_linkOf 98 = .ok (.if_icmp .le 8, 3) := by decide +kernel
theorem dX10_linkOf_101 : decode cX10_linkOf 101 = .ok (.iload 9, 2) := by decide +kernel
theorem dX10_linkOf_103 : decode cX10_linkOf 103 = .ok (.goto 5, 3) := by decide +kernel
theorem dX10_linkOf_106 : decode cX10_linkOf 106 = .ok (.iload 6, 2) := by decide +kernel
theorem dX10_linkOf_108 : decode cX10_linkOf 108 = .ok (.istore 6, 2) := by decide +kernel
theorem dX10_linkOf_110 : decode cX10_linkOf 110 = .ok (.iinc 7 1, 3) := by decide +kernel
theorem dX10_linkOf_113 : decode cX10_linkOf 113 = .ok (.goto (-93), 3) := by decide +kernel
theorem dX10_linkOf_116 : decode cX10_linkOf 116 = .ok (.aload_n 0, 1) := by decide +kernel
theorem dX10_linkOf_117 : decode cX10_linkOf 117 = .ok (.getfield 29, 3) := by decide +kernel
theorem dX10_linkOf_120 : decode cX10_linkOf 120 = .ok (.iload_n 1, 1) := by decide +kernel
theorem dX10_linkOf_121 : decode cX10_linkOf 121 = .ok (.bipush 15, 2) := by decide +kernel
theorem dX10_linkOf_123 : decode cX10_linkOf 123 = .ok (.iload 4, 2) := by decide +kernel
theorem dX10_linkOf_125 : decode cX10_linkOf 125 = .ok (.invokestatic 81, 3) := by decide +kernel
theorem dX10_linkOf_128 : decode cX10_linkOf 128 = .ok (.iaload, 1) := by decide +kernel
theorem dX10_linkOf_129 : decode cX10_linkOf 129 = .ok (.aload_n 0, 1) := by decide +kernel
theorem dX10_linkOf_130 : decode cX10_linkOf 130 = .ok (.getfield 26, 3) := by decide +kernel
theorem dX10_linkOf_133 : decode cX10_linkOf 133 = .ok (.iconst 4, 1) := by decide +kernel
theorem dX10_linkOf_134 : decode cX10_linkOf 134 = .ok (.iaload, 1) := by decide +kernel
theorem dX10_linkOf_135 : decode cX10_linkOf 135 = .ok (.imul, 1) := by decide +kernel
theorem dX10_linkOf_136 : decode cX10_linkOf 136 = .ok (.iload 6, 2) := by decide +kernel
theorem dX10_linkOf_138 : decode cX10_linkOf 138 = .ok (.if_icmp .le 7, 3) := by decide +kernel
theorem dX10_linkOf_141 : decode cX10_linkOf 141 = .ok (.iconst (-1), 1) := by decide +kernel
theorem dX10_linkOf_142 : decode cX10_linkOf 142 = .ok (.goto 5, 3) := by decide +kernel
theorem dX10_linkOf_145 : decode cX10_linkOf 145 = .ok (.iload 5, 2) := by decide +kernel
theorem dX10_linkOf_147 : decode cX10_linkOf 147 = .ok (.ireturn, 1) := by decide +kernel
theorem dX10_isBeside_0 : decode cX10_isBeside 0 = .ok (.iconst 0, 1) := by decide +kernel
theorem dX10_isBeside_1 : decode cX10_isBeside 1 = .ok (.istore_n 2, 1) := by decide +kernel
theorem dX10_isBeside_2 : decode cX10_isBeside 2 = .ok (.iconst 0, 1) := by decide +kernel
theorem dX10_isBeside_3 : decode cX10_isBeside 3 = .ok (.istore_n 3, 1) := by decide +kernel
theorem dX10_isBeside_4 : decode cX10_isBeside 4 = .ok (.iload_n 3, 1) := by decide +kernel
theorem dX10_isBeside_5 : decode cX10_isBeside 5 = .ok (.bipush 64, 2) := by decide +kernel
theorem dX10_isBeside_7 : decode cX10_isBeside 7 = .ok (.if_icmp .ge 63, 3) := by decide +kernel
theorem dX10_isBeside_10 : decode cX10_isBeside 10 = .ok (.iload_n 2, 1) := by decide +kernel
theorem dX10_isBeside_11 : decode cX10_isBeside 11 = .ok (.ifCond .ne 47, 3) := by decide +kernel
theorem dX10_isBeside_14 : decode cX10_isBeside 14 = .ok (.iload_n 3, 1) := by decide +kernel
theorem dX10_isBeside_15 : decode cX10_isBeside 15 = .ok (.iload_n 1, 1) := by decide +kernel
theorem dX10_isBeside_16 : decode cX10_isBeside 16 = .ok (.if_icmp .eq 46, 3) := by decide +kernel
theorem dX10_isBeside_19 : decode cX10_isBeside 19 = .ok (.aload_n 0, 1) := by decide +kernel
theorem dX10_isBeside_20 : decode cX10_isBeside 20 = .ok (.getfield 45, 3) := by decide +kernel
theorem dX10_isBeside_23 : decode cX10_isBeside 23 = .ok (.iload_n 3, 1) := by decide +kernel
theorem dX10_isBeside_24 : decode cX10_isBeside 24 = .ok (.baload, 1) := by decide +kernel
theorem dX10_isBeside_25 : decode cX10_isBeside 25 = .ok (.ifCond .eq 37, 3) := by decide +kernel
theorem dX10_isBeside_28 : decode cX10_isBeside 28 = .ok (.iload_n 3, 1) := by decide +kernel
theorem dX10_isBeside_29 : decode cX10_isBeside 29 = .ok (.bipush 8, 2) := by decide +kernel
theorem dX10_isBeside_31 : decode cX10_isBeside 31 = .ok (.idiv, 1) := by decide +kernel
theorem dX10_isBeside_32 : decode cX10_isBeside 32 = .ok (.iload_n 1, 1) := by decide +kernel
theorem dX10_isBeside_33 : decode cX10_isBeside 33 = .ok (.bipush 8, 2) := by decide +kernel
theorem dX10_isBeside_35 : decode cX10_isBeside 35 = .ok (.idiv, 1) := by decide +kernel
theorem dX10_isBeside_36 : decode cX10_isBeside 36 = .ok (.invokestatic 107, 3) := by decide +kernel
theorem dX10_isBeside_39 : decode cX10_isBeside 39 = .ok (.iconst 2, 1) := by decide +kernel
theorem dX10_isBeside_40 : decode cX10_isBeside 40 = .ok (.if_icmp .ge 22, 3) := by decide +kernel
theorem dX10_isBeside_43 : decode cX10_isBeside 43 = .ok (.iload_n 3, 1) := by decide +kernel
theorem dX10_isBeside_44 : decode cX10_isBeside 44 = .ok (.bipush 8, 2) := by decide +kernel
theorem dX10_isBeside_46 : decode cX10_isBeside 46 = .ok (.irem, 1) := by decide +kernel
theorem dX10_isBeside_47 : decode cX10_isBeside 47 = .ok (.iload_n 1, 1) := by decide +kernel
theorem dX10_isBeside_48 : decode cX10_isBeside 48 = .ok (.bipush 8, 2) := by decide +kernel
theorem dX10_isBeside_50 : decode cX10_isBeside 50 = .ok (.irem, 1) := by decide +kernel
theorem dX10_isBeside_51 : decode cX10_isBeside 51 = .ok (.invokestatic 107, 3) := by decide +kernel
theorem dX10_isBeside_54 : decode cX10_isBeside 54 = .ok (.iconst 2, 1) := by decide +kernel
theorem dX10_isBeside_55 : decode cX10_isBeside 55 = .ok (.if_icmp .ge 7, 3) := by decide +kernel
theorem dX10_isBeside_58 : decode cX10_isBeside 58 = .ok (.iconst 1, 1) := by decide +kernel
theorem dX10_isBeside_59 : decode cX10_isBeside 59 = .ok (.goto 4, 3) := by decide +kernel
theorem dX10_isBeside_62 : decode cX10_isBeside 62 = .ok (.iconst 0, 1) := by decide +kernel
theorem dX10_isBeside_63 : decode cX10_isBeside 63 = .ok (.istore_n 2, 1) := by decide +kernel
theorem dX10_isBeside_64 : decode cX10_isBeside 64 = .ok (.iinc 3 1, 3) := by decide +kernel
theorem dX10_isBeside_67 : decode cX10_isBeside 67 = .ok (.goto (-63), 3) := by decide +kernel
theorem dX10_isBeside_70 : decode cX10_isBeside 70 = .ok (.iload_n 2, 1) := by decide +kernel
theorem dX10_isBeside_71 : decode cX10_isBeside 71 = .ok (.ireturn, 1) := by decide +kernel
theorem dX10_isFree_0 : decode cX10_isFree 0 = .ok (.iconst 1, 1) := by decide +kernel
theorem dX10_isFree_1 : decode cX10_isFree 1 = .ok (.istore_n 2, 1) := by decide +kernel
theorem dX10_isFree_2 : decode cX10_isFree 2 = .ok (.iconst 1, 1) := by decide +kernel
theorem dX10_isFree_3 : decode cX10_isFree 3 = .ok (.istore_n 3, 1) := by decide +kernel
theorem dX10_isFree_4 : decode cX10_isFree 4 = .ok (.iconst 0, 1) := by decide +kernel
theorem dX10_isFree_5 : decode cX10_isFree 5 = .ok (.istore 4, 2) := by decide +kernel
theorem dX10_isFree_7 : decode cX10_isFree 7 = .ok (.iload 4, 2) := by decide +kernel
theorem dX10_isFree_9 : decode cX10_isFree 9 = .ok (.bipush 8, 2) := by decide +kernel
theorem dX10_isFree_11 : decode cX10_isFree 11 = .ok (.if_icmp .ge 65, 3) := by decide +kernel
theorem dX10_isFree_14 : decode cX10_isFree 14 = .ok (.iload_n 2, 1) := by decide +kernel
theorem dX10_isFree_15 : decode cX10_isFree 15 = .ok (.ifCond .eq 25, 3) := by decide +kernel
theorem dX10_isFree_18 : decode cX10_isFree 18 = .ok (.aload_n 0, 1) := by decide +kernel
theorem dX10_isFree_19 : decode cX10_isFree 19 = .ok (.getfield 45, 3) := by decide +kernel
theorem dX10_isFree_22 : decode cX10_isFree 22 = .ok (.iload_n 1, 1) := by decide +kernel
theorem dX10_isFree_23 : decode cX10_isFree 23 = .ok (.bipush 8, 2) := by decide +kernel
theorem dX10_isFree_25 : decode cX10_isFree 25 = .ok (.idiv, 1) := by decide +kernel
theorem dX10_isFree_26 : decode cX10_isFree 26 = .ok (.bipush 8, 2) := by decide +kernel
theorem dX10_isFree_28 : decode cX10_isFree 28 = .ok (.imul, 1) := by decide +kernel
theorem dX10_isFree_29 : decode cX10_isFree 29 = .ok (.iload 4, 2) := by decide +kernel
theorem dX10_isFree_31 : decode cX10_isFree 31 = .ok (.iadd, 1) := by decide +kernel
theorem dX10_isFree_32 : decode cX10_isFree 32 = .ok (.baload, 1) := by decide +kernel
theorem dX10_isFree_33 : decode cX10_isFree 33 = .ok (.ifCond .ne 7, 3) := by decide +kernel
theorem dX10_isFree_36 : decode cX10_isFree 36 = .ok (.iconst 1, 1) := by decide +kernel
theorem dX10_isFree_37 : decode cX10_isFree 37 = .ok (.goto 4, 3) := by decide +kernel
theorem dX10_isFree_40 : decode cX10_isFree 40 = .ok (.iconst 0, 1) := by decide +kernel
theorem dX10_isFree_41 : decode cX10_isFree 41 = .ok (.istore_n 2, 1) := by decide +kernel
theorem dX10_isFree_42 : decode cX10_isFree 42 = .ok (.iload_n 3, 1) := by decide +kernel
theorem dX10_isFree_43 : decode cX10_isFree 43 = .ok (.ifCond .eq 25, 3) := by decide +kernel
theorem dX10_isFree_46 : decode cX10_isFree 46 = .ok (.aload_n 0, 1) := by decide +kernel
theorem dX10_isFree_47 : decode cX10_isFree 47 = .ok (.getfield 45, 3) := by decide +kernel
theorem dX10_isFree_50 : decode cX10_isFree 50 = .ok (.bipush 8, 2) := by decide +kernel
theorem dX10_isFree_52 : decode cX10_isFree 52 = .ok (.iload 4, 2) := by decide +kernel
theorem dX10_isFree_54 : decode cX10_isFree 54 = .ok (.imul, 1) := by decide +kernel
theorem dX10_isFree_55 : decode cX10_isFree 55 = .ok (.iload_n 1, 1) := by decide +kernel
theorem dX10_isFree_56 : decode cX10_isFree 56 = .ok (.bipush 8, 2) := by decide +kernel
theorem dX10_isFree_58 : decode cX10_isFree 58 = .ok (.irem, 1) := by decide +kernel
theorem dX10_isFree_59 : decode cX10_isFree 59 = .ok (.iadd, 1) := by decide +kernel
theorem dX10_isFree_60 : decode cX10_isFree 60 = .ok (.baload, 1) := by decide +kernel
theorem dX10_isFree_61 : decode cX10_isFree 61 = .ok (.ifCond .ne 7, 3) := by decide +kernel
theorem dX10_isFree_64 : decode cX10_isFree 64 = .ok (.iconst 1, 1) := by decide +kernel
theorem dX10_isFree_65 : decode cX10_isFree 65 = .ok (.goto 4, 3) := by decide +kernel
theorem dX10_isFree_68 : decode cX10_isFree 68 = .ok (.iconst 0, 1) := by decide +kernel
theorem dX10_isFree_69 : decode cX10_isFree 69 = .ok (.istore_n 3, 1) := by decide +kernel
theorem dX10_isFree_70 : decode cX10_isFree 70 = .ok (.iinc 4 1, 3) := by decide +kernel
theorem dX10_isFree_73 : decode cX10_isFree 73 = .ok (.goto (-66), 3) := by decide +kernel
theorem dX10_isFree_76 : decode cX10_isFree 76 = .ok (.iload_n 2, 1) := by decide +kernel
theorem dX10_isFree_77 : decode cX10_isFree 77 = .ok (.ifCond .ne 7, 3) := by decide +kernel
theorem dX10_isFree_80 : decode cX10_isFree 80 = .ok (.iload_n 3, 1) := by decide +kernel
theorem dX10_isFree_81 : decode cX10_isFree 81 = .ok (.ifCond .eq 7, 3) := by decide +kernel
theorem dX10_isFree_84 : decode cX10_isFree 84 = .ok (.iconst 1, 1) := by decide +kernel
theorem dX10_isFree_85 : decode cX10_isFree 85 = .ok (.goto 4, 3) := by decide +kernel
theorem dX10_isFree_88 : decode cX10_isFree 88 = .ok (.iconst 0, 1) := by decide +kernel
theorem dX10_isFree_89 : decode cX10_isFree 89 = .ok (.ireturn, 1) := by decide +kernel
theorem dX10_finds_0 : decode cX10_finds 0 = .ok (.iconst 0, 1) := by decide +kernel
theorem dX10_finds_1 : decode cX10_finds 1 = .ok (.istore_n 2, 1) := by decide +kernel
theorem dX10_finds_2 : decode cX10_finds 2 = .ok (.iload_n 2, 1) := by decide +kernel
theorem dX10_finds_3 : decode cX10_finds 3 = .ok (.bipush 64, 2) := by decide +kernel
theorem dX10_finds_5 : decode cX10_finds 5 = .ok (.if_icmp .ge 16, 3) := by decide +kernel
theorem dX10_finds_8 : decode cX10_finds 8 = .ok (.aload_n 0, 1) := by decide +kernel
theorem dX10_finds_9 : decode cX10_finds 9 = .ok (.getfield 42, 3) := by decide +kernel
theorem dX10_finds_12 : decode cX10_finds 12 = .ok (.iload_n 2, 1) := by decide +kernel
theorem dX10_finds_13 : decode cX10_finds 13 = .ok (.iconst 0, 1) := by decide +kernel
theorem dX10_finds_14 : decode cX10_finds 14 = .ok (.iastore, 1) := by decide +kernel
theorem dX10_finds_15 : decode cX10_finds 15 = .ok (.iinc 2 1, 3) := by decide +kernel
theorem dX10_finds_18 : decode cX10_finds 18 = .ok (.goto (-16), 3) := by decide +kernel
theorem dX10_finds_21 : decode cX10_finds 21 = .ok (.iconst 0, 1) := by decide +kernel
theorem dX10_finds_22 : decode cX10_finds 22 = .ok (.istore_n 2, 1) := by decide +kernel
theorem dX10_finds_23 : decode cX10_finds 23 = .ok (.iload_n 2, 1) := by decide +kernel
theorem dX10_finds_24 : decode cX10_finds 24 = .ok (.aload_n 0, 1) := by decide +kernel
theorem dX10_finds_25 : decode cX10_finds 25 = .ok (.iload_n 1, 1) := by decide +kernel
theorem dX10_finds_26 : decode cX10_finds 26 = .ok (.iconst 1, 1) := by decide +kernel
theorem dX10_finds_27 : decode cX10_finds 27 = .ok (.invokevirtual 74, 3) := by decide +kernel
theorem dX10_finds_30 : decode cX10_finds 30 = .ok (.if_icmp .ge 37, 3) := by decide +kernel
theorem dX10_finds_33 : decode cX10_finds 33 = .ok (.aload_n 0, 1) := by decide +kernel
theorem dX10_finds_34 : decode cX10_finds 34 = .ok (.iconst 0, 1) := by decide +kernel
theorem dX10_finds_35 : decode cX10_finds 35 = .ok (.iload_n 1, 1) := by decide +kernel
theorem dX10_finds_36 : decode cX10_finds 36 = .ok (.iload_n 2, 1) := by decide +kernel
theorem dX10_finds_37 : decode cX10_finds 37 = .ok (.invokevirtual 110, 3) := by decide +kernel
theorem dX10_finds_40 : decode cX10_finds 40 = .ok (.istore_n 3, 1) := by decide +kernel
theorem dX10_finds_41 : decode cX10_finds 41 = .ok (.iload_n 3, 1) := by decide +kernel
theorem dX10_finds_42 : decode cX10_finds 42 = .ok (.iconst (-1), 1) := by decide +kernel
theorem dX10_finds_43 : decode cX10_finds 43 = .ok (.if_icmp .eq 18, 3) := by decide +kernel
theorem dX10_finds_46 : decode cX10_finds 46 = .ok (.aload_n 0, 1) := by decide +kernel
theorem dX10_finds_47 : decode cX10_finds 47 = .ok (.getfield 42, 3) := by decide +kernel
theorem dX10_finds_50 : decode cX10_finds 50 = .ok (.bipush 8, 2) := by decide +kernel
theorem dX10_finds_52 : decode cX10_finds 52 = .ok (.iload_n 3, 1) := by decide +kernel
theorem dX10_finds_53 : decode cX10_finds 53 = .ok (.imul, 1) := by decide +kernel
theorem dX10_finds_54 : decode cX10_finds 54 = .ok (.iload_n 2, 1) := by decide +kernel
theorem dX10_finds_55 : decode cX10_finds 55 = .ok (.iadd, 1) := by decide +kernel
theorem dX10_finds_56 : decode cX10_finds 56 = .ok (.dup2, 1) := by decide +kernel
theorem dX10_finds_57 : decode cX10_finds 57 = .ok (.iaload, 1) := by decide +kernel
theorem dX10_finds_58 : decode cX10_finds 58 = .ok (.iconst 1, 1) := by decide +kernel
theorem dX10_finds_59 : decode cX10_finds 59 = .ok (.iadd, 1) := by decide +kernel
theorem dX10_finds_60 : decode cX10_finds 60 = .ok (.iastore, 1) := by decide +kernel
theorem dX10_finds_61 : decode cX10_finds 61 = .ok (.iinc 2 1, 3) := by decide +kernel
theorem dX10_finds_64 : decode cX10_finds 64 = .ok (.goto (-41), 3) := by decide +kernel
theorem dX10_finds_67 : decode cX10_finds 67 = .ok (.iconst 0, 1) := by decide +kernel
theorem dX10_finds_68 : decode cX10_finds 68 = .ok (.istore_n 2, 1) := by decide +kernel
theorem dX10_finds_69 : decode cX10_finds 69 = .ok (.iload_n 2, 1) := by decide +kernel
theorem dX10_finds_70 : decode cX10_finds 70 = .ok (.aload_n 0, 1) := by decide +kernel
theorem dX10_finds_71 : decode cX10_finds 71 = .ok (.iload_n 1, 1) := by decide +kernel
theorem dX10_finds_72 : decode cX10_finds 72 = .ok (.iconst 0, 1) := by decide +kernel
theorem dX10_finds_73 : decode cX10_finds 73 = .ok (.invokevirtual 74, 3) := by decide +kernel
theorem dX10_finds_76 : decode cX10_finds 76 = .ok (.if_icmp .ge 37, 3) := by decide +kernel
theorem dX10_finds_79 : decode cX10_finds 79 = .ok (.aload_n 0, 1) := by decide +kernel
theorem dX10_finds_80 : decode cX10_finds 80 = .ok (.iconst 1, 1) := by decide +kernel
theorem dX10_finds_81 : decode cX10_finds 81 = .ok (.iload_n 1, 1) := by decide +kernel
theorem dX10_finds_82 : decode cX10_finds 82 = .ok (.iload_n 2, 1) := by decide +kernel
theorem dX10_finds_83 : decode cX10_finds 83 = .ok (.invokevirtual 110, 3) := by decide +kernel
theorem dX10_finds_86 : decode cX10_finds 86 = .ok (.istore_n 3, 1) := by decide +kernel
theorem dX10_finds_87 : decode cX10_finds 87 = .ok (.iload_n 3, 1) := by decide +kernel
theorem dX10_finds_88 : decode cX10_finds 88 = .ok (.iconst (-1), 1) := by decide +kernel
theorem dX10_finds_89 : decode cX10_finds 89 = .ok (.if_icmp .eq 18, 3) := by decide +kernel
theorem dX10_finds_92 : decode cX10_finds 92 = .ok (.aload_n 0, 1) := by decide +kernel
theorem dX10_finds_93 : decode cX10_finds 93 = .ok (.getfield 42, 3) := by decide +kernel
theorem dX10_finds_96 : decode cX10_finds 96 = .ok (.bipush 8, 2) := by decide +kernel
theorem dX10_finds_98 : decode cX10_finds 98 = .ok (.iload_n 2, 1) := by decide +kernel
theorem dX10_finds_99 : decode cX10_finds 99 = .ok (.imul, 1) := by decide +kernel
theorem dX10_finds_100 : decode cX10_finds 100 = .ok (.iload_n 3, 1) := by decide +kernel
theorem dX10_finds_101 : decode cX10_finds 101 = .ok (.iadd, 1) := by decide +kernel
theorem dX10_finds_102 : decode cX10_finds 102 = .ok (.dup2, 1) := by decide +kernel
theorem dX10_finds_103 : decode cX10_finds 103 = .ok (.iaload, 1) := by decide +kernel
theorem dX10_finds_104 : decode cX10_finds 104 = .ok (.iconst 2, 1) := by decide +kernel
theorem dX10_finds_105 : decode cX10_finds 105 = .ok (.iadd, 1) := by decide +kernel
theorem dX10_finds_106 : decode cX10_finds 106 = .ok (.iastore, 1) := by decide +kernel
theorem dX10_finds_107 : decode cX10_finds 107 = .ok (.iinc 2 1, 3) := by decide +kernel
theorem dX10_finds_110 : decode cX10_finds 110 = .ok (.goto (-41), 3) := by decide +kernel
theorem dX10_finds_113 : decode cX10_finds 113 = .ok (.iconst 0, 1) := by decide +kernel
theorem dX10_finds_114 : decode cX10_finds 114 = .ok (.istore_n 2, 1) := by decide +kernel
theorem dX10_finds_115 : decode cX10_finds 115 = .ok (.iload_n 2, 1) := by decide +kernel
theorem dX10_finds_116 : decode cX10_finds 116 = .ok (.bipush 64, 2) := by decide +kernel
theorem dX10_finds_118 : decode cX10_finds 118 = .ok (.if_icmp .ge 30, 3) := by decide +kernel
theorem dX10_finds_121 : decode cX10_finds 121 = .ok (.aload_n 0, 1) := by decide +kernel
theorem dX10_finds_122 : decode cX10_finds 122 = .ok (.getfield 45, 3) := by decide +kernel
theorem dX10_finds_125 : decode cX10_finds 125 = .ok (.iload_n 2, 1) := by decide +kernel
theorem dX10_finds_126 : decode cX10_finds 126 = .ok (.aload_n 0, 1) := by decide +kernel
theorem dX10_finds_127 : decode cX10_finds 127 = .ok (.getfield 42, 3) := by decide +kernel
theorem dX10_finds_130 : decode cX10_finds 130 = .ok (.iload_n 2, 1) := by decide +kernel
theorem dX10_finds_131 : decode cX10_finds 131 = .ok (.iaload, 1) := by decide +kernel
theorem dX10_finds_132 : decode cX10_finds 132 = .ok (.iconst 3, 1) := by decide +kernel
theorem dX10_finds_133 : decode cX10_finds 133 = .ok (.if_icmp .ne 7, 3) := by decide +kernel
theorem dX10_finds_136 : decode cX10_finds 136 = .ok (.iconst 1, 1) := by decide +kernel
theorem dX10_finds_137 : decode cX10_finds 137 = .ok (.goto 4, 3) := by decide +kernel
theorem dX10_finds_140 : decode cX10_finds 140 = .ok (.iconst 0, 1) := by decide +kernel
theorem dX10_finds_141 : decode cX10_finds 141 = .ok (.bastore, 1) := by decide +kernel
theorem dX10_finds_142 : decode cX10_finds 142 = .ok (.iinc 2 1, 3) := by decide +kernel
theorem dX10_finds_145 : decode cX10_finds 145 = .ok (.goto (-30), 3) := by decide +kernel
theorem dX10_finds_148 : decode cX10_finds 148 = .ok (.iconst 1, 1) := by decide +kernel
theorem dX10_finds_149 : decode cX10_finds 149 = .ok (.istore_n 2, 1) := by decide +kernel
theorem dX10_finds_150 : decode cX10_finds 150 = .ok (.iload_n 2, 1) := by decide +kernel
theorem dX10_finds_151 : decode cX10_finds 151 = .ok (.ifCond .eq 65, 3) := by decide +kernel
theorem dX10_finds_154 : decode cX10_finds 154 = .ok (.iconst 0, 1) := by decide +kernel
theorem dX10_finds_155 : decode cX10_finds 155 = .ok (.istore_n 2, 1) := by decide +kernel
theorem dX10_finds_156 : decode cX10_finds 156 = .ok (.iconst 0, 1) := by decide +kernel
theorem dX10_finds_157 : decode cX10_finds 157 = .ok (.istore_n 3, 1) := by decide +kernel
theorem dX10_finds_158 : decode cX10_finds 158 = .ok (.iload_n 3, 1) := by decide +kernel
theorem dX10_finds_159 : decode cX10_finds 159 = .ok (.bipush 64, 2) := by decide +kernel
theorem dX10_finds_161 : decode cX10_finds 161 = .ok (.if_icmp .ge 52, 3) := by decide +kernel
theorem dX10_finds_164 : decode cX10_finds 164 = .ok (.aload_n 0, 1) := by decide +kernel
theorem dX10_finds_165 : decode cX10_finds 165 = .ok (.getfield 42, 3) := by decide +kernel
theorem dX10_finds_168 : decode cX10_finds 168 = .ok (.iload_n 3, 1) := by decide +kernel
theorem dX10_finds_169 : decode cX10_finds 169 = .ok (.iaload, 1) := by decide +kernel
theorem dX10_finds_170 : decode cX10_finds 170 = .ok (.ifCond .le 37, 3) := by decide +kernel
theorem dX10_finds_173 : decode cX10_finds 173 = .ok (.aload_n 0, 1) := by decide +kernel
theorem dX10_finds_174 : decode cX10_finds 174 = .ok (.getfield 45, 3) := by decide +kernel
theorem dX10_finds_177 : decode cX10_finds 177 = .ok (.iload_n 3, 1) := by decide +kernel
theorem dX10_finds_178 : decode cX10_finds 178 = .ok (.baload, 1) := by decide +kernel
theorem dX10_finds_179 : decode cX10_finds 179 = .ok (.ifCond .ne 28, 3) := by decide +kernel
theorem dX10_finds_182 : decode cX10_finds 182 = .ok (.aload_n 0, 1) := by decide +kernel
theorem dX10_finds_183 : decode cX10_finds 183 = .ok (.iload_n 3, 1) := by decide +kernel
theorem dX10_finds_184 : decode cX10_finds 184 = .ok (.invokevirtual 113, 3) := by decide +kernel
theorem dX10_finds_187 : decode cX10_finds 187 = .ok (.ifCond .eq 20, 3) := by decide +kernel
theorem dX10_finds_190 : decode cX10_finds 190 = .ok (.aload_n 0, 1) := by decide +kernel
theorem dX10_finds_191 : decode cX10_finds 191 = .ok (.iload_n 3, 1) := by decide +kernel
theorem dX10_finds_192 : decode cX10_finds 192 = .ok (.invokevirtual 116, 3) := by decide +kernel
theorem dX10_finds_195 : decode cX10_finds 195 = .ok (.ifCond .eq 12, 3) := by decide +kernel
theorem dX10_finds_198 : decode cX10_finds 198 = .ok (.aload_n 0, 1) := by decide +kernel
theorem dX10_finds_199 : decode cX10_finds 199 = .ok (.getfield 45, 3) := by decide +kernel
theorem dX10_finds_202 : decode cX10_finds 202 = .ok (.iload_n 3, 1) := by decide +kernel
theorem dX10_finds_203 : decode cX10_finds 203 = .ok (.iconst 1, 1) := by decide +kernel
theorem dX10_finds_204 : decode cX10_finds 204 = .ok (.bastore, 1) := by decide +kernel
theorem dX10_finds_205 : decode cX10_finds 205 = .ok (.iconst 1, 1) := by decide +kernel
theorem dX10_finds_206 : decode cX10_finds 206 = .ok (.istore_n 2, 1) := by decide +kernel
theorem dX10_finds_207 : decode cX10_finds 207 = .ok (.iinc 3 1, 3) := by decide +kernel
theorem dX10_finds_210 : decode cX10_finds 210 = .ok (.goto (-52), 3) := by decide +kernel
theorem dX10_finds_213 : decode cX10_finds 213 = .ok (.goto (-63), 3) := by decide +kernel
theorem dX10_finds_216 : decode cX10_finds 216 = .ok (.return_, 1) := by decide +kernel
theorem dX10_isPhrase_0 : decode cX10_isPhrase 0 = .ok (.iconst 1, 1) := by decide +kernel
theorem dX10_isPhrase_1 : decode cX10_isPhrase 1 = .ok (.istore 5, 2) := by decide +kernel
theorem dX10_isPhrase_3 : decode cX10_isPhrase 3 = .ok (.iconst 0, 1) := by decide +kernel
theorem dX10_isPhrase_4 : decode cX10_isPhrase 4 = .ok (.istore 6, 2) := by decide +kernel
theorem dX10_isPhrase_6 : decode cX10_isPhrase 6 = .ok (.iconst 0, 1) := by decide +kernel
theorem dX10_isPhrase_7 : decode cX10_isPhrase 7 = .ok (.istore 7, 2) := by decide +kernel
theorem dX10_isPhrase_9 : decode cX10_isPhrase 9 = .ok (.iload 7, 2) := by decide +kernel
theorem dX10_isPhrase_11 : decode cX10_isPhrase 11 = .ok (.bipush 64, 2) := by decide +kernel
theorem dX10_isPhrase_13 : decode cX10_isPhrase 13 = .ok (.if_icmp .ge 93, 3) := by decide +kernel
theorem dX10_isPhrase_16 : decode cX10_isPhrase 16 = .ok (.iload 7, 2) := by decide +kernel
theorem dX10_isPhrase_18 : decode cX10_isPhrase 18 = .ok (.bipush 8, 2) := by decide +kernel
theorem dX10_isPhrase_20 : decode cX10_isPhrase 20 = .ok (.idiv, 1) := by decide +kernel
theorem dX10_isPhrase_21 : decode cX10_isPhrase 21 = .ok (.iload_n 1, 1) := by decide +kernel
theorem dX10_isPhrase_22 : decode cX10_isPhrase 22 = .ok (.iload_n 2, 1) := by decide +kernel
theorem dX10_isPhrase_23 : decode cX10_isPhrase 23 = .ok (.invokestatic 55, 3) := by decide +kernel
theorem dX10_isPhrase_26 : decode cX10_isPhrase 26 = .ok (.istore 8, 2) := by decide +kernel
theorem dX10_isPhrase_28 : decode cX10_isPhrase 28 = .ok (.iload 7, 2) := by decide +kernel
theorem dX10_isPhrase_30 : decode cX10_isPhrase 30 = .ok (.bipush 8, 2) := by decide +kernel
theorem dX10_isPhrase_32 : decode cX10_isPhrase 32 = .ok (.irem, 1) := by decide +kernel
theorem dX10_isPhrase_33 : decode cX10_isPhrase 33 = .ok (.iload_n 3, 1) := by decide +kernel
theorem dX10_isPhrase_34 : decode cX10_isPhrase 34 = .ok (.iload 4, 2) := by decide +kernel
theorem dX10_isPhrase_36 : decode cX10_isPhrase 36 = .ok (.invokestatic 55, 3) := by decide +kernel
theorem dX10_isPhrase_39 : decode cX10_isPhrase 39 = .ok (.istore 9, 2) := by decide +kernel
theorem dX10_isPhrase_41 : decode cX10_isPhrase 41 = .ok (.iload 5, 2) := by decide +kernel
theorem dX10_isPhrase_43 : decode cX10_isPhrase 43 = .ok (.ifCond .eq 24, 3) := by decide +kernel
theorem dX10_isPhrase_46 : decode cX10_isPhrase 46 = .ok (.aload_n 0, 1) := by decide +kernel
theorem dX10_isPhrase_47 : decode cX10_isPhrase 47 = .ok (.getfield 45, 3) := by decide +kernel
theorem dX10_isPhrase_50 : decode cX10_isPhrase 50 = .ok (.iload 7, 2) := by decide +kernel
theorem dX10_isPhrase_52 : decode cX10_isPhrase 52 = .ok (.baload, 1) := by decide +kernel
theorem dX10_isPhrase_53 : decode cX10_isPhrase 53 = .ok (.ifCond .eq 10, 3) := by decide +kernel
theorem dX10_isPhrase_56 : decode cX10_isPhrase 56 = .ok (.iload 8, 2) := by decide +kernel
theorem dX10_isPhrase_58 : decode cX10_isPhrase 58 = .ok (.iload 9, 2) := by decide +kernel
theorem dX10_isPhrase_60 : decode cX10_isPhrase 60 = .ok (.if_icmp .ne 7, 3) := by decide +kernel
theorem dX10_isPhrase_63 : decode cX10_isPhrase 63 = .ok (.iconst 1, 1) := by decide +kernel
theorem dX10_isPhrase_64 : decode cX10_isPhrase 64 = .ok (.goto 4, 3) := by decide +kernel
theorem dX10_isPhrase_67 : decode cX10_isPhrase 67 = .ok (.iconst 0, 1) := by decide +kernel
theorem dX10_isPhrase_68 : decode cX10_isPhrase 68 = .ok (.istore 5, 2) := by decide +kernel
theorem dX10_isPhrase_70 : decode cX10_isPhrase 70 = .ok (.iload 6, 2) := by decide +kernel
theorem dX10_isPhrase_72 : decode cX10_isPhrase 72 = .ok (.aload_n 0, 1) := by decide +kernel
theorem dX10_isPhrase_73 : decode cX10_isPhrase 73 = .ok (.getfield 45, 3) := by decide +kernel
theorem dX10_isPhrase_76 : decode cX10_isPhrase 76 = .ok (.iload 7, 2) := by decide +kernel
theorem dX10_isPhrase_78 : decode cX10_isPhrase 78 = .ok (.baload, 1) := by decide +kernel
theorem dX10_isPhrase_79 : decode cX10_isPhrase 79 = .ok (.ifCond .eq 17, 3) := by decide +kernel
theorem dX10_isPhrase_82 : decode cX10_isPhrase 82 = .ok (.iload 8, 2) := by decide +kernel
theorem dX10_isPhrase_84 : decode cX10_isPhrase 84 = .ok (.ifCond .eq 12, 3) := by decide +kernel
theorem dX10_isPhrase_87 : decode cX10_isPhrase 87 = .ok (.iload 9, 2) := by decide +kernel
theorem dX10_isPhrase_89 : decode cX10_isPhrase 89 = .ok (.ifCond .eq 7, 3) := by decide +kernel
theorem dX10_isPhrase_92 : decode cX10_isPhrase 92 = .ok (.iconst 1, 1) := by decide +kernel
theorem dX10_isPhrase_93 : decode cX10_isPhrase 93 = .ok (.goto 4, 3) := by decide +kernel
theorem dX10_isPhrase_96 : decode cX10_isPhrase 96 = .ok (.iconst 0, 1) := by decide +kernel
theorem dX10_isPhrase_97 : decode cX10_isPhrase 97 = .ok (.iadd, 1) := by decide +kernel
theorem dX10_isPhrase_98 : decode cX10_isPhrase 98 = .ok (.istore 6, 2) := by decide +kernel
theorem dX10_isPhrase_100 : decode cX10_isPhrase 100 = .ok (.iinc 7 1, 3) := by decide +kernel
theorem dX10_isPhrase_103 : decode cX10_isPhrase 103 = .ok (.goto (-94), 3) := by decide +kernel
theorem dX10_isPhrase_106 : decode cX10_isPhrase 106 = .ok (.iload 5, 2) := by decide +kernel
theorem dX10_isPhrase_108 : decode cX10_isPhrase 108 = .ok (.ifCond .eq 12, 3) := by decide +kernel
theorem dX10_isPhrase_111 : decode cX10_isPhrase 111 = .ok (.iload 6, 2) := by decide +kernel
theorem dX10_isPhrase_113 : decode cX10_isPhrase 113 = .ok (.ifCond .le 7, 3) := by decide +kernel
theorem dX10_isPhrase_116 : decode cX10_isPhrase 116 = .ok (.iconst 1, 1) := by decide +kernel
theorem dX10_isPhrase_117 : decode cX10_isPhrase 117 = .ok (.goto 4, 3) := by decide +kernel
theorem dX10_isPhrase_120 : decode cX10_isPhrase 120 = .ok (.iconst 0, 1) := by decide +kernel
theorem dX10_isPhrase_121 : decode cX10_isPhrase 121 = .ok (.ireturn, 1) := by decide +kernel
theorem dX10_meets_0 : decode cX10_meets 0 = .ok (.aload_n 0, 1) := by decide +kernel
theorem dX10_meets_1 : decode cX10_meets 1 = .ok (.iload_n 1, 1) := by decide +kernel
theorem dX10_meets_2 : decode cX10_meets 2 = .ok (.invokevirtual 119, 3) := by decide +kernel
theorem dX10_meets_5 : decode cX10_meets 5 = .ok (.iconst 0, 1) := by decide +kernel
theorem dX10_meets_6 : decode cX10_meets 6 = .ok (.istore_n 3, 1) := by decide +kernel
theorem dX10_meets_7 : decode cX10_meets 7 = .ok (.aload_n 0, 1) := by decide +kernel
theorem dX10_meets_8 : decode cX10_meets 8 = .ok (.iload_n 1, 1) := by decide +kernel
theorem dX10_meets_9 : decode cX10_meets 9 = .ok (.iconst 0, 1) := by decide +kernel
theorem dX10_meets_10 : decode cX10_meets 10 = .ok (.invokevirtual 74, 3) := by decide +kernel
theorem dX10_meets_13 : decode cX10_meets 13 = .ok (.istore 4, 2) := by decide +kernel
theorem dX10_meets_15 : decode cX10_meets 15 = .ok (.aload_n 0, 1) := by decide +kernel
theorem dX10_meets_16 : decode cX10_meets 16 = .ok (.iload_n 1, 1) := by decide +kernel
theorem dX10_meets_17 : decode cX10_meets 17 = .ok (.iconst 1, 1) := by decide +kernel
theorem dX10_meets_18 : decode cX10_meets 18 = .ok (.invokevirtual 74, 3) := by decide +kernel
theorem dX10_meets_21 : decode cX10_meets 21 = .ok (.istore 5, 2) := by decide +kernel
theorem dX10_meets_23 : decode cX10_meets 23 = .ok (.iconst 0, 1) := by decide +kernel
theorem dX10_meets_24 : decode cX10_meets 24 = .ok (.istore 6, 2) := by decide +kernel
theorem dX10_meets_26 : decode cX10_meets 26 = .ok (.iload 6, 2) := by decide +kernel
theorem dX10_meets_28 : decode cX10_meets 28 = .ok (.iload 4, 2) := by decide +kernel
theorem dX10_meets_30 : decode cX10_meets 30 = .ok (.if_icmp .ge 167, 3) := by decide +kernel
theorem dX10_meets_33 : decode cX10_meets 33 = .ok (.iload 6, 2) := by decide +kernel
theorem dX10_meets_35 : decode cX10_meets 35 = .ok (.istore 7, 2) := by decide +kernel
theorem dX10_meets_37 : decode cX10_meets 37 = .ok (.iload 7, 2) := by decide +kernel
theorem dX10_meets_39 : decode cX10_meets 39 = .ok (.iload 4, 2) := by decide +kernel
theorem dX10_meets_41 : decode cX10_meets 41 = .ok (.if_icmp .ge 150, 3) := by decide +kernel
theorem dX10_meets_44 : decode cX10_meets 44 = .ok (.iload 7, 2) := by decide +kernel
theorem dX10_meets_46 : decode cX10_meets 46 = .ok (.iload 6, 2) := by decide +kernel
theorem dX10_meets_48 : decode cX10_meets 48 = .ok (.iconst 4, 1) := by decide +kernel
theorem dX10_meets_49 : decode cX10_meets 49 = .ok (.iadd, 1) := by decide +kernel
theorem dX10_meets_50 : decode cX10_meets 50 = .ok (.if_icmp .ge 141, 3) := by decide +kernel
theorem dX10_meets_53 : decode cX10_meets 53 = .ok (.iconst 0, 1) := by decide +kernel
theorem dX10_meets_54 : decode cX10_meets 54 = .ok (.istore 8, 2) := by decide +kernel
theorem dX10_meets_56 : decode cX10_meets 56 = .ok (.iload 8, 2) := by decide +kernel
theorem dX10_meets_58 : decode cX10_meets 58 = .ok (.iload 5, 2) := by decide +kernel
theorem dX10_meets_60 : decode cX10_meets 60 = .ok (.if_icmp .ge 125, 3) := by decide +kernel
theorem dX10_meets_63 : decode cX10_meets 63 = .ok (.iload 8, 2) := by decide +kernel
theorem dX10_meets_65 : decode cX10_meets 65 = .ok (.istore 9, 2) := by decide +kernel
theorem dX10_meets_67 : decode cX10_meets 67 = .ok (.iload 9, 2) := by decide +kernel
theorem dX10_meets_69 : decode cX10_meets 69 = .ok (.iload 5, 2) := by decide +kernel
theorem dX10_meets_71 : decode cX10_meets 71 = .ok (.if_icmp .ge 108, 3) := by decide +kernel
theorem dX10_meets_74 : decode cX10_meets 74 = .ok (.iload 9, 2) := by decide +kernel
theorem dX10_meets_76 : decode cX10_meets 76 = .ok (.iload 8, 2) := by decide +kernel
theorem dX10_meets_78 : decode cX10_meets 78 = .ok (.iconst 4, 1) := by decide +kernel
theorem dX10_meets_79 : decode cX10_meets 79 = .ok (.iadd, 1) := by decide +kernel
theorem dX10_meets_80 : decode cX10_meets 80 = .ok (.if_icmp .ge 99, 3) := by decide +kernel
theorem dX10_meets_83 : decode cX10_meets 83 = .ok (.aload_n 0, 1) := by decide +kernel
theorem dX10_meets_84 : decode cX10_meets 84 = .ok (.iload 6, 2) := by decide +kernel
theorem dX10_meets_86 : decode cX10_meets 86 = .ok (.iload 7, 2) := by decide +kernel
theorem dX10_meets_88 : decode cX10_meets 88 = .ok (.iload 8, 2) := by decide +kernel
theorem dX10_meets_90 : decode cX10_meets 90 = .ok (.iload 9, 2) := by decide +kernel
theorem dX10_meets_92 : decode cX10_meets 92 = .ok (.invokevirtual 122, 3) := by decide +kernel
theorem dX10_meets_95 : decode cX10_meets 95 = .ok (.ifCond .eq 78, 3) := by decide +kernel
theorem dX10_meets_98 : decode cX10_meets 98 = .ok (.aload_n 0, 1) := by decide +kernel
theorem dX10_meets_99 : decode cX10_meets 99 = .ok (.iload_n 3, 1) := by decide +kernel
theorem dX10_meets_100 : decode cX10_meets 100 = .ok (.iload_n 2, 1) := by decide +kernel
theorem dX10_meets_101 : decode cX10_meets 101 = .ok (.if_icmp .ne 8, 3) := by decide +kernel
theorem dX10_meets_104 : decode cX10_meets 104 = .ok (.iload 6, 2) := by decide +kernel
theorem dX10_meets_106 : decode cX10_meets 106 = .ok (.goto 7, 3) := by decide +kernel
theorem dX10_meets_109 : decode cX10_meets 109 = .ok (.aload_n 0, 1) := by decide +kernel
theorem dX10_meets_110 : decode cX10_meets 110 = .ok (.getfield 126, 3) := by decide +kernel
theorem dX10_meets_113 : decode cX10_meets 113 = .ok (.putfield 126, 3) := by decide +kernel
theorem dX10_meets_116 : decode cX10_meets 116 = .ok (.aload_n 0, 1) := by decide +kernel
theorem dX10_meets_117 : decode cX10_meets 117 = .ok (.iload_n 3, 1) := by decide +kernel
theorem dX10_meets_118 : decode cX10_meets 118 = .ok (.iload_n 2, 1) := by decide +kernel
theorem dX10_meets_119 : decode cX10_meets 119 = .ok (.if_icmp .ne 8, 3) := by decide +kernel
theorem dX10_meets_122 : decode cX10_meets 122 = .ok (.iload 7, 2) := by decide +kernel
theorem dX10_meets_124 : decode cX10_meets 124 = .ok (.goto 7, 3) := by decide +kernel
theorem dX10_meets_127 : decode cX10_meets 127 = .ok (.aload_n 0, 1) := by decide +kernel
theorem dX10_meets_128 : decode cX10_meets 128 = .ok (.getfield 129, 3) := by decide +kernel
theorem dX10_meets_131 : decode cX10_meets 131 = .ok (.putfield 129, 3) := by decide +kernel
theorem dX10_meets_134 : decode cX10_meets 134 = .ok (.aload_n 0, 1) := by decide +kernel
theorem dX10_meets_135 : decode cX10_meets 135 = .ok (.iload_n 3, 1) := by decide +kernel
theorem dX10_meets_136 : decode cX10_meets 136 = .ok (.iload_n 2, 1) := by decide +kernel
theorem dX10_meets_137 : decode cX10_meets 137 = .ok (.if_icmp .ne 8, 3) := by decide +kernel
theorem dX10_meets_140 : decode cX10_meets 140 = .ok (.iload 8, 2) := by decide +kernel
theorem dX10_meets_142 : decode cX10_meets 142 = .ok (.goto 7, 3) := by decide +kernel
theorem dX10_meets_145 : decode cX10_meets 145 = .ok (.aload_n 0, 1) := by decide +kernel
theorem dX10_meets_146 : decode cX10_meets 146 = .ok (.getfield 132, 3) := by decide +kernel
theorem dX10_meets_149 : decode cX10_meets 149 = .ok (.putfield 132, 3) := by decide +kernel
theorem dX10_meets_152 : decode cX10_meets 152 = .ok (.aload_n 0, 1) := by decide +kernel
theorem dX10_meets_153 : decode cX10_meets 153 = .ok (.iload_n 3, 1) := by decide +kernel
theorem dX10_meets_154 : decode cX10_meets 154 = .ok (.iload_n 2, 1) := by decide +kernel
theorem dX10_meets_155 : decode cX10_meets 155 = .ok (.if_icmp .ne 8, 3) := by decide +kernel
theorem dX10_meets_158 : decode cX10_meets 158 = .ok (.iload 9, 2) := by decide +kernel
theorem dX10_meets_160 : decode cX10_meets 160 = .ok (.goto 7, 3) := by decide +kernel
theorem dX10_meets_163 : decode cX10_meets 163 = .ok (.aload_n 0, 1) := by decide +kernel
theorem dX10_meets_164 : decode cX10_meets 164 = .ok (.getfield 135, 3) := by decide +kernel
theorem dX10_meets_167 : decode cX10_meets 167 = .ok (.putfield 135, 3) := by decide +kernel
theorem dX10_meets_170 : decode cX10_meets 170 = .ok (.iinc 3 1, 3) := by decide +kernel
theorem dX10_meets_173 : decode cX10_meets 173 = .ok (.iinc 9 1, 3) := by decide +kernel
theorem dX10_meets_176 : decode cX10_meets 176 = .ok (.goto (-109), 3) := by decide +kernel
theorem dX10_meets_179 : decode cX10_meets 179 = .ok (.iinc 8 1, 3) := by decide +kernel
theorem dX10_meets_182 : decode cX10_meets 182 = .ok (.goto (-126), 3) := by decide +kernel
theorem dX10_meets_185 : decode cX10_meets 185 = .ok (.iinc 7 1, 3) := by decide +kernel
theorem dX10_meets_188 : decode cX10_meets 188 = .ok (.goto (-151), 3) := by decide +kernel
theorem dX10_meets_191 : decode cX10_meets 191 = .ok (.iinc 6 1, 3) := by decide +kernel
theorem dX10_meets_194 : decode cX10_meets 194 = .ok (.goto (-168), 3) := by decide +kernel
theorem dX10_meets_197 : decode cX10_meets 197 = .ok (.iload_n 3, 1) := by decide +kernel
theorem dX10_meets_198 : decode cX10_meets 198 = .ok (.ireturn, 1) := by decide +kernel
theorem dX10_pairs_0 : decode cX10_pairs 0 = .ok (.aload_n 0, 1) := by decide +kernel
theorem dX10_pairs_1 : decode cX10_pairs 1 = .ok (.iconst 0, 1) := by decide +kernel
theorem dX10_pairs_2 : decode cX10_pairs 2 = .ok (.putfield 48, 3) := by decide +kernel
theorem dX10_pairs_5 : decode cX10_pairs 5 = .ok (.aload_n 0, 1) := by decide +kernel
theorem dX10_pairs_6 : decode cX10_pairs 6 = .ok (.invokevirtual 71, 3) := by decide +kernel
theorem dX10_pairs_9 : decode cX10_pairs 9 = .ok (.ireturn, 1) := by decide +kernel
theorem dX10_word_0 : decode cX10_word 0 = .ok (.aload_n 0, 1) := by decide +kernel
theorem dX10_word_1 : decode cX10_word 1 = .ok (.aload_n 0, 1) := by decide +kernel
theorem dX10_word_2 : decode cX10_word 2 = .ok (.iload_n 1, 1) := by decide +kernel
theorem dX10_word_3 : decode cX10_word 3 = .ok (.invokevirtual 67, 3) := by decide +kernel
theorem dX10_word_6 : decode cX10_word 6 = .ok (.ifCond .eq 20, 3) := by decide +kernel
theorem dX10_word_9 : decode cX10_word 9 = .ok (.iload_n 2, 1) := by decide +kernel
theorem dX10_word_10 : decode cX10_word 10 = .ok (.iconst 0, 1) := by decide +kernel
theorem dX10_word_11 : decode cX10_word 11 = .ok (.iconst 1, 1) := by decide +kernel
theorem dX10_word_12 : decode cX10_word 12 = .ok (.invokestatic 55, 3) := by decide +kernel
theorem dX10_word_15 : decode cX10_word 15 = .ok (.ifCond .eq 11, 3) := by decide +kernel
theorem dX10_word_18 : decode cX10_word 18 = .ok (.iload_n 3, 1) := by decide +kernel
theorem dX10_word_19 : decode cX10_word 19 = .ok (.ifCond .lt 7, 3) := by decide +kernel
theorem dX10_word_22 : decode cX10_word 22 = .ok (.iconst 1, 1) := by decide +kernel
theorem dX10_word_23 : decode cX10_word 23 = .ok (.goto 4, 3) := by decide +kernel
theorem dX10_word_26 : decode cX10_word 26 = .ok (.iconst 0, 1) := by decide +kernel
theorem dX10_word_27 : decode cX10_word 27 = .ok (.iconst 1, 1) := by decide +kernel
theorem dX10_word_28 : decode cX10_word 28 = .ok (.iconst 1, 1) := by decide +kernel
theorem dX10_word_29 : decode cX10_word 29 = .ok (.invokevirtual 59, 3) := by decide +kernel
theorem dX10_word_32 : decode cX10_word 32 = .ok (.ifCond .ne 5, 3) := by decide +kernel
theorem dX10_word_35 : decode cX10_word 35 = .ok (.iconst 0, 1) := by decide +kernel
theorem dX10_word_36 : decode cX10_word 36 = .ok (.ireturn, 1) := by decide +kernel
theorem dX10_word_37 : decode cX10_word 37 = .ok (.iload_n 3, 1) := by decide +kernel
theorem dX10_word_38 : decode cX10_word 38 = .ok (.aload_n 0, 1) := by decide +kernel
theorem dX10_word_39 : decode cX10_word 39 = .ok (.iload_n 1, 1) := by decide +kernel
theorem dX10_word_40 : decode cX10_word 40 = .ok (.iload_n 2, 1) := by decide +kernel
theorem dX10_word_41 : decode cX10_word 41 = .ok (.invokevirtual 74, 3) := by decide +kernel
theorem dX10_word_44 : decode cX10_word 44 = .ok (.if_icmp .ge 13, 3) := by decide +kernel
theorem dX10_word_47 : decode cX10_word 47 = .ok (.aload_n 0, 1) := by decide +kernel
theorem dX10_word_48 : decode cX10_word 48 = .ok (.iload_n 1, 1) := by decide +kernel
theorem dX10_word_49 : decode cX10_word 49 = .ok (.iload_n 2, 1) := by decide +kernel
theorem dX10_word_50 : decode cX10_word 50 = .ok (.iload_n 3, 1) := by decide +kernel
theorem dX10_word_51 : decode cX10_word 51 = .ok (.invokevirtual 77, 3) := by decide +kernel
theorem dX10_word_54 : decode cX10_word 54 = .ok (.goto 4, 3) := by decide +kernel
theorem dX10_word_57 : decode cX10_word 57 = .ok (.iconst (-1), 1) := by decide +kernel
theorem dX10_word_58 : decode cX10_word 58 = .ok (.ireturn, 1) := by decide +kernel
theorem dX10_share_0 : decode cX10_share 0 = .ok (.iload_n 1, 1) := by decide +kernel
theorem dX10_share_1 : decode cX10_share 1 = .ok (.iconst 0, 1) := by decide +kernel
theorem dX10_share_2 : decode cX10_share 2 = .ok (.iconst 1, 1) := by decide +kernel
theorem dX10_share_3 : decode cX10_share 3 = .ok (.invokestatic 55, 3) := by decide +kernel
theorem dX10_share_6 : decode cX10_share 6 = .ok (.ifCond .eq 27, 3) := by decide +kernel
theorem dX10_share_9 : decode cX10_share 9 = .ok (.iload_n 2, 1) := by decide +kernel
theorem dX10_share_10 : decode cX10_share 10 = .ok (.iconst 0, 1) := by decide +kernel
theorem dX10_share_11 : decode cX10_share 11 = .ok (.bipush 15, 2) := by decide +kernel
theorem dX10_share_13 : decode cX10_share 13 = .ok (.invokestatic 55, 3) := by decide +kernel
theorem dX10_share_16 : decode cX10_share 16 = .ok (.ifCond .eq 17, 3) := by decide +kernel
theorem dX10_share_19 : decode cX10_share 19 = .ok (.iload_n 3, 1) := by decide +kernel
theorem dX10_share_20 : decode cX10_share 20 = .ok (.iconst 0, 1) := by decide +kernel
theorem dX10_share_21 : decode cX10_share 21 = .ok (.bipush 14, 2) := by decide +kernel
theorem dX10_share_23 : decode cX10_share 23 = .ok (.invokestatic 55, 3) := by decide +kernel
theorem dX10_share_26 : decode cX10_share 26 = .ok (.ifCond .eq 7, 3) := by decide +kernel
theorem dX10_share_29 : decode cX10_share 29 = .ok (.iconst 1, 1) := by decide +kernel
theorem dX10_share_30 : decode cX10_share 30 = .ok (.goto 4, 3) := by decide +kernel
theorem dX10_share_33 : decode cX10_share 33 = .ok (.iconst 0, 1) := by decide +kernel
theorem dX10_share_34 : decode cX10_share 34 = .ok (.istore 4, 2) := by decide +kernel
theorem dX10_share_36 : decode cX10_share 36 = .ok (.aload_n 0, 1) := by decide +kernel
theorem dX10_share_37 : decode cX10_share 37 = .ok (.iload 4, 2) := by decide +kernel
theorem dX10_share_39 : decode cX10_share 39 = .ok (.iconst 1, 1) := by decide +kernel
theorem dX10_share_40 : decode cX10_share 40 = .ok (.iconst 1, 1) := by decide +kernel
theorem dX10_share_41 : decode cX10_share 41 = .ok (.invokevirtual 59, 3) := by decide +kernel
theorem dX10_share_44 : decode cX10_share 44 = .ok (.ifCond .eq 17, 3) := by decide +kernel
theorem dX10_share_47 : decode cX10_share 47 = .ok (.aload_n 0, 1) := by decide +kernel
theorem dX10_share_48 : decode cX10_share 48 = .ok (.getfield 29, 3) := by decide +kernel
theorem dX10_share_51 : decode cX10_share 51 = .ok (.iload_n 1, 1) := by decide +kernel
theorem dX10_share_52 : decode cX10_share 52 = .ok (.iload_n 2, 1) := by decide +kernel
theorem dX10_share_53 : decode cX10_share 53 = .ok (.iload_n 3, 1) := by decide +kernel
theorem dX10_share_54 : decode cX10_share 54 = .ok (.invokestatic 81, 3) := by decide +kernel
theorem dX10_share_57 : decode cX10_share 57 = .ok (.iaload, 1) := by decide +kernel
theorem dX10_share_58 : decode cX10_share 58 = .ok (.goto 4, 3) := by decide +kernel
theorem dX10_share_61 : decode cX10_share 61 = .ok (.iconst 0, 1) := by decide +kernel
theorem dX10_share_62 : decode cX10_share 62 = .ok (.ireturn, 1) := by decide +kernel
theorem dX10_isPlace_0 : decode cX10_isPlace 0 = .ok (.aload_n 0, 1) := by decide +kernel
theorem dX10_isPlace_1 : decode cX10_isPlace 1 = .ok (.iload_n 1, 1) := by decide +kernel
theorem dX10_isPlace_2 : decode cX10_isPlace 2 = .ok (.invokevirtual 67, 3) := by decide +kernel
theorem dX10_isPlace_5 : decode cX10_isPlace 5 = .ok (.ifCond .eq 23, 3) := by decide +kernel
theorem dX10_isPlace_8 : decode cX10_isPlace 8 = .ok (.iload_n 3, 1) := by decide +kernel
theorem dX10_isPlace_9 : decode cX10_isPlace 9 = .ok (.iconst 0, 1) := by decide +kernel
theorem dX10_isPlace_10 : decode cX10_isPlace 10 = .ok (.aload_n 0, 1) := by decide +kernel
theorem dX10_isPlace_11 : decode cX10_isPlace 11 = .ok (.iload_n 1, 1) := by decide +kernel
theorem dX10_isPlace_12 : decode cX10_isPlace 12 = .ok (.iload_n 2, 1) := by decide +kernel
theorem dX10_isPlace_13 : decode cX10_isPlace 13 = .ok (.invokevirtual 74, 3) := by decide +kernel
theorem dX10_isPlace_16 : decode cX10_isPlace 16 = .ok (.iconst 1, 1) := by decide +kernel
theorem dX10_isPlace_17 : decode cX10_isPlace 17 = .ok (.isub, 1) := by decide +kernel
theorem dX10_isPlace_18 : decode cX10_isPlace 18 = .ok (.invokestatic 55, 3) := by decide +kernel
theorem dX10_isPlace_21 : decode cX10_isPlace 21 = .ok (.ifCond .eq 7, 3) := by decide +kernel
theorem dX10_isPlace_24 : decode cX10_isPlace 24 = .ok (.iconst 1, 1) := by decide +kernel
theorem dX10_isPlace_25 : decode cX10_isPlace 25 = .ok (.goto 4, 3) := by decide +kernel
theorem dX10_isPlace_28 : decode cX10_isPlace 28 = .ok (.iconst 0, 1) := by decide +kernel
theorem dX10_isPlace_29 : decode cX10_isPlace 29 = .ok (.ireturn, 1) := by decide +kernel
theorem dX10_link_0 : decode cX10_link 0 = .ok (.iload_n 1, 1) := by decide +kernel
theorem dX10_link_1 : decode cX10_link 1 = .ok (.iconst 0, 1) := by decide +kernel
theorem dX10_link_2 : decode cX10_link 2 = .ok (.iconst 1, 1) := by decide +kernel
theorem dX10_link_3 : decode cX10_link 3 = .ok (.invokestatic 55, 3) := by decide +kernel
theorem dX10_link_6 : decode cX10_link 6 = .ok (.ifCond .eq 25, 3) := by decide +kernel
theorem dX10_link_9 : decode cX10_link 9 = .ok (.aload_n 0, 1) := by decide +kernel
theorem dX10_link_10 : decode cX10_link 10 = .ok (.iload_n 2, 1) := by decide +kernel
theorem dX10_link_11 : decode cX10_link 11 = .ok (.iload_n 1, 1) := by decide +kernel
theorem dX10_link_12 : decode cX10_link 12 = .ok (.ifCond .ne 7, 3) := by decide +kernel
theorem dX10_link_15 : decode cX10_link 15 = .ok (.iconst 1, 1) := by decide +kernel
theorem dX10_link_16 : decode cX10_link 16 = .ok (.goto 4, 3) := by decide +kernel
theorem dX10_link_19 : decode cX10_link 19 = .ok (.iconst 0, 1) := by decide +kernel
theorem dX10_link_20 : decode cX10_link 20 = .ok (.iload_n 3, 1) := by decide +kernel
theorem dX10_link_21 : decode cX10_link 21 = .ok (.invokevirtual 138, 3) := by decide +kernel
theorem dX10_link_24 : decode cX10_link 24 = .ok (.ifCond .eq 7, 3) := by decide +kernel
theorem dX10_link_27 : decode cX10_link 27 = .ok (.iconst 1, 1) := by decide +kernel
theorem dX10_link_28 : decode cX10_link 28 = .ok (.goto 4, 3) := by decide +kernel
theorem dX10_link_31 : decode cX10_link 31 = .ok (.iconst 0, 1) := by decide +kernel
theorem dX10_link_32 : decode cX10_link 32 = .ok (.istore 4, 2) := by decide +kernel
theorem dX10_link_34 : decode cX10_link 34 = .ok (.aload_n 0, 1) := by decide +kernel
theorem dX10_link_35 : decode cX10_link 35 = .ok (.iload 4, 2) := by decide +kernel
theorem dX10_link_37 : decode cX10_link 37 = .ok (.iconst 1, 1) := by decide +kernel
theorem dX10_link_38 : decode cX10_link 38 = .ok (.iconst 1, 1) := by decide +kernel
theorem dX10_link_39 : decode cX10_link 39 = .ok (.invokevirtual 59, 3) := by decide +kernel
theorem dX10_link_42 : decode cX10_link 42 = .ok (.ifCond .eq 13, 3) := by decide +kernel
theorem dX10_link_45 : decode cX10_link 45 = .ok (.aload_n 0, 1) := by decide +kernel
theorem dX10_link_46 : decode cX10_link 46 = .ok (.iload_n 1, 1) := by decide +kernel
theorem dX10_link_47 : decode cX10_link 47 = .ok (.iload_n 2, 1) := by decide +kernel
theorem dX10_link_48 : decode cX10_link 48 = .ok (.iload_n 3, 1) := by decide +kernel
theorem dX10_link_49 : decode cX10_link 49 = .ok (.invokevirtual 110, 3) := by decide +kernel
theorem dX10_link_52 : decode cX10_link 52 = .ok (.goto 4, 3) := by decide +kernel
theorem dX10_link_55 : decode cX10_link 55 = .ok (.iconst 0, 1) := by decide +kernel
theorem dX10_link_56 : decode cX10_link 56 = .ok (.ireturn, 1) := by decide +kernel
theorem dX10_isJoined_0 : decode cX10_isJoined 0 = .ok (.aload_n 0, 1) := by decide +kernel
theorem dX10_isJoined_1 : decode cX10_isJoined 1 = .ok (.aload_n 0, 1) := by decide +kernel
theorem dX10_isJoined_2 : decode cX10_isJoined 2 = .ok (.iload_n 1, 1) := by decide +kernel
theorem dX10_isJoined_3 : decode cX10_isJoined 3 = .ok (.iconst 0, 1) := by decide +kernel
theorem dX10_isJoined_4 : decode cX10_isJoined 4 = .ok (.iload_n 2, 1) := by decide +kernel
theorem dX10_isJoined_5 : decode cX10_isJoined 5 = .ok (.invokevirtual 138, 3) := by decide +kernel
theorem dX10_isJoined_8 : decode cX10_isJoined 8 = .ok (.ifCond .eq 17, 3) := by decide +kernel
theorem dX10_isJoined_11 : decode cX10_isJoined 11 = .ok (.aload_n 0, 1) := by decide +kernel
theorem dX10_isJoined_12 : decode cX10_isJoined 12 = .ok (.iload_n 1, 1) := by decide +kernel
theorem dX10_isJoined_13 : decode cX10_isJoined 13 = .ok (.iconst 1, 1) := by decide +kernel
theorem dX10_isJoined_14 : decode cX10_isJoined 14 = .ok (.iload_n 3, 1) := by decide +kernel
theorem dX10_isJoined_15 : decode cX10_isJoined 15 = .ok (.invokevirtual 138, 3) := by decide +kernel
theorem dX10_isJoined_18 : decode cX10_isJoined 18 = .ok (.ifCond .eq 7, 3) := by decide +kernel
theorem dX10_isJoined_21 : decode cX10_isJoined 21 = .ok (.iconst 1, 1) := by decide +kernel
theorem dX10_isJoined_22 : decode cX10_isJoined 22 = .ok (.goto 4, 3) := by decide +kernel
theorem dX10_isJoined_25 : decode cX10_isJoined 25 = .ok (.iconst 0, 1) := by decide +kernel
theorem dX10_isJoined_26 : decode cX10_isJoined 26 = .ok (.iconst 1, 1) := by decide +kernel
theorem dX10_isJoined_27 : decode cX10_isJoined 27 = .ok (.iconst 1, 1) := by decide +kernel
theorem dX10_isJoined_28 : decode cX10_isJoined 28 = .ok (.invokevirtual 59, 3) := by decide +kernel
theorem dX10_isJoined_31 : decode cX10_isJoined 31 = .ok (.ifCond .ne 5, 3) := by decide +kernel
theorem dX10_isJoined_34 : decode cX10_isJoined 34 = .ok (.iconst 0, 1) := by decide +kernel
theorem dX10_isJoined_35 : decode cX10_isJoined 35 = .ok (.ireturn, 1) := by decide +kernel
theorem dX10_isJoined_36 : decode cX10_isJoined 36 = .ok (.aload_n 0, 1) := by decide +kernel
theorem dX10_isJoined_37 : decode cX10_isJoined 37 = .ok (.iload_n 1, 1) := by decide +kernel
theorem dX10_isJoined_38 : decode cX10_isJoined 38 = .ok (.invokevirtual 119, 3) := by decide +kernel
theorem dX10_isJoined_41 : decode cX10_isJoined 41 = .ok (.aload_n 0, 1) := by decide +kernel
theorem dX10_isJoined_42 : decode cX10_isJoined 42 = .ok (.getfield 45, 3) := by decide +kernel
theorem dX10_isJoined_45 : decode cX10_isJoined 45 = .ok (.bipush 8, 2) := by decide +kernel
theorem dX10_isJoined_47 : decode cX10_isJoined 47 = .ok (.iload_n 2, 1) := by decide +kernel
theorem dX10_isJoined_48 : decode cX10_isJoined 48 = .ok (.imul, 1) := by decide +kernel
theorem dX10_isJoined_49 : decode cX10_isJoined 49 = .ok (.iload_n 3, 1) := by decide +kernel
theorem dX10_isJoined_50 : decode cX10_isJoined 50 = .ok (.iadd, 1) := by decide +kernel
theorem dX10_isJoined_51 : decode cX10_isJoined 51 = .ok (.baload, 1) := by decide +kernel
theorem dX10_isJoined_52 : decode cX10_isJoined 52 = .ok (.ireturn, 1) := by decide +kernel
theorem dX10_phrases_0 : decode cX10_phrases 0 = .ok (.aload_n 0, 1) := by decide +kernel
theorem dX10_phrases_1 : decode cX10_phrases 1 = .ok (.aload_n 0, 1) := by decide +kernel
theorem dX10_phrases_2 : decode cX10_phrases 2 = .ok (.iload_n 1, 1) := by decide +kernel
theorem dX10_phrases_3 : decode cX10_phrases 3 = .ok (.invokevirtual 67, 3) := by decide +kernel
theorem dX10_phrases_6 : decode cX10_phrases 6 = .ok (.iconst 1, 1) := by decide +kernel
theorem dX10_phrases_7 : decode cX10_phrases 7 = .ok (.iconst 1, 1) := by decide +kernel
theorem dX10_phrases_8 : decode cX10_phrases 8 = .ok (.invokevirtual 59, 3) := by decide +kernel
theorem dX10_phrases_11 : decode cX10_phrases 11 = .ok (.ifCond .eq 12, 3) := by decide +kernel
theorem dX10_phrases_14 : decode cX10_phrases 14 = .ok (.aload_n 0, 1) := by decide +kernel
theorem dX10_phrases_15 : decode cX10_phrases 15 = .ok (.iload_n 1, 1) := by decide +kernel
theorem dX10_phrases_16 : decode cX10_phrases 16 = .ok (.iconst (-1), 1) := by decide +kernel
theorem dX10_phrases_17 : decode cX10_phrases 17 = .ok (.invokevirtual 141, 3) := by decide +kernel
theorem dX10_phrases_20 : decode cX10_phrases 20 = .ok (.goto 4, 3) := by decide +kernel
theorem dX10_phrases_23 : decode cX10_phrases 23 = .ok (.iconst 0, 1) := by decide +kernel
theorem dX10_phrases_24 : decode cX10_phrases 24 = .ok (.ireturn, 1) := by decide +kernel
theorem dX10_phrase_0 : decode cX10_phrase 0 = .ok (.aload_n 0, 1) := by decide +kernel
theorem dX10_phrase_1 : decode cX10_phrase 1 = .ok (.iload_n 1, 1) := by decide +kernel
theorem dX10_phrase_2 : decode cX10_phrase 2 = .ok (.invokevirtual 67, 3) := by decide +kernel
theorem dX10_phrase_5 : decode cX10_phrase 5 = .ok (.ifCond .eq 21, 3) := by decide +kernel
theorem dX10_phrase_8 : decode cX10_phrase 8 = .ok (.iload_n 2, 1) := by decide +kernel
theorem dX10_phrase_9 : decode cX10_phrase 9 = .ok (.ifCond .lt 17, 3) := by decide +kernel
theorem dX10_phrase_12 : decode cX10_phrase 12 = .ok (.aload_n 0, 1) := by decide +kernel
theorem dX10_phrase_13 : decode cX10_phrase 13 = .ok (.iload_n 1, 1) := by decide +kernel
theorem dX10_phrase_14 : decode cX10_phrase 14 = .ok (.iload_n 2, 1) := by decide +kernel
theorem dX10_phrase_15 : decode cX10_phrase 15 = .ok (.invokevirtual 141, 3) := by decide +kernel
theorem dX10_phrase_18 : decode cX10_phrase 18 = .ok (.iload_n 2, 1) := by decide +kernel
theorem dX10_phrase_19 : decode cX10_phrase 19 = .ok (.if_icmp .le 7, 3) := by decide +kernel
theorem dX10_phrase_22 : decode cX10_phrase 22 = .ok (.iconst 1, 1) := by decide +kernel
theorem dX10_phrase_23 : decode cX10_phrase 23 = .ok (.goto 4, 3) := by decide +kernel
theorem dX10_phrase_26 : decode cX10_phrase 26 = .ok (.iconst 0, 1) := by decide +kernel
theorem dX10_phrase_27 : decode cX10_phrase 27 = .ok (.istore 4, 2) := by decide +kernel
theorem dX10_phrase_29 : decode cX10_phrase 29 = .ok (.aload_n 0, 1) := by decide +kernel
theorem dX10_phrase_30 : decode cX10_phrase 30 = .ok (.iload 4, 2) := by decide +kernel
theorem dX10_phrase_32 : decode cX10_phrase 32 = .ok (.iload_n 3, 1) := by decide +kernel
theorem dX10_phrase_33 : decode cX10_phrase 33 = .ok (.iconst 0, 1) := by decide +kernel
theorem dX10_phrase_34 : decode cX10_phrase 34 = .ok (.iconst 3, 1) := by decide +kernel
theorem dX10_phrase_35 : decode cX10_phrase 35 = .ok (.invokestatic 55, 3) := by decide +kernel
theorem dX10_phrase_38 : decode cX10_phrase 38 = .ok (.iconst 1, 1) := by decide +kernel
theorem dX10_phrase_39 : decode cX10_phrase 39 = .ok (.invokevirtual 59, 3) := by decide +kernel
theorem dX10_phrase_42 : decode cX10_phrase 42 = .ok (.ifCond .ne 5, 3) := by decide +kernel
theorem dX10_phrase_45 : decode cX10_phrase 45 = .ok (.iconst 0, 1) := by decide +kernel
theorem dX10_phrase_46 : decode cX10_phrase 46 = .ok (.ireturn, 1) := by decide +kernel
theorem dX10_phrase_47 : decode cX10_phrase 47 = .ok (.iload_n 3, 1) := by decide +kernel
theorem dX10_phrase_48 : decode cX10_phrase 48 = .ok (.ifCond .ne 10, 3) := by decide +kernel
theorem dX10_phrase_51 : decode cX10_phrase 51 = .ok (.aload_n 0, 1) := by decide +kernel
theorem dX10_phrase_52 : decode cX10_phrase 52 = .ok (.getfield 126, 3) := by decide +kernel
theorem dX10_phrase_55 : decode cX10_phrase 55 = .ok (.goto 31, 3) := by decide +kernel
theorem dX10_phrase_58 : decode cX10_phrase 58 = .ok (.iload_n 3, 1) := by decide +kernel
theorem dX10_phrase_59 : decode cX10_phrase 59 = .ok (.iconst 1, 1) := by decide +kernel
theorem dX10_phrase_60 : decode cX10_phrase 60 = .ok (.if_icmp .ne 10, 3) := by decide +kernel
theorem dX10_phrase_63 : decode cX10_phrase 63 = .ok (.aload_n 0, 1) := by decide +kernel
theorem dX10_phrase_64 : decode cX10_phrase 64 = .ok (.getfield 129, 3) := by decide +kernel
theorem dX10_phrase_67 : decode cX10_phrase 67 = .ok (.goto 19, 3) := by decide +kernel
theorem dX10_phrase_70 : decode cX10_phrase 70 = .ok (.iload_n 3, 1) := by decide +kernel
theorem dX10_phrase_71 : decode cX10_phrase 71 = .ok (.iconst 2, 1) := by decide +kernel
theorem dX10_phrase_72 : decode cX10_phrase 72 = .ok (.if_icmp .ne 10, 3) := by decide +kernel
theorem dX10_phrase_75 : decode cX10_phrase 75 = .ok (.aload_n 0, 1) := by decide +kernel
theorem dX10_phrase_76 : decode cX10_phrase 76 = .ok (.getfield 132, 3) := by decide +kernel
theorem dX10_phrase_79 : decode cX10_phrase 79 = .ok (.goto 7, 3) := by decide +kernel
theorem dX10_phrase_82 : decode cX10_phrase 82 = .ok (.aload_n 0, 1) := by decide +kernel
theorem dX10_phrase_83 : decode cX10_phrase 83 = .ok (.getfield 135, 3) := by decide +kernel
theorem dX10_phrase_86 : decode cX10_phrase 86 = .ok (.ireturn, 1) := by decide +kernel
theorem dX10_fertilityOf_0 : decode cX10_fertilityOf 0 = .ok (.iconst 0, 1) := by decide +kernel
theorem dX10_fertilityOf_1 : decode cX10_fertilityOf 1 = .ok (.istore_n 2, 1) := by decide +kernel
theorem dX10_fertilityOf_2 : decode cX10_fertilityOf 2 = .ok (.iconst 0, 1) := by decide +kernel
theorem dX10_fertilityOf_3 : decode cX10_fertilityOf 3 = .ok (.istore_n 3, 1) := by decide +kernel
theorem dX10_fertilityOf_4 : decode cX10_fertilityOf 4 = .ok (.iload_n 3, 1) := by decide +kernel
theorem dX10_fertilityOf_5 : decode cX10_fertilityOf 5 = .ok (.bipush 8, 2) := by decide +kernel
theorem dX10_fertilityOf_7 : decode cX10_fertilityOf 7 = .ok (.if_icmp .ge 31, 3) := by decide +kernel
theorem dX10_fertilityOf_10 : decode cX10_fertilityOf 10 = .ok (.iload_n 2, 1) := by decide +kernel
theorem dX10_fertilityOf_11 : decode cX10_fertilityOf 11 = .ok (.aload_n 0, 1) := by decide +kernel
theorem dX10_fertilityOf_12 : decode cX10_fertilityOf 12 = .ok (.getfield 45, 3) := by decide +kernel
theorem dX10_fertilityOf_15 : decode cX10_fertilityOf 15 = .ok (.bipush 8, 2) := by decide +kernel
theorem dX10_fertilityOf_17 : decode cX10_fertilityOf 17 = .ok (.iload_n 1, 1) := by decide +kernel
theorem dX10_fertilityOf_18 : decode cX10_fertilityOf 18 = .ok (.imul, 1) := by decide +kernel
theorem dX10_fertilityOf_19 : decode cX10_fertilityOf 19 = .ok (.iload_n 3, 1) := by decide +kernel
theorem dX10_fertilityOf_20 : decode cX10_fertilityOf 20 = .ok (.iadd, 1) := by decide +kernel
theorem dX10_fertilityOf_21 : decode cX10_fertilityOf 21 = .ok (.baload, 1) := by decide +kernel
theorem dX10_fertilityOf_22 : decode cX10_fertilityOf 22 = .ok (.ifCond .eq 7, 3) := by decide +kernel
theorem dX10_fertilityOf_25 : decode cX10_fertilityOf 25 = .ok (.iconst 1, 1) := by decide +kernel
theorem dX10_fertilityOf_26 : decode cX10_fertilityOf 26 = .ok (.goto 4, 3) := by decide +kernel
theorem dX10_fertilityOf_29 : decode cX10_fertilityOf 29 = .ok (.iconst 0, 1) := by decide +kernel
theorem dX10_fertilityOf_30 : decode cX10_fertilityOf 30 = .ok (.iadd, 1) := by decide +kernel
theorem dX10_fertilityOf_31 : decode cX10_fertilityOf 31 = .ok (.istore_n 2, 1) := by decide +kernel
theorem dX10_fertilityOf_32 : decode cX10_fertilityOf 32 = .ok (.iinc 3 1, 3) := by decide +kernel
theorem dX10_fertilityOf_35 : decode cX10_fertilityOf 35 = .ok (.goto (-31), 3) := by decide +kernel
theorem dX10_fertilityOf_38 : decode cX10_fertilityOf 38 = .ok (.iload_n 2, 1) := by decide +kernel
theorem dX10_fertilityOf_39 : decode cX10_fertilityOf 39 = .ok (.ireturn, 1) := by decide +kernel
theorem dX10_fertility_0 : decode cX10_fertility 0 = .ok (.aload_n 0, 1) := by decide +kernel
theorem dX10_fertility_1 : decode cX10_fertility 1 = .ok (.iload_n 1, 1) := by decide +kernel
theorem dX10_fertility_2 : decode cX10_fertility 2 = .ok (.iconst 0, 1) := by decide +kernel
theorem dX10_fertility_3 : decode cX10_fertility 3 = .ok (.bipush 14, 2) := by decide +kernel
theorem dX10_fertility_5 : decode cX10_fertility 5 = .ok (.invokestatic 55, 3) := by decide +kernel
theorem dX10_fertility_8 : decode cX10_fertility 8 = .ok (.iload_n 2, 1) := by decide +kernel
theorem dX10_fertility_9 : decode cX10_fertility 9 = .ok (.iconst 0, 1) := by decide +kernel
theorem dX10_fertility_10 : decode cX10_fertility 10 = .ok (.bipush 8, 2) := by decide +kernel
theorem dX10_fertility_12 : decode cX10_fertility 12 = .ok (.invokestatic 55, 3) := by decide +kernel
theorem dX10_fertility_15 : decode cX10_fertility 15 = .ok (.iconst 1, 1) := by decide +kernel
theorem dX10_fertility_16 : decode cX10_fertility 16 = .ok (.invokevirtual 59, 3) := by decide +kernel
theorem dX10_fertility_19 : decode cX10_fertility 19 = .ok (.ifCond .ne 5, 3) := by decide +kernel
theorem dX10_fertility_22 : decode cX10_fertility 22 = .ok (.iconst 0, 1) := by decide +kernel
theorem dX10_fertility_23 : decode cX10_fertility 23 = .ok (.ireturn, 1) := by decide +kernel
theorem dX10_fertility_24 : decode cX10_fertility 24 = .ok (.iconst 0, 1) := by decide +kernel
theorem dX10_fertility_25 : decode cX10_fertility 25 = .ok (.istore_n 3, 1) := by decide +kernel
theorem dX10_fertility_26 : decode cX10_fertility 26 = .ok (.iconst 0, 1) := by decide +kernel
theorem dX10_fertility_27 : decode cX10_fertility 27 = .ok (.istore 4, 2) := by decide +kernel
theorem dX10_fertility_29 : decode cX10_fertility 29 = .ok (.iload 4, 2) := by decide +kernel
theorem dX10_fertility_31 : decode cX10_fertility 31 = .ok (.aload_n 0, 1) := by decide +kernel
theorem dX10_fertility_32 : decode cX10_fertility 32 = .ok (.getfield 52, 3) := by decide +kernel
theorem dX10_fertility_35 : decode cX10_fertility 35 = .ok (.if_icmp .ge 77, 3) := by decide +kernel
theorem dX10_fertility_38 : decode cX10_fertility 38 = .ok (.aload_n 0, 1) := by decide +kernel
theorem dX10_fertility_39 : decode cX10_fertility 39 = .ok (.getfield 22, 3) := by decide +kernel
theorem dX10_fertility_42 : decode cX10_fertility 42 = .ok (.iload 4, 2) := by decide +kernel
theorem dX10_fertility_44 : decode cX10_fertility 44 = .ok (.baload, 1) := by decide +kernel
theorem dX10_fertility_45 : decode cX10_fertility 45 = .ok (.ifCond .ne 61, 3) := by decide +kernel
theorem dX10_fertility_48 : decode cX10_fertility 48 = .ok (.aload_n 0, 1) := by decide +kernel
theorem dX10_fertility_49 : decode cX10_fertility 49 = .ok (.iload 4, 2) := by decide +kernel
theorem dX10_fertility_51 : decode cX10_fertility 51 = .ok (.invokevirtual 119, 3) := by decide +kernel
theorem dX10_fertility_54 : decode cX10_fertility 54 = .ok (.iconst 0, 1) := by decide +kernel
theorem dX10_fertility_55 : decode cX10_fertility 55 = .ok (.istore 5, 2) := by decide +kernel
theorem dX10_fertility_57 : decode cX10_fertility 57 = .ok (.iload 5, 2) := by decide +kernel
theorem dX10_fertility_59 : decode cX10_fertility 59 = .ok (.aload_n 0, 1) := by decide +kernel
theorem dX10_fertility_60 : decode cX10_fertility 60 = .ok (.iload 4, 2) := by decide +kernel
theorem dX10_fertility_62 : decode cX10_fertility 62 = .ok (.iconst 0, 1) := by decide +kernel
theorem dX10_fertility_63 : decode cX10_fertility 63 = .ok (.invokevirtual 74, 3) := by decide +kernel
theorem dX10_fertility_66 : decode cX10_fertility 66 = .ok (.if_icmp .ge 40, 3) := by decide +kernel
theorem dX10_fertility_69 : decode cX10_fertility 69 = .ok (.iload_n 3, 1) := by decide +kernel
theorem dX10_fertility_70 : decode cX10_fertility 70 = .ok (.aload_n 0, 1) := by decide +kernel
theorem dX10_fertility_71 : decode cX10_fertility 71 = .ok (.iload 4, 2) := by decide +kernel
theorem dX10_fertility_73 : decode cX10_fertility 73 = .ok (.iconst 0, 1) := by decide +kernel
theorem dX10_fertility_74 : decode cX10_fertility 74 = .ok (.iload 5, 2) := by decide +kernel
theorem dX10_fertility_76 : decode cX10_fertility 76 = .ok (.invokevirtual 77, 3) := by decide +kernel
theorem dX10_fertility_79 : decode cX10_fertility 79 = .ok (.iload_n 1, 1) := by decide +kernel
theorem dX10_fertility_80 : decode cX10_fertility 80 = .ok (.if_icmp .ne 17, 3) := by decide +kernel
theorem dX10_fertility_83 : decode cX10_fertility 83 = .ok (.aload_n 0, 1) := by decide +kernel
theorem dX10_fertility_84 : decode cX10_fertility 84 = .ok (.iload 5, 2) := by decide +kernel
theorem dX10_fertility_86 : decode cX10_fertility 86 = .ok (.invokevirtual 144, 3) := by decide +kernel
theorem dX10_fertility_89 : decode cX10_fertility 89 = .ok (.iload_n 2, 1) := by decide +kernel
theorem dX10_fertility_90 : decode cX10_fertility 90 = .ok (.if_icmp .ne 7, 3) := by decide +kernel
theorem dX10_fertility_93 : decode cX10_fertility 93 = .ok (.iconst 1, 1) := by decide +kernel
theorem dX10_fertility_94 : decode cX10_fertility 94 = .ok (.goto 4, 3) := by decide +kernel
theorem dX10_fertility_97 : decode cX10_fertility 97 = .ok (.iconst 0, 1) := by decide +kernel
theorem dX10_fertility_98 : decode cX10_fertility 98 = .ok (.iadd, 1) := by decide +kernel
theorem dX10_fertility_99 : decode cX10_fertility 99 = .ok (.istore_n 3, 1) := by decide +kernel
theorem dX10_fertility_100 : decode cX10_fertility 100 = .ok (.iinc 5 1, 3) := by decide +kernel
theorem dX10_fertility_103 : decode cX10_fertility 103 = .ok (.goto (-46), 3) := by decide +kernel
theorem dX10_fertility_106 : decode cX10_fertility 106 = .ok (.iinc 4 1, 3) := by decide +kernel
theorem dX10_fertility_109 : decode cX10_fertility 109 = .ok (.goto (-80), 3) := by decide +kernel
theorem dX10_fertility_112 : decode cX10_fertility 112 = .ok (.iload_n 3, 1) := by decide +kernel
theorem dX10_fertility_113 : decode cX10_fertility 113 = .ok (.ireturn, 1) := by decide +kernel
theorem dX10_total_0 : decode cX10_total 0 = .ok (.aload_n 0, 1) := by decide +kernel
theorem dX10_total_1 : decode cX10_total 1 = .ok (.aload_n 0, 1) := by decide +kernel
theorem dX10_total_2 : decode cX10_total 2 = .ok (.iload_n 1, 1) := by decide +kernel
theorem dX10_total_3 : decode cX10_total 3 = .ok (.invokevirtual 67, 3) := by decide +kernel
theorem dX10_total_6 : decode cX10_total 6 = .ok (.aload_n 0, 1) := by decide +kernel
theorem dX10_total_7 : decode cX10_total 7 = .ok (.iload_n 1, 1) := by decide +kernel
theorem dX10_total_8 : decode cX10_total 8 = .ok (.invokevirtual 67, 3) := by decide +kernel
theorem dX10_total_11 : decode cX10_total 11 = .ok (.ifCond .eq 17, 3) := by decide +kernel
theorem dX10_total_14 : decode cX10_total 14 = .ok (.aload_n 0, 1) := by decide +kernel
theorem dX10_total_15 : decode cX10_total 15 = .ok (.iload_n 1, 1) := by decide +kernel
theorem dX10_total_16 : decode cX10_total 16 = .ok (.iconst 1, 1) := by decide +kernel
theorem dX10_total_17 : decode cX10_total 17 = .ok (.invokevirtual 74, 3) := by decide +kernel
theorem dX10_total_20 : decode cX10_total 20 = .ok (.iconst 4, 1) := by decide +kernel
theorem dX10_total_21 : decode cX10_total 21 = .ok (.if_icmp .gt 7, 3) := by decide +kernel
theorem dX10_total_24 : decode cX10_total 24 = .ok (.iconst 1, 1) := by decide +kernel
theorem dX10_total_25 : decode cX10_total 25 = .ok (.goto 4, 3) := by decide +kernel
theorem dX10_total_28 : decode cX10_total 28 = .ok (.iconst 0, 1) := by decide +kernel
theorem dX10_total_29 : decode cX10_total 29 = .ok (.iconst 1, 1) := by decide +kernel
theorem dX10_total_30 : decode cX10_total 30 = .ok (.invokevirtual 59, 3) := by decide +kernel
theorem dX10_total_33 : decode cX10_total 33 = .ok (.ifCond .ne 5, 3) := by decide +kernel
theorem dX10_total_36 : decode cX10_total 36 = .ok (.lconst 0, 1) := by decide +kernel
theorem dX10_total_37 : decode cX10_total 37 = .ok (.lreturn, 1) := by decide +kernel
theorem dX10_total_38 : decode cX10_total 38 = .ok (.lconst 1, 1) := by decide +kernel
theorem dX10_total_39 : decode cX10_total 39 = .ok (.lstore_n 2, 1) := by decide +kernel
theorem dX10_total_40 : decode cX10_total 40 = .ok (.iconst 0, 1) := by decide +kernel
theorem dX10_total_41 : decode cX10_total 41 = .ok (.istore 4, 2) := by decide +kernel
theorem dX10_total_43 : decode cX10_total 43 = .ok (.iload 4, 2) := by decide +kernel
theorem dX10_total_45 : decode cX10_total 45 = .ok (.aload_n 0, 1) := by decide +kernel
theorem dX10_total_46 : decode cX10_total 46 = .ok (.iload_n 1, 1) := by decide +kernel
theorem dX10_total_47 : decode cX10_total 47 = .ok (.iconst 1, 1) := by decide +kernel
theorem dX10_total_48 : decode cX10_total 48 = .ok (.invokevirtual 74, 3) := by decide +kernel
theorem dX10_total_51 : decode cX10_total 51 = .ok (.if_icmp .ge 93, 3) := by decide +kernel
theorem dX10_total_54 : decode cX10_total 54 = .ok (.aload_n 0, 1) := by decide +kernel
theorem dX10_total_55 : decode cX10_total 55 = .ok (.iload_n 1, 1) := by decide +kernel
theorem dX10_total_56 : decode cX10_total 56 = .ok (.iconst 1, 1) := by decide +kernel
theorem dX10_total_57 : decode cX10_total 57 = .ok (.iload 4, 2) := by decide +kernel
theorem dX10_total_59 : decode cX10_total 59 = .ok (.invokevirtual 77, 3) := by decide +kernel
theorem dX10_total_62 : decode cX10_total 62 = .ok (.istore 5, 2) := by decide +kernel
theorem dX10_total_64 : decode cX10_total 64 = .ok (.aload_n 0, 1) := by decide +kernel
theorem dX10_total_65 : decode cX10_total 65 = .ok (.getfield 29, 3) := by decide +kernel
theorem dX10_total_68 : decode cX10_total 68 = .ok (.iconst 0, 1) := by decide +kernel
theorem dX10_total_69 : decode cX10_total 69 = .ok (.bipush 15, 2) := by decide +kernel
theorem dX10_total_71 : decode cX10_total 71 = .ok (.iload 5, 2) := by decide +kernel
theorem dX10_total_73 : decode cX10_total 73 = .ok (.invokestatic 81, 3) := by decide +kernel
theorem dX10_total_76 : decode cX10_total 76 = .ok (.iaload, 1) := by decide +kernel
theorem dX10_total_77 : decode cX10_total 77 = .ok (.sipush 1000, 3) := by decide +kernel
theorem dX10_total_80 : decode cX10_total 80 = .ok (.idiv, 1) := by decide +kernel
theorem dX10_total_81 : decode cX10_total 81 = .ok (.i2l, 1) := by decide +kernel
theorem dX10_total_82 : decode cX10_total 82 = .ok (.lstore 6, 2) := by decide +kernel
theorem dX10_total_84 : decode cX10_total 84 = .ok (.iconst 0, 1) := by decide +kernel
theorem dX10_total_85 : decode cX10_total 85 = .ok (.istore 8, 2) := by decide +kernel
theorem dX10_total_87 : decode cX10_total 87 = .ok (.iload 8, 2) := by decide +kernel
theorem dX10_total_89 : decode cX10_total 89 = .ok (.aload_n 0, 1) := by decide +kernel
theorem dX10_total_90 : decode cX10_total 90 = .ok (.iload_n 1, 1) := by decide +kernel
theorem dX10_total_91 : decode cX10_total 91 = .ok (.iconst 0, 1) := by decide +kernel
theorem dX10_total_92 : decode cX10_total 92 = .ok (.invokevirtual 74, 3) := by decide +kernel
theorem dX10_total_95 : decode cX10_total 95 = .ok (.if_icmp .ge 38, 3) := by decide +kernel
theorem dX10_total_98 : decode cX10_total 98 = .ok (.lload 6, 2) := by decide +kernel
theorem dX10_total_100 : decode cX10_total 100 = .ok (.aload_n 0, 1) := by decide +kernel
theorem dX10_total_101 : decode cX10_total 101 = .ok (.getfield 29, 3) := by decide +kernel
theorem dX10_total_104 : decode cX10_total 104 = .ok (.iconst 0, 1) := by decide +kernel
theorem dX10_total_105 : decode cX10_total 105 = .ok (.aload_n 0, 1) := by decide +kernel
theorem dX10_total_106 : decode cX10_total 106 = .ok (.iload_n 1, 1) := by decide +kernel
theorem dX10_total_107 : decode cX10_total 107 = .ok (.iconst 0, 1) := by decide +kernel
theorem dX10_total_108 : decode cX10_total 108 = .ok (.iload 8, 2) := by decide +kernel
theorem dX10_total_110 : decode cX10_total 110 = .ok (.invokevirtual 77, 3) := by decide +kernel
theorem dX10_total_113 : decode cX10_total 113 = .ok (.iload 5, 2) := by decide +kernel
theorem dX10_total_115 : decode cX10_total 115 = .ok (.invokestatic 81, 3) := by decide +kernel
theorem dX10_total_118 : decode cX10_total 118 = .ok (.iaload, 1) := by decide +kernel
theorem dX10_total_119 : decode cX10_total 119 = .ok (.sipush 1000, 3) := by decide +kernel
theorem dX10_total_122 : decode cX10_total 122 = .ok (.idiv, 1) := by decide +kernel
theorem dX10_total_123 : decode cX10_total 123 = .ok (.i2l, 1) := by decide +kernel
theorem dX10_total_124 : decode cX10_total 124 = .ok (.ladd, 1) := by decide +kernel
theorem dX10_total_125 : decode cX10_total 125 = .ok (.lstore 6, 2) := by decide +kernel
theorem dX10_total_127 : decode cX10_total 127 = .ok (.iinc 8 1, 3) := by decide +kernel
theorem dX10_total_130 : decode cX10_total 130 = .ok (.goto (-43), 3) := by decide +kernel
theorem dX10_total_133 : decode cX10_total 133 = .ok (.lload_n 2, 1) := by decide +kernel
theorem dX10_total_134 : decode cX10_total 134 = .ok (.lload 6, 2) := by decide +kernel
theorem dX10_total_136 : decode cX10_total 136 = .ok (.lmul, 1) := by decide +kernel
theorem dX10_total_137 : decode cX10_total 137 = .ok (.lstore_n 2, 1) := by decide +kernel
theorem dX10_total_138 : decode cX10_total 138 = .ok (.iinc 4 1, 3) := by decide +kernel
theorem dX10_total_141 : decode cX10_total 141 = .ok (.goto (-98), 3) := by decide +kernel
theorem dX10_total_144 : decode cX10_total 144 = .ok (.lload_n 2, 1) := by decide +kernel
theorem dX10_total_145 : decode cX10_total 145 = .ok (.lreturn, 1) := by decide +kernel
theorem dX10_totalAnew_0 : decode cX10_totalAnew 0 = .ok (.aload_n 0, 1) := by decide +kernel
theorem dX10_totalAnew_1 : decode cX10_totalAnew 1 = .ok (.iload_n 1, 1) := by decide +kernel
theorem dX10_totalAnew_2 : decode cX10_totalAnew 2 = .ok (.invokevirtual 148, 3) := by decide +kernel
theorem dX10_totalAnew_5 : decode cX10_totalAnew 5 = .ok (.lreturn, 1) := by decide +kernel
theorem dJ6_bitCount_0f7a4_0 : decode cJ6_bitCount_0f7a4 0 = .ok (.iload_n 0, 1) := by decide +kernel
theorem dJ6_bitCount_0f7a4_1 : decode cJ6_bitCount_0f7a4 1 = .ok (.iload_n 0, 1) := by decide +kernel
theorem dJ6_bitCount_0f7a4_2 : decode cJ6_bitCount_0f7a4 2 = .ok (.iconst 1, 1) := by decide +kernel
theorem dJ6_bitCount_0f7a4_3 : decode cJ6_bitCount_0f7a4 3 = .ok (.iushr, 1) := by decide +kernel
theorem dJ6_bitCount_0f7a4_4 : decode cJ6_bitCount_0f7a4 4 = .ok (.ldc_w 265, 3) := by decide +kernel
theorem dJ6_bitCount_0f7a4_7 : decode cJ6_bitCount_0f7a4 7 = .ok (.iand, 1) := by decide +kernel
theorem dJ6_bitCount_0f7a4_8 : decode cJ6_bitCount_0f7a4 8 = .ok (.isub, 1) := by decide +kernel
theorem dJ6_bitCount_0f7a4_9 : decode cJ6_bitCount_0f7a4 9 = .ok (.istore_n 0, 1) := by decide +kernel
theorem dJ6_bitCount_0f7a4_10 : decode cJ6_bitCount_0f7a4 10 = .ok (.iload_n 0, 1) := by decide +kernel
theorem dJ6_bitCount_0f7a4_11 : decode cJ6_bitCount_0f7a4 11 = .ok (.ldc_w 266, 3) := by decide +kernel
theorem dJ6_bitCount_0f7a4_14 : decode cJ6_bitCount_0f7a4 14 = .ok (.iand, 1) := by decide +kernel
theorem dJ6_bitCount_0f7a4_15 : decode cJ6_bitCount_0f7a4 15 = .ok (.iload_n 0, 1) := by decide +kernel
theorem dJ6_bitCount_0f7a4_16 : decode cJ6_bitCount_0f7a4 16 = .ok (.iconst 2, 1) := by decide +kernel
theorem dJ6_bitCount_0f7a4_17 : decode cJ6_bitCount_0f7a4 17 = .ok (.iushr, 1) := by decide +kernel
theorem dJ6_bitCount_0f7a4_18 : decode cJ6_bitCount_0f7a4 18 = .ok (.ldc_w 266, 3) := by decide +kernel
theorem dJ6_bitCount_0f7a4_21 : decode cJ6_bitCount_0f7a4 21 = .ok (.iand, 1) := by decide +kernel
theorem dJ6_bitCount_0f7a4_22 : decode cJ6_bitCount_0f7a4 22 = .ok (.iadd, 1) := by decide +kernel
theorem dJ6_bitCount_0f7a4_23 : decode cJ6_bitCount_0f7a4 23 = .ok (.istore_n 0, 1) := by decide +kernel
theorem dJ6_bitCount_0f7a4_24 : decode cJ6_bitCount_0f7a4 24 = .ok (.iload_n 0, 1) := by decide +kernel
theorem dJ6_bitCount_0f7a4_25 : decode cJ6_bitCount_0f7a4 25 = .ok (.iload_n 0, 1) := by decide +kernel
theorem dJ6_bitCount_0f7a4_26 : decode cJ6_bitCount_0f7a4 26 = .ok (.iconst 4, 1) := by decide +kernel
theorem dJ6_bitCount_0f7a4_27 : decode cJ6_bitCount_0f7a4 27 = .ok (.iushr, 1) := by decide +kernel
theorem dJ6_bitCount_0f7a4_28 : decode cJ6_bitCount_0f7a4 28 = .ok (.iadd, 1) := by decide +kernel
theorem dJ6_bitCount_0f7a4_29 : decode cJ6_bitCount_0f7a4 29 = .ok (.ldc_w 267, 3) := by decide +kernel
theorem dJ6_bitCount_0f7a4_32 : decode cJ6_bitCount_0f7a4 32 = .ok (.iand, 1) := by decide +kernel
theorem dJ6_bitCount_0f7a4_33 : decode cJ6_bitCount_0f7a4 33 = .ok (.istore_n 0, 1) := by decide +kernel
theorem dJ6_bitCount_0f7a4_34 : decode cJ6_bitCount_0f7a4 34 = .ok (.iload_n 0, 1) := by decide +kernel
theorem dJ6_bitCount_0f7a4_35 : decode cJ6_bitCount_0f7a4 35 = .ok (.iload_n 0, 1) := by decide +kernel
theorem dJ6_bitCount_0f7a4_36 : decode cJ6_bitCount_0f7a4 36 = .ok (.bipush 8, 2) := by decide +kernel
theorem dJ6_bitCount_0f7a4_38 : decode cJ6_bitCount_0f7a4 38 = .ok (.iushr, 1) := by decide +kernel
theorem dJ6_bitCount_0f7a4_39 : decode cJ6_bitCount_0f7a4 39 = .ok (.iadd, 1) := by decide +kernel
theorem dJ6_bitCount_0f7a4_40 : decode cJ6_bitCount_0f7a4 40 = .ok (.istore_n 0, 1) := by decide +kernel
theorem dJ6_bitCount_0f7a4_41 : decode cJ6_bitCount_0f7a4 41 = .ok (.iload_n 0, 1) := by decide +kernel
theorem dJ6_bitCount_0f7a4_42 : decode cJ6_bitCount_0f7a4 42 = .ok (.iload_n 0, 1) := by decide +kernel
theorem dJ6_bitCount_0f7a4_43 : decode cJ6_bitCount_0f7a4 43 = .ok (.bipush 16, 2) := by decide +kernel
theorem dJ6_bitCount_0f7a4_45 : decode cJ6_bitCount_0f7a4 45 = .ok (.iushr, 1) := by decide +kernel
theorem dJ6_bitCount_0f7a4_46 : decode cJ6_bitCount_0f7a4 46 = .ok (.iadd, 1) := by decide +kernel
theorem dJ6_bitCount_0f7a4_47 : decode cJ6_bitCount_0f7a4 47 = .ok (.istore_n 0, 1) := by decide +kernel
theorem dJ6_bitCount_0f7a4_48 : decode cJ6_bitCount_0f7a4 48 = .ok (.iload_n 0, 1) := by decide +kernel
theorem dJ6_bitCount_0f7a4_49 : decode cJ6_bitCount_0f7a4 49 = .ok (.bipush 63, 2) := by decide +kernel
theorem dJ6_bitCount_0f7a4_51 : decode cJ6_bitCount_0f7a4 51 = .ok (.iand, 1) := by decide +kernel
theorem dJ6_bitCount_0f7a4_52 : decode cJ6_bitCount_0f7a4 52 = .ok (.ireturn, 1) := by decide +kernel
theorem dJ9_abs_0f7a4_0 : decode cJ9_abs_0f7a4 0 = .ok (.iload_n 0, 1) := by decide +kernel
theorem dJ9_abs_0f7a4_1 : decode cJ9_abs_0f7a4 1 = .ok (.ifCond .ge 8, 3) := by decide +kernel
theorem dJ9_abs_0f7a4_4 : decode cJ9_abs_0f7a4 4 = .ok (.iload_n 0, 1) := by decide +kernel
theorem dJ9_abs_0f7a4_5 : decode cJ9_abs_0f7a4 5 = .ok (.ineg, 1) := by decide +kernel
theorem dJ9_abs_0f7a4_6 : decode cJ9_abs_0f7a4 6 = .ok (.goto 4, 3) := by decide +kernel
theorem dJ9_abs_0f7a4_9 : decode cJ9_abs_0f7a4 9 = .ok (.iload_n 0, 1) := by decide +kernel
theorem dJ9_abs_0f7a4_10 : decode cJ9_abs_0f7a4 10 = .ok (.ireturn, 1) := by decide +kernel
theorem dJ9_min_7cf53_0 : decode cJ9_min_7cf53 0 = .ok (.iload_n 0, 1) := by decide +kernel
theorem dJ9_min_7cf53_1 : decode cJ9_min_7cf53 1 = .ok (.iload_n 1, 1) := by decide +kernel
theorem dJ9_min_7cf53_2 : decode cJ9_min_7cf53 2 = .ok (.if_icmp .gt 7, 3) := by decide +kernel
theorem dJ9_min_7cf53_5 : decode cJ9_min_7cf53 5 = .ok (.iload_n 0, 1) := by decide +kernel
theorem dJ9_min_7cf53_6 : decode cJ9_min_7cf53 6 = .ok (.goto 4, 3) := by decide +kernel
theorem dJ9_min_7cf53_9 : decode cJ9_min_7cf53 9 = .ok (.iload_n 1, 1) := by decide +kernel
theorem dJ9_min_7cf53_10 : decode cJ9_min_7cf53 10 = .ok (.ireturn, 1) := by decide +kernel
theorem dJ7_fill_d0a16_0 : decode cJ7_fill_d0a16 0 = .ok (.iconst 0, 1) := by decide +kernel
theorem dJ7_fill_d0a16_1 : decode cJ7_fill_d0a16 1 = .ok (.istore_n 3, 1) := by decide +kernel
theorem dJ7_fill_d0a16_2 : decode cJ7_fill_d0a16 2 = .ok (.aload_n 0, 1) := by decide +kernel
theorem dJ7_fill_d0a16_3 : decode cJ7_fill_d0a16 3 = .ok (.arraylength, 1) := by decide +kernel
theorem dJ7_fill_d0a16_4 : decode cJ7_fill_d0a16 4 = .ok (.istore 4, 2) := by decide +kernel
theorem dJ7_fill_d0a16_6 : decode cJ7_fill_d0a16 6 = .ok (.iload_n 3, 1) := by decide +kernel
theorem dJ7_fill_d0a16_7 : decode cJ7_fill_d0a16 7 = .ok (.iload 4, 2) := by decide +kernel
theorem dJ7_fill_d0a16_9 : decode cJ7_fill_d0a16 9 = .ok (.if_icmp .ge 13, 3) := by decide +kernel
theorem dJ7_fill_d0a16_12 : decode cJ7_fill_d0a16 12 = .ok (.aload_n 0, 1) := by decide +kernel
theorem dJ7_fill_d0a16_13 : decode cJ7_fill_d0a16 13 = .ok (.iload_n 3, 1) := by decide +kernel
theorem dJ7_fill_d0a16_14 : decode cJ7_fill_d0a16 14 = .ok (.lload_n 1, 1) := by decide +kernel
theorem dJ7_fill_d0a16_15 : decode cJ7_fill_d0a16 15 = .ok (.lastore, 1) := by decide +kernel
theorem dJ7_fill_d0a16_16 : decode cJ7_fill_d0a16 16 = .ok (.iinc 3 1, 3) := by decide +kernel
theorem dJ7_fill_d0a16_19 : decode cJ7_fill_d0a16 19 = .ok (.goto (-13), 3) := by decide +kernel
theorem dJ7_fill_d0a16_22 : decode cJ7_fill_d0a16 22 = .ok (.return_, 1) := by decide +kernel
theorem dJ7_fill_53178_0 : decode cJ7_fill_53178 0 = .ok (.iconst 0, 1) := by decide +kernel
theorem dJ7_fill_53178_1 : decode cJ7_fill_53178 1 = .ok (.istore_n 2, 1) := by decide +kernel
theorem dJ7_fill_53178_2 : decode cJ7_fill_53178 2 = .ok (.aload_n 0, 1) := by decide +kernel
theorem dJ7_fill_53178_3 : decode cJ7_fill_53178 3 = .ok (.arraylength, 1) := by decide +kernel
theorem dJ7_fill_53178_4 : decode cJ7_fill_53178 4 = .ok (.istore_n 3, 1) := by decide +kernel
theorem dJ7_fill_53178_5 : decode cJ7_fill_53178 5 = .ok (.iload_n 2, 1) := by decide +kernel
theorem dJ7_fill_53178_6 : decode cJ7_fill_53178 6 = .ok (.iload_n 3, 1) := by decide +kernel
theorem dJ7_fill_53178_7 : decode cJ7_fill_53178 7 = .ok (.if_icmp .ge 13, 3) := by decide +kernel
theorem dJ7_fill_53178_10 : decode cJ7_fill_53178 10 = .ok (.aload_n 0, 1) := by decide +kernel
theorem dJ7_fill_53178_11 : decode cJ7_fill_53178 11 = .ok (.iload_n 2, 1) := by decide +kernel
theorem dJ7_fill_53178_12 : decode cJ7_fill_53178 12 = .ok (.iload_n 1, 1) := by decide +kernel
theorem dJ7_fill_53178_13 : decode cJ7_fill_53178 13 = .ok (.iastore, 1) := by decide +kernel
theorem dJ7_fill_53178_14 : decode cJ7_fill_53178 14 = .ok (.iinc 2 1, 3) := by decide +kernel
theorem dJ7_fill_53178_17 : decode cJ7_fill_53178 17 = .ok (.goto (-12), 3) := by decide +kernel
theorem dJ7_fill_53178_20 : decode cJ7_fill_53178 20 = .ok (.return_, 1) := by decide +kernel
theorem dL_put_0 : decode cL_put 0 = .ok (.aload_n 3, 1) := by decide +kernel
theorem dL_put_1 : decode cL_put 1 = .ok (.iconst 0, 1) := by decide +kernel
theorem dL_put_2 : decode cL_put 2 = .ok (.aload_n 0, 1) := by decide +kernel
theorem dL_put_3 : decode cL_put 3 = .ok (.iload_n 1, 1) := by decide +kernel
theorem dL_put_4 : decode cL_put 4 = .ok (.iload_n 2, 1) := by decide +kernel
theorem dL_put_5 : decode cL_put 5 = .ok (.invokevirtual 7, 3) := by decide +kernel
theorem dL_put_8 : decode cL_put 8 = .ok (.i2l, 1) := by decide +kernel
theorem dL_put_9 : decode cL_put 9 = .ok (.lastore, 1) := by decide +kernel
theorem dL_put_10 : decode cL_put 10 = .ok (.goto 11, 3) := by decide +kernel
theorem dL_put_13 : decode cL_put 13 = .ok (.astore 4, 2) := by decide +kernel
theorem dL_put_15 : decode cL_put 15 = .ok (.iconst 1, 1) := by decide +kernel
theorem dL_put_16 : decode cL_put 16 = .ok (.ireturn, 1) := by decide +kernel
theorem dL_put_17 : decode cL_put 17 = .ok (.astore 4, 2) := by decide +kernel
theorem dL_put_19 : decode cL_put 19 = .ok (.iconst 2, 1) := by decide +kernel
theorem dL_put_20 : decode cL_put 20 = .ok (.ireturn, 1) := by decide +kernel
theorem dL_put_21 : decode cL_put 21 = .ok (.iconst 0, 1) := by decide +kernel
theorem dL_put_22 : decode cL_put 22 = .ok (.ireturn, 1) := by decide +kernel
theorem dL_pair_0 : decode cL_pair 0 = .ok (.aload_n 1, 1) := by decide +kernel
theorem dL_pair_1 : decode cL_pair 1 = .ok (.iconst 0, 1) := by decide +kernel
theorem dL_pair_2 : decode cL_pair 2 = .ok (.aload_n 0, 1) := by decide +kernel
theorem dL_pair_3 : decode cL_pair 3 = .ok (.invokevirtual 17, 3) := by decide +kernel
theorem dL_pair_6 : decode cL_pair 6 = .ok (.i2l, 1) := by decide +kernel
theorem dL_pair_7 : decode cL_pair 7 = .ok (.lastore, 1) := by decide +kernel
theorem dL_pair_8 : decode cL_pair 8 = .ok (.goto 6, 3) := by decide +kernel
theorem dL_pair_11 : decode cL_pair 11 = .ok (.astore_n 2, 1) := by decide +kernel
theorem dL_pair_12 : decode cL_pair 12 = .ok (.iconst 1, 1) := by decide +kernel
theorem dL_pair_13 : decode cL_pair 13 = .ok (.ireturn, 1) := by decide +kernel
theorem dL_pair_14 : decode cL_pair 14 = .ok (.iconst 0, 1) := by decide +kernel
theorem dL_pair_15 : decode cL_pair 15 = .ok (.ireturn, 1) := by decide +kernel
theorem dL_takeBack_0 : decode cL_takeBack 0 = .ok (.aload_n 2, 1) := by decide +kernel
theorem dL_takeBack_1 : decode cL_takeBack 1 = .ok (.iconst 0, 1) := by decide +kernel
theorem dL_takeBack_2 : decode cL_takeBack 2 = .ok (.aload_n 0, 1) := by decide +kernel
theorem dL_takeBack_3 : decode cL_takeBack 3 = .ok (.iload_n 1, 1) := by decide +kernel
theorem dL_takeBack_4 : decode cL_takeBack 4 = .ok (.invokevirtual 21, 3) := by decide +kernel
theorem dL_takeBack_7 : decode cL_takeBack 7 = .ok (.i2l, 1) := by decide +kernel
theorem dL_takeBack_8 : decode cL_takeBack 8 = .ok (.lastore, 1) := by decide +kernel
theorem dL_takeBack_9 : decode cL_takeBack 9 = .ok (.goto 6, 3) := by decide +kernel
theorem dL_takeBack_12 : decode cL_takeBack 12 = .ok (.astore_n 3, 1) := by decide +kernel
theorem dL_takeBack_13 : decode cL_takeBack 13 = .ok (.iconst 1, 1) := by decide +kernel
theorem dL_takeBack_14 : decode cL_takeBack 14 = .ok (.ireturn, 1) := by decide +kernel
theorem dL_takeBack_15 : decode cL_takeBack 15 = .ok (.iconst 0, 1) := by decide +kernel
theorem dL_takeBack_16 : decode cL_takeBack 16 = .ok (.ireturn, 1) := by decide +kernel
theorem dL_weight_0 : decode cL_weight 0 = .ok (.aload_n 3, 1) := by decide +kernel
theorem dL_weight_1 : decode cL_weight 1 = .ok (.iconst 0, 1) := by decide +kernel
theorem dL_weight_2 : decode cL_weight 2 = .ok (.aload_n 0, 1) := by decide +kernel
theorem dL_weight_3 : decode cL_weight 3 = .ok (.iload_n 1, 1) := by decide +kernel
theorem dL_weight_4 : decode cL_weight 4 = .ok (.iload_n 2, 1) := by decide +kernel
theorem dL_weight_5 : decode cL_weight 5 = .ok (.invokevirtual 25, 3) := by decide +kernel
theorem dL_weight_8 : decode cL_weight 8 = .ok (.i2l, 1) := by decide +kernel
theorem dL_weight_9 : decode cL_weight 9 = .ok (.lastore, 1) := by decide +kernel
theorem dL_weight_10 : decode cL_weight 10 = .ok (.goto 11, 3) := by decide +kernel
theorem dL_weight_13 : decode cL_weight 13 = .ok (.astore 4, 2) := by decide +kernel
theorem dL_weight_15 : decode cL_weight 15 = .ok (.iconst 1, 1) := by decide +kernel
theorem dL_weight_16 : decode cL_weight 16 = .ok (.ireturn, 1) := by decide +kernel
theorem dL_weight_17 : decode cL_weight 17 = .ok (.astore 4, 2) := by decide +kernel
theorem dL_weight_19 : decode cL_weight 19 = .ok (.iconst 2, 1) := by decide +kernel
theorem dL_weight_20 : decode cL_weight 20 = .ok (.ireturn, 1) := by decide +kernel
theorem dL_weight_21 : decode cL_weight 21 = .ok (.iconst 0, 1) := by decide +kernel
theorem dL_weight_22 : decode cL_weight 22 = .ok (.ireturn, 1) := by decide +kernel
theorem dL_word_0 : decode cL_word 0 = .ok (.aload 4, 2) := by decide +kernel
theorem dL_word_2 : decode cL_word 2 = .ok (.iconst 0, 1) := by decide +kernel
theorem dL_word_3 : decode cL_word 3 = .ok (.aload_n 0, 1) := by decide +kernel
theorem dL_word_4 : decode cL_word 4 = .ok (.iload_n 1, 1) := by decide +kernel
theorem dL_word_5 : decode cL_word 5 = .ok (.iload_n 2, 1) := by decide +kernel
theorem dL_word_6 : decode cL_word 6 = .ok (.iload_n 3, 1) := by decide +kernel
theorem dL_word_7 : decode cL_word 7 = .ok (.invokevirtual 30, 3) := by decide +kernel
theorem dL_word_10 : decode cL_word 10 = .ok (.i2l, 1) := by decide +kernel
theorem dL_word_11 : decode cL_word 11 = .ok (.lastore, 1) := by decide +kernel
theorem dL_word_12 : decode cL_word 12 = .ok (.goto 7, 3) := by decide +kernel
theorem dL_word_15 : decode cL_word 15 = .ok (.astore 5, 2) := by decide +kernel
theorem dL_word_17 : decode cL_word 17 = .ok (.iconst 1, 1) := by decide +kernel
theorem dL_word_18 : decode cL_word 18 = .ok (.ireturn, 1) := by decide +kernel
theorem dL_word_19 : decode cL_word 19 = .ok (.iconst 0, 1) := by decide +kernel
theorem dL_word_20 : decode cL_word 20 = .ok (.ireturn, 1) := by decide +kernel
theorem dL_share_0 : decode cL_share 0 = .ok (.aload 4, 2) := by decide +kernel
theorem dL_share_2 : decode cL_share 2 = .ok (.iconst 0, 1) := by decide +kernel
theorem dL_share_3 : decode cL_share 3 = .ok (.aload_n 0, 1) := by decide +kernel
theorem dL_share_4 : decode cL_share 4 = .ok (.iload_n 1, 1) := by decide +kernel
theorem dL_share_5 : decode cL_share 5 = .ok (.iload_n 2, 1) := by decide +kernel
theorem dL_share_6 : decode cL_share 6 = .ok (.iload_n 3, 1) := by decide +kernel
theorem dL_share_7 : decode cL_share 7 = .ok (.invokevirtual 34, 3) := by decide +kernel
theorem dL_share_10 : decode cL_share 10 = .ok (.i2l, 1) := by decide +kernel
theorem dL_share_11 : decode cL_share 11 = .ok (.lastore, 1) := by decide +kernel
theorem dL_share_12 : decode cL_share 12 = .ok (.goto 7, 3) := by decide +kernel
theorem dL_share_15 : decode cL_share 15 = .ok (.astore 5, 2) := by decide +kernel
theorem dL_share_17 : decode cL_share 17 = .ok (.iconst 1, 1) := by decide +kernel
theorem dL_share_18 : decode cL_share 18 = .ok (.ireturn, 1) := by decide +kernel
theorem dL_share_19 : decode cL_share 19 = .ok (.iconst 0, 1) := by decide +kernel
theorem dL_share_20 : decode cL_share 20 = .ok (.ireturn, 1) := by decide +kernel
theorem dL_link_0 : decode cL_link 0 = .ok (.aload 4, 2) := by decide +kernel
theorem dL_link_2 : decode cL_link 2 = .ok (.iconst 0, 1) := by decide +kernel
theorem dL_link_3 : decode cL_link 3 = .ok (.aload_n 0, 1) := by decide +kernel
theorem dL_link_4 : decode cL_link 4 = .ok (.iload_n 1, 1) := by decide +kernel
theorem dL_link_5 : decode cL_link 5 = .ok (.iload_n 2, 1) := by decide +kernel
theorem dL_link_6 : decode cL_link 6 = .ok (.iload_n 3, 1) := by decide +kernel
theorem dL_link_7 : decode cL_link 7 = .ok (.invokevirtual 37, 3) := by decide +kernel
theorem dL_link_10 : decode cL_link 10 = .ok (.i2l, 1) := by decide +kernel
theorem dL_link_11 : decode cL_link 11 = .ok (.lastore, 1) := by decide +kernel
theorem dL_link_12 : decode cL_link 12 = .ok (.goto 7, 3) := by decide +kernel
theorem dL_link_15 : decode cL_link 15 = .ok (.astore 5, 2) := by decide +kernel
theorem dL_link_17 : decode cL_link 17 = .ok (.iconst 1, 1) := by decide +kernel
theorem dL_link_18 : decode cL_link 18 = .ok (.ireturn, 1) := by decide +kernel
theorem dL_link_19 : decode cL_link 19 = .ok (.iconst 0, 1) := by decide +kernel
theorem dL_link_20 : decode cL_link 20 = .ok (.ireturn, 1) := by decide +kernel
theorem dL_isJoined_0 : decode cL_isJoined 0 = .ok (.aload 4, 2) := by decide +kernel
theorem dL_isJoined_2 : decode cL_isJoined 2 = .ok (.iconst 0, 1) := by decide +kernel
theorem dL_isJoined_3 : decode cL_isJoined 3 = .ok (.aload_n 0, 1) := by decide +kernel
theorem dL_isJoined_4 : decode cL_isJoined 4 = .ok (.iload_n 1, 1) := by decide +kernel
theorem dL_isJoined_5 : decode cL_isJoined 5 = .ok (.iload_n 2, 1) := by decide +kernel
theorem dL_isJoined_6 : decode cL_isJoined 6 = .ok (.iload_n 3, 1) := by decide +kernel
theorem dL_isJoined_7 : decode cL_isJoined 7 = .ok (.invokevirtual 40, 3) := by decide +kernel
theorem dL_isJoined_10 : decode cL_isJoined 10 = .ok (.ifCond .eq 7, 3) := by decide +kernel
theorem dL_isJoined_13 : decode cL_isJoined 13 = .ok (.lconst 1, 1) := by decide +kernel
theorem dL_isJoined_14 : decode cL_isJoined 14 = .ok (.goto 4, 3) := by decide +kernel
theorem dL_isJoined_17 : decode cL_isJoined 17 = .ok (.lconst 0, 1) := by decide +kernel
theorem dL_isJoined_18 : decode cL_isJoined 18 = .ok (.lastore, 1) := by decide +kernel
theorem dL_isJoined_19 : decode cL_isJoined 19 = .ok (.goto 7, 3) := by decide +kernel
theorem dL_isJoined_22 : decode cL_isJoined 22 = .ok (.astore 5, 2) := by decide +kernel
theorem dL_isJoined_24 : decode cL_isJoined 24 = .ok (.iconst 1, 1) := by decide +kernel
theorem dL_isJoined_25 : decode cL_isJoined 25 = .ok (.ireturn, 1) := by decide +kernel
theorem dL_isJoined_26 : decode cL_isJoined 26 = .ok (.iconst 0, 1) := by decide +kernel
theorem dL_isJoined_27 : decode cL_isJoined 27 = .ok (.ireturn, 1) := by decide +kernel
theorem dL_phrases_0 : decode cL_phrases 0 = .ok (.aload_n 2, 1) := by decide +kernel
theorem dL_phrases_1 : decode cL_phrases 1 = .ok (.iconst 0, 1) := by decide +kernel
theorem dL_phrases_2 : decode cL_phrases 2 = .ok (.aload_n 0, 1) := by decide +kernel
theorem dL_phrases_3 : decode cL_phrases 3 = .ok (.iload_n 1, 1) := by decide +kernel
theorem dL_phrases_4 : decode cL_phrases 4 = .ok (.invokevirtual 44, 3) := by decide +kernel
theorem dL_phrases_7 : decode cL_phrases 7 = .ok (.i2l, 1) := by decide +kernel
theorem dL_phrases_8 : decode cL_phrases 8 = .ok (.lastore, 1) := by decide +kernel
theorem dL_phrases_9 : decode cL_phrases 9 = .ok (.goto 6, 3) := by decide +kernel
theorem dL_phrases_12 : decode cL_phrases 12 = .ok (.astore_n 3, 1) := by decide +kernel
theorem dL_phrases_13 : decode cL_phrases 13 = .ok (.iconst 1, 1) := by decide +kernel
theorem dL_phrases_14 : decode cL_phrases 14 = .ok (.ireturn, 1) := by decide +kernel
theorem dL_phrases_15 : decode cL_phrases 15 = .ok (.iconst 0, 1) := by decide +kernel
theorem dL_phrases_16 : decode cL_phrases 16 = .ok (.ireturn, 1) := by decide +kernel
theorem dL_phrase_0 : decode cL_phrase 0 = .ok (.aload 4, 2) := by decide +kernel
theorem dL_phrase_2 : decode cL_phrase 2 = .ok (.iconst 0, 1) := by decide +kernel
theorem dL_phrase_3 : decode cL_phrase 3 = .ok (.aload_n 0, 1) := by decide +kernel
theorem dL_phrase_4 : decode cL_phrase 4 = .ok (.iload_n 1, 1) := by decide +kernel
theorem dL_phrase_5 : decode cL_phrase 5 = .ok (.iload_n 2, 1) := by decide +kernel
theorem dL_phrase_6 : decode cL_phrase 6 = .ok (.iload_n 3, 1) := by decide +kernel
theorem dL_phrase_7 : decode cL_phrase 7 = .ok (.invokevirtual 47, 3) := by decide +kernel
theorem dL_phrase_10 : decode cL_phrase 10 = .ok (.i2l, 1) := by decide +kernel
theorem dL_phrase_11 : decode cL_phrase 11 = .ok (.lastore, 1) := by decide +kernel
theorem dL_phrase_12 : decode cL_phrase 12 = .ok (.goto 11, 3) := by decide +kernel
theorem dL_phrase_15 : decode cL_phrase 15 = .ok (.astore 5, 2) := by decide +kernel
theorem dL_phrase_17 : decode cL_phrase 17 = .ok (.iconst 1, 1) := by decide +kernel
theorem dL_phrase_18 : decode cL_phrase 18 = .ok (.ireturn, 1) := by decide +kernel
theorem dL_phrase_19 : decode cL_phrase 19 = .ok (.astore 5, 2) := by decide +kernel
theorem dL_phrase_21 : decode cL_phrase 21 = .ok (.iconst 2, 1) := by decide +kernel
theorem dL_phrase_22 : decode cL_phrase 22 = .ok (.ireturn, 1) := by decide +kernel
theorem dL_phrase_23 : decode cL_phrase 23 = .ok (.iconst 0, 1) := by decide +kernel
theorem dL_phrase_24 : decode cL_phrase 24 = .ok (.ireturn, 1) := by decide +kernel
theorem dL_fertility_0 : decode cL_fertility 0 = .ok (.aload_n 3, 1) := by decide +kernel
theorem dL_fertility_1 : decode cL_fertility 1 = .ok (.iconst 0, 1) := by decide +kernel
theorem dL_fertility_2 : decode cL_fertility 2 = .ok (.aload_n 0, 1) := by decide +kernel
theorem dL_fertility_3 : decode cL_fertility 3 = .ok (.iload_n 1, 1) := by decide +kernel
theorem dL_fertility_4 : decode cL_fertility 4 = .ok (.iload_n 2, 1) := by decide +kernel
theorem dL_fertility_5 : decode cL_fertility 5 = .ok (.invokevirtual 50, 3) := by decide +kernel
theorem dL_fertility_8 : decode cL_fertility 8 = .ok (.i2l, 1) := by decide +kernel
theorem dL_fertility_9 : decode cL_fertility 9 = .ok (.lastore, 1) := by decide +kernel
theorem dL_fertility_10 : decode cL_fertility 10 = .ok (.goto 11, 3) := by decide +kernel
theorem dL_fertility_13 : decode cL_fertility 13 = .ok (.astore 4, 2) := by decide +kernel
theorem dL_fertility_15 : decode cL_fertility 15 = .ok (.iconst 1, 1) := by decide +kernel
theorem dL_fertility_16 : decode cL_fertility 16 = .ok (.ireturn, 1) := by decide +kernel
theorem dL_fertility_17 : decode cL_fertility 17 = .ok (.astore 4, 2) := by decide +kernel
theorem dL_fertility_19 : decode cL_fertility 19 = .ok (.iconst 2, 1) := by decide +kernel
theorem dL_fertility_20 : decode cL_fertility 20 = .ok (.ireturn, 1) := by decide +kernel
theorem dL_fertility_21 : decode cL_fertility 21 = .ok (.iconst 0, 1) := by decide +kernel
theorem dL_fertility_22 : decode cL_fertility 22 = .ok (.ireturn, 1) := by decide +kernel
theorem dL_total_0 : decode cL_total 0 = .ok (.aload_n 2, 1) := by decide +kernel
theorem dL_total_1 : decode cL_total 1 = .ok (.iconst 0, 1) := by decide +kernel
theorem dL_total_2 : decode cL_total 2 = .ok (.aload_n 0, 1) := by decide +kernel
theorem dL_total_3 : decode cL_total 3 = .ok (.iload_n 1, 1) := by decide +kernel
theorem dL_total_4 : decode cL_total 4 = .ok (.invokevirtual 53, 3) := by decide +kernel
theorem dL_total_7 : decode cL_total 7 = .ok (.lastore, 1) := by decide +kernel
theorem dL_total_8 : decode cL_total 8 = .ok (.goto 9, 3) := by decide +kernel
theorem dL_total_11 : decode cL_total 11 = .ok (.astore_n 3, 1) := by decide +kernel
theorem dL_total_12 : decode cL_total 12 = .ok (.iconst 1, 1) := by decide +kernel
theorem dL_total_13 : decode cL_total 13 = .ok (.ireturn, 1) := by decide +kernel
theorem dL_total_14 : decode cL_total 14 = .ok (.astore_n 3, 1) := by decide +kernel
theorem dL_total_15 : decode cL_total 15 = .ok (.iconst 2, 1) := by decide +kernel
theorem dL_total_16 : decode cL_total 16 = .ok (.ireturn, 1) := by decide +kernel
theorem dL_total_17 : decode cL_total 17 = .ok (.iconst 0, 1) := by decide +kernel
theorem dL_total_18 : decode cL_total 18 = .ok (.ireturn, 1) := by decide +kernel
theorem dL_totalAnew_0 : decode cL_totalAnew 0 = .ok (.aload_n 2, 1) := by decide +kernel
theorem dL_totalAnew_1 : decode cL_totalAnew 1 = .ok (.iconst 0, 1) := by decide +kernel
theorem dL_totalAnew_2 : decode cL_totalAnew 2 = .ok (.aload_n 0, 1) := by decide +kernel
theorem dL_totalAnew_3 : decode cL_totalAnew 3 = .ok (.iload_n 1, 1) := by decide +kernel
theorem dL_totalAnew_4 : decode cL_totalAnew 4 = .ok (.invokevirtual 57, 3) := by decide +kernel
theorem dL_totalAnew_7 : decode cL_totalAnew 7 = .ok (.lastore, 1) := by decide +kernel
theorem dL_totalAnew_8 : decode cL_totalAnew 8 = .ok (.goto 9, 3) := by decide +kernel
theorem dL_totalAnew_11 : decode cL_totalAnew 11 = .ok (.astore_n 3, 1) := by decide +kernel
theorem dL_totalAnew_12 : decode cL_totalAnew 12 = .ok (.iconst 1, 1) := by decide +kernel
theorem dL_totalAnew_13 : decode cL_totalAnew 13 = .ok (.ireturn, 1) := by decide +kernel
theorem dL_totalAnew_14 : decode cL_totalAnew 14 = .ok (.astore_n 3, 1) := by decide +kernel
theorem dL_totalAnew_15 : decode cL_totalAnew 15 = .ok (.iconst 2, 1) := by decide +kernel
theorem dL_totalAnew_16 : decode cL_totalAnew 16 = .ok (.ireturn, 1) := by decide +kernel
theorem dL_totalAnew_17 : decode cL_totalAnew 17 = .ok (.iconst 0, 1) := by decide +kernel
theorem dL_totalAnew_18 : decode cL_totalAnew 18 = .ok (.ireturn, 1) := by decide +kernel
theorem dL_law_0 : decode cL_law 0 = .ok (.new 8, 3) := by decide +kernel
theorem dL_law_3 : decode cL_law 3 = .ok (.dup, 1) := by decide +kernel
theorem dL_law_4 : decode cL_law 4 = .ok (.invokespecial 60, 3) := by decide +kernel
theorem dL_law_7 : decode cL_law 7 = .ok (.astore_n 1, 1) := by decide +kernel
theorem dL_law_8 : decode cL_law 8 = .ok (.new 61, 3) := by decide +kernel
theorem dL_law_11 : decode cL_law 11 = .ok (.dup, 1) := by decide +kernel
theorem dL_law_12 : decode cL_law 12 = .ok (.invokespecial 63, 3) := by decide +kernel
theorem dL_law_15 : decode cL_law 15 = .ok (.astore_n 2, 1) := by decide +kernel
theorem dL_law_16 : decode cL_law 16 = .ok (.iconst 1, 1) := by decide +kernel
theorem dL_law_17 : decode cL_law 17 = .ok (.newarray .long, 2) := by decide +kernel
theorem dL_law_19 : decode cL_law 19 = .ok (.astore_n 3, 1) := by decide +kernel
theorem dL_law_20 : decode cL_law 20 = .ok (.iconst 0, 1) := by decide +kernel
theorem dL_law_21 : decode cL_law 21 = .ok (.istore 4, 2) := by decide +kernel
theorem dL_law_23 : decode cL_law 23 = .ok (.iload 4, 2) := by decide +kernel
theorem dL_law_25 : decode cL_law 25 = .ok (.aload_n 0, 1) := by decide +kernel
theorem dL_law_26 : decode cL_law 26 = .ok (.arraylength, 1) := by decide +kernel
theorem dL_law_27 : decode cL_law 27 = .ok (.iconst 4, 1) := by decide +kernel
theorem dL_law_28 : decode cL_law 28 = .ok (.isub, 1) := by decide +kernel
theorem dL_law_29 : decode cL_law 29 = .ok (.if_icmp .gt 1026, 3) := by decide +kernel
theorem dL_law_32 : decode cL_law 32 = .ok (.aload_n 0, 1) := by decide +kernel
theorem dL_law_33 : decode cL_law 33 = .ok (.iload 4, 2) := by decide +kernel
theorem dL_law_35 : decode cL_law 35 = .ok (.iaload, 1) := by decide +kernel
theorem dL_law_36 : decode cL_law 36 = .ok (.bipush 31, 2) := by decide +kernel
theorem dL_law_38 : decode cL_law 38 = .ok (.iand, 1) := by decide +kernel
theorem dL_law_39 : decode cL_law 39 = .ok (.tableswitch 1010 0 16 #[81, 149, 162, 206, 262, 275, 288, 356, 369, 449, 529, 609, 696, 752, 832, 900, 955], 81) := by decide +kernel
theorem dL_law_120 : decode cL_law 120 = .ok (.aload_n 1, 1) := by decide +kernel
theorem dL_law_121 : decode cL_law 121 = .ok (.aload_n 0, 1) := by decide +kernel
theorem dL_law_122 : decode cL_law 122 = .ok (.iload 4, 2) := by decide +kernel
theorem dL_law_124 : decode cL_law 124 = .ok (.iconst 1, 1) := by decide +kernel
theorem dL_law_125 : decode cL_law 125 = .ok (.iadd, 1) := by decide +kernel
theorem dL_law_126 : decode cL_law 126 = .ok (.iaload, 1) := by decide +kernel
theorem dL_law_127 : decode cL_law 127 = .ok (.aload_n 0, 1) := by decide +kernel
theorem dL_law_128 : decode cL_law 128 = .ok (.iload 4, 2) := by decide +kernel
theorem dL_law_130 : decode cL_law 130 = .ok (.iconst 2, 1) := by decide +kernel
theorem dL_law_131 : decode cL_law 131 = .ok (.iadd, 1) := by decide +kernel
theorem dL_law_132 : decode cL_law 132 = .ok (.iaload, 1) := by decide +kernel
theorem dL_law_133 : decode cL_law 133 = .ok (.aload_n 3, 1) := by decide +kernel
theorem dL_law_134 : decode cL_law 134 = .ok (.invokestatic 64, 3) := by decide +kernel
theorem dL_law_137 : decode cL_law 137 = .ok (.istore 5, 2) := by decide +kernel
theorem dL_law_139 : decode cL_law 139 = .ok (.aload_n 2, 1) := by decide +kernel
theorem dL_law_140 : decode cL_law 140 = .ok (.aload_n 0, 1) := by decide +kernel
theorem dL_law_141 : decode cL_law 141 = .ok (.iload 4, 2) := by decide +kernel
theorem dL_law_143 : decode cL_law 143 = .ok (.iconst 1, 1) := by decide +kernel
theorem dL_law_144 : decode cL_law 144 = .ok (.iadd, 1) := by decide +kernel
theorem dL_law_145 : decode cL_law 145 = .ok (.iaload, 1) := by decide +kernel
theorem dL_law_146 : decode cL_law 146 = .ok (.aload_n 0, 1) := by decide +kernel
theorem dL_law_147 : decode cL_law 147 = .ok (.iload 4, 2) := by decide +kernel
theorem dL_law_149 : decode cL_law 149 = .ok (.iconst 2, 1) := by decide +kernel
theorem dL_law_150 : decode cL_law 150 = .ok (.iadd, 1) := by decide +kernel
theorem dL_law_151 : decode cL_law 151 = .ok (.iaload, 1) := by decide +kernel
theorem dL_law_152 : decode cL_law 152 = .ok (.invokevirtual 69, 3) := by decide +kernel
theorem dL_law_155 : decode cL_law 155 = .ok (.istore 6, 2) := by decide +kernel
theorem dL_law_157 : decode cL_law 157 = .ok (.aload_n 2, 1) := by decide +kernel
theorem dL_law_158 : decode cL_law 158 = .ok (.invokevirtual 70, 3) := by decide +kernel
theorem dL_law_161 : decode cL_law 161 = .ok (.iload 5, 2) := by decide +kernel
theorem dL_law_163 : decode cL_law 163 = .ok (.if_icmp .eq 5, 3) := by decide +kernel
theorem dL_law_166 : decode cL_law 166 = .ok (.iconst 0, 1) := by decide +kernel
theorem dL_law_167 : decode cL_law 167 = .ok (.ireturn, 1) := by decide +kernel
theorem dL_law_168 : decode cL_law 168 = .ok (.iload 5, 2) := by decide +kernel
theorem dL_law_170 : decode cL_law 170 = .ok (.ifCond .ne 15, 3) := by decide +kernel
theorem dL_law_173 : decode cL_law 173 = .ok (.aload_n 3, 1) := by decide +kernel
theorem dL_law_174 : decode cL_law 174 = .ok (.iconst 0, 1) := by decide +kernel
theorem dL_law_175 : decode cL_law 175 = .ok (.laload, 1) := by decide +kernel
theorem dL_law_176 : decode cL_law 176 = .ok (.iload 6, 2) := by decide +kernel
theorem dL_law_178 : decode cL_law 178 = .ok (.i2l, 1) := by decide +kernel
theorem dL_law_179 : decode cL_law 179 = .ok (.lcmp, 1) := by decide +kernel
theorem dL_law_180 : decode cL_law 180 = .ok (.ifCond .eq 5, 3) := by decide +kernel
theorem dL_law_183 : decode cL_law 183 = .ok (.iconst 0, 1) := by decide +kernel
theorem dL_law_184 : decode cL_law 184 = .ok (.ireturn, 1) := by decide +kernel
theorem dL_law_185 : decode cL_law 185 = .ok (.goto 864, 3) := by decide +kernel
theorem dL_law_188 : decode cL_law 188 = .ok (.aload_n 1, 1) := by decide +kernel
theorem dL_law_189 : decode cL_law 189 = .ok (.invokevirtual 73, 3) := by decide +kernel
theorem dL_law_192 : decode cL_law 192 = .ok (.aload_n 2, 1) := by decide +kernel
theorem dL_law_193 : decode cL_law 193 = .ok (.invokevirtual 76, 3) := by decide +kernel
theorem dL_law_196 : decode cL_law 196 = .ok (.if_icmp .eq 853, 3) := by decide +kernel
theorem dL_law_199 : decode cL_law 199 = .ok (.iconst 0, 1) := by decide +kernel
theorem dL_law_200 : decode cL_law 200 = .ok (.ireturn, 1) := by decide +kernel
theorem dL_law_201 : decode cL_law 201 = .ok (.aload_n 1, 1) := by decide +kernel
theorem dL_law_202 : decode cL_law 202 = .ok (.aload_n 3, 1) := by decide +kernel
theorem dL_law_203 : decode cL_law 203 = .ok (.invokestatic 77, 3) := by decide +kernel
theorem dL_law_206 : decode cL_law 206 = .ok (.istore 5, 2) := by decide +kernel
theorem dL_law_208 : decode cL_law 208 = .ok (.aload_n 2, 1) := by decide +kernel
theorem dL_law_209 : decode cL_law 209 = .ok (.invokevirtual 80, 3) := by decide +kernel
theorem dL_law_212 : decode cL_law 212 = .ok (.istore 6, 2) := by decide +kernel
theorem dL_law_214 : decode cL_law 214 = .ok (.aload_n 2, 1) := by decide +kernel
theorem dL_law_215 : decode cL_law 215 = .ok (.invokevirtual 70, 3) := by decide +kernel
theorem dL_law_218 : decode cL_law 218 = .ok (.iload 5, 2) := by decide +kernel
theorem dL_law_220 : decode cL_law 220 = .ok (.if_icmp .eq 5, 3) := by decide +kernel
theorem dL_law_223 : decode cL_law 223 = .ok (.iconst 0, 1) := by decide +kernel
theorem dL_law_224 : decode cL_law 224 = .ok (.ireturn, 1) := by decide +kernel
theorem dL_law_225 : decode cL_law 225 = .ok (.iload 5, 2) := by decide +kernel
theorem dL_law_227 : decode cL_law 227 = .ok (.ifCond .ne 15, 3) := by decide +kernel
theorem dL_law_230 : decode cL_law 230 = .ok (.aload_n 3, 1) := by decide +kernel
theorem dL_law_231 : decode cL_law 231 = .ok (.iconst 0, 1) := by decide +kernel
theorem dL_law_232 : decode cL_law 232 = .ok (.laload, 1) := by decide +kernel
theorem dL_law_233 : decode cL_law 233 = .ok (.iload 6, 2) := by decide +kernel
theorem dL_law_235 : decode cL_law 235 = .ok (.i2l, 1) := by decide +kernel
theorem dL_law_236 : decode cL_law 236 = .ok (.lcmp, 1) := by decide +kernel
theorem dL_law_237 : decode cL_law 237 = .ok (.ifCond .eq 5, 3) := by decide +kernel
theorem dL_law_240 : decode cL_law 240 = .ok (.iconst 0, 1) := by decide +kernel
theorem dL_law_241 : decode cL_law 241 = .ok (.ireturn, 1) := by decide +kernel
theorem dL_law_242 : decode cL_law 242 = .ok (.goto 807, 3) := by decide +kernel
theorem dL_law_245 : decode cL_law 245 = .ok (.aload_n 1, 1) := by decide +kernel
theorem dL_law_246 : decode cL_law 246 = .ok (.aload_n 0, 1) := by decide +kernel
theorem dL_law_247 : decode cL_law 247 = .ok (.iload 4, 2) := by decide +kernel
theorem dL_law_249 : decode cL_law 249 = .ok (.iconst 1, 1) := by decide +kernel
theorem dL_law_250 : decode cL_law 250 = .ok (.iadd, 1) := by decide +kernel
theorem dL_law_251 : decode cL_law 251 = .ok (.iaload, 1) := by decide +kernel
theorem dL_law_252 : decode cL_law 252 = .ok (.aload_n 3, 1) := by decide +kernel
theorem dL_law_253 : decode cL_law 253 = .ok (.invokestatic 81, 3) := by decide +kernel
theorem dL_law_256 : decode cL_law 256 = .ok (.istore 5, 2) := by decide +kernel
theorem dL_law_258 : decode cL_law 258 = .ok (.aload_n 2, 1) := by decide +kernel
theorem dL_law_259 : decode cL_law 259 = .ok (.aload_n 0, 1) := by decide +kernel
theorem dL_law_260 : decode cL_law 260 = .ok (.iload 4, 2) := by decide +kernel
theorem dL_law_262 : decode cL_law 262 = .ok (.iconst 1, 1) := by decide +kernel
theorem dL_law_263 : decode cL_law 263 = .ok (.iadd, 1) := by decide +kernel
theorem dL_law_264 : decode cL_law 264 = .ok (.iaload, 1) := by decide +kernel
theorem dL_law_265 : decode cL_law 265 = .ok (.invokevirtual 84, 3) := by decide +kernel
theorem dL_law_268 : decode cL_law 268 = .ok (.istore 6, 2) := by decide +kernel
theorem dL_law_270 : decode cL_law 270 = .ok (.aload_n 2, 1) := by decide +kernel
theorem dL_law_271 : decode cL_law 271 = .ok (.invokevirtual 70, 3) := by decide +kernel
theorem dL_law_274 : decode cL_law 274 = .ok (.iload 5, 2) := by decide +kernel
theorem dL_law_276 : decode cL_law 276 = .ok (.if_icmp .eq 5, 3) := by decide +kernel
theorem dL_law_279 : decode cL_law 279 = .ok (.iconst 0, 1) := by decide +kernel
theorem dL_law_280 : decode cL_law 280 = .ok (.ireturn, 1) := by decide +kernel
theorem dL_law_281 : decode cL_law 281 = .ok (.iload 5, 2) := by decide +kernel
theorem dL_law_283 : decode cL_law 283 = .ok (.ifCond .ne 15, 3) := by decide +kernel
theorem dL_law_286 : decode cL_law 286 = .ok (.aload_n 3, 1) := by decide +kernel
theorem dL_law_287 : decode cL_law 287 = .ok (.iconst 0, 1) := by decide +kernel
theorem dL_law_288 : decode cL_law 288 = .ok (.laload, 1) := by decide +kernel
theorem dL_law_289 : decode cL_law 289 = .ok (.iload 6, 2) := by decide +kernel
theorem dL_law_291 : decode cL_law 291 = .ok (.i2l, 1) := by decide +kernel
theorem dL_law_292 : decode cL_law 292 = .ok (.lcmp, 1) := by decide +kernel
theorem dL_law_293 : decode cL_law 293 = .ok (.ifCond .eq 5, 3) := by decide +kernel
theorem dL_law_296 : decode cL_law 296 = .ok (.iconst 0, 1) := by decide +kernel
theorem dL_law_297 : decode cL_law 297 = .ok (.ireturn, 1) := by decide +kernel
theorem dL_law_298 : decode cL_law 298 = .ok (.goto 751, 3) := by decide +kernel
theorem dL_law_301 : decode cL_law 301 = .ok (.aload_n 1, 1) := by decide +kernel
theorem dL_law_302 : decode cL_law 302 = .ok (.invokevirtual 85, 3) := by decide +kernel
theorem dL_law_305 : decode cL_law 305 = .ok (.aload_n 2, 1) := by decide +kernel
theorem dL_law_306 : decode cL_law 306 = .ok (.invokevirtual 88, 3) := by decide +kernel
theorem dL_law_309 : decode cL_law 309 = .ok (.if_icmp .eq 740, 3) := by decide +kernel
theorem dL_law_312 : decode cL_law 312 = .ok (.iconst 0, 1) := by decide +kernel
theorem dL_law_313 : decode cL_law 313 = .ok (.ireturn, 1) := by decide +kernel
theorem dL_law_314 : decode cL_law 314 = .ok (.aload_n 1, 1) := by decide +kernel
theorem dL_law_315 : decode cL_law 315 = .ok (.invokevirtual 89, 3) := by decide +kernel
theorem dL_law_318 : decode cL_law 318 = .ok (.aload_n 2, 1) := by decide +kernel
theorem dL_law_319 : decode cL_law 319 = .ok (.invokevirtual 92, 3) := by decide +kernel
theorem dL_law_322 : decode cL_law 322 = .ok (.if_icmp .eq 727, 3) := by decide +kernel
theorem dL_law_325 : decode cL_law 325 = .ok (.iconst 0, 1) := by decide +kernel
theorem dL_law_326 : decode cL_law 326 = .ok (.ireturn, 1) := by decide +kernel
theorem dL_law_327 : decode cL_law 327 = .ok (.aload_n 1, 1) := by decide +kernel
theorem dL_law_328 : decode cL_law 328 = .ok (.aload_n 0, 1) := by decide +kernel
theorem dL_law_329 : decode cL_law 329 = .ok (.iload 4, 2) := by decide +kernel
theorem dL_law_331 : decode cL_law 331 = .ok (.iconst 1, 1) := by decide +kernel
theorem dL_law_332 : decode cL_law 332 = .ok (.iadd, 1) := by decide +kernel
theorem dL_law_333 : decode cL_law 333 = .ok (.iaload, 1) := by decide +kernel
theorem dL_law_334 : decode cL_law 334 = .ok (.aload_n 0, 1) := by decide +kernel
theorem dL_law_335 : decode cL_law 335 = .ok (.iload 4, 2) := by decide +kernel
theorem dL_law_337 : decode cL_law 337 = .ok (.iconst 2, 1) := by decide +kernel
theorem dL_law_338 : decode cL_law 338 = .ok (.iadd, 1) := by decide +kernel
theorem dL_law_339 : decode cL_law 339 = .ok (.iaload, 1) := by decide +kernel
theorem dL_law_340 : decode cL_law 340 = .ok (.aload_n 3, 1) := by decide +kernel
theorem dL_law_341 : decode cL_law 341 = .ok (.invokestatic 93, 3) := by decide +kernel
theorem dL_law_344 : decode cL_law 344 = .ok (.istore 5, 2) := by decide +kernel
theorem dL_law_346 : decode cL_law 346 = .ok (.aload_n 2, 1) := by decide +kernel
theorem dL_law_347 : decode cL_law 347 = .ok (.aload_n 0, 1) := by decide +kernel
theorem dL_law_348 : decode cL_law 348 = .ok (.iload 4, 2) := by decide +kernel
theorem dL_law_350 : decode cL_law 350 = .ok (.iconst 1, 1) := by decide +kernel
theorem dL_law_351 : decode cL_law 351 = .ok (.iadd, 1) := by decide +kernel
theorem dL_law_352 : decode cL_law 352 = .ok (.iaload, 1) := by decide +kernel
theorem dL_law_353 : decode cL_law 353 = .ok (.aload_n 0, 1) := by decide +kernel
theorem dL_law_354 : decode cL_law 354 = .ok (.iload 4, 2) := by decide +kernel
theorem dL_law_356 : decode cL_law 356 = .ok (.iconst 2, 1) := by decide +kernel
theorem dL_law_357 : decode cL_law 357 = .ok (.iadd, 1) := by decide +kernel
theorem dL_law_358 : decode cL_law 358 = .ok (.iaload, 1) := by decide +kernel
theorem dL_law_359 : decode cL_law 359 = .ok (.invokevirtual 95, 3) := by decide +kernel
theorem dL_law_362 : decode cL_law 362 = .ok (.istore 6, 2) := by decide +kernel
theorem dL_law_364 : decode cL_law 364 = .ok (.aload_n 2, 1) := by decide +kernel
theorem dL_law_365 : decode cL_law 365 = .ok (.invokevirtual 70, 3) := by decide +kernel
theorem dL_law_368 : decode cL_law 368 = .ok (.iload 5, 2) := by decide +kernel
theorem dL_law_370 : decode cL_law 370 = .ok (.if_icmp .eq 5, 3) := by decide +kernel
theorem dL_law_373 : decode cL_law 373 = .ok (.iconst 0, 1) := by decide +kernel
theorem dL_law_374 : decode cL_law 374 = .ok (.ireturn, 1) := by decide +kernel
theorem dL_law_375 : decode cL_law 375 = .ok (.iload 5, 2) := by decide +kernel
theorem dL_law_377 : decode cL_law 377 = .ok (.ifCond .ne 15, 3) := by decide +kernel
theorem dL_law_380 : decode cL_law 380 = .ok (.aload_n 3, 1) := by decide +kernel
theorem dL_law_381 : decode cL_law 381 = .ok (.iconst 0, 1) := by decide +kernel
theorem dL_law_382 : decode cL_law 382 = .ok (.laload, 1) := by decide +kernel
theorem dL_law_383 : decode cL_law 383 = .ok (.iload 6, 2) := by decide +kernel
theorem dL_law_385 : decode cL_law 385 = .ok (.i2l, 1) := by decide +kernel
theorem dL_law_386 : decode cL_law 386 = .ok (.lcmp, 1) := by decide +kernel
theorem dL_law_387 : decode cL_law 387 = .ok (.ifCond .eq 5, 3) := by decide +kernel
theorem dL_law_390 : decode cL_law 390 = .ok (.iconst 0, 1) := by decide +kernel
theorem dL_law_391 : decode cL_law 391 = .ok (.ireturn, 1) := by decide +kernel
theorem dL_law_392 : decode cL_law 392 = .ok (.goto 657, 3) := by decide +kernel
theorem dL_law_395 : decode cL_law 395 = .ok (.aload_n 1, 1) := by decide +kernel
theorem dL_law_396 : decode cL_law 396 = .ok (.invokevirtual 96, 3) := by decide +kernel
theorem dL_law_399 : decode cL_law 399 = .ok (.aload_n 2, 1) := by decide +kernel
theorem dL_law_400 : decode cL_law 400 = .ok (.invokevirtual 99, 3) := by decide +kernel
theorem dL_law_403 : decode cL_law 403 = .ok (.if_icmp .eq 646, 3) := by decide +kernel
theorem dL_law_406 : decode cL_law 406 = .ok (.iconst 0, 1) := by decide +kernel
theorem dL_law_407 : decode cL_law 407 = .ok (.ireturn, 1) := by decide +kernel
theorem dL_law_408 : decode cL_law 408 = .ok (.aload_n 1, 1) := by decide +kernel
theorem dL_law_409 : decode cL_law 409 = .ok (.aload_n 0, 1) := by decide +kernel
theorem dL_law_410 : decode cL_law 410 = .ok (.iload 4, 2) := by decide +kernel
theorem dL_law_412 : decode cL_law 412 = .ok (.iconst 1, 1) := by decide +kernel
theorem dL_law_413 : decode cL_law 413 = .ok (.iadd, 1) := by decide +kernel
theorem dL_law_414 : decode cL_law 414 = .ok (.iaload, 1) := by decide +kernel
theorem dL_law_415 : decode cL_law 415 = .ok (.aload_n 0, 1) := by decide +kernel
theorem dL_law_416 : decode cL_law 416 = .ok (.iload 4, 2) := by decide +kernel
theorem dL_law_418 : decode cL_law 418 = .ok (.iconst 2, 1) := by decide +kernel
theorem dL_law_419 : decode cL_law 419 = .ok (.iadd, 1) := by decide +kernel
theorem dL_law_420 : decode cL_law 420 = .ok (.iaload, 1) := by decide +kernel
theorem dL_law_421 : decode cL_law 421 = .ok (.aload_n 0, 1) := by decide +kernel
theorem dL_law_422 : decode cL_law 422 = .ok (.iload 4, 2) := by decide +kernel
theorem dL_law_424 : decode cL_law 424 = .ok (.iconst 3, 1) := by decide +kernel
theorem dL_law_425 : decode cL_law 425 = .ok (.iadd, 1) := by decide +kernel
theorem dL_law_426 : decode cL_law 426 = .ok (.iaload, 1) := by decide +kernel
theorem dL_law_427 : decode cL_law 427 = .ok (.aload_n 3, 1) := by decide +kernel
theorem dL_law_428 : decode cL_law 428 = .ok (.invokestatic 100, 3) := by decide +kernel
theorem dL_law_431 : decode cL_law 431 = .ok (.istore 5, 2) := by decide +kernel
theorem dL_law_433 : decode cL_law 433 = .ok (.aload_n 2, 1) := by decide +kernel
theorem dL_law_434 : decode cL_law 434 = .ok (.aload_n 0, 1) := by decide +kernel
theorem dL_law_435 : decode cL_law 435 = .ok (.iload 4, 2) := by decide +kernel
theorem dL_law_437 : decode cL_law 437 = .ok (.iconst 1, 1) := by decide +kernel
theorem dL_law_438 : decode cL_law 438 = .ok (.iadd, 1) := by decide +kernel
theorem dL_law_439 : decode cL_law 439 = .ok (.iaload, 1) := by decide +kernel
theorem dL_law_440 : decode cL_law 440 = .ok (.aload_n 0, 1) := by decide +kernel
theorem dL_law_441 : decode cL_law 441 = .ok (.iload 4, 2) := by decide +kernel
theorem dL_law_443 : decode cL_law 443 = .ok (.iconst 2, 1) := by decide +kernel
theorem dL_law_444 : decode cL_law 444 = .ok (.iadd, 1) := by decide +kernel
theorem dL_law_445 : decode cL_law 445 = .ok (.iaload, 1) := by decide +kernel
theorem dL_law_446 : decode cL_law 446 = .ok (.aload_n 0, 1) := by decide +kernel
theorem dL_law_447 : decode cL_law 447 = .ok (.iload 4, 2) := by decide +kernel
theorem dL_law_449 : decode cL_law 449 = .ok (.iconst 3, 1) := by decide +kernel
theorem dL_law_450 : decode cL_law 450 = .ok (.iadd, 1) := by decide +kernel
theorem dL_law_451 : decode cL_law 451 = .ok (.iaload, 1) := by decide +kernel
theorem dL_law_452 : decode cL_law 452 = .ok (.invokevirtual 103, 3) := by decide +kernel
theorem dL_law_455 : decode cL_law 455 = .ok (.istore 6, 2) := by decide +kernel
theorem dL_law_457 : decode cL_law 457 = .ok (.aload_n 2, 1) := by decide +kernel
theorem dL_law_458 : decode cL_law 458 = .ok (.invokevirtual 70, 3) := by decide +kernel
theorem dL_law_461 : decode cL_law 461 = .ok (.iload 5, 2) := by decide +kernel
theorem dL_law_463 : decode cL_law 463 = .ok (.if_icmp .eq 5, 3) := by decide +kernel
theorem dL_law_466 : decode cL_law 466 = .ok (.iconst 0, 1) := by decide +kernel
theorem dL_law_467 : decode cL_law 467 = .ok (.ireturn, 1) := by decide +kernel
theorem dL_law_468 : decode cL_law 468 = .ok (.iload 5, 2) := by decide +kernel
theorem dL_law_470 : decode cL_law 470 = .ok (.ifCond .ne 15, 3) := by decide +kernel
theorem dL_law_473 : decode cL_law 473 = .ok (.aload_n 3, 1) := by decide +kernel
theorem dL_law_474 : decode cL_law 474 = .ok (.iconst 0, 1) := by decide +kernel
theorem dL_law_475 : decode cL_law 475 = .ok (.laload, 1) := by decide +kernel
theorem dL_law_476 : decode cL_law 476 = .ok (.iload 6, 2) := by decide +kernel
theorem dL_law_478 : decode cL_law 478 = .ok (.i2l, 1) := by decide +kernel
theorem dL_law_479 : decode cL_law 479 = .ok (.lcmp, 1) := by decide +kernel
theorem dL_law_480 : decode cL_law 480 = .ok (.ifCond .eq 5, 3) := by decide +kernel
theorem dL_law_483 : decode cL_law 483 = .ok (.iconst 0, 1) := by decide +kernel
theorem dL_law_484 : decode cL_law 484 = .ok (.ireturn, 1) := by decide +kernel
theorem dL_law_485 : decode cL_law 485 = .ok (.goto 564, 3) := by decide +kernel
theorem dL_law_488 : decode cL_law 488 = .ok (.aload_n 1, 1) := by decide +kernel
theorem dL_law_489 : decode cL_law 489 = .ok (.aload_n 0, 1) := by decide +kernel
theorem dL_law_490 : decode cL_law 490 = .ok (.iload 4, 2) := by decide +kernel
theorem dL_law_492 : decode cL_law 492 = .ok (.iconst 1, 1) := by decide +kernel
theorem dL_law_493 : decode cL_law 493 = .ok (.iadd, 1) := by decide +kernel
theorem dL_law_494 : decode cL_law 494 = .ok (.iaload, 1) := by decide +kernel
theorem dL_law_495 : decode cL_law 495 = .ok (.aload_n 0, 1) := by decide +kernel
theorem dL_law_496 : decode cL_law 496 = .ok (.iload 4, 2) := by decide +kernel
theorem dL_law_498 : decode cL_law 498 = .ok (.iconst 2, 1) := by decide +kernel
theorem dL_law_499 : decode cL_law 499 = .ok (.iadd, 1) := by decide +kernel
theorem dL_law_500 : decode cL_law 500 = .ok (.iaload, 1) := by decide +kernel
theorem dL_law_501 : decode cL_law 501 = .ok (.aload_n 0, 1) := by decide +kernel
theorem dL_law_502 : decode cL_law 502 = .ok (.iload 4, 2) := by decide +kernel
theorem dL_law_504 : decode cL_law 504 = .ok (.iconst 3, 1) := by decide +kernel
theorem dL_law_505 : decode cL_law 505 = .ok (.iadd, 1) := by decide +kernel
theorem dL_law_506 : decode cL_law 506 = .ok (.iaload, 1) := by decide +kernel
theorem dL_law_507 : decode cL_law 507 = .ok (.aload_n 3, 1) := by decide +kernel
theorem dL_law_508 : decode cL_law 508 = .ok (.invokestatic 104, 3) := by decide +kernel
theorem dL_law_511 : decode cL_law 511 = .ok (.istore 5, 2) := by decide +kernel
theorem dL_law_513 : decode cL_law 513 = .ok (.aload_n 2, 1) := by decide +kernel
theorem dL_law_514 : decode cL_law 514 = .ok (.aload_n 0, 1) := by decide +kernel
theorem dL_law_515 : decode cL_law 515 = .ok (.iload 4, 2) := by decide +kernel
theorem dL_law_517 : decode cL_law 517 = .ok (.iconst 1, 1) := by decide +kernel
theorem dL_law_518 : decode cL_law 518 = .ok (.iadd, 1) := by decide +kernel
theorem dL_law_519 : decode cL_law 519 = .ok (.iaload, 1) := by decide +kernel
theorem dL_law_520 : decode cL_law 520 = .ok (.aload_n 0, 1) := by decide +kernel
theorem dL_law_521 : decode cL_law 521 = .ok (.iload 4, 2) := by decide +kernel
theorem dL_law_523 : decode cL_law 523 = .ok (.iconst 2, 1) := by decide +kernel
theorem dL_law_524 : decode cL_law 524 = .ok (.iadd, 1) := by decide +kernel
theorem dL_law_525 : decode cL_law 525 = .ok (.iaload, 1) := by decide +kernel
theorem dL_law_526 : decode cL_law 526 = .ok (.aload_n 0, 1) := by decide +kernel
theorem dL_law_527 : decode cL_law 527 = .ok (.iload 4, 2) := by decide +kernel
theorem dL_law_529 : decode cL_law 529 = .ok (.iconst 3, 1) := by decide +kernel
theorem dL_law_530 : decode cL_law 530 = .ok (.iadd, 1) := by decide +kernel
theorem dL_law_531 : decode cL_law 531 = .ok (.iaload, 1) := by decide +kernel
theorem dL_law_532 : decode cL_law 532 = .ok (.invokevirtual 106, 3) := by decide +kernel
theorem dL_law_535 : decode cL_law 535 = .ok (.istore 6, 2) := by decide +kernel
theorem dL_law_537 : decode cL_law 537 = .ok (.aload_n 2, 1) := by decide +kernel
theorem dL_law_538 : decode cL_law 538 = .ok (.invokevirtual 70, 3) := by decide +kernel
theorem dL_law_541 : decode cL_law 541 = .ok (.iload 5, 2) := by decide +kernel
theorem dL_law_543 : decode cL_law 543 = .ok (.if_icmp .eq 5, 3) := by decide +kernel
theorem dL_law_546 : decode cL_law 546 = .ok (.iconst 0, 1) := by decide +kernel
theorem dL_law_547 : decode cL_law 547 = .ok (.ireturn, 1) := by decide +kernel
theorem dL_law_548 : decode cL_law 548 = .ok (.iload 5, 2) := by decide +kernel
theorem dL_law_550 : decode cL_law 550 = .ok (.ifCond .ne 15, 3) := by decide +kernel
theorem dL_law_553 : decode cL_law 553 = .ok (.aload_n 3, 1) := by decide +kernel
theorem dL_law_554 : decode cL_law 554 = .ok (.iconst 0, 1) := by decide +kernel
theorem dL_law_555 : decode cL_law 555 = .ok (.laload, 1) := by decide +kernel
theorem dL_law_556 : decode cL_law 556 = .ok (.iload 6, 2) := by decide +kernel
theorem dL_law_558 : decode cL_law 558 = .ok (.i2l, 1) := by decide +kernel
theorem dL_law_559 : decode cL_law 559 = .ok (.lcmp, 1) := by decide +kernel
theorem dL_law_560 : decode cL_law 560 = .ok (.ifCond .eq 5, 3) := by decide +kernel
theorem dL_law_563 : decode cL_law 563 = .ok (.iconst 0, 1) := by decide +kernel
theorem dL_law_564 : decode cL_law 564 = .ok (.ireturn, 1) := by decide +kernel
theorem dL_law_565 : decode cL_law 565 = .ok (.goto 484, 3) := by decide +kernel
theorem dL_law_568 : decode cL_law 568 = .ok (.aload_n 1, 1) := by decide +kernel
theorem dL_law_569 : decode cL_law 569 = .ok (.aload_n 0, 1) := by decide +kernel
theorem dL_law_570 : decode cL_law 570 = .ok (.iload 4, 2) := by decide +kernel
theorem dL_law_572 : decode cL_law 572 = .ok (.iconst 1, 1) := by decide +kernel
theorem dL_law_573 : decode cL_law 573 = .ok (.iadd, 1) := by decide +kernel
theorem dL_law_574 : decode cL_law 574 = .ok (.iaload, 1) := by decide +kernel
theorem dL_law_575 : decode cL_law 575 = .ok (.aload_n 0, 1) := by decide +kernel
theorem dL_law_576 : decode cL_law 576 = .ok (.iload 4, 2) := by decide +kernel
theorem dL_law_578 : decode cL_law 578 = .ok (.iconst 2, 1) := by decide +kernel
theorem dL_law_579 : decode cL_law 579 = .ok (.iadd, 1) := by decide +kernel
theorem dL_law_580 : decode cL_law 580 = .ok (.iaload, 1) := by decide +kernel
theorem dL_law_581 : decode cL_law 581 = .ok (.aload_n 0, 1) := by decide +kernel
theorem dL_law_582 : decode cL_law 582 = .ok (.iload 4, 2) := by decide +kernel
theorem dL_law_584 : decode cL_law 584 = .ok (.iconst 3, 1) := by decide +kernel
theorem dL_law_585 : decode cL_law 585 = .ok (.iadd, 1) := by decide +kernel
theorem dL_law_586 : decode cL_law 586 = .ok (.iaload, 1) := by decide +kernel
theorem dL_law_587 : decode cL_law 587 = .ok (.aload_n 3, 1) := by decide +kernel
theorem dL_law_588 : decode cL_law 588 = .ok (.invokestatic 107, 3) := by decide +kernel
theorem dL_law_591 : decode cL_law 591 = .ok (.istore 5, 2) := by decide +kernel
theorem dL_law_593 : decode cL_law 593 = .ok (.aload_n 2, 1) := by decide +kernel
theorem dL_law_594 : decode cL_law 594 = .ok (.aload_n 0, 1) := by decide +kernel
theorem dL_law_595 : decode cL_law 595 = .ok (.iload 4, 2) := by decide +kernel
theorem dL_law_597 : decode cL_law 597 = .ok (.iconst 1, 1) := by decide +kernel
theorem dL_law_598 : decode cL_law 598 = .ok (.iadd, 1) := by decide +kernel
theorem dL_law_599 : decode cL_law 599 = .ok (.iaload, 1) := by decide +kernel
theorem dL_law_600 : decode cL_law 600 = .ok (.aload_n 0, 1) := by decide +kernel
theorem dL_law_601 : decode cL_law 601 = .ok (.iload 4, 2) := by decide +kernel
theorem dL_law_603 : decode cL_law 603 = .ok (.iconst 2, 1) := by decide +kernel
theorem dL_law_604 : decode cL_law 604 = .ok (.iadd, 1) := by decide +kernel
theorem dL_law_605 : decode cL_law 605 = .ok (.iaload, 1) := by decide +kernel
theorem dL_law_606 : decode cL_law 606 = .ok (.aload_n 0, 1) := by decide +kernel
theorem dL_law_607 : decode cL_law 607 = .ok (.iload 4, 2) := by decide +kernel
theorem dL_law_609 : decode cL_law 609 = .ok (.iconst 3, 1) := by decide +kernel
theorem dL_law_610 : decode cL_law 610 = .ok (.iadd, 1) := by decide +kernel
theorem dL_law_611 : decode cL_law 611 = .ok (.iaload, 1) := by decide +kernel
theorem dL_law_612 : decode cL_law 612 = .ok (.invokevirtual 109, 3) := by decide +kernel
theorem dL_law_615 : decode cL_law 615 = .ok (.istore 6, 2) := by decide +kernel
theorem dL_law_617 : decode cL_law 617 = .ok (.aload_n 2, 1) := by decide +kernel
theorem dL_law_618 : decode cL_law 618 = .ok (.invokevirtual 70, 3) := by decide +kernel
theorem dL_law_621 : decode cL_law 621 = .ok (.iload 5, 2) := by decide +kernel
theorem dL_law_623 : decode cL_law 623 = .ok (.if_icmp .eq 5, 3) := by decide +kernel
theorem dL_law_626 : decode cL_law 626 = .ok (.iconst 0, 1) := by decide +kernel
theorem dL_law_627 : decode cL_law 627 = .ok (.ireturn, 1) := by decide +kernel
theorem dL_law_628 : decode cL_law 628 = .ok (.iload 5, 2) := by decide +kernel
theorem dL_law_630 : decode cL_law 630 = .ok (.ifCond .ne 15, 3) := by decide +kernel
theorem dL_law_633 : decode cL_law 633 = .ok (.aload_n 3, 1) := by decide +kernel
theorem dL_law_634 : decode cL_law 634 = .ok (.iconst 0, 1) := by decide +kernel
theorem dL_law_635 : decode cL_law 635 = .ok (.laload, 1) := by decide +kernel
theorem dL_law_636 : decode cL_law 636 = .ok (.iload 6, 2) := by decide +kernel
theorem dL_law_638 : decode cL_law 638 = .ok (.i2l, 1) := by decide +kernel
theorem dL_law_639 : decode cL_law 639 = .ok (.lcmp, 1) := by decide +kernel
theorem dL_law_640 : decode cL_law 640 = .ok (.ifCond .eq 5, 3) := by decide +kernel
theorem dL_law_643 : decode cL_law 643 = .ok (.iconst 0, 1) := by decide +kernel
theorem dL_law_644 : decode cL_law 644 = .ok (.ireturn, 1) := by decide +kernel
theorem dL_law_645 : decode cL_law 645 = .ok (.goto 404, 3) := by decide +kernel
theorem dL_law_648 : decode cL_law 648 = .ok (.aload_n 1, 1) := by decide +kernel
theorem dL_law_649 : decode cL_law 649 = .ok (.aload_n 0, 1) := by decide +kernel
theorem dL_law_650 : decode cL_law 650 = .ok (.iload 4, 2) := by decide +kernel
theorem dL_law_652 : decode cL_law 652 = .ok (.iconst 1, 1) := by decide +kernel
theorem dL_law_653 : decode cL_law 653 = .ok (.iadd, 1) := by decide +kernel
theorem dL_law_654 : decode cL_law 654 = .ok (.iaload, 1) := by decide +kernel
theorem dL_law_655 : decode cL_law 655 = .ok (.aload_n 0, 1) := by decide +kernel
theorem dL_law_656 : decode cL_law 656 = .ok (.iload 4, 2) := by decide +kernel
theorem dL_law_658 : decode cL_law 658 = .ok (.iconst 2, 1) := by decide +kernel
theorem dL_law_659 : decode cL_law 659 = .ok (.iadd, 1) := by decide +kernel
theorem dL_law_660 : decode cL_law 660 = .ok (.iaload, 1) := by decide +kernel
theorem dL_law_661 : decode cL_law 661 = .ok (.aload_n 0, 1) := by decide +kernel
theorem dL_law_662 : decode cL_law 662 = .ok (.iload 4, 2) := by decide +kernel
theorem dL_law_664 : decode cL_law 664 = .ok (.iconst 3, 1) := by decide +kernel
theorem dL_law_665 : decode cL_law 665 = .ok (.iadd, 1) := by decide +kernel
theorem dL_law_666 : decode cL_law 666 = .ok (.iaload, 1) := by decide +kernel
theorem dL_law_667 : decode cL_law 667 = .ok (.aload_n 3, 1) := by decide +kernel
theorem dL_law_668 : decode cL_law 668 = .ok (.invokestatic 110, 3) := by decide +kernel
theorem dL_law_671 : decode cL_law 671 = .ok (.istore 5, 2) := by decide +kernel
theorem dL_law_673 : decode cL_law 673 = .ok (.aload_n 2, 1) := by decide +kernel
theorem dL_law_674 : decode cL_law 674 = .ok (.aload_n 0, 1) := by decide +kernel
theorem dL_law_675 : decode cL_law 675 = .ok (.iload 4, 2) := by decide +kernel
theorem dL_law_677 : decode cL_law 677 = .ok (.iconst 1, 1) := by decide +kernel
theorem dL_law_678 : decode cL_law 678 = .ok (.iadd, 1) := by decide +kernel
theorem dL_law_679 : decode cL_law 679 = .ok (.iaload, 1) := by decide +kernel
theorem dL_law_680 : decode cL_law 680 = .ok (.aload_n 0, 1) := by decide +kernel
theorem dL_law_681 : decode cL_law 681 = .ok (.iload 4, 2) := by decide +kernel
theorem dL_law_683 : decode cL_law 683 = .ok (.iconst 2, 1) := by decide +kernel
theorem dL_law_684 : decode cL_law 684 = .ok (.iadd, 1) := by decide +kernel
theorem dL_law_685 : decode cL_law 685 = .ok (.iaload, 1) := by decide +kernel
theorem dL_law_686 : decode cL_law 686 = .ok (.aload_n 0, 1) := by decide +kernel
theorem dL_law_687 : decode cL_law 687 = .ok (.iload 4, 2) := by decide +kernel
theorem dL_law_689 : decode cL_law 689 = .ok (.iconst 3, 1) := by decide +kernel
theorem dL_law_690 : decode cL_law 690 = .ok (.iadd, 1) := by decide +kernel
theorem dL_law_691 : decode cL_law 691 = .ok (.iaload, 1) := by decide +kernel
theorem dL_law_692 : decode cL_law 692 = .ok (.invokevirtual 112, 3) := by decide +kernel
theorem dL_law_695 : decode cL_law 695 = .ok (.istore 6, 2) := by decide +kernel
theorem dL_law_697 : decode cL_law 697 = .ok (.aload_n 2, 1) := by decide +kernel
theorem dL_law_698 : decode cL_law 698 = .ok (.invokevirtual 70, 3) := by decide +kernel
theorem dL_law_701 : decode cL_law 701 = .ok (.iload 5, 2) := by decide +kernel
theorem dL_law_703 : decode cL_law 703 = .ok (.if_icmp .eq 5, 3) := by decide +kernel
theorem dL_law_706 : decode cL_law 706 = .ok (.iconst 0, 1) := by decide +kernel
theorem dL_law_707 : decode cL_law 707 = .ok (.ireturn, 1) := by decide +kernel
theorem dL_law_708 : decode cL_law 708 = .ok (.iload 5, 2) := by decide +kernel
theorem dL_law_710 : decode cL_law 710 = .ok (.ifCond .ne 22, 3) := by decide +kernel
theorem dL_law_713 : decode cL_law 713 = .ok (.aload_n 3, 1) := by decide +kernel
theorem dL_law_714 : decode cL_law 714 = .ok (.iconst 0, 1) := by decide +kernel
theorem dL_law_715 : decode cL_law 715 = .ok (.laload, 1) := by decide +kernel
theorem dL_law_716 : decode cL_law 716 = .ok (.iload 6, 2) := by decide +kernel
theorem dL_law_718 : decode cL_law 718 = .ok (.ifCond .eq 7, 3) := by decide +kernel
theorem dL_law_721 : decode cL_law 721 = .ok (.lconst 1, 1) := by decide +kernel
theorem dL_law_722 : decode cL_law 722 = .ok (.goto 4, 3) := by decide +kernel
theorem dL_law_725 : decode cL_law 725 = .ok (.lconst 0, 1) := by decide +kernel
theorem dL_law_726 : decode cL_law 726 = .ok (.lcmp, 1) := by decide +kernel
theorem dL_law_727 : decode cL_law 727 = .ok (.ifCond .eq 5, 3) := by decide +kernel
theorem dL_law_730 : decode cL_law 730 = .ok (.iconst 0, 1) := by decide +kernel
theorem dL_law_731 : decode cL_law 731 = .ok (.ireturn, 1) := by decide +kernel
theorem dL_law_732 : decode cL_law 732 = .ok (.goto 317, 3) := by decide +kernel
theorem dL_law_735 : decode cL_law 735 = .ok (.aload_n 1, 1) := by decide +kernel
theorem dL_law_736 : decode cL_law 736 = .ok (.aload_n 0, 1) := by decide +kernel
theorem dL_law_737 : decode cL_law 737 = .ok (.iload 4, 2) := by decide +kernel
theorem dL_law_739 : decode cL_law 739 = .ok (.iconst 1, 1) := by decide +kernel
theorem dL_law_740 : decode cL_law 740 = .ok (.iadd, 1) := by decide +kernel
theorem dL_law_741 : decode cL_law 741 = .ok (.iaload, 1) := by decide +kernel
theorem dL_law_742 : decode cL_law 742 = .ok (.aload_n 3, 1) := by decide +kernel
theorem dL_law_743 : decode cL_law 743 = .ok (.invokestatic 113, 3) := by decide +kernel
theorem dL_law_746 : decode cL_law 746 = .ok (.istore 5, 2) := by decide +kernel
theorem dL_law_748 : decode cL_law 748 = .ok (.aload_n 2, 1) := by decide +kernel
theorem dL_law_749 : decode cL_law 749 = .ok (.aload_n 0, 1) := by decide +kernel
theorem dL_law_750 : decode cL_law 750 = .ok (.iload 4, 2) := by decide +kernel
theorem dL_law_752 : decode cL_law 752 = .ok (.iconst 1, 1) := by decide +kernel
theorem dL_law_753 : decode cL_law 753 = .ok (.iadd, 1) := by decide +kernel
theorem dL_law_754 : decode cL_law 754 = .ok (.iaload, 1) := by decide +kernel
theorem dL_law_755 : decode cL_law 755 = .ok (.invokevirtual 115, 3) := by decide +kernel
theorem dL_law_758 : decode cL_law 758 = .ok (.istore 6, 2) := by decide +kernel
theorem dL_law_760 : decode cL_law 760 = .ok (.aload_n 2, 1) := by decide +kernel
theorem dL_law_761 : decode cL_law 761 = .ok (.invokevirtual 70, 3) := by decide +kernel
theorem dL_law_764 : decode cL_law 764 = .ok (.iload 5, 2) := by decide +kernel
theorem dL_law_766 : decode cL_law 766 = .ok (.if_icmp .eq 5, 3) := by decide +kernel
theorem dL_law_769 : decode cL_law 769 = .ok (.iconst 0, 1) := by decide +kernel
theorem dL_law_770 : decode cL_law 770 = .ok (.ireturn, 1) := by decide +kernel
theorem dL_law_771 : decode cL_law 771 = .ok (.iload 5, 2) := by decide +kernel
theorem dL_law_773 : decode cL_law 773 = .ok (.ifCond .ne 15, 3) := by decide +kernel
theorem dL_law_776 : decode cL_law 776 = .ok (.aload_n 3, 1) := by decide +kernel
theorem dL_law_777 : decode cL_law 777 = .ok (.iconst 0, 1) := by decide +kernel
theorem dL_law_778 : decode cL_law 778 = .ok (.laload, 1) := by decide +kernel
theorem dL_law_779 : decode cL_law 779 = .ok (.iload 6, 2) := by decide +kernel
theorem dL_law_781 : decode cL_law 781 = .ok (.i2l, 1) := by decide +kernel
theorem dL_law_782 : decode cL_law 782 = .ok (.lcmp, 1) := by decide +kernel
theorem dL_law_783 : decode cL_law 783 = .ok (.ifCond .eq 5, 3) := by decide +kernel
theorem dL_law_786 : decode cL_law 786 = .ok (.iconst 0, 1) := by decide +kernel
theorem dL_law_787 : decode cL_law 787 = .ok (.ireturn, 1) := by decide +kernel
theorem dL_law_788 : decode cL_law 788 = .ok (.goto 261, 3) := by decide +kernel
theorem dL_law_791 : decode cL_law 791 = .ok (.aload_n 1, 1) := by decide +kernel
theorem dL_law_792 : decode cL_law 792 = .ok (.aload_n 0, 1) := by decide +kernel
theorem dL_law_793 : decode cL_law 793 = .ok (.iload 4, 2) := by decide +kernel
theorem dL_law_795 : decode cL_law 795 = .ok (.iconst 1, 1) := by decide +kernel
theorem dL_law_796 : decode cL_law 796 = .ok (.iadd, 1) := by decide +kernel
theorem dL_law_797 : decode cL_law 797 = .ok (.iaload, 1) := by decide +kernel
theorem dL_law_798 : decode cL_law 798 = .ok (.aload_n 0, 1) := by decide +kernel
theorem dL_law_799 : decode cL_law 799 = .ok (.iload 4, 2) := by decide +kernel
theorem dL_law_801 : decode cL_law 801 = .ok (.iconst 2, 1) := by decide +kernel
theorem dL_law_802 : decode cL_law 802 = .ok (.iadd, 1) := by decide +kernel
theorem dL_law_803 : decode cL_law 803 = .ok (.iaload, 1) := by decide +kernel
theorem dL_law_804 : decode cL_law 804 = .ok (.aload_n 0, 1) := by decide +kernel
theorem dL_law_805 : decode cL_law 805 = .ok (.iload 4, 2) := by decide +kernel
theorem dL_law_807 : decode cL_law 807 = .ok (.iconst 3, 1) := by decide +kernel
theorem dL_law_808 : decode cL_law 808 = .ok (.iadd, 1) := by decide +kernel
theorem dL_law_809 : decode cL_law 809 = .ok (.iaload, 1) := by decide +kernel
theorem dL_law_810 : decode cL_law 810 = .ok (.aload_n 3, 1) := by decide +kernel
theorem dL_law_811 : decode cL_law 811 = .ok (.invokestatic 116, 3) := by decide +kernel
theorem dL_law_814 : decode cL_law 814 = .ok (.istore 5, 2) := by decide +kernel
theorem dL_law_816 : decode cL_law 816 = .ok (.aload_n 2, 1) := by decide +kernel
theorem dL_law_817 : decode cL_law 817 = .ok (.aload_n 0, 1) := by decide +kernel
theorem dL_law_818 : decode cL_law 818 = .ok (.iload 4, 2) := by decide +kernel
theorem dL_law_820 : decode cL_law 820 = .ok (.iconst 1, 1) := by decide +kernel
theorem dL_law_821 : decode cL_law 821 = .ok (.iadd, 1) := by decide +kernel
theorem dL_law_822 : decode cL_law 822 = .ok (.iaload, 1) := by decide +kernel
theorem dL_law_823 : decode cL_law 823 = .ok (.aload_n 0, 1) := by decide +kernel
theorem dL_law_824 : decode cL_law 824 = .ok (.iload 4, 2) := by decide +kernel
theorem dL_law_826 : decode cL_law 826 = .ok (.iconst 2, 1) := by decide +kernel
theorem dL_law_827 : decode cL_law 827 = .ok (.iadd, 1) := by decide +kernel
theorem dL_law_828 : decode cL_law 828 = .ok (.iaload, 1) := by decide +kernel
theorem dL_law_829 : decode cL_law 829 = .ok (.aload_n 0, 1) := by decide +kernel
theorem dL_law_830 : decode cL_law 830 = .ok (.iload 4, 2) := by decide +kernel
theorem dL_law_832 : decode cL_law 832 = .ok (.iconst 3, 1) := by decide +kernel
theorem dL_law_833 : decode cL_law 833 = .ok (.iadd, 1) := by decide +kernel
theorem dL_law_834 : decode cL_law 834 = .ok (.iaload, 1) := by decide +kernel
theorem dL_law_835 : decode cL_law 835 = .ok (.invokevirtual 118, 3) := by decide +kernel
theorem dL_law_838 : decode cL_law 838 = .ok (.istore 6, 2) := by decide +kernel
theorem dL_law_840 : decode cL_law 840 = .ok (.aload_n 2, 1) := by decide +kernel
theorem dL_law_841 : decode cL_law 841 = .ok (.invokevirtual 70, 3) := by decide +kernel
theorem dL_law_844 : decode cL_law 844 = .ok (.iload 5, 2) := by decide +kernel
theorem dL_law_846 : decode cL_law 846 = .ok (.if_icmp .eq 5, 3) := by decide +kernel
theorem dL_law_849 : decode cL_law 849 = .ok (.iconst 0, 1) := by decide +kernel
theorem dL_law_850 : decode cL_law 850 = .ok (.ireturn, 1) := by decide +kernel
theorem dL_law_851 : decode cL_law 851 = .ok (.iload 5, 2) := by decide +kernel
theorem dL_law_853 : decode cL_law 853 = .ok (.ifCond .ne 15, 3) := by decide +kernel
theorem dL_law_856 : decode cL_law 856 = .ok (.aload_n 3, 1) := by decide +kernel
theorem dL_law_857 : decode cL_law 857 = .ok (.iconst 0, 1) := by decide +kernel
theorem dL_law_858 : decode cL_law 858 = .ok (.laload, 1) := by decide +kernel
theorem dL_law_859 : decode cL_law 859 = .ok (.iload 6, 2) := by decide +kernel
theorem dL_law_861 : decode cL_law 861 = .ok (.i2l, 1) := by decide +kernel
theorem dL_law_862 : decode cL_law 862 = .ok (.lcmp, 1) := by decide +kernel
theorem dL_law_863 : decode cL_law 863 = .ok (.ifCond .eq 5, 3) := by decide +kernel
theorem dL_law_866 : decode cL_law 866 = .ok (.iconst 0, 1) := by decide +kernel
theorem dL_law_867 : decode cL_law 867 = .ok (.ireturn, 1) := by decide +kernel
theorem dL_law_868 : decode cL_law 868 = .ok (.goto 181, 3) := by decide +kernel
theorem dL_law_871 : decode cL_law 871 = .ok (.aload_n 1, 1) := by decide +kernel
theorem dL_law_872 : decode cL_law 872 = .ok (.aload_n 0, 1) := by decide +kernel
theorem dL_law_873 : decode cL_law 873 = .ok (.iload 4, 2) := by decide +kernel
theorem dL_law_875 : decode cL_law 875 = .ok (.iconst 1, 1) := by decide +kernel
theorem dL_law_876 : decode cL_law 876 = .ok (.iadd, 1) := by decide +kernel
theorem dL_law_877 : decode cL_law 877 = .ok (.iaload, 1) := by decide +kernel
theorem dL_law_878 : decode cL_law 878 = .ok (.aload_n 0, 1) := by decide +kernel
theorem dL_law_879 : decode cL_law 879 = .ok (.iload 4, 2) := by decide +kernel
theorem dL_law_881 : decode cL_law 881 = .ok (.iconst 2, 1) := by decide +kernel
theorem dL_law_882 : decode cL_law 882 = .ok (.iadd, 1) := by decide +kernel
theorem dL_law_883 : decode cL_law 883 = .ok (.iaload, 1) := by decide +kernel
theorem dL_law_884 : decode cL_law 884 = .ok (.aload_n 3, 1) := by decide +kernel
theorem dL_law_885 : decode cL_law 885 = .ok (.invokestatic 119, 3) := by decide +kernel
theorem dL_law_888 : decode cL_law 888 = .ok (.istore 5, 2) := by decide +kernel
theorem dL_law_890 : decode cL_law 890 = .ok (.aload_n 2, 1) := by decide +kernel
theorem dL_law_891 : decode cL_law 891 = .ok (.aload_n 0, 1) := by decide +kernel
theorem dL_law_892 : decode cL_law 892 = .ok (.iload 4, 2) := by decide +kernel
theorem dL_law_894 : decode cL_law 894 = .ok (.iconst 1, 1) := by decide +kernel
theorem dL_law_895 : decode cL_law 895 = .ok (.iadd, 1) := by decide +kernel
theorem dL_law_896 : decode cL_law 896 = .ok (.iaload, 1) := by decide +kernel
theorem dL_law_897 : decode cL_law 897 = .ok (.aload_n 0, 1) := by decide +kernel
theorem dL_law_898 : decode cL_law 898 = .ok (.iload 4, 2) := by decide +kernel
theorem dL_law_900 : decode cL_law 900 = .ok (.iconst 2, 1) := by decide +kernel
theorem dL_law_901 : decode cL_law 901 = .ok (.iadd, 1) := by decide +kernel
theorem dL_law_902 : decode cL_law 902 = .ok (.iaload, 1) := by decide +kernel
theorem dL_law_903 : decode cL_law 903 = .ok (.invokevirtual 121, 3) := by decide +kernel
theorem dL_law_906 : decode cL_law 906 = .ok (.istore 6, 2) := by decide +kernel
theorem dL_law_908 : decode cL_law 908 = .ok (.aload_n 2, 1) := by decide +kernel
theorem dL_law_909 : decode cL_law 909 = .ok (.invokevirtual 70, 3) := by decide +kernel
theorem dL_law_912 : decode cL_law 912 = .ok (.iload 5, 2) := by decide +kernel
theorem dL_law_914 : decode cL_law 914 = .ok (.if_icmp .eq 5, 3) := by decide +kernel
theorem dL_law_917 : decode cL_law 917 = .ok (.iconst 0, 1) := by decide +kernel
theorem dL_law_918 : decode cL_law 918 = .ok (.ireturn, 1) := by decide +kernel
theorem dL_law_919 : decode cL_law 919 = .ok (.iload 5, 2) := by decide +kernel
theorem dL_law_921 : decode cL_law 921 = .ok (.ifCond .ne 15, 3) := by decide +kernel
theorem dL_law_924 : decode cL_law 924 = .ok (.aload_n 3, 1) := by decide +kernel
theorem dL_law_925 : decode cL_law 925 = .ok (.iconst 0, 1) := by decide +kernel
theorem dL_law_926 : decode cL_law 926 = .ok (.laload, 1) := by decide +kernel
theorem dL_law_927 : decode cL_law 927 = .ok (.iload 6, 2) := by decide +kernel
theorem dL_law_929 : decode cL_law 929 = .ok (.i2l, 1) := by decide +kernel
theorem dL_law_930 : decode cL_law 930 = .ok (.lcmp, 1) := by decide +kernel
theorem dL_law_931 : decode cL_law 931 = .ok (.ifCond .eq 5, 3) := by decide +kernel
theorem dL_law_934 : decode cL_law 934 = .ok (.iconst 0, 1) := by decide +kernel
theorem dL_law_935 : decode cL_law 935 = .ok (.ireturn, 1) := by decide +kernel
theorem dL_law_936 : decode cL_law 936 = .ok (.goto 113, 3) := by decide +kernel
theorem dL_law_939 : decode cL_law 939 = .ok (.aload_n 1, 1) := by decide +kernel
theorem dL_law_940 : decode cL_law 940 = .ok (.aload_n 0, 1) := by decide +kernel
theorem dL_law_941 : decode cL_law 941 = .ok (.iload 4, 2) := by decide +kernel
theorem dL_law_943 : decode cL_law 943 = .ok (.iconst 1, 1) := by decide +kernel
theorem dL_law_944 : decode cL_law 944 = .ok (.iadd, 1) := by decide +kernel
theorem dL_law_945 : decode cL_law 945 = .ok (.iaload, 1) := by decide +kernel
theorem dL_law_946 : decode cL_law 946 = .ok (.aload_n 3, 1) := by decide +kernel
theorem dL_law_947 : decode cL_law 947 = .ok (.invokestatic 122, 3) := by decide +kernel
theorem dL_law_950 : decode cL_law 950 = .ok (.istore 5, 2) := by decide +kernel
theorem dL_law_952 : decode cL_law 952 = .ok (.aload_n 2, 1) := by decide +kernel
theorem dL_law_953 : decode cL_law 953 = .ok (.aload_n 0, 1) := by decide +kernel
theorem dL_law_954 : decode cL_law 954 = .ok (.iload 4, 2) := by decide +kernel
theorem dL_law_956 : decode cL_law 956 = .ok (.iconst 1, 1) := by decide +kernel
theorem dL_law_957 : decode cL_law 957 = .ok (.iadd, 1) := by decide +kernel
theorem dL_law_958 : decode cL_law 958 = .ok (.iaload, 1) := by decide +kernel
theorem dL_law_959 : decode cL_law 959 = .ok (.invokevirtual 124, 3) := by decide +kernel
theorem dL_law_962 : decode cL_law 962 = .ok (.lstore 6, 2) := by decide +kernel
theorem dL_law_964 : decode cL_law 964 = .ok (.aload_n 2, 1) := by decide +kernel
theorem dL_law_965 : decode cL_law 965 = .ok (.invokevirtual 70, 3) := by decide +kernel
theorem dL_law_968 : decode cL_law 968 = .ok (.iload 5, 2) := by decide +kernel
theorem dL_law_970 : decode cL_law 970 = .ok (.if_icmp .eq 5, 3) := by decide +kernel
theorem dL_law_973 : decode cL_law 973 = .ok (.iconst 0, 1) := by decide +kernel
theorem dL_law_974 : decode cL_law 974 = .ok (.ireturn, 1) := by decide +kernel
theorem dL_law_975 : decode cL_law 975 = .ok (.iload 5, 2) := by decide +kernel
theorem dL_law_977 : decode cL_law 977 = .ok (.ifCond .ne 14, 3) := by decide +kernel
theorem dL_law_980 : decode cL_law 980 = .ok (.aload_n 3, 1) := by decide +kernel
theorem dL_law_981 : decode cL_law 981 = .ok (.iconst 0, 1) := by decide +kernel
theorem dL_law_982 : decode cL_law 982 = .ok (.laload, 1) := by decide +kernel
theorem dL_law_983 : decode cL_law 983 = .ok (.lload 6, 2) := by decide +kernel
theorem dL_law_985 : decode cL_law 985 = .ok (.lcmp, 1) := by decide +kernel
theorem dL_law_986 : decode cL_law 986 = .ok (.ifCond .eq 5, 3) := by decide +kernel
theorem dL_law_989 : decode cL_law 989 = .ok (.iconst 0, 1) := by decide +kernel
theorem dL_law_990 : decode cL_law 990 = .ok (.ireturn, 1) := by decide +kernel
theorem dL_law_991 : decode cL_law 991 = .ok (.goto 58, 3) := by decide +kernel
theorem dL_law_994 : decode cL_law 994 = .ok (.aload_n 1, 1) := by decide +kernel
theorem dL_law_995 : decode cL_law 995 = .ok (.aload_n 0, 1) := by decide +kernel
theorem dL_law_996 : decode cL_law 996 = .ok (.iload 4, 2) := by decide +kernel
theorem dL_law_998 : decode cL_law 998 = .ok (.iconst 1, 1) := by decide +kernel
theorem dL_law_999 : decode cL_law 999 = .ok (.iadd, 1) := by decide +kernel
theorem dL_law_1000 : decode cL_law 1000 = .ok (.iaload, 1) := by decide +kernel
theorem dL_law_1001 : decode cL_law 1001 = .ok (.aload_n 3, 1) := by decide +kernel
theorem dL_law_1002 : decode cL_law 1002 = .ok (.invokestatic 125, 3) := by decide +kernel
theorem dL_law_1005 : decode cL_law 1005 = .ok (.istore 5, 2) := by decide +kernel
theorem dL_law_1007 : decode cL_law 1007 = .ok (.aload_n 2, 1) := by decide +kernel
theorem dL_law_1008 : decode cL_law 1008 = .ok (.aload_n 0, 1) := by decide +kernel
theorem dL_law_1009 : decode cL_law 1009 = .ok (.iload 4, 2) := by decide +kernel
theorem dL_law_1011 : decode cL_law 1011 = .ok (.iconst 1, 1) := by decide +kernel
theorem dL_law_1012 : decode cL_law 1012 = .ok (.iadd, 1) := by decide +kernel
theorem dL_law_1013 : decode cL_law 1013 = .ok (.iaload, 1) := by decide +kernel
theorem dL_law_1014 : decode cL_law 1014 = .ok (.invokevirtual 127, 3) := by decide +kernel
theorem dL_law_1017 : decode cL_law 1017 = .ok (.lstore 6, 2) := by decide +kernel
theorem dL_law_1019 : decode cL_law 1019 = .ok (.aload_n 2, 1) := by decide +kernel
theorem dL_law_1020 : decode cL_law 1020 = .ok (.invokevirtual 70, 3) := by decide +kernel
theorem dL_law_1023 : decode cL_law 1023 = .ok (.iload 5, 2) := by decide +kernel
theorem dL_law_1025 : decode cL_law 1025 = .ok (.if_icmp .eq 5, 3) := by decide +kernel
theorem dL_law_1028 : decode cL_law 1028 = .ok (.iconst 0, 1) := by decide +kernel
theorem dL_law_1029 : decode cL_law 1029 = .ok (.ireturn, 1) := by decide +kernel
theorem dL_law_1030 : decode cL_law 1030 = .ok (.iload 5, 2) := by decide +kernel
theorem dL_law_1032 : decode cL_law 1032 = .ok (.ifCond .ne 14, 3) := by decide +kernel
theorem dL_law_1035 : decode cL_law 1035 = .ok (.aload_n 3, 1) := by decide +kernel
theorem dL_law_1036 : decode cL_law 1036 = .ok (.iconst 0, 1) := by decide +kernel
theorem dL_law_1037 : decode cL_law 1037 = .ok (.laload, 1) := by decide +kernel
theorem dL_law_1038 : decode cL_law 1038 = .ok (.lload 6, 2) := by decide +kernel
theorem dL_law_1040 : decode cL_law 1040 = .ok (.lcmp, 1) := by decide +kernel
theorem dL_law_1041 : decode cL_law 1041 = .ok (.ifCond .eq 5, 3) := by decide +kernel
theorem dL_law_1044 : decode cL_law 1044 = .ok (.iconst 0, 1) := by decide +kernel
theorem dL_law_1045 : decode cL_law 1045 = .ok (.ireturn, 1) := by decide +kernel
theorem dL_law_1046 : decode cL_law 1046 = .ok (.goto 3, 3) := by decide +kernel
theorem dL_law_1049 : decode cL_law 1049 = .ok (.iinc 4 4, 3) := by decide +kernel
theorem dL_law_1052 : decode cL_law 1052 = .ok (.goto (-1029), 3) := by decide +kernel
theorem dL_law_1055 : decode cL_law 1055 = .ok (.iconst 1, 1) := by decide +kernel
theorem dL_law_1056 : decode cL_law 1056 = .ok (.ireturn, 1) := by decide +kernel
end
section
/-! THE ABSTRACT MACHINE: methods, a heap by places, and what a run of a method comes to, as the least relation closed under one rule an instruction -/
abbrev MI : Type := MethodName × ByteArray × Nat × Option FieldType × String × List (Nat × Nat × Nat × Nat)
abbrev mY (M : MI) : MethodName := M.1
abbrev mB (M : MI) : ByteArray := M.2.1
abbrev mL (M : MI) : Nat := M.2.2.1
abbrev mR (M : MI) : Option FieldType := M.2.2.2.1
abbrev mC (M : MI) : String := M.2.2.2.2.1
abbrev mH (M : MI) : List (Nat × Nat × Nat × Nat) := M.2.2.2.2.2
abbrev Hp : Type := Nat → va_E
abbrev Out : Type := (Option Value ⊕ String) × Nat × Hp × Nat × Nat
abbrev aPr : Type := Nat → MI → Nat → List (Nat × Value) → List Value → Nat → Hp → Out → Prop
def am_ws : List Cond := lw_tbl.filter goodWord
def am_fw : Nat → Int32 := fun j => if j = 0 then 4 else if j = 1 then 3 else if j = 2 then 2 else 1
def am_strs : List (String × Nat × String) := [("Glosspair", 60, "no such side or word"), ("Glosspair", 77, "the draft is full"), ("Glosspair", 91, "a draft is empty"), ("Glosspair", 94, "there were as many pairs as can be"), ("Glosspair", 207, "no such pair, or it is not there any more"), ("Glosspair", 124, "apart is out of range"), ("Glosspair", 128, "weight is out of range"), ("Glosspair", 135, "no such side, or place is below 0"), ("Glosspair", 141, "no such direction or word"), ("Glosspair", 149, "no such direction or place"), ("Glosspair", 155, "no such place"), ("Glosspair", 172, "no such phrase"), ("Glosspair", 174, "what is out of range"), ("Glosspair", 179, "no such word"), ("Glosspair", 181, "fertility is out of range"), ("Glosspair", 209, "the sentence of the side 1 is too long")]
def am_nests : List (String × Nat × MethodName × String) := [("Glosspair", 11, ⟨"Glosspair$Corpus", "<init>", "()V"⟩, "Glosspair"), ("Glosspair", 18, ⟨"Glosspair$Linker", "<init>", "()V"⟩, "Glosspair"), ("Glosspair$Linker", 25, ⟨"Glosspair$Weights", "<init>", "()V"⟩, "Glosspair"), ("Glosspair", 25, ⟨"Glosspair$Alignment", "<init>", "()V"⟩, "Glosspair"), ("Glosspair", 32, ⟨"Glosspair$PhraseSearch", "<init>", "()V"⟩, "Glosspair"), ("Glosspair", 39, ⟨"Glosspair$Likelihood", "<init>", "()V"⟩, "Glosspair"), ("Glosspair", 46, ⟨"Glosspair$SentencePair", "<init>", "()V"⟩, "Glosspair"), ("Glosspair$SentencePair", 9, ⟨"Glosspair$Sentence", "<init>", "()V"⟩, "Glosspair"), ("Glosspair$PhraseSearch", 53, ⟨"Glosspair$Alignment", "bitOf", "(I)I"⟩, "Glosspair")]
def am_ncs : List (String × String) := [("java/lang/IllegalStateException", "java/lang/IndexOutOfBoundsException"), ("java/lang/IllegalArgumentException", "java/lang/IndexOutOfBoundsException"), ("java/lang/IndexOutOfBoundsException", "java/lang/IllegalStateException"), ("java/lang/IllegalArgumentException", "java/lang/IllegalStateException"), ("java/lang/IndexOutOfBoundsException", "java/lang/IllegalArgumentException"), ("java/lang/IllegalStateException", "java/lang/IllegalArgumentException")]
def am_decs : List MethodName := [⟨"java/lang/RuntimeException", "<init>", "()V"⟩, ⟨"java/lang/RuntimeException", "<init>", "(Ljava/lang/String;)V"⟩, ⟨"java/lang/Exception", "<init>", "()V"⟩, ⟨"java/lang/Exception", "<init>", "(Ljava/lang/String;)V"⟩, ⟨"java/lang/Throwable", "<init>", "()V"⟩, ⟨"java/lang/Throwable", "<init>", "(Ljava/lang/String;)V"⟩]
def am_cas : List (String × String) := [("java/lang/IndexOutOfBoundsException", "java/lang/IndexOutOfBoundsException"), ("java/lang/IllegalStateException", "java/lang/IllegalStateException"), ("java/lang/IllegalArgumentException", "java/lang/IllegalArgumentException"), ("[I", "java/lang/Cloneable")]
/-- the locals -/
def lk : List (Nat × Value) → Nat → Option Value
  | [], _ => none
  | (j, v) :: t, k => cond (Nat.beq j k) (some v) (lk t k)
def lrm : List (Nat × Value) → Nat → List (Nat × Value)
  | [], _ => []
  | (j, v) :: t, k => cond (Nat.beq j k || (Nat.beq (j + 1) k && Nat.beq v.category 2)) (lrm t k) ((j, v) :: lrm t k)
def lrm2 : List (Nat × Value) → Nat → List (Nat × Value)
  | [], _ => []
  | (j, v) :: t, k => cond (Nat.beq j k || (Nat.beq j (k + 1) || (Nat.beq (j + 1) k && Nat.beq v.category 2))) (lrm2 t k) ((j, v) :: lrm2 t k)
def lst1 (ls : List (Nat × Value)) (k : Nat) (v : Value) : List (Nat × Value) := (k, v) :: lrm ls k
def lst2 (ls : List (Nat × Value)) (k : Nat) (v : Value) : List (Nat × Value) := (k, v) :: lrm2 ls k
def lsub : List (Nat × Value) → List (Nat × Value) → Prop
  | [], _ => True
  | (j, v) :: t, ls => lk ls j = some v ∧ lsub t ls
def csum (st : List Value) : Nat := (st.map fun v => v.category).sum
/-- a field's link; what a field takes; a class to be made -/
def am_FL (C : String) (idx ci k : Nat) : Prop := ∃ q : vw_C, vwCl[ci]? = some q ∧ k < q.2.2 ∧ Cond.fieldLink C idx (q.2.1 k).1 (q.2.1 k).2.1 (q.2.1 k).2.2.1 ∈ am_ws
def cV (ad : Nat → Nat) : Value → Value
  | .ref k => .ref (ad k)
  | v => v
def am_fit (ci k : Nat) (v : Value) : Prop := ∀ q : vw_C, vwCl[ci]? = some q → ∃ ty, parseFieldDescriptor (q.2.1 k).2.2.1 = some ty ∧ ∀ ad, narrow ty (cV ad v) = cV ad v ∧ fits ty (cV ad v) = true
def am_fin (ci k : Nat) : Bool := match vwCl[ci]? with | some q => (q.2.1 k).2.2.2 | none => true
def am_own (ci k : Nat) : String := match vwCl[ci]? with | some q => (q.2.1 k).1 | none => ""
def am_CN (ci : Nat) : String := match vwCl[ci]? with | some q => q.1 | none => ""
def am_ok (n : Nat) : Value → Prop
  | .ref k => k < n
  | _ => True
def am_NW (C : String) (idx ci N : Nat) (fs : List Value) : Prop := ∃ q : vw_C, vwCl[ci]? = some q ∧ q.2.2 = N ∧ Cond.classLink C idx q.1 ∈ am_ws ∧ Cond.instantiable q.1 N ∈ am_ws ∧ Cond.initialized q.1 ∈ am_ws ∧ (∀ j, j < N → ∀ ty, parseFieldDescriptor (q.2.1 j).2.2.1 = some ty → defaultValue ty = vp_V fs j) ∧ (∀ v ∈ fs, am_ok 0 v ∧ ∀ ad, cV ad v = v)
/-- methods and their sites -/
def am_code (M : MI) : Cond := match mH M with
  | [] => .code (mY M) (mB M) (mL M) (mR M)
  | hh => .codeWith (mY M) (mB M) (mL M) (mR M) hh
def am_OK (M : MI) : Prop := plainName (mY M).cls = true ∧ mC M = (mY M).cls ∧ Cond.initialized (mY M).cls ∈ am_ws ∧ ((mY M).cls ≠ "java/lang/invoke/MethodHandle" ∧ (mY M).cls ≠ "java/lang/invoke/VarHandle") ∧ am_code M ∈ am_ws ∧ mL M ≤ 45
def am_NA (M : MI) (k : Nat) : Prop := (parseMethodDescriptor (mY M).desc).map (fun d => d.parameters.length) = some k
def am_SV (C : String) (idx : Nat) (M : MI) : Prop := Cond.methodLink C idx (mY M) ∈ am_ws ∧ am_OK M ∧ mH M = [] ∧ Cond.instanceMethod (mY M) ∈ am_ws ∧ Cond.selects (mY M).cls (mY M) (mY M) ∈ am_ws
def am_SS (C : String) (idx : Nat) (M : MI) : Prop := Cond.methodLink C idx (mY M) ∈ am_ws ∧ am_OK M ∧ mH M = [] ∧ Cond.static (mY M) ∈ am_ws
def am_ST (C : String) (idx : Nat) (M : MI) : Prop := Cond.methodLink C idx (mY M) ∈ am_ws ∧ am_OK M ∧ mH M ≠ [] ∧ Cond.static (mY M) ∈ am_ws
def am_SI (C : String) (idx : Nat) (M : MI) : Prop := Cond.methodLink C idx (mY M) ∈ am_ws ∧ am_OK M ∧ mH M = [] ∧ (mY M).name = "<init>" ∧ mR M = none ∧ Cond.instanceMethod (mY M) ∈ am_ws
def am_SN (C : String) (idx : Nat) (M : MI) : Prop := (C, idx, mY M, "Glosspair") ∈ am_nests ∧ am_OK M ∧ mH M = [] ∧ (mY M).name = "<init>" ∧ mR M = none ∧ Cond.instanceMethod (mY M) ∈ am_ws
def am_SZ (C : String) (idx : Nat) (M : MI) : Prop := (C, idx, mY M, "Glosspair") ∈ am_nests ∧ am_OK M ∧ mH M = [] ∧ Cond.static (mY M) ∈ am_ws
/-- the row of a table that takes a throw of E at pc -/
def am_HD (C : String) (hh : List (Nat × Nat × Nat × Nat)) (pc : Nat) (E : String) (hpc : Nat) : Prop := ∃ (pre : List (Nat × Nat × Nat × Nat)) (x : Nat × Nat × Nat × Nat) (suf : List (Nat × Nat × Nat × Nat)), hh = pre ++ x :: suf ∧ x.2.2.1 = hpc ∧ covers ⟨x.1, x.2.1, x.2.2.1, x.2.2.2⟩ pc = true ∧ x.2.2.2 ≠ 0 ∧ Cond.classLink C x.2.2.2 E ∈ am_ws ∧ (E, E) ∈ am_cas ∧ ∀ z ∈ pre, z.2.2.2 ≠ 0 ∧ ∃ nm, Cond.classLink C z.2.2.2 nm ∈ am_ws ∧ (E, nm) ∈ am_ncs
/-- the five instructions of a throw -/
def am_TH (M : MI) (pc : Nat) (E : String) : Prop := ∃ (ik is ic : Nat) (text : String) (names : List String), decode (mB M) pc = .ok (.new ik, 3) ∧ decode (mB M) (pc + 3) = .ok (.dup, 1) ∧ decode (mB M) (pc + 4) = .ok (.ldc is, 2) ∧ decode (mB M) (pc + 6) = .ok (.invokespecial ic, 3) ∧ decode (mB M) (pc + 9) = .ok (.athrow, 1) ∧ Bundle.fit E = true ∧ (∀ q ∈ names, Bundle.fit q = true) ∧ names.length ≤ 4 ∧ Cond.classLink (mC M) ik E ∈ am_ws ∧ Cond.initialized E ∈ am_ws ∧ (mC M, is, text) ∈ am_strs ∧ (∀ w ∈ vx_atS (mC M) ic E names, w ∈ am_ws ∨ w = .castable E E ∨ ∃ x ∈ am_decs, w = .declares x) ∧ (E, E) ∈ am_cas ∧ (∀ w ∈ Cond.classLink (mC M) ik E :: Cond.initialized E :: vx_atS (mC M) ic E names, vx_ot w = true)

def RU_iconst (P : aPr) : Prop := ∀ (d : Nat) (M : MI) (pc : Nat) (ls : List (Nat × Value)) (st : List Value) (n : Nat) (h : Hp) (o : Out) (z : Int) (v : Int32), decode (mB M) pc = .ok (.iconst z, 1) → Int32.ofInt z = v → P d M (pc + 1) ls (.int v :: st) n (h) o → P d M (pc) ls (st) n (h) o
def RU_bipush (P : aPr) : Prop := ∀ (d : Nat) (M : MI) (pc : Nat) (ls : List (Nat × Value)) (st : List Value) (n : Nat) (h : Hp) (o : Out) (z : Int) (v : Int32), decode (mB M) pc = .ok (.bipush z, 2) → (Int8.ofInt z).toInt32 = v → P d M (pc + 2) ls (.int v :: st) n (h) o → P d M (pc) ls (st) n (h) o
def RU_sipush (P : aPr) : Prop := ∀ (d : Nat) (M : MI) (pc : Nat) (ls : List (Nat × Value)) (st : List Value) (n : Nat) (h : Hp) (o : Out) (z : Int) (v : Int32), decode (mB M) pc = .ok (.sipush z, 3) → (Int16.ofInt z).toInt32 = v → P d M (pc + 3) ls (.int v :: st) n (h) o → P d M (pc) ls (st) n (h) o
def RU_lconst (P : aPr) : Prop := ∀ (d : Nat) (M : MI) (pc : Nat) (ls : List (Nat × Value)) (st : List Value) (n : Nat) (h : Hp) (o : Out) (z : Fin 2) (v : Int64), decode (mB M) pc = .ok (.lconst z, 1) → Int64.ofNat (z : Nat) = v → P d M (pc + 1) ls (.long v :: st) n (h) o → P d M (pc) ls (st) n (h) o
def RU_ldc (P : aPr) : Prop := ∀ (d : Nat) (M : MI) (pc : Nat) (ls : List (Nat × Value)) (st : List Value) (n : Nat) (h : Hp) (o : Out) (z : Nat) (v : Int32), decode (mB M) pc = .ok (.ldc z, 2) → Cond.constant (mC M) z v ∈ am_ws → P d M (pc + 2) ls (.int v :: st) n (h) o → P d M (pc) ls (st) n (h) o
def RU_ldcw (P : aPr) : Prop := ∀ (d : Nat) (M : MI) (pc : Nat) (ls : List (Nat × Value)) (st : List Value) (n : Nat) (h : Hp) (o : Out) (z : Nat) (v : Int32), decode (mB M) pc = .ok (.ldc_w z, 3) → Cond.constant (mC M) z v ∈ am_ws → P d M (pc + 3) ls (.int v :: st) n (h) o → P d M (pc) ls (st) n (h) o
def RU_ldc2 (P : aPr) : Prop := ∀ (d : Nat) (M : MI) (pc : Nat) (ls : List (Nat × Value)) (st : List Value) (n : Nat) (h : Hp) (o : Out) (z : Nat) (v : Int64), decode (mB M) pc = .ok (.ldc2_w z, 3) → Cond.constantLong (mC M) z v ∈ am_ws → P d M (pc + 3) ls (.long v :: st) n (h) o → P d M (pc) ls (st) n (h) o
def RU_null (P : aPr) : Prop := ∀ (d : Nat) (M : MI) (pc : Nat) (ls : List (Nat × Value)) (st : List Value) (n : Nat) (h : Hp) (o : Out), decode (mB M) pc = .ok (.aconst_null, 1) → P d M (pc + 1) ls (.null :: st) n (h) o → P d M (pc) ls (st) n (h) o
def RU_iload_n (P : aPr) : Prop := ∀ (d : Nat) (M : MI) (pc : Nat) (ls : List (Nat × Value)) (st : List Value) (n : Nat) (h : Hp) (o : Out) (k : Fin 4) (x : Int32), decode (mB M) pc = .ok (.iload_n k, 1) → lk ls (k : Nat) = some (.int x) → P d M (pc + 1) ls (.int x :: st) n (h) o → P d M (pc) ls (st) n (h) o
def RU_iload (P : aPr) : Prop := ∀ (d : Nat) (M : MI) (pc : Nat) (ls : List (Nat × Value)) (st : List Value) (n : Nat) (h : Hp) (o : Out) (k : Nat) (x : Int32), decode (mB M) pc = .ok (.iload k, 2) → lk ls k = some (.int x) → P d M (pc + 2) ls (.int x :: st) n (h) o → P d M (pc) ls (st) n (h) o
def RU_lload_n (P : aPr) : Prop := ∀ (d : Nat) (M : MI) (pc : Nat) (ls : List (Nat × Value)) (st : List Value) (n : Nat) (h : Hp) (o : Out) (k : Fin 4) (x : Int64), decode (mB M) pc = .ok (.lload_n k, 1) → lk ls (k : Nat) = some (.long x) → P d M (pc + 1) ls (.long x :: st) n (h) o → P d M (pc) ls (st) n (h) o
def RU_lload (P : aPr) : Prop := ∀ (d : Nat) (M : MI) (pc : Nat) (ls : List (Nat × Value)) (st : List Value) (n : Nat) (h : Hp) (o : Out) (k : Nat) (x : Int64), decode (mB M) pc = .ok (.lload k, 2) → lk ls k = some (.long x) → P d M (pc + 2) ls (.long x :: st) n (h) o → P d M (pc) ls (st) n (h) o
def RU_aload_n (P : aPr) : Prop := ∀ (d : Nat) (M : MI) (pc : Nat) (ls : List (Nat × Value)) (st : List Value) (n : Nat) (h : Hp) (o : Out) (k : Fin 4) (x : Nat), decode (mB M) pc = .ok (.aload_n k, 1) → lk ls (k : Nat) = some (.ref x) → P d M (pc + 1) ls (.ref x :: st) n (h) o → P d M (pc) ls (st) n (h) o
def RU_aload (P : aPr) : Prop := ∀ (d : Nat) (M : MI) (pc : Nat) (ls : List (Nat × Value)) (st : List Value) (n : Nat) (h : Hp) (o : Out) (k : Nat) (x : Nat), decode (mB M) pc = .ok (.aload k, 2) → lk ls k = some (.ref x) → P d M (pc + 2) ls (.ref x :: st) n (h) o → P d M (pc) ls (st) n (h) o
def RU_aload_nN (P : aPr) : Prop := ∀ (d : Nat) (M : MI) (pc : Nat) (ls : List (Nat × Value)) (st : List Value) (n : Nat) (h : Hp) (o : Out) (k : Fin 4), decode (mB M) pc = .ok (.aload_n k, 1) → lk ls (k : Nat) = some .null → P d M (pc + 1) ls (.null :: st) n (h) o → P d M (pc) ls (st) n (h) o
def RU_aloadN (P : aPr) : Prop := ∀ (d : Nat) (M : MI) (pc : Nat) (ls : List (Nat × Value)) (st : List Value) (n : Nat) (h : Hp) (o : Out) (k : Nat), decode (mB M) pc = .ok (.aload k, 2) → lk ls k = some .null → P d M (pc + 2) ls (.null :: st) n (h) o → P d M (pc) ls (st) n (h) o
def RU_istore_n (P : aPr) : Prop := ∀ (d : Nat) (M : MI) (pc : Nat) (ls : List (Nat × Value)) (st : List Value) (n : Nat) (h : Hp) (o : Out) (k : Fin 4) (x : Int32), decode (mB M) pc = .ok (.istore_n k, 1) → (k : Nat) < mL M → P d M (pc + 1) (lst1 ls (k : Nat) (.int x)) (st) n (h) o → P d M (pc) ls (.int x :: st) n (h) o
def RU_istore (P : aPr) : Prop := ∀ (d : Nat) (M : MI) (pc : Nat) (ls : List (Nat × Value)) (st : List Value) (n : Nat) (h : Hp) (o : Out) (k : Nat) (x : Int32), decode (mB M) pc = .ok (.istore k, 2) → k < mL M → P d M (pc + 2) (lst1 ls k (.int x)) (st) n (h) o → P d M (pc) ls (.int x :: st) n (h) o
def RU_lstore_n (P : aPr) : Prop := ∀ (d : Nat) (M : MI) (pc : Nat) (ls : List (Nat × Value)) (st : List Value) (n : Nat) (h : Hp) (o : Out) (k : Fin 4) (x : Int64), decode (mB M) pc = .ok (.lstore_n k, 1) → (k : Nat) + 1 < mL M → P d M (pc + 1) (lst2 ls (k : Nat) (.long x)) (st) n (h) o → P d M (pc) ls (.long x :: st) n (h) o
def RU_lstore (P : aPr) : Prop := ∀ (d : Nat) (M : MI) (pc : Nat) (ls : List (Nat × Value)) (st : List Value) (n : Nat) (h : Hp) (o : Out) (k : Nat) (x : Int64), decode (mB M) pc = .ok (.lstore k, 2) → k + 1 < mL M → P d M (pc + 2) (lst2 ls k (.long x)) (st) n (h) o → P d M (pc) ls (.long x :: st) n (h) o
def RU_astore_n (P : aPr) : Prop := ∀ (d : Nat) (M : MI) (pc : Nat) (ls : List (Nat × Value)) (st : List Value) (n : Nat) (h : Hp) (o : Out) (k : Fin 4) (x : Nat), decode (mB M) pc = .ok (.astore_n k, 1) → (k : Nat) < mL M → P d M (pc + 1) (lst1 ls (k : Nat) (.ref x)) (st) n (h) o → P d M (pc) ls (.ref x :: st) n (h) o
def RU_astore (P : aPr) : Prop := ∀ (d : Nat) (M : MI) (pc : Nat) (ls : List (Nat × Value)) (st : List Value) (n : Nat) (h : Hp) (o : Out) (k : Nat) (x : Nat), decode (mB M) pc = .ok (.astore k, 2) → k < mL M → P d M (pc + 2) (lst1 ls k (.ref x)) (st) n (h) o → P d M (pc) ls (.ref x :: st) n (h) o
def RU_astore_nN (P : aPr) : Prop := ∀ (d : Nat) (M : MI) (pc : Nat) (ls : List (Nat × Value)) (st : List Value) (n : Nat) (h : Hp) (o : Out) (k : Fin 4), decode (mB M) pc = .ok (.astore_n k, 1) → (k : Nat) < mL M → P d M (pc + 1) (lst1 ls (k : Nat) .null) (st) n (h) o → P d M (pc) ls (.null :: st) n (h) o
def RU_iinc (P : aPr) : Prop := ∀ (d : Nat) (M : MI) (pc : Nat) (ls : List (Nat × Value)) (st : List Value) (n : Nat) (h : Hp) (o : Out) (k : Nat) (z : Int) (x v : Int32), decode (mB M) pc = .ok (.iinc k z, 3) → lk ls k = some (.int x) → x + Int32.ofInt z = v → k < mL M → P d M (pc + 3) (lst1 ls k (.int v)) (st) n (h) o → P d M (pc) ls (st) n (h) o
def RU_iadd (P : aPr) : Prop := ∀ (d : Nat) (M : MI) (pc : Nat) (ls : List (Nat × Value)) (st : List Value) (n : Nat) (h : Hp) (o : Out) (x y : Int32), decode (mB M) pc = .ok (.iadd, 1) → P d M (pc + 1) ls (.int (x + y) :: st) n (h) o → P d M (pc) ls (.int y :: .int x :: st) n (h) o
def RU_isub (P : aPr) : Prop := ∀ (d : Nat) (M : MI) (pc : Nat) (ls : List (Nat × Value)) (st : List Value) (n : Nat) (h : Hp) (o : Out) (x y : Int32), decode (mB M) pc = .ok (.isub, 1) → P d M (pc + 1) ls (.int (x - y) :: st) n (h) o → P d M (pc) ls (.int y :: .int x :: st) n (h) o
def RU_imul (P : aPr) : Prop := ∀ (d : Nat) (M : MI) (pc : Nat) (ls : List (Nat × Value)) (st : List Value) (n : Nat) (h : Hp) (o : Out) (x y : Int32), decode (mB M) pc = .ok (.imul, 1) → P d M (pc + 1) ls (.int (x * y) :: st) n (h) o → P d M (pc) ls (.int y :: .int x :: st) n (h) o
def RU_iand (P : aPr) : Prop := ∀ (d : Nat) (M : MI) (pc : Nat) (ls : List (Nat × Value)) (st : List Value) (n : Nat) (h : Hp) (o : Out) (x y : Int32), decode (mB M) pc = .ok (.iand, 1) → P d M (pc + 1) ls (.int (x &&& y) :: st) n (h) o → P d M (pc) ls (.int y :: .int x :: st) n (h) o
def RU_ior (P : aPr) : Prop := ∀ (d : Nat) (M : MI) (pc : Nat) (ls : List (Nat × Value)) (st : List Value) (n : Nat) (h : Hp) (o : Out) (x y : Int32), decode (mB M) pc = .ok (.ior, 1) → P d M (pc + 1) ls (.int (x ||| y) :: st) n (h) o → P d M (pc) ls (.int y :: .int x :: st) n (h) o
def RU_ixor (P : aPr) : Prop := ∀ (d : Nat) (M : MI) (pc : Nat) (ls : List (Nat × Value)) (st : List Value) (n : Nat) (h : Hp) (o : Out) (x y : Int32), decode (mB M) pc = .ok (.ixor, 1) → P d M (pc + 1) ls (.int (x ^^^ y) :: st) n (h) o → P d M (pc) ls (.int y :: .int x :: st) n (h) o
def RU_ishl (P : aPr) : Prop := ∀ (d : Nat) (M : MI) (pc : Nat) (ls : List (Nat × Value)) (st : List Value) (n : Nat) (h : Hp) (o : Out) (x y : Int32), decode (mB M) pc = .ok (.ishl, 1) → P d M (pc + 1) ls (.int (x <<< (y &&& 31)) :: st) n (h) o → P d M (pc) ls (.int y :: .int x :: st) n (h) o
def RU_ladd (P : aPr) : Prop := ∀ (d : Nat) (M : MI) (pc : Nat) (ls : List (Nat × Value)) (st : List Value) (n : Nat) (h : Hp) (o : Out) (x y : Int64), decode (mB M) pc = .ok (.ladd, 1) → P d M (pc + 1) ls (.long (x + y) :: st) n (h) o → P d M (pc) ls (.long y :: .long x :: st) n (h) o
def RU_lmul (P : aPr) : Prop := ∀ (d : Nat) (M : MI) (pc : Nat) (ls : List (Nat × Value)) (st : List Value) (n : Nat) (h : Hp) (o : Out) (x y : Int64), decode (mB M) pc = .ok (.lmul, 1) → P d M (pc + 1) ls (.long (x * y) :: st) n (h) o → P d M (pc) ls (.long y :: .long x :: st) n (h) o
def RU_iushr (P : aPr) : Prop := ∀ (d : Nat) (M : MI) (pc : Nat) (ls : List (Nat × Value)) (st : List Value) (n : Nat) (h : Hp) (o : Out) (x y v : Int32), decode (mB M) pc = .ok (.iushr, 1) → (x.toUInt32 >>> (y.toUInt32 &&& Int32.toUInt32 31)).toInt32 = v → P d M (pc + 1) ls (.int v :: st) n (h) o → P d M (pc) ls (.int y :: .int x :: st) n (h) o
def RU_ineg (P : aPr) : Prop := ∀ (d : Nat) (M : MI) (pc : Nat) (ls : List (Nat × Value)) (st : List Value) (n : Nat) (h : Hp) (o : Out) (x : Int32), decode (mB M) pc = .ok (.ineg, 1) → P d M (pc + 1) ls (.int (-x) :: st) n (h) o → P d M (pc) ls (.int x :: st) n (h) o
def RU_idiv (P : aPr) : Prop := ∀ (d : Nat) (M : MI) (pc : Nat) (ls : List (Nat × Value)) (st : List Value) (n : Nat) (h : Hp) (o : Out) (x y : Int32), decode (mB M) pc = .ok (.idiv, 1) → ¬ y = 0 → P d M (pc + 1) ls (.int (x / y) :: st) n (h) o → P d M (pc) ls (.int y :: .int x :: st) n (h) o
def RU_irem (P : aPr) : Prop := ∀ (d : Nat) (M : MI) (pc : Nat) (ls : List (Nat × Value)) (st : List Value) (n : Nat) (h : Hp) (o : Out) (x y : Int32), decode (mB M) pc = .ok (.irem, 1) → ¬ y = 0 → P d M (pc + 1) ls (.int (x - x / y * y) :: st) n (h) o → P d M (pc) ls (.int y :: .int x :: st) n (h) o
def RU_ldiv (P : aPr) : Prop := ∀ (d : Nat) (M : MI) (pc : Nat) (ls : List (Nat × Value)) (st : List Value) (n : Nat) (h : Hp) (o : Out) (x y : Int64), decode (mB M) pc = .ok (.ldiv, 1) → ¬ y = 0 → P d M (pc + 1) ls (.long (x / y) :: st) n (h) o → P d M (pc) ls (.long y :: .long x :: st) n (h) o
def RU_lrem (P : aPr) : Prop := ∀ (d : Nat) (M : MI) (pc : Nat) (ls : List (Nat × Value)) (st : List Value) (n : Nat) (h : Hp) (o : Out) (x y : Int64), decode (mB M) pc = .ok (.lrem, 1) → ¬ y = 0 → P d M (pc + 1) ls (.long (x - x / y * y) :: st) n (h) o → P d M (pc) ls (.long y :: .long x :: st) n (h) o
def RU_lcmp (P : aPr) : Prop := ∀ (d : Nat) (M : MI) (pc : Nat) (ls : List (Nat × Value)) (st : List Value) (n : Nat) (h : Hp) (o : Out) (x y : Int64), decode (mB M) pc = .ok (.lcmp, 1) → P d M (pc + 1) ls (.int (lg_cmp x y) :: st) n (h) o → P d M (pc) ls (.long y :: .long x :: st) n (h) o
def RU_i2l (P : aPr) : Prop := ∀ (d : Nat) (M : MI) (pc : Nat) (ls : List (Nat × Value)) (st : List Value) (n : Nat) (h : Hp) (o : Out) (x : Int32) (v : Int64), decode (mB M) pc = .ok (.i2l, 1) → x.toInt64 = v → P d M (pc + 1) ls (.long v :: st) n (h) o → P d M (pc) ls (.int x :: st) n (h) o
def RU_l2i (P : aPr) : Prop := ∀ (d : Nat) (M : MI) (pc : Nat) (ls : List (Nat × Value)) (st : List Value) (n : Nat) (h : Hp) (o : Out) (x : Int64) (v : Int32), decode (mB M) pc = .ok (.l2i, 1) → x.toInt32 = v → P d M (pc + 1) ls (.int v :: st) n (h) o → P d M (pc) ls (.long x :: st) n (h) o
def RU_dup (P : aPr) : Prop := ∀ (d : Nat) (M : MI) (pc : Nat) (ls : List (Nat × Value)) (st : List Value) (n : Nat) (h : Hp) (o : Out) (va : Value), decode (mB M) pc = .ok (.dup, 1) → va.category = 1 → P d M (pc + 1) ls (va :: va :: st) n (h) o → P d M (pc) ls (va :: st) n (h) o
def RU_pop (P : aPr) : Prop := ∀ (d : Nat) (M : MI) (pc : Nat) (ls : List (Nat × Value)) (st : List Value) (n : Nat) (h : Hp) (o : Out) (va : Value), decode (mB M) pc = .ok (.pop, 1) → va.category = 1 → P d M (pc + 1) ls (st) n (h) o → P d M (pc) ls (va :: st) n (h) o
def RU_dup2_11 (P : aPr) : Prop := ∀ (d : Nat) (M : MI) (pc : Nat) (ls : List (Nat × Value)) (st : List Value) (n : Nat) (h : Hp) (o : Out) (va vb : Value), decode (mB M) pc = .ok (.dup2, 1) → va.category = 1 → vb.category = 1 → P d M (pc + 1) ls (va :: vb :: va :: vb :: st) n (h) o → P d M (pc) ls (va :: vb :: st) n (h) o
def RU_if_eq (P : aPr) : Prop := ∀ (d : Nat) (M : MI) (pc : Nat) (ls : List (Nat × Value)) (st : List Value) (n : Nat) (h : Hp) (o : Out) (off : Int) (tgt : Nat) (x : Int32), decode (mB M) pc = .ok (.ifCond .eq off, 3) → (pc : Int) + off = (tgt : Int) → ((x = 0) → P d M (tgt) ls (st) n (h) o) → (¬ (x = 0) → P d M (pc + 3) ls (st) n (h) o) → P d M (pc) ls (.int x :: st) n (h) o
def RU_icmp_eq (P : aPr) : Prop := ∀ (d : Nat) (M : MI) (pc : Nat) (ls : List (Nat × Value)) (st : List Value) (n : Nat) (h : Hp) (o : Out) (off : Int) (tgt : Nat) (x y : Int32), decode (mB M) pc = .ok (.if_icmp .eq off, 3) → (pc : Int) + off = (tgt : Int) → ((x = y) → P d M (tgt) ls (st) n (h) o) → (¬ (x = y) → P d M (pc + 3) ls (st) n (h) o) → P d M (pc) ls (.int y :: .int x :: st) n (h) o
def RU_if_ne (P : aPr) : Prop := ∀ (d : Nat) (M : MI) (pc : Nat) (ls : List (Nat × Value)) (st : List Value) (n : Nat) (h : Hp) (o : Out) (off : Int) (tgt : Nat) (x : Int32), decode (mB M) pc = .ok (.ifCond .ne off, 3) → (pc : Int) + off = (tgt : Int) → ((¬ x = 0) → P d M (tgt) ls (st) n (h) o) → ((x = 0) → P d M (pc + 3) ls (st) n (h) o) → P d M (pc) ls (.int x :: st) n (h) o
def RU_icmp_ne (P : aPr) : Prop := ∀ (d : Nat) (M : MI) (pc : Nat) (ls : List (Nat × Value)) (st : List Value) (n : Nat) (h : Hp) (o : Out) (off : Int) (tgt : Nat) (x y : Int32), decode (mB M) pc = .ok (.if_icmp .ne off, 3) → (pc : Int) + off = (tgt : Int) → ((¬ x = y) → P d M (tgt) ls (st) n (h) o) → ((x = y) → P d M (pc + 3) ls (st) n (h) o) → P d M (pc) ls (.int y :: .int x :: st) n (h) o
def RU_if_lt (P : aPr) : Prop := ∀ (d : Nat) (M : MI) (pc : Nat) (ls : List (Nat × Value)) (st : List Value) (n : Nat) (h : Hp) (o : Out) (off : Int) (tgt : Nat) (x : Int32), decode (mB M) pc = .ok (.ifCond .lt off, 3) → (pc : Int) + off = (tgt : Int) → ((x < 0) → P d M (tgt) ls (st) n (h) o) → (¬ (x < 0) → P d M (pc + 3) ls (st) n (h) o) → P d M (pc) ls (.int x :: st) n (h) o
def RU_icmp_lt (P : aPr) : Prop := ∀ (d : Nat) (M : MI) (pc : Nat) (ls : List (Nat × Value)) (st : List Value) (n : Nat) (h : Hp) (o : Out) (off : Int) (tgt : Nat) (x y : Int32), decode (mB M) pc = .ok (.if_icmp .lt off, 3) → (pc : Int) + off = (tgt : Int) → ((x < y) → P d M (tgt) ls (st) n (h) o) → (¬ (x < y) → P d M (pc + 3) ls (st) n (h) o) → P d M (pc) ls (.int y :: .int x :: st) n (h) o
def RU_if_ge (P : aPr) : Prop := ∀ (d : Nat) (M : MI) (pc : Nat) (ls : List (Nat × Value)) (st : List Value) (n : Nat) (h : Hp) (o : Out) (off : Int) (tgt : Nat) (x : Int32), decode (mB M) pc = .ok (.ifCond .ge off, 3) → (pc : Int) + off = (tgt : Int) → ((0 ≤ x) → P d M (tgt) ls (st) n (h) o) → (¬ (0 ≤ x) → P d M (pc + 3) ls (st) n (h) o) → P d M (pc) ls (.int x :: st) n (h) o
def RU_icmp_ge (P : aPr) : Prop := ∀ (d : Nat) (M : MI) (pc : Nat) (ls : List (Nat × Value)) (st : List Value) (n : Nat) (h : Hp) (o : Out) (off : Int) (tgt : Nat) (x y : Int32), decode (mB M) pc = .ok (.if_icmp .ge off, 3) → (pc : Int) + off = (tgt : Int) → ((y ≤ x) → P d M (tgt) ls (st) n (h) o) → (¬ (y ≤ x) → P d M (pc + 3) ls (st) n (h) o) → P d M (pc) ls (.int y :: .int x :: st) n (h) o
def RU_if_gt (P : aPr) : Prop := ∀ (d : Nat) (M : MI) (pc : Nat) (ls : List (Nat × Value)) (st : List Value) (n : Nat) (h : Hp) (o : Out) (off : Int) (tgt : Nat) (x : Int32), decode (mB M) pc = .ok (.ifCond .gt off, 3) → (pc : Int) + off = (tgt : Int) → ((0 < x) → P d M (tgt) ls (st) n (h) o) → (¬ (0 < x) → P d M (pc + 3) ls (st) n (h) o) → P d M (pc) ls (.int x :: st) n (h) o
def RU_icmp_gt (P : aPr) : Prop := ∀ (d : Nat) (M : MI) (pc : Nat) (ls : List (Nat × Value)) (st : List Value) (n : Nat) (h : Hp) (o : Out) (off : Int) (tgt : Nat) (x y : Int32), decode (mB M) pc = .ok (.if_icmp .gt off, 3) → (pc : Int) + off = (tgt : Int) → ((y < x) → P d M (tgt) ls (st) n (h) o) → (¬ (y < x) → P d M (pc + 3) ls (st) n (h) o) → P d M (pc) ls (.int y :: .int x :: st) n (h) o
def RU_if_le (P : aPr) : Prop := ∀ (d : Nat) (M : MI) (pc : Nat) (ls : List (Nat × Value)) (st : List Value) (n : Nat) (h : Hp) (o : Out) (off : Int) (tgt : Nat) (x : Int32), decode (mB M) pc = .ok (.ifCond .le off, 3) → (pc : Int) + off = (tgt : Int) → ((x ≤ 0) → P d M (tgt) ls (st) n (h) o) → (¬ (x ≤ 0) → P d M (pc + 3) ls (st) n (h) o) → P d M (pc) ls (.int x :: st) n (h) o
def RU_icmp_le (P : aPr) : Prop := ∀ (d : Nat) (M : MI) (pc : Nat) (ls : List (Nat × Value)) (st : List Value) (n : Nat) (h : Hp) (o : Out) (off : Int) (tgt : Nat) (x y : Int32), decode (mB M) pc = .ok (.if_icmp .le off, 3) → (pc : Int) + off = (tgt : Int) → ((x ≤ y) → P d M (tgt) ls (st) n (h) o) → (¬ (x ≤ y) → P d M (pc + 3) ls (st) n (h) o) → P d M (pc) ls (.int y :: .int x :: st) n (h) o
def RU_goto (P : aPr) : Prop := ∀ (d : Nat) (M : MI) (pc : Nat) (ls : List (Nat × Value)) (st : List Value) (n : Nat) (h : Hp) (o : Out) (off : Int) (tgt : Nat), decode (mB M) pc = .ok (.goto off, 3) → (pc : Int) + off = (tgt : Int) → P d M (tgt) ls (st) n (h) o → P d M (pc) ls (st) n (h) o
def RU_ifnull (P : aPr) : Prop := ∀ (d : Nat) (M : MI) (pc : Nat) (ls : List (Nat × Value)) (st : List Value) (n : Nat) (h : Hp) (o : Out) (off : Int) (x : Nat), decode (mB M) pc = .ok (.ifnull off, 3) → P d M (pc + 3) ls (st) n (h) o → P d M (pc) ls (.ref x :: st) n (h) o
def RU_ifnullN (P : aPr) : Prop := ∀ (d : Nat) (M : MI) (pc : Nat) (ls : List (Nat × Value)) (st : List Value) (n : Nat) (h : Hp) (o : Out) (off : Int) (tgt : Nat), decode (mB M) pc = .ok (.ifnull off, 3) → (pc : Int) + off = (tgt : Int) → P d M (tgt) ls (st) n (h) o → P d M (pc) ls (.null :: st) n (h) o
def RU_ifnonnull (P : aPr) : Prop := ∀ (d : Nat) (M : MI) (pc : Nat) (ls : List (Nat × Value)) (st : List Value) (n : Nat) (h : Hp) (o : Out) (off : Int) (tgt : Nat) (x : Nat), decode (mB M) pc = .ok (.ifnonnull off, 3) → (pc : Int) + off = (tgt : Int) → P d M (tgt) ls (st) n (h) o → P d M (pc) ls (.ref x :: st) n (h) o
def RU_ifnonnullN (P : aPr) : Prop := ∀ (d : Nat) (M : MI) (pc : Nat) (ls : List (Nat × Value)) (st : List Value) (n : Nat) (h : Hp) (o : Out) (off : Int), decode (mB M) pc = .ok (.ifnonnull off, 3) → P d M (pc + 3) ls (st) n (h) o → P d M (pc) ls (.null :: st) n (h) o
def RU_tableIn (P : aPr) : Prop := ∀ (d : Nat) (M : MI) (pc : Nat) (ls : List (Nat × Value)) (st : List Value) (n : Nat) (h : Hp) (o : Out) (dflt lo hi : Int) (offs : Array Int) (len : Nat) (x : Int32) (off : Int) (tgt : Nat), decode (mB M) pc = .ok (.tableswitch dflt lo hi offs, len) → ¬ x.toInt < lo → ¬ hi < x.toInt → offs[(x.toInt - lo).toNat]? = some off → (pc : Int) + off = (tgt : Int) → P d M (tgt) ls (st) n (h) o → P d M (pc) ls (.int x :: st) n (h) o
def RU_tableOut (P : aPr) : Prop := ∀ (d : Nat) (M : MI) (pc : Nat) (ls : List (Nat × Value)) (st : List Value) (n : Nat) (h : Hp) (o : Out) (dflt lo hi : Int) (offs : Array Int) (len : Nat) (x : Int32) (tgt : Nat), decode (mB M) pc = .ok (.tableswitch dflt lo hi offs, len) → (x.toInt < lo ∨ hi < x.toInt) → (pc : Int) + dflt = (tgt : Int) → P d M (tgt) ls (st) n (h) o → P d M (pc) ls (.int x :: st) n (h) o
def RU_sub (P : aPr) : Prop := ∀ (d : Nat) (M : MI) (pc : Nat) (ls : List (Nat × Value)) (st : List Value) (n : Nat) (h : Hp) (o : Out) (ls1 : List (Nat × Value)), lsub ls1 ls → P d M (pc) ls1 (st) n (h) o → P d M (pc) ls (st) n (h) o
def RU_getfield (P : aPr) : Prop := ∀ (d : Nat) (M : MI) (pc : Nat) (ls : List (Nat × Value)) (st : List Value) (n : Nat) (h : Hp) (o : Out) (idx ci k a : Nat) (fs : List Value) (v : Value), decode (mB M) pc = .ok (.getfield idx, 3) → am_FL (mC M) idx ci k → h a = .inr (ci, fs) → fs[k]? = some v → P d M (pc + 3) ls (v :: st) n (h) o → P d M (pc) ls (.ref a :: st) n (h) o
def RU_putfield (P : aPr) : Prop := ∀ (d : Nat) (M : MI) (pc : Nat) (ls : List (Nat × Value)) (st : List Value) (n : Nat) (h : Hp) (o : Out) (idx ci k a : Nat) (fs : List Value) (v : Value), decode (mB M) pc = .ok (.putfield idx, 3) → am_FL (mC M) idx ci k → am_fit ci k v → (am_fin ci k = true → (mY M).name = "<init>" ∧ am_own ci k = mC M) → h a = .inr (ci, fs) → k < fs.length → P d M (pc + 3) ls (st) n (va_up h a (.inr (ci, fs.set k v))) o → P d M (pc) ls (v :: .ref a :: st) n (h) o
def RU_arraylength (P : aPr) : Prop := ∀ (d : Nat) (M : MI) (pc : Nat) (ls : List (Nat × Value)) (st : List Value) (n : Nat) (h : Hp) (o : Out) (a t : Nat) (x : vp_A), decode (mB M) pc = .ok (.arraylength, 1) → h a = .inl (t, x) → t < 4 → P d M (pc + 1) ls (.int (Int32.ofNat x.1) :: st) n (h) o → P d M (pc) ls (.ref a :: st) n (h) o
def RU_iaload (P : aPr) : Prop := ∀ (d : Nat) (M : MI) (pc : Nat) (ls : List (Nat × Value)) (st : List Value) (n : Nat) (h : Hp) (o : Out) (a len : Nat) (x : Int32) (f : Nat → Int32), decode (mB M) pc = .ok (.iaload, 1) → h a = .inl (0, len, .inl f) → vp_in x len → P d M (pc + 1) ls (.int (f x.toNatClampNeg) :: st) n (h) o → P d M (pc) ls (.int x :: .ref a :: st) n (h) o
def RU_baload (P : aPr) : Prop := ∀ (d : Nat) (M : MI) (pc : Nat) (ls : List (Nat × Value)) (st : List Value) (n : Nat) (h : Hp) (o : Out) (a len : Nat) (x : Int32) (f : Nat → Int32), decode (mB M) pc = .ok (.baload, 1) → h a = .inl (2, len, .inl f) → vp_in x len → P d M (pc + 1) ls (.int (f x.toNatClampNeg) :: st) n (h) o → P d M (pc) ls (.int x :: .ref a :: st) n (h) o
def RU_laload (P : aPr) : Prop := ∀ (d : Nat) (M : MI) (pc : Nat) (ls : List (Nat × Value)) (st : List Value) (n : Nat) (h : Hp) (o : Out) (a len : Nat) (x : Int32) (f : Nat → Int64), decode (mB M) pc = .ok (.laload, 1) → h a = .inl (1, len, .inr (.inl f)) → vp_in x len → P d M (pc + 1) ls (.long (f x.toNatClampNeg) :: st) n (h) o → P d M (pc) ls (.int x :: .ref a :: st) n (h) o
def RU_aaload (P : aPr) : Prop := ∀ (d : Nat) (M : MI) (pc : Nat) (ls : List (Nat × Value)) (st : List Value) (n : Nat) (h : Hp) (o : Out) (a len : Nat) (x : Int32) (f : Nat → Option Nat), decode (mB M) pc = .ok (.aaload, 1) → h a = .inl (3, len, .inr (.inr (.inr (.inr f)))) → vp_in x len → P d M (pc + 1) ls (va_rf (f x.toNatClampNeg) :: st) n (h) o → P d M (pc) ls (.int x :: .ref a :: st) n (h) o
def RU_iastore (P : aPr) : Prop := ∀ (d : Nat) (M : MI) (pc : Nat) (ls : List (Nat × Value)) (st : List Value) (n : Nat) (h : Hp) (o : Out) (a len : Nat) (x y : Int32) (f : Nat → Int32), decode (mB M) pc = .ok (.iastore, 1) → 2 ≤ a → h a = .inl (0, len, .inl f) → vp_in x len → P d M (pc + 1) ls (st) n (va_up h a (.inl (0, len, .inl (upd f x.toNatClampNeg y)))) o → P d M (pc) ls (.int y :: .int x :: .ref a :: st) n (h) o
def RU_bastore (P : aPr) : Prop := ∀ (d : Nat) (M : MI) (pc : Nat) (ls : List (Nat × Value)) (st : List Value) (n : Nat) (h : Hp) (o : Out) (a len : Nat) (x y : Int32) (f : Nat → Int32), decode (mB M) pc = .ok (.bastore, 1) → 2 ≤ a → h a = .inl (2, len, .inl f) → vp_in x len → P d M (pc + 1) ls (st) n (va_up h a (.inl (2, len, .inl (upd f x.toNatClampNeg (vp_nar .boolean y))))) o → P d M (pc) ls (.int y :: .int x :: .ref a :: st) n (h) o
def RU_lastore (P : aPr) : Prop := ∀ (d : Nat) (M : MI) (pc : Nat) (ls : List (Nat × Value)) (st : List Value) (n : Nat) (h : Hp) (o : Out) (a len : Nat) (x : Int32) (y : Int64) (f : Nat → Int64), decode (mB M) pc = .ok (.lastore, 1) → 2 ≤ a → h a = .inl (1, len, .inr (.inl f)) → vp_in x len → P d M (pc + 1) ls (st) n (va_up h a (.inl (1, len, .inr (.inl (vp_updL f x.toNatClampNeg y))))) o → P d M (pc) ls (.long y :: .int x :: .ref a :: st) n (h) o
def RU_aastore (P : aPr) : Prop := ∀ (d : Nat) (M : MI) (pc : Nat) (ls : List (Nat × Value)) (st : List Value) (n : Nat) (h : Hp) (o : Out) (a len v : Nat) (x : Int32) (f : Nat → Option Nat) (vs : List Value), decode (mB M) pc = .ok (.aastore, 1) → 2 ≤ a → h a = .inl (3, len, .inr (.inr (.inr (.inr f)))) → h v = .inr (7, vs) → vp_in x len → P d M (pc + 1) ls (st) n (va_up h a (.inl (3, len, .inr (.inr (.inr (.inr (va_up f x.toNatClampNeg (some v)))))))) o → P d M (pc) ls (.ref v :: .int x :: .ref a :: st) n (h) o
def RU_new (P : aPr) : Prop := ∀ (d : Nat) (M : MI) (pc : Nat) (ls : List (Nat × Value)) (st : List Value) (n : Nat) (h : Hp) (idx ci N : Nat) (fs : List Value) (r : Option Value ⊕ String) (n2 : Nat) (h2 : Hp) (k1 q1 : Nat), decode (mB M) pc = .ok (.new idx, 3) → am_NW (mC M) idx ci N fs → P d M (pc + 3) ls (.ref n :: st) (n + 1) (va_up h n (.inr (ci, fs))) (r, n2, h2, k1, q1) → P d M (pc) ls (st) n (h) (r, n2, h2, 1 + k1, N + q1)
def RU_newarray0 (P : aPr) : Prop := ∀ (d : Nat) (M : MI) (pc : Nat) (ls : List (Nat × Value)) (st : List Value) (n : Nat) (h : Hp) (x : Int32) (N : Nat) (r : Option Value ⊕ String) (n2 : Nat) (h2 : Hp) (k1 q1 : Nat), decode (mB M) pc = .ok (.newarray .int, 2) → x = nI N → N < 65536 → P d M (pc + 2) ls (.ref n :: st) (n + 1) (va_up h n (.inl (0, N, .inl (fun _ => 0)))) (r, n2, h2, k1, q1) → P d M (pc) ls (.int x :: st) n (h) (r, n2, h2, 1 + k1, N + q1)
def RU_newarray1 (P : aPr) : Prop := ∀ (d : Nat) (M : MI) (pc : Nat) (ls : List (Nat × Value)) (st : List Value) (n : Nat) (h : Hp) (x : Int32) (N : Nat) (r : Option Value ⊕ String) (n2 : Nat) (h2 : Hp) (k1 q1 : Nat), decode (mB M) pc = .ok (.newarray .long, 2) → x = nI N → N < 65536 → P d M (pc + 2) ls (.ref n :: st) (n + 1) (va_up h n (.inl (1, N, .inr (.inl (fun _ => 0))))) (r, n2, h2, k1, q1) → P d M (pc) ls (.int x :: st) n (h) (r, n2, h2, 1 + k1, N + q1)
def RU_newarray2 (P : aPr) : Prop := ∀ (d : Nat) (M : MI) (pc : Nat) (ls : List (Nat × Value)) (st : List Value) (n : Nat) (h : Hp) (x : Int32) (N : Nat) (r : Option Value ⊕ String) (n2 : Nat) (h2 : Hp) (k1 q1 : Nat), decode (mB M) pc = .ok (.newarray .boolean, 2) → x = nI N → N < 65536 → P d M (pc + 2) ls (.ref n :: st) (n + 1) (va_up h n (.inl (2, N, .inl (fun _ => 0)))) (r, n2, h2, k1, q1) → P d M (pc) ls (.int x :: st) n (h) (r, n2, h2, 1 + k1, N + q1)
def RU_anewarray (P : aPr) : Prop := ∀ (d : Nat) (M : MI) (pc : Nat) (ls : List (Nat × Value)) (st : List Value) (n : Nat) (h : Hp) (x : Int32) (N idx : Nat) (r : Option Value ⊕ String) (n2 : Nat) (h2 : Hp) (k1 q1 : Nat), decode (mB M) pc = .ok (.anewarray idx, 3) → Cond.classLink (mC M) idx "Glosspair$SentencePair" ∈ am_ws → x = nI N → N < 65536 → P d M (pc + 3) ls (.ref n :: st) (n + 1) (va_up h n (.inl (3, N, .inr (.inr (.inr (.inr (fun _ => none))))))) (r, n2, h2, k1, q1) → P d M (pc) ls (.int x :: st) n (h) (r, n2, h2, 1 + k1, N + q1)
def RU_getFW (P : aPr) : Prop := ∀ (d : Nat) (M : MI) (pc : Nat) (ls : List (Nat × Value)) (st : List Value) (n : Nat) (h : Hp) (o : Out) (idx : Nat), decode (mB M) pc = .ok (.getstatic idx, 3) → mC M = RX8 → idx = 9 → P d M (pc + 3) ls (.ref 1 :: st) n (h) o → P d M (pc) ls (st) n (h) o
def RU_cloneFW (P : aPr) : Prop := ∀ (d : Nat) (M : MI) (pc : Nat) (ls : List (Nat × Value)) (st : List Value) (n : Nat) (h : Hp) (idx : Nat) (r : Option Value ⊕ String) (n2 : Nat) (h2 : Hp) (k1 q1 : Nat), decode (mB M) pc = .ok (.invokevirtual idx, 3) → Cond.methodLink (mC M) idx ⟨"[I", "clone", "()Ljava/lang/Object;"⟩ ∈ am_ws → csum st ≤ 8 → P d M (pc + 3) ls (.ref n :: st) (n + 1) (va_up h n (.inl (0, 5, .inl am_fw))) (r, n2, h2, k1, q1) → P d M (pc) ls (.ref 1 :: st) n (h) (r, n2, h2, 1 + k1, 5 + q1)
def RU_castI (P : aPr) : Prop := ∀ (d : Nat) (M : MI) (pc : Nat) (ls : List (Nat × Value)) (st : List Value) (n : Nat) (h : Hp) (o : Out) (idx a len : Nat) (f : Nat → Int32), decode (mB M) pc = .ok (.checkcast idx, 3) → Cond.classLink (mC M) idx "[I" ∈ am_ws → 2 ≤ a → h a = .inl (0, len, .inl f) → P d M (pc + 3) ls (.ref a :: st) n (h) o → P d M (pc) ls (.ref a :: st) n (h) o
def RU_objInit (P : aPr) : Prop := ∀ (d : Nat) (M : MI) (pc : Nat) (ls : List (Nat × Value)) (st : List Value) (n : Nat) (h : Hp) (o : Out) (idx a : Nat), decode (mB M) pc = .ok (.invokespecial idx, 3) → Cond.methodLink (mC M) idx Jvm.Lib.objectInit ∈ am_ws → csum st ≤ 8 → P d M (pc + 3) ls (st) n (h) o → P d M (pc) ls (.ref a :: st) n (h) o
def RU_callMin (P : aPr) : Prop := ∀ (d : Nat) (M : MI) (pc : Nat) (ls : List (Nat × Value)) (st : List Value) (n : Nat) (h : Hp) (o : Out) (idx : Nat) (x y : Int32), decode (mB M) pc = .ok (.invokestatic idx, 3) → Cond.methodLink (mC M) idx Jvm.Lib.Math.min.name ∈ am_ws → csum st ≤ 8 → P d M (pc + 3) ls (.int (if y < x then y else x) :: st) n (h) o → P d M (pc) ls (.int y :: .int x :: st) n (h) o
def RU_callAbs (P : aPr) : Prop := ∀ (d : Nat) (M : MI) (pc : Nat) (ls : List (Nat × Value)) (st : List Value) (n : Nat) (h : Hp) (o : Out) (idx : Nat) (x : Int32), decode (mB M) pc = .ok (.invokestatic idx, 3) → Cond.methodLink (mC M) idx Jvm.Lib.Math.abs.name ∈ am_ws → csum st ≤ 8 → P d M (pc + 3) ls (.int (if 0 ≤ x then x else 0 - x) :: st) n (h) o → P d M (pc) ls (.int x :: st) n (h) o
def RU_callV (P : aPr) : Prop := ∀ (d : Nat) (M : MI) (pc : Nat) (ls : List (Nat × Value)) (st : List Value) (n : Nat) (h : Hp) (idx b : Nat) (M2 : MI) (as : List Value) (n1 : Nat) (h1 : Hp) (k1 q1 : Nat) (r : Option Value ⊕ String) (n2 : Nat) (h2 : Hp) (k2 q2 k q : Nat) (v : Option Value) (ci : Nat) (fs : List Value), decode (mB M) pc = .ok (.invokevirtual idx, 3) → am_SV (mC M) idx M2 → am_NA M2 as.length → csum st ≤ 8 → csum (.ref b :: as) ≤ mL M2 → h b = .inr (ci, fs) → am_CN ci = (mY M2).cls → k1 + k2 = k → q1 + q2 = q → P d M2 0 (lv_args 0 (.ref b :: as)) [] n h (.inl v, n1, h1, k1, q1) → P (d + 1) M (pc + 3) ls (v.toList ++ st) n1 (h1) (r, n2, h2, k2, q2) → P (d + 1) M (pc) ls (as.reverse ++ .ref b :: st) n (h) (r, n2, h2, k, q)
def RU_callS (P : aPr) : Prop := ∀ (d : Nat) (M : MI) (pc : Nat) (ls : List (Nat × Value)) (st : List Value) (n : Nat) (h : Hp) (idx : Nat) (M2 : MI) (as : List Value) (n1 : Nat) (h1 : Hp) (k1 q1 : Nat) (r : Option Value ⊕ String) (n2 : Nat) (h2 : Hp) (k2 q2 k q : Nat) (v : Option Value), decode (mB M) pc = .ok (.invokestatic idx, 3) → am_SS (mC M) idx M2 → am_NA M2 as.length → csum st ≤ 8 → csum as ≤ mL M2 → k1 + k2 = k → q1 + q2 = q → P d M2 0 (lv_args 0 as) [] n h (.inl v, n1, h1, k1, q1) → P (d + 1) M (pc + 3) ls (v.toList ++ st) n1 (h1) (r, n2, h2, k2, q2) → P (d + 1) M (pc) ls (as.reverse ++ st) n (h) (r, n2, h2, k, q)
def RU_callT (P : aPr) : Prop := ∀ (d : Nat) (M : MI) (pc : Nat) (ls : List (Nat × Value)) (st : List Value) (n : Nat) (h : Hp) (idx : Nat) (M2 : MI) (as : List Value) (n1 : Nat) (h1 : Hp) (k1 q1 : Nat) (r : Option Value ⊕ String) (n2 : Nat) (h2 : Hp) (k2 q2 k q : Nat) (v : Option Value), decode (mB M) pc = .ok (.invokestatic idx, 3) → am_ST (mC M) idx M2 → am_NA M2 as.length → csum st ≤ 8 → csum as ≤ mL M2 → k1 + k2 = k → q1 + q2 = q → P d M2 0 (lv_args 0 as) [] n h (.inl v, n1, h1, k1, q1) → P (d + 1) M (pc + 3) ls (v.toList ++ st) n1 (h1) (r, n2, h2, k2, q2) → P (d + 1) M (pc) ls (as.reverse ++ st) n (h) (r, n2, h2, k, q)
def RU_callI (P : aPr) : Prop := ∀ (d : Nat) (M : MI) (pc : Nat) (ls : List (Nat × Value)) (st : List Value) (n : Nat) (h : Hp) (idx b : Nat) (M2 : MI) (as : List Value) (n1 : Nat) (h1 : Hp) (k1 q1 : Nat) (r : Option Value ⊕ String) (n2 : Nat) (h2 : Hp) (k2 q2 k q : Nat) (v : Option Value), decode (mB M) pc = .ok (.invokespecial idx, 3) → am_SI (mC M) idx M2 → am_NA M2 as.length → csum st ≤ 8 → csum (.ref b :: as) ≤ mL M2 → k1 + k2 = k → q1 + q2 = q → P d M2 0 (lv_args 0 (.ref b :: as)) [] n h (.inl v, n1, h1, k1, q1) → P (d + 1) M (pc + 3) ls (v.toList ++ st) n1 (h1) (r, n2, h2, k2, q2) → P (d + 1) M (pc) ls (as.reverse ++ .ref b :: st) n (h) (r, n2, h2, k, q)
def RU_callN (P : aPr) : Prop := ∀ (d : Nat) (M : MI) (pc : Nat) (ls : List (Nat × Value)) (st : List Value) (n : Nat) (h : Hp) (idx b : Nat) (M2 : MI) (as : List Value) (n1 : Nat) (h1 : Hp) (k1 q1 : Nat) (r : Option Value ⊕ String) (n2 : Nat) (h2 : Hp) (k2 q2 k q : Nat) (v : Option Value), decode (mB M) pc = .ok (.invokespecial idx, 3) → am_SN (mC M) idx M2 → am_NA M2 as.length → csum st ≤ 8 → csum (.ref b :: as) ≤ mL M2 → k1 + k2 = k → q1 + q2 = q → P d M2 0 (lv_args 0 (.ref b :: as)) [] n h (.inl v, n1, h1, k1, q1) → P (d + 1) M (pc + 3) ls (v.toList ++ st) n1 (h1) (r, n2, h2, k2, q2) → P (d + 1) M (pc) ls (as.reverse ++ .ref b :: st) n (h) (r, n2, h2, k, q)
def RU_callZ (P : aPr) : Prop := ∀ (d : Nat) (M : MI) (pc : Nat) (ls : List (Nat × Value)) (st : List Value) (n : Nat) (h : Hp) (idx : Nat) (M2 : MI) (as : List Value) (n1 : Nat) (h1 : Hp) (k1 q1 : Nat) (r : Option Value ⊕ String) (n2 : Nat) (h2 : Hp) (k2 q2 k q : Nat) (v : Option Value), decode (mB M) pc = .ok (.invokestatic idx, 3) → am_SZ (mC M) idx M2 → am_NA M2 as.length → csum st ≤ 8 → csum as ≤ mL M2 → k1 + k2 = k → q1 + q2 = q → P d M2 0 (lv_args 0 as) [] n h (.inl v, n1, h1, k1, q1) → P (d + 1) M (pc + 3) ls (v.toList ++ st) n1 (h1) (r, n2, h2, k2, q2) → P (d + 1) M (pc) ls (as.reverse ++ st) n (h) (r, n2, h2, k, q)
def RU_callVx (P : aPr) : Prop := ∀ (d : Nat) (M : MI) (pc : Nat) (ls : List (Nat × Value)) (st : List Value) (n : Nat) (h : Hp) (idx b : Nat) (M2 : MI) (as : List Value) (n1 : Nat) (h1 : Hp) (k1 q1 : Nat) (E : String) (ci : Nat) (fs : List Value), decode (mB M) pc = .ok (.invokevirtual idx, 3) → am_SV (mC M) idx M2 → am_NA M2 as.length → csum st ≤ 8 → csum (.ref b :: as) ≤ mL M2 → h b = .inr (ci, fs) → am_CN ci = (mY M2).cls → mH M = [] → P d M2 0 (lv_args 0 (.ref b :: as)) [] n h (.inr E, n1, h1, k1, q1) → P (d + 1) M (pc) ls (as.reverse ++ .ref b :: st) n (h) (.inr E, n1, h1, k1, q1)
def RU_callVc (P : aPr) : Prop := ∀ (d : Nat) (M : MI) (pc : Nat) (ls : List (Nat × Value)) (st : List Value) (n : Nat) (h : Hp) (idx b : Nat) (M2 : MI) (as : List Value) (n1 : Nat) (h1 : Hp) (k1 q1 : Nat) (r : Option Value ⊕ String) (n2 : Nat) (h2 : Hp) (k2 q2 k q : Nat) (E : String) (ci : Nat) (fs : List Value) (hpc hk hl : Nat), decode (mB M) pc = .ok (.invokevirtual idx, 3) → am_SV (mC M) idx M2 → am_NA M2 as.length → csum st ≤ 8 → csum (.ref b :: as) ≤ mL M2 → h b = .inr (ci, fs) → am_CN ci = (mY M2).cls → am_HD (mC M) (mH M) pc E hpc → ((decode (mB M) hpc = .ok (.astore hk, 2) ∧ hl = 2) ∨ ∃ z : Fin 4, hk = (z : Nat) ∧ decode (mB M) hpc = .ok (.astore_n z, 1) ∧ hl = 1) → hk < mL M → k1 + k2 = k → q1 + q2 = q → P d M2 0 (lv_args 0 (.ref b :: as)) [] n h (.inr E, n1, h1, k1, q1) → P (d + 1) M (hpc + hl) (lrm ls hk) ([]) n1 (h1) (r, n2, h2, k2, q2) → P (d + 1) M (pc) ls (as.reverse ++ .ref b :: st) n (h) (r, n2, h2, k, q)
def RU_throwS (P : aPr) : Prop := ∀ (d : Nat) (M : MI) (pc : Nat) (ls : List (Nat × Value)) (st : List Value) (n : Nat) (h : Hp) (E : String), am_TH M pc E → csum st ≤ 8 → mH M = [] → P d M (pc) ls (st) n (h) (.inr E, n, h, 1, 6)
def RU_ireturn (P : aPr) : Prop := ∀ (d : Nat) (M : MI) (pc : Nat) (ls : List (Nat × Value)) (n : Nat) (h : Hp) (v : Int32), decode (mB M) pc = .ok (.ireturn, 1) → mR M = some .int → P d M (pc) ls ([.int v]) n (h) (.inl (some (.int v)), n, h, 0, 0)
def RU_zreturn (P : aPr) : Prop := ∀ (d : Nat) (M : MI) (pc : Nat) (ls : List (Nat × Value)) (n : Nat) (h : Hp) (v : Int32), decode (mB M) pc = .ok (.ireturn, 1) → mR M = some .boolean → (v = 0 ∨ v = 1) → P d M (pc) ls ([.int v]) n (h) (.inl (some (.int v)), n, h, 0, 0)
def RU_lreturn (P : aPr) : Prop := ∀ (d : Nat) (M : MI) (pc : Nat) (ls : List (Nat × Value)) (n : Nat) (h : Hp) (v : Int64), decode (mB M) pc = .ok (.lreturn, 1) → mR M = some .long → P d M (pc) ls ([.long v]) n (h) (.inl (some (.long v)), n, h, 0, 0)
def RU_areturn (P : aPr) : Prop := ∀ (d : Nat) (M : MI) (pc : Nat) (ls : List (Nat × Value)) (n : Nat) (h : Hp) (v : Value) (cn : String), decode (mB M) pc = .ok (.areturn, 1) → mR M = some (.object cn) → (v = .null ∨ ∃ a, v = .ref a) → P d M (pc) ls ([v]) n (h) (.inl (some v), n, h, 0, 0)
def RU_vreturn (P : aPr) : Prop := ∀ (d : Nat) (M : MI) (pc : Nat) (ls : List (Nat × Value)) (n : Nat) (h : Hp), decode (mB M) pc = .ok (.return_, 1) → mR M = none → P d M (pc) ls ([]) n (h) (.inl none, n, h, 0, 0)
def Rules (P : aPr) : Prop := RU_iconst P ∧ RU_bipush P ∧ RU_sipush P ∧ RU_lconst P ∧ RU_ldc P ∧ RU_ldcw P ∧ RU_ldc2 P ∧ RU_null P ∧ RU_iload_n P ∧ RU_iload P ∧ RU_lload_n P ∧ RU_lload P ∧ RU_aload_n P ∧ RU_aload P ∧ RU_aload_nN P ∧ RU_aloadN P ∧ RU_istore_n P ∧ RU_istore P ∧ RU_lstore_n P ∧ RU_lstore P ∧ RU_astore_n P ∧ RU_astore P ∧ RU_astore_nN P ∧ RU_iinc P ∧ RU_iadd P ∧ RU_isub P ∧ RU_imul P ∧ RU_iand P ∧ RU_ior P ∧ RU_ixor P ∧ RU_ishl P ∧ RU_ladd P ∧ RU_lmul P ∧ RU_iushr P ∧ RU_ineg P ∧ RU_idiv P ∧ RU_irem P ∧ RU_ldiv P ∧ RU_lrem P ∧ RU_lcmp P ∧ RU_i2l P ∧ RU_l2i P ∧ RU_dup P ∧ RU_pop P ∧ RU_dup2_11 P ∧ RU_if_eq P ∧ RU_icmp_eq P ∧ RU_if_ne P ∧ RU_icmp_ne P ∧ RU_if_lt P ∧ RU_icmp_lt P ∧ RU_if_ge P ∧ RU_icmp_ge P ∧ RU_if_gt P ∧ RU_icmp_gt P ∧ RU_if_le P ∧ RU_icmp_le P ∧ RU_goto P ∧ RU_ifnull P ∧ RU_ifnullN P ∧ RU_ifnonnull P ∧ RU_ifnonnullN P ∧ RU_tableIn P ∧ RU_tableOut P ∧ RU_sub P ∧ RU_getfield P ∧ RU_putfield P ∧ RU_arraylength P ∧ RU_iaload P ∧ RU_baload P ∧ RU_laload P ∧ RU_aaload P ∧ RU_iastore P ∧ RU_bastore P ∧ RU_lastore P ∧ RU_aastore P ∧ RU_new P ∧ RU_newarray0 P ∧ RU_newarray1 P ∧ RU_newarray2 P ∧ RU_anewarray P ∧ RU_getFW P ∧ RU_cloneFW P ∧ RU_castI P ∧ RU_objInit P ∧ RU_callMin P ∧ RU_callAbs P ∧ RU_callV P ∧ RU_callS P ∧ RU_callT P ∧ RU_callI P ∧ RU_callN P ∧ RU_callZ P ∧ RU_callVx P ∧ RU_callVc P ∧ RU_throwS P ∧ RU_ireturn P ∧ RU_zreturn P ∧ RU_lreturn P ∧ RU_areturn P ∧ RU_vreturn P
def Ev : aPr := fun d M pc ls st n h o => ∀ P : aPr, Rules P → P d M pc ls st n h o
theorem ev_iconst {d : Nat} {M : MI} {pc : Nat} {ls : List (Nat × Value)} {st : List Value} {n : Nat} {h : Hp} {o : Out} {z : Int} {v : Int32} (g0 : decode (mB M) pc = .ok (.iconst z, 1)) (g1 : Int32.ofInt z = v) (k0_ : Ev d M (pc + 1) ls (.int v :: st) n (h) o) : Ev d M (pc) ls (st) n (h) o := fun P hP => hP.1 _ _ _ _ _ _ _ _ _ _ g0 g1 (k0_ P hP)
theorem ev_bipush {d : Nat} {M : MI} {pc : Nat} {ls : List (Nat × Value)} {st : List Value} {n : Nat} {h : Hp} {o : Out} {z : Int} {v : Int32} (g0 : decode (mB M) pc = .ok (.bipush z, 2)) (g1 : (Int8.ofInt z).toInt32 = v) (k0_ : Ev d M (pc + 2) ls (.int v :: st) n (h) o) : Ev d M (pc) ls (st) n (h) o := fun P hP => hP.2.1 _ _ _ _ _ _ _ _ _ _ g0 g1 (k0_ P hP)
theorem ev_sipush {d : Nat} {M : MI} {pc : Nat} {ls : List (Nat × Value)} {st : List Value} {n : Nat} {h : Hp} {o : Out} {z : Int} {v : Int32} (g0 : decode (mB M) pc = .ok (.sipush z, 3)) (g1 : (Int16.ofInt z).toInt32 = v) (k0_ : Ev d M (pc + 3) ls (.int v :: st) n (h) o) : Ev d M (pc) ls (st) n (h) o := fun P hP => hP.2.2.1 _ _ _ _ _ _ _ _ _ _ g0 g1 (k0_ P hP)
theorem ev_lconst {d : Nat} {M : MI} {pc : Nat} {ls : List (Nat × Value)} {st : List Value} {n : Nat} {h : Hp} {o : Out} {z : Fin 2} {v : Int64} (g0 : decode (mB M) pc = .ok (.lconst z, 1)) (g1 : Int64.ofNat (z : Nat) = v) (k0_ : Ev d M (pc + 1) ls (.long v :: st) n (h) o) : Ev d M (pc) ls (st) n (h) o := fun P hP => hP.2.2.2.1 _ _ _ _ _ _ _ _ _ _ g0 g1 (k0_ P hP)
theorem ev_ldc {d : Nat} {M : MI} {pc : Nat} {ls : List (Nat × Value)} {st : List Value} {n : Nat} {h : Hp} {o : Out} {z : Nat} {v : Int32} (g0 : decode (mB M) pc = .ok (.ldc z, 2)) (g1 : Cond.constant (mC M) z v ∈ am_ws) (k0_ : Ev d M (pc + 2) ls (.int v :: st) n (h) o) : Ev d M (pc) ls (st) n (h) o := fun P hP => hP.2.2.2.2.1 _ _ _ _ _ _ _ _ _ _ g0 g1 (k0_ P hP)
theorem ev_ldcw {d : Nat} {M : MI} {pc : Nat} {ls : List (Nat × Value)} {st : List Value} {n : Nat} {h : Hp} {o : Out} {z : Nat} {v : Int32} (g0 : decode (mB M) pc = .ok (.ldc_w z, 3)) (g1 : Cond.constant (mC M) z v ∈ am_ws) (k0_ : Ev d M (pc + 3) ls (.int v :: st) n (h) o) : Ev d M (pc) ls (st) n (h) o := fun P hP => hP.2.2.2.2.2.1 _ _ _ _ _ _ _ _ _ _ g0 g1 (k0_ P hP)
theorem ev_ldc2 {d : Nat} {M : MI} {pc : Nat} {ls : List (Nat × Value)} {st : List Value} {n : Nat} {h : Hp} {o : Out} {z : Nat} {v : Int64} (g0 : decode (mB M) pc = .ok (.ldc2_w z, 3)) (g1 : Cond.constantLong (mC M) z v ∈ am_ws) (k0_ : Ev d M (pc + 3) ls (.long v :: st) n (h) o) : Ev d M (pc) ls (st) n (h) o := fun P hP => hP.2.2.2.2.2.2.1 _ _ _ _ _ _ _ _ _ _ g0 g1 (k0_ P hP)
theorem ev_null {d : Nat} {M : MI} {pc : Nat} {ls : List (Nat × Value)} {st : List Value} {n : Nat} {h : Hp} {o : Out}  (g0 : decode (mB M) pc = .ok (.aconst_null, 1)) (k0_ : Ev d M (pc + 1) ls (.null :: st) n (h) o) : Ev d M (pc) ls (st) n (h) o := fun P hP => hP.2.2.2.2.2.2.2.1 _ _ _ _ _ _ _ _ g0 (k0_ P hP)
theorem ev_iload_n {d : Nat} {M : MI} {pc : Nat} {ls : List (Nat × Value)} {st : List Value} {n : Nat} {h : Hp} {o : Out} {k : Fin 4} {x : Int32} (g0 : decode (mB M) pc = .ok (.iload_n k, 1)) (g1 : lk ls (k : Nat) = some (.int x)) (k0_ : Ev d M (pc + 1) ls (.int x :: st) n (h) o) : Ev d M (pc) ls (st) n (h) o := fun P hP => hP.2.2.2.2.2.2.2.2.1 _ _ _ _ _ _ _ _ _ _ g0 g1 (k0_ P hP)
theorem ev_iload {d : Nat} {M : MI} {pc : Nat} {ls : List (Nat × Value)} {st : List Value} {n : Nat} {h : Hp} {o : Out} {k : Nat} {x : Int32} (g0 : decode (mB M) pc = .ok (.iload k, 2)) (g1 : lk ls k = some (.int x)) (k0_ : Ev d M (pc + 2) ls (.int x :: st) n (h) o) : Ev d M (pc) ls (st) n (h) o := fun P hP => hP.2.2.2.2.2.2.2.2.2.1 _ _ _ _ _ _ _ _ _ _ g0 g1 (k0_ P hP)
theorem ev_lload_n {d : Nat} {M : MI} {pc : Nat} {ls : List (Nat × Value)} {st : List Value} {n : Nat} {h : Hp} {o : Out} {k : Fin 4} {x : Int64} (g0 : decode (mB M) pc = .ok (.lload_n k, 1)) (g1 : lk ls (k : Nat) = some (.long x)) (k0_ : Ev d M (pc + 1) ls (.long x :: st) n (h) o) : Ev d M (pc) ls (st) n (h) o := fun P hP => hP.2.2.2.2.2.2.2.2.2.2.1 _ _ _ _ _ _ _ _ _ _ g0 g1 (k0_ P hP)
theorem ev_lload {d : Nat} {M : MI} {pc : Nat} {ls : List (Nat × Value)} {st : List Value} {n : Nat} {h : Hp} {o : Out} {k : Nat} {x : Int64} (g0 : decode (mB M) pc = .ok (.lload k, 2)) (g1 : lk ls k = some (.long x)) (k0_ : Ev d M (pc + 2) ls (.long x :: st) n (h) o) : Ev d M (pc) ls (st) n (h) o := fun P hP => hP.2.2.2.2.2.2.2.2.2.2.2.1 _ _ _ _ _ _ _ _ _ _ g0 g1 (k0_ P hP)
theorem ev_aload_n {d : Nat} {M : MI} {pc : Nat} {ls : List (Nat × Value)} {st : List Value} {n : Nat} {h : Hp} {o : Out} {k : Fin 4} {x : Nat} (g0 : decode (mB M) pc = .ok (.aload_n k, 1)) (g1 : lk ls (k : Nat) = some (.ref x)) (k0_ : Ev d M (pc + 1) ls (.ref x :: st) n (h) o) : Ev d M (pc) ls (st) n (h) o := fun P hP => hP.2.2.2.2.2.2.2.2.2.2.2.2.1 _ _ _ _ _ _ _ _ _ _ g0 g1 (k0_ P hP)
theorem ev_aload {d : Nat} {M : MI} {pc : Nat} {ls : List (Nat × Value)} {st : List Value} {n : Nat} {h : Hp} {o : Out} {k : Nat} {x : Nat} (g0 : decode (mB M) pc = .ok (.aload k, 2)) (g1 : lk ls k = some (.ref x)) (k0_ : Ev d M (pc + 2) ls (.ref x :: st) n (h) o) : Ev d M (pc) ls (st) n (h) o := fun P hP => hP.2.2.2.2.2.2.2.2.2.2.2.2.2.1 _ _ _ _ _ _ _ _ _ _ g0 g1 (k0_ P hP)
theorem ev_aload_nN {d : Nat} {M : MI} {pc : Nat} {ls : List (Nat × Value)} {st : List Value} {n : Nat} {h : Hp} {o : Out} {k : Fin 4} (g0 : decode (mB M) pc = .ok (.aload_n k, 1)) (g1 : lk ls (k : Nat) = some .null) (k0_ : Ev d M (pc + 1) ls (.null :: st) n (h) o) : Ev d M (pc) ls (st) n (h) o := fun P hP => hP.2.2.2.2.2.2.2.2.2.2.2.2.2.2.1 _ _ _ _ _ _ _ _ _ g0 g1 (k0_ P hP)
theorem ev_aloadN {d : Nat} {M : MI} {pc : Nat} {ls : List (Nat × Value)} {st : List Value} {n : Nat} {h : Hp} {o : Out} {k : Nat} (g0 : decode (mB M) pc = .ok (.aload k, 2)) (g1 : lk ls k = some .null) (k0_ : Ev d M (pc + 2) ls (.null :: st) n (h) o) : Ev d M (pc) ls (st) n (h) o := fun P hP => hP.2.2.2.2.2.2.2.2.2.2.2.2.2.2.2.1 _ _ _ _ _ _ _ _ _ g0 g1 (k0_ P hP)
theorem ev_istore_n {d : Nat} {M : MI} {pc : Nat} {ls : List (Nat × Value)} {st : List Value} {n : Nat} {h : Hp} {o : Out} {k : Fin 4} {x : Int32} (g0 : decode (mB M) pc = .ok (.istore_n k, 1)) (g1 : (k : Nat) < mL M) (k0_ : Ev d M (pc + 1) (lst1 ls (k : Nat) (.int x)) (st) n (h) o) : Ev d M (pc) ls (.int x :: st) n (h) o := fun P hP => hP.2.2.2.2.2.2.2.2.2.2.2.2.2.2.2.2.1 _ _ _ _ _ _ _ _ _ _ g0 g1 (k0_ P hP)
theorem ev_istore {d : Nat} {M : MI} {pc : Nat} {ls : List (Nat × Value)} {st : List Value} {n : Nat} {h : Hp} {o : Out} {k : Nat} {x : Int32} (g0 : decode (mB M) pc = .ok (.istore k, 2)) (g1 : k < mL M) (k0_ : Ev d M (pc + 2) (lst1 ls k (.int x)) (st) n (h) o) : Ev d M (pc) ls (.int x :: st) n (h) o := fun P hP => hP.2.2.2.2.2.2.2.2.2.2.2.2.2.2.2.2.2.1 _ _ _ _ _ _ _ _ _ _ g0 g1 (k0_ P hP)
theorem ev_lstore_n {d : Nat} {M : MI} {pc : Nat} {ls : List (Nat × Value)} {st : List Value} {n : Nat} {h : Hp} {o : Out} {k : Fin 4} {x : Int64} (g0 : decode (mB M) pc = .ok (.lstore_n k, 1)) (g1 : (k : Nat) + 1 < mL M) (k0_ : Ev d M (pc + 1) (lst2 ls (k : Nat) (.long x)) (st) n (h) o) : Ev d M (pc) ls (.long x :: st) n (h) o := fun P hP => hP.2.2.2.2.2.2.2.2.2.2.2.2.2.2.2.2.2.2.1 _ _ _ _ _ _ _ _ _ _ g0 g1 (k0_ P hP)
theorem ev_lstore {d : Nat} {M : MI} {pc : Nat} {ls : List (Nat × Value)} {st : List Value} {n : Nat} {h : Hp} {o : Out} {k : Nat} {x : Int64} (g0 : decode (mB M) pc = .ok (.lstore k, 2)) (g1 : k + 1 < mL M) (k0_ : Ev d M (pc + 2) (lst2 ls k (.long x)) (st) n (h) o) : Ev d M (pc) ls (.long x :: st) n (h) o := fun P hP => hP.2.2.2.2.2.2.2.2.2.2.2.2.2.2.2.2.2.2.2.1 _ _ _ _ _ _ _ _ _ _ g0 g1 (k0_ P hP)
theorem ev_astore_n {d : Nat} {M : MI} {pc : Nat} {ls : List (Nat × Value)} {st : List Value} {n : Nat} {h : Hp} {o : Out} {k : Fin 4} {x : Nat} (g0 : decode (mB M) pc = .ok (.astore_n k, 1)) (g1 : (k : Nat) < mL M) (k0_ : Ev d M (pc + 1) (lst1 ls (k : Nat) (.ref x)) (st) n (h) o) : Ev d M (pc) ls (.ref x :: st) n (h) o := fun P hP => hP.2.2.2.2.2.2.2.2.2.2.2.2.2.2.2.2.2.2.2.2.1 _ _ _ _ _ _ _ _ _ _ g0 g1 (k0_ P hP)
theorem ev_astore {d : Nat} {M : MI} {pc : Nat} {ls : List (Nat × Value)} {st : List Value} {n : Nat} {h : Hp} {o : Out} {k : Nat} {x : Nat} (g0 : decode (mB M) pc = .ok (.astore k, 2)) (g1 : k < mL M) (k0_ : Ev d M (pc + 2) (lst1 ls k (.ref x)) (st) n (h) o) : Ev d M (pc) ls (.ref x :: st) n (h) o := fun P hP => hP.2.2.2.2.2.2.2.2.2.2.2.2.2.2.2.2.2.2.2.2.2.1 _ _ _ _ _ _ _ _ _ _ g0 g1 (k0_ P hP)
theorem ev_astore_nN {d : Nat} {M : MI} {pc : Nat} {ls : List (Nat × Value)} {st : List Value} {n : Nat} {h : Hp} {o : Out} {k : Fin 4} (g0 : decode (mB M) pc = .ok (.astore_n k, 1)) (g1 : (k : Nat) < mL M) (k0_ : Ev d M (pc + 1) (lst1 ls (k : Nat) .null) (st) n (h) o) : Ev d M (pc) ls (.null :: st) n (h) o := fun P hP => hP.2.2.2.2.2.2.2.2.2.2.2.2.2.2.2.2.2.2.2.2.2.2.1 _ _ _ _ _ _ _ _ _ g0 g1 (k0_ P hP)
theorem ev_iinc {d : Nat} {M : MI} {pc : Nat} {ls : List (Nat × Value)} {st : List Value} {n : Nat} {h : Hp} {o : Out} {k : Nat} {z : Int} {x v : Int32} (g0 : decode (mB M) pc = .ok (.iinc k z, 3)) (g1 : lk ls k = some (.int x)) (g2 : x + Int32.ofInt z = v) (g3 : k < mL M) (k0_ : Ev d M (pc + 3) (lst1 ls k (.int v)) (st) n (h) o) : Ev d M (pc) ls (st) n (h) o := fun P hP => hP.2.2.2.2.2.2.2.2.2.2.2.2.2.2.2.2.2.2.2.2.2.2.2.1 _ _ _ _ _ _ _ _ _ _ _ _ g0 g1 g2 g3 (k0_ P hP)
theorem ev_iadd {d : Nat} {M : MI} {pc : Nat} {ls : List (Nat × Value)} {st : List Value} {n : Nat} {h : Hp} {o : Out} {x y : Int32} (g0 : decode (mB M) pc = .ok (.iadd, 1)) (k0_ : Ev d M (pc + 1) ls (.int (x + y) :: st) n (h) o) : Ev d M (pc) ls (.int y :: .int x :: st) n (h) o := fun P hP => hP.2.2.2.2.2.2.2.2.2.2.2.2.2.2.2.2.2.2.2.2.2.2.2.2.1 _ _ _ _ _ _ _ _ _ _ g0 (k0_ P hP)
theorem ev_isub {d : Nat} {M : MI} {pc : Nat} {ls : List (Nat × Value)} {st : List Value} {n : Nat} {h : Hp} {o : Out} {x y : Int32} (g0 : decode (mB M) pc = .ok (.isub, 1)) (k0_ : Ev d M (pc + 1) ls (.int (x - y) :: st) n (h) o) : Ev d M (pc) ls (.int y :: .int x :: st) n (h) o := fun P hP => hP.2.2.2.2.2.2.2.2.2.2.2.2.2.2.2.2.2.2.2.2.2.2.2.2.2.1 _ _ _ _ _ _ _ _ _ _ g0 (k0_ P hP)
theorem ev_imul {d : Nat} {M : MI} {pc : Nat} {ls : List (Nat × Value)} {st : List Value} {n : Nat} {h : Hp} {o : Out} {x y : Int32} (g0 : decode (mB M) pc = .ok (.imul, 1)) (k0_ : Ev d M (pc + 1) ls (.int (x * y) :: st) n (h) o) : Ev d M (pc) ls (.int y :: .int x :: st) n (h) o := fun P hP => hP.2.2.2.2.2.2.2.2.2.2.2.2.2.2.2.2.2.2.2.2.2.2.2.2.2.2.1 _ _ _ _ _ _ _ _ _ _ g0 (k0_ P hP)
theorem ev_iand {d : Nat} {M : MI} {pc : Nat} {ls : List (Nat × Value)} {st : List Value} {n : Nat} {h : Hp} {o : Out} {x y : Int32} (g0 : decode (mB M) pc = .ok (.iand, 1)) (k0_ : Ev d M (pc + 1) ls (.int (x &&& y) :: st) n (h) o) : Ev d M (pc) ls (.int y :: .int x :: st) n (h) o := fun P hP => hP.2.2.2.2.2.2.2.2.2.2.2.2.2.2.2.2.2.2.2.2.2.2.2.2.2.2.2.1 _ _ _ _ _ _ _ _ _ _ g0 (k0_ P hP)
theorem ev_ior {d : Nat} {M : MI} {pc : Nat} {ls : List (Nat × Value)} {st : List Value} {n : Nat} {h : Hp} {o : Out} {x y : Int32} (g0 : decode (mB M) pc = .ok (.ior, 1)) (k0_ : Ev d M (pc + 1) ls (.int (x ||| y) :: st) n (h) o) : Ev d M (pc) ls (.int y :: .int x :: st) n (h) o := fun P hP => hP.2.2.2.2.2.2.2.2.2.2.2.2.2.2.2.2.2.2.2.2.2.2.2.2.2.2.2.2.1 _ _ _ _ _ _ _ _ _ _ g0 (k0_ P hP)
theorem ev_ixor {d : Nat} {M : MI} {pc : Nat} {ls : List (Nat × Value)} {st : List Value} {n : Nat} {h : Hp} {o : Out} {x y : Int32} (g0 : decode (mB M) pc = .ok (.ixor, 1)) (k0_ : Ev d M (pc + 1) ls (.int (x ^^^ y) :: st) n (h) o) : Ev d M (pc) ls (.int y :: .int x :: st) n (h) o := fun P hP => hP.2.2.2.2.2.2.2.2.2.2.2.2.2.2.2.2.2.2.2.2.2.2.2.2.2.2.2.2.2.1 _ _ _ _ _ _ _ _ _ _ g0 (k0_ P hP)
theorem ev_ishl {d : Nat} {M : MI} {pc : Nat} {ls : List (Nat × Value)} {st : List Value} {n : Nat} {h : Hp} {o : Out} {x y : Int32} (g0 : decode (mB M) pc = .ok (.ishl, 1)) (k0_ : Ev d M (pc + 1) ls (.int (x <<< (y &&& 31)) :: st) n (h) o) : Ev d M (pc) ls (.int y :: .int x :: st) n (h) o := fun P hP => hP.2.2.2.2.2.2.2.2.2.2.2.2.2.2.2.2.2.2.2.2.2.2.2.2.2.2.2.2.2.2.1 _ _ _ _ _ _ _ _ _ _ g0 (k0_ P hP)
theorem ev_ladd {d : Nat} {M : MI} {pc : Nat} {ls : List (Nat × Value)} {st : List Value} {n : Nat} {h : Hp} {o : Out} {x y : Int64} (g0 : decode (mB M) pc = .ok (.ladd, 1)) (k0_ : Ev d M (pc + 1) ls (.long (x + y) :: st) n (h) o) : Ev d M (pc) ls (.long y :: .long x :: st) n (h) o := fun P hP => hP.2.2.2.2.2.2.2.2.2.2.2.2.2.2.2.2.2.2.2.2.2.2.2.2.2.2.2.2.2.2.2.1 _ _ _ _ _ _ _ _ _ _ g0 (k0_ P hP)
theorem ev_lmul {d : Nat} {M : MI} {pc : Nat} {ls : List (Nat × Value)} {st : List Value} {n : Nat} {h : Hp} {o : Out} {x y : Int64} (g0 : decode (mB M) pc = .ok (.lmul, 1)) (k0_ : Ev d M (pc + 1) ls (.long (x * y) :: st) n (h) o) : Ev d M (pc) ls (.long y :: .long x :: st) n (h) o := fun P hP => hP.2.2.2.2.2.2.2.2.2.2.2.2.2.2.2.2.2.2.2.2.2.2.2.2.2.2.2.2.2.2.2.2.1 _ _ _ _ _ _ _ _ _ _ g0 (k0_ P hP)
theorem ev_iushr {d : Nat} {M : MI} {pc : Nat} {ls : List (Nat × Value)} {st : List Value} {n : Nat} {h : Hp} {o : Out} {x y v : Int32} (g0 : decode (mB M) pc = .ok (.iushr, 1)) (g1 : (x.toUInt32 >>> (y.toUInt32 &&& Int32.toUInt32 31)).toInt32 = v) (k0_ : Ev d M (pc + 1) ls (.int v :: st) n (h) o) : Ev d M (pc) ls (.int y :: .int x :: st) n (h) o := fun P hP => hP.2.2.2.2.2.2.2.2.2.2.2.2.2.2.2.2.2.2.2.2.2.2.2.2.2.2.2.2.2.2.2.2.2.1 _ _ _ _ _ _ _ _ _ _ _ g0 g1 (k0_ P hP)
theorem ev_ineg {d : Nat} {M : MI} {pc : Nat} {ls : List (Nat × Value)} {st : List Value} {n : Nat} {h : Hp} {o : Out} {x : Int32} (g0 : decode (mB M) pc = .ok (.ineg, 1)) (k0_ : Ev d M (pc + 1) ls (.int (-x) :: st) n (h) o) : Ev d M (pc) ls (.int x :: st) n (h) o := fun P hP => hP.2.2.2.2.2.2.2.2.2.2.2.2.2.2.2.2.2.2.2.2.2.2.2.2.2.2.2.2.2.2.2.2.2.2.1 _ _ _ _ _ _ _ _ _ g0 (k0_ P hP)
theorem ev_idiv {d : Nat} {M : MI} {pc : Nat} {ls : List (Nat × Value)} {st : List Value} {n : Nat} {h : Hp} {o : Out} {x y : Int32} (g0 : decode (mB M) pc = .ok (.idiv, 1)) (g1 : ¬ y = 0) (k0_ : Ev d M (pc + 1) ls (.int (x / y) :: st) n (h) o) : Ev d M (pc) ls (.int y :: .int x :: st) n (h) o := fun P hP => hP.2.2.2.2.2.2.2.2.2.2.2.2.2.2.2.2.2.2.2.2.2.2.2.2.2.2.2.2.2.2.2.2.2.2.2.1 _ _ _ _ _ _ _ _ _ _ g0 g1 (k0_ P hP)
theorem ev_irem {d : Nat} {M : MI} {pc : Nat} {ls : List (Nat × Value)} {st : List Value} {n : Nat} {h : Hp} {o : Out} {x y : Int32} (g0 : decode (mB M) pc = .ok (.irem, 1)) (g1 : ¬ y = 0) (k0_ : Ev d M (pc + 1) ls (.int (x - x / y * y) :: st) n (h) o) : Ev d M (pc) ls (.int y :: .int x :: st) n (h) o := fun P hP => hP.2.2.2.2.2.2.2.2.2.2.2.2.2.2.2.2.2.2.2.2.2.2.2.2.2.2.2.2.2.2.2.2.2.2.2.2.1 _ _ _ _ _ _ _ _ _ _ g0 g1 (k0_ P hP)
theorem ev_ldiv {d : Nat} {M : MI} {pc : Nat} {ls : List (Nat × Value)} {st : List Value} {n : Nat} {h : Hp} {o : Out} {x y : Int64} (g0 : decode (mB M) pc = .ok (.ldiv, 1)) (g1 : ¬ y = 0) (k0_ : Ev d M (pc + 1) ls (.long (x / y) :: st) n (h) o) : Ev d M (pc) ls (.long y :: .long x :: st) n (h) o := fun P hP => hP.2.2.2.2.2.2.2.2.2.2.2.2.2.2.2.2.2.2.2.2.2.2.2.2.2.2.2.2.2.2.2.2.2.2.2.2.2.1 _ _ _ _ _ _ _ _ _ _ g0 g1 (k0_ P hP)
theorem ev_lrem {d : Nat} {M : MI} {pc : Nat} {ls : List (Nat × Value)} {st : List Value} {n : Nat} {h : Hp} {o : Out} {x y : Int64} (g0 : decode (mB M) pc = .ok (.lrem, 1)) (g1 : ¬ y = 0) (k0_ : Ev d M (pc + 1) ls (.long (x - x / y * y) :: st) n (h) o) : Ev d M (pc) ls (.long y :: .long x :: st) n (h) o := fun P hP => hP.2.2.2.2.2.2.2.2.2.2.2.2.2.2.2.2.2.2.2.2.2.2.2.2.2.2.2.2.2.2.2.2.2.2.2.2.2.2.1 _ _ _ _ _ _ _ _ _ _ g0 g1 (k0_ P hP)
theorem ev_lcmp {d : Nat} {M : MI} {pc : Nat} {ls : List (Nat × Value)} {st : List Value} {n : Nat} {h : Hp} {o : Out} {x y : Int64} (g0 : decode (mB M) pc = .ok (.lcmp, 1)) (k0_ : Ev d M (pc + 1) ls (.int (lg_cmp x y) :: st) n (h) o) : Ev d M (pc) ls (.long y :: .long x :: st) n (h) o := fun P hP => hP.2.2.2.2.2.2.2.2.2.2.2.2.2.2.2.2.2.2.2.2.2.2.2.2.2.2.2.2.2.2.2.2.2.2.2.2.2.2.2.1 _ _ _ _ _ _ _ _ _ _ g0 (k0_ P hP)
theorem ev_i2l {d : Nat} {M : MI} {pc : Nat} {ls : List (Nat × Value)} {st : List Value} {n : Nat} {h : Hp} {o : Out} {x : Int32} {v : Int64} (g0 : decode (mB M) pc = .ok (.i2l, 1)) (g1 : x.toInt64 = v) (k0_ : Ev d M (pc + 1) ls (.long v :: st) n (h) o) : Ev d M (pc) ls (.int x :: st) n (h) o := fun P hP => hP.2.2.2.2.2.2.2.2.2.2.2.2.2.2.2.2.2.2.2.2.2.2.2.2.2.2.2.2.2.2.2.2.2.2.2.2.2.2.2.2.1 _ _ _ _ _ _ _ _ _ _ g0 g1 (k0_ P hP)
theorem ev_l2i {d : Nat} {M : MI} {pc : Nat} {ls : List (Nat × Value)} {st : List Value} {n : Nat} {h : Hp} {o : Out} {x : Int64} {v : Int32} (g0 : decode (mB M) pc = .ok (.l2i, 1)) (g1 : x.toInt32 = v) (k0_ : Ev d M (pc + 1) ls (.int v :: st) n (h) o) : Ev d M (pc) ls (.long x :: st) n (h) o := fun P hP => hP.2.2.2.2.2.2.2.2.2.2.2.2.2.2.2.2.2.2.2.2.2.2.2.2.2.2.2.2.2.2.2.2.2.2.2.2.2.2.2.2.2.1 _ _ _ _ _ _ _ _ _ _ g0 g1 (k0_ P hP)
theorem ev_dup {d : Nat} {M : MI} {pc : Nat} {ls : List (Nat × Value)} {st : List Value} {n : Nat} {h : Hp} {o : Out} {va : Value} (g0 : decode (mB M) pc = .ok (.dup, 1)) (g1 : va.category = 1) (k0_ : Ev d M (pc + 1) ls (va :: va :: st) n (h) o) : Ev d M (pc) ls (va :: st) n (h) o := fun P hP => hP.2.2.2.2.2.2.2.2.2.2.2.2.2.2.2.2.2.2.2.2.2.2.2.2.2.2.2.2.2.2.2.2.2.2.2.2.2.2.2.2.2.2.1 _ _ _ _ _ _ _ _ _ g0 g1 (k0_ P hP)
theorem ev_pop {d : Nat} {M : MI} {pc : Nat} {ls : List (Nat × Value)} {st : List Value} {n : Nat} {h : Hp} {o : Out} {va : Value} (g0 : decode (mB M) pc = .ok (.pop, 1)) (g1 : va.category = 1) (k0_ : Ev d M (pc + 1) ls (st) n (h) o) : Ev d M (pc) ls (va :: st) n (h) o := fun P hP => hP.2.2.2.2.2.2.2.2.2.2.2.2.2.2.2.2.2.2.2.2.2.2.2.2.2.2.2.2.2.2.2.2.2.2.2.2.2.2.2.2.2.2.2.1 _ _ _ _ _ _ _ _ _ g0 g1 (k0_ P hP)
theorem ev_dup2_11 {d : Nat} {M : MI} {pc : Nat} {ls : List (Nat × Value)} {st : List Value} {n : Nat} {h : Hp} {o : Out} {va vb : Value} (g0 : decode (mB M) pc = .ok (.dup2, 1)) (g1 : va.category = 1) (g2 : vb.category = 1) (k0_ : Ev d M (pc + 1) ls (va :: vb :: va :: vb :: st) n (h) o) : Ev d M (pc) ls (va :: vb :: st) n (h) o := fun P hP => hP.2.2.2.2.2.2.2.2.2.2.2.2.2.2.2.2.2.2.2.2.2.2.2.2.2.2.2.2.2.2.2.2.2.2.2.2.2.2.2.2.2.2.2.2.1 _ _ _ _ _ _ _ _ _ _ g0 g1 g2 (k0_ P hP)
theorem ev_if_eq {d : Nat} {M : MI} {pc : Nat} {ls : List (Nat × Value)} {st : List Value} {n : Nat} {h : Hp} {o : Out} {off : Int} {tgt : Nat} {x : Int32} (g0 : decode (mB M) pc = .ok (.ifCond .eq off, 3)) (g1 : (pc : Int) + off = (tgt : Int)) (k0_ : ((x = 0)) → Ev d M (tgt) ls (st) n (h) o) (k1_ : (¬ (x = 0)) → Ev d M (pc + 3) ls (st) n (h) o) : Ev d M (pc) ls (.int x :: st) n (h) o := fun P hP => hP.2.2.2.2.2.2.2.2.2.2.2.2.2.2.2.2.2.2.2.2.2.2.2.2.2.2.2.2.2.2.2.2.2.2.2.2.2.2.2.2.2.2.2.2.2.1 _ _ _ _ _ _ _ _ _ _ _ g0 g1 (fun c => k0_ c P hP) (fun c => k1_ c P hP)
theorem ev_icmp_eq {d : Nat} {M : MI} {pc : Nat} {ls : List (Nat × Value)} {st : List Value} {n : Nat} {h : Hp} {o : Out} {off : Int} {tgt : Nat} {x y : Int32} (g0 : decode (mB M) pc = .ok (.if_icmp .eq off, 3)) (g1 : (pc : Int) + off = (tgt : Int)) (k0_ : ((x = y)) → Ev d M (tgt) ls (st) n (h) o) (k1_ : (¬ (x = y)) → Ev d M (pc + 3) ls (st) n (h) o) : Ev d M (pc) ls (.int y :: .int x :: st) n (h) o := fun P hP => hP.2.2.2.2.2.2.2.2.2.2.2.2.2.2.2.2.2.2.2.2.2.2.2.2.2.2.2.2.2.2.2.2.2.2.2.2.2.2.2.2.2.2.2.2.2.2.1 _ _ _ _ _ _ _ _ _ _ _ _ g0 g1 (fun c => k0_ c P hP) (fun c => k1_ c P hP)
theorem ev_if_ne {d : Nat} {M : MI} {pc : Nat} {ls : List (Nat × Value)} {st : List Value} {n : Nat} {h : Hp} {o : Out} {off : Int} {tgt : Nat} {x : Int32} (g0 : decode (mB M) pc = .ok (.ifCond .ne off, 3)) (g1 : (pc : Int) + off = (tgt : Int)) (k0_ : ((¬ x = 0)) → Ev d M (tgt) ls (st) n (h) o) (k1_ : ((x = 0)) → Ev d M (pc + 3) ls (st) n (h) o) : Ev d M (pc) ls (.int x :: st) n (h) o := fun P hP => hP.2.2.2.2.2.2.2.2.2.2.2.2.2.2.2.2.2.2.2.2.2.2.2.2.2.2.2.2.2.2.2.2.2.2.2.2.2.2.2.2.2.2.2.2.2.2.2.1 _ _ _ _ _ _ _ _ _ _ _ g0 g1 (fun c => k0_ c P hP) (fun c => k1_ c P hP)
theorem ev_icmp_ne {d : Nat} {M : MI} {pc : Nat} {ls : List (Nat × Value)} {st : List Value} {n : Nat} {h : Hp} {o : Out} {off : Int} {tgt : Nat} {x y : Int32} (g0 : decode (mB M) pc = .ok (.if_icmp .ne off, 3)) (g1 : (pc : Int) + off = (tgt : Int)) (k0_ : ((¬ x = y)) → Ev d M (tgt) ls (st) n (h) o) (k1_ : ((x = y)) → Ev d M (pc + 3) ls (st) n (h) o) : Ev d M (pc) ls (.int y :: .int x :: st) n (h) o := fun P hP => hP.2.2.2.2.2.2.2.2.2.2.2.2.2.2.2.2.2.2.2.2.2.2.2.2.2.2.2.2.2.2.2.2.2.2.2.2.2.2.2.2.2.2.2.2.2.2.2.2.1 _ _ _ _ _ _ _ _ _ _ _ _ g0 g1 (fun c => k0_ c P hP) (fun c => k1_ c P hP)
theorem ev_if_lt {d : Nat} {M : MI} {pc : Nat} {ls : List (Nat × Value)} {st : List Value} {n : Nat} {h : Hp} {o : Out} {off : Int} {tgt : Nat} {x : Int32} (g0 : decode (mB M) pc = .ok (.ifCond .lt off, 3)) (g1 : (pc : Int) + off = (tgt : Int)) (k0_ : ((x < 0)) → Ev d M (tgt) ls (st) n (h) o) (k1_ : (¬ (x < 0)) → Ev d M (pc + 3) ls (st) n (h) o) : Ev d M (pc) ls (.int x :: st) n (h) o := fun P hP => hP.2.2.2.2.2.2.2.2.2.2.2.2.2.2.2.2.2.2.2.2.2.2.2.2.2.2.2.2.2.2.2.2.2.2.2.2.2.2.2.2.2.2.2.2.2.2.2.2.2.1 _ _ _ _ _ _ _ _ _ _ _ g0 g1 (fun c => k0_ c P hP) (fun c => k1_ c P hP)
theorem ev_icmp_lt {d : Nat} {M : MI} {pc : Nat} {ls : List (Nat × Value)} {st : List Value} {n : Nat} {h : Hp} {o : Out} {off : Int} {tgt : Nat} {x y : Int32} (g0 : decode (mB M) pc = .ok (.if_icmp .lt off, 3)) (g1 : (pc : Int) + off = (tgt : Int)) (k0_ : ((x < y)) → Ev d M (tgt) ls (st) n (h) o) (k1_ : (¬ (x < y)) → Ev d M (pc + 3) ls (st) n (h) o) : Ev d M (pc) ls (.int y :: .int x :: st) n (h) o := fun P hP => hP.2.2.2.2.2.2.2.2.2.2.2.2.2.2.2.2.2.2.2.2.2.2.2.2.2.2.2.2.2.2.2.2.2.2.2.2.2.2.2.2.2.2.2.2.2.2.2.2.2.2.1 _ _ _ _ _ _ _ _ _ _ _ _ g0 g1 (fun c => k0_ c P hP) (fun c => k1_ c P hP)
theorem ev_if_ge {d : Nat} {M : MI} {pc : Nat} {ls : List (Nat × Value)} {st : List Value} {n : Nat} {h : Hp} {o : Out} {off : Int} {tgt : Nat} {x : Int32} (g0 : decode (mB M) pc = .ok (.ifCond .ge off, 3)) (g1 : (pc : Int) + off = (tgt : Int)) (k0_ : ((0 ≤ x)) → Ev d M (tgt) ls (st) n (h) o) (k1_ : (¬ (0 ≤ x)) → Ev d M (pc + 3) ls (st) n (h) o) : Ev d M (pc) ls (.int x :: st) n (h) o := fun P hP => hP.2.2.2.2.2.2.2.2.2.2.2.2.2.2.2.2.2.2.2.2.2.2.2.2.2.2.2.2.2.2.2.2.2.2.2.2.2.2.2.2.2.2.2.2.2.2.2.2.2.2.2.1 _ _ _ _ _ _ _ _ _ _ _ g0 g1 (fun c => k0_ c P hP) (fun c => k1_ c P hP)
theorem ev_icmp_ge {d : Nat} {M : MI} {pc : Nat} {ls : List (Nat × Value)} {st : List Value} {n : Nat} {h : Hp} {o : Out} {off : Int} {tgt : Nat} {x y : Int32} (g0 : decode (mB M) pc = .ok (.if_icmp .ge off, 3)) (g1 : (pc : Int) + off = (tgt : Int)) (k0_ : ((y ≤ x)) → Ev d M (tgt) ls (st) n (h) o) (k1_ : (¬ (y ≤ x)) → Ev d M (pc + 3) ls (st) n (h) o) : Ev d M (pc) ls (.int y :: .int x :: st) n (h) o := fun P hP => hP.2.2.2.2.2.2.2.2.2.2.2.2.2.2.2.2.2.2.2.2.2.2.2.2.2.2.2.2.2.2.2.2.2.2.2.2.2.2.2.2.2.2.2.2.2.2.2.2.2.2.2.2.1 _ _ _ _ _ _ _ _ _ _ _ _ g0 g1 (fun c => k0_ c P hP) (fun c => k1_ c P hP)
theorem ev_if_gt {d : Nat} {M : MI} {pc : Nat} {ls : List (Nat × Value)} {st : List Value} {n : Nat} {h : Hp} {o : Out} {off : Int} {tgt : Nat} {x : Int32} (g0 : decode (mB M) pc = .ok (.ifCond .gt off, 3)) (g1 : (pc : Int) + off = (tgt : Int)) (k0_ : ((0 < x)) → Ev d M (tgt) ls (st) n (h) o) (k1_ : (¬ (0 < x)) → Ev d M (pc + 3) ls (st) n (h) o) : Ev d M (pc) ls (.int x :: st) n (h) o := fun P hP => hP.2.2.2.2.2.2.2.2.2.2.2.2.2.2.2.2.2.2.2.2.2.2.2.2.2.2.2.2.2.2.2.2.2.2.2.2.2.2.2.2.2.2.2.2.2.2.2.2.2.2.2.2.2.1 _ _ _ _ _ _ _ _ _ _ _ g0 g1 (fun c => k0_ c P hP) (fun c => k1_ c P hP)
theorem ev_icmp_gt {d : Nat} {M : MI} {pc : Nat} {ls : List (Nat × Value)} {st : List Value} {n : Nat} {h : Hp} {o : Out} {off : Int} {tgt : Nat} {x y : Int32} (g0 : decode (mB M) pc = .ok (.if_icmp .gt off, 3)) (g1 : (pc : Int) + off = (tgt : Int)) (k0_ : ((y < x)) → Ev d M (tgt) ls (st) n (h) o) (k1_ : (¬ (y < x)) → Ev d M (pc + 3) ls (st) n (h) o) : Ev d M (pc) ls (.int y :: .int x :: st) n (h) o := fun P hP => hP.2.2.2.2.2.2.2.2.2.2.2.2.2.2.2.2.2.2.2.2.2.2.2.2.2.2.2.2.2.2.2.2.2.2.2.2.2.2.2.2.2.2.2.2.2.2.2.2.2.2.2.2.2.2.1 _ _ _ _ _ _ _ _ _ _ _ _ g0 g1 (fun c => k0_ c P hP) (fun c => k1_ c P hP)
theorem ev_if_le {d : Nat} {M : MI} {pc : Nat} {ls : List (Nat × Value)} {st : List Value} {n : Nat} {h : Hp} {o : Out} {off : Int} {tgt : Nat} {x : Int32} (g0 : decode (mB M) pc = .ok (.ifCond .le off, 3)) (g1 : (pc : Int) + off = (tgt : Int)) (k0_ : ((x ≤ 0)) → Ev d M (tgt) ls (st) n (h) o) (k1_ : (¬ (x ≤ 0)) → Ev d M (pc + 3) ls (st) n (h) o) : Ev d M (pc) ls (.int x :: st) n (h) o := fun P hP => hP.2.2.2.2.2.2.2.2.2.2.2.2.2.2.2.2.2.2.2.2.2.2.2.2.2.2.2.2.2.2.2.2.2.2.2.2.2.2.2.2.2.2.2.2.2.2.2.2.2.2.2.2.2.2.2.1 _ _ _ _ _ _ _ _ _ _ _ g0 g1 (fun c => k0_ c P hP) (fun c => k1_ c P hP)
theorem ev_icmp_le {d : Nat} {M : MI} {pc : Nat} {ls : List (Nat × Value)} {st : List Value} {n : Nat} {h : Hp} {o : Out} {off : Int} {tgt : Nat} {x y : Int32} (g0 : decode (mB M) pc = .ok (.if_icmp .le off, 3)) (g1 : (pc : Int) + off = (tgt : Int)) (k0_ : ((x ≤ y)) → Ev d M (tgt) ls (st) n (h) o) (k1_ : (¬ (x ≤ y)) → Ev d M (pc + 3) ls (st) n (h) o) : Ev d M (pc) ls (.int y :: .int x :: st) n (h) o := fun P hP => hP.2.2.2.2.2.2.2.2.2.2.2.2.2.2.2.2.2.2.2.2.2.2.2.2.2.2.2.2.2.2.2.2.2.2.2.2.2.2.2.2.2.2.2.2.2.2.2.2.2.2.2.2.2.2.2.2.1 _ _ _ _ _ _ _ _ _ _ _ _ g0 g1 (fun c => k0_ c P hP) (fun c => k1_ c P hP)
theorem ev_goto {d : Nat} {M : MI} {pc : Nat} {ls : List (Nat × Value)} {st : List Value} {n : Nat} {h : Hp} {o : Out} {off : Int} {tgt : Nat} (g0 : decode (mB M) pc = .ok (.goto off, 3)) (g1 : (pc : Int) + off = (tgt : Int)) (k0_ : Ev d M (tgt) ls (st) n (h) o) : Ev d M (pc) ls (st) n (h) o := fun P hP => hP.2.2.2.2.2.2.2.2.2.2.2.2.2.2.2.2.2.2.2.2.2.2.2.2.2.2.2.2.2.2.2.2.2.2.2.2.2.2.2.2.2.2.2.2.2.2.2.2.2.2.2.2.2.2.2.2.2.1 _ _ _ _ _ _ _ _ _ _ g0 g1 (k0_ P hP)
theorem ev_ifnull {d : Nat} {M : MI} {pc : Nat} {ls : List (Nat × Value)} {st : List Value} {n : Nat} {h : Hp} {o : Out} {off : Int} {x : Nat} (g0 : decode (mB M) pc = .ok (.ifnull off, 3)) (k0_ : Ev d M (pc + 3) ls (st) n (h) o) : Ev d M (pc) ls (.ref x :: st) n (h) o := fun P hP => hP.2.2.2.2.2.2.2.2.2.2.2.2.2.2.2.2.2.2.2.2.2.2.2.2.2.2.2.2.2.2.2.2.2.2.2.2.2.2.2.2.2.2.2.2.2.2.2.2.2.2.2.2.2.2.2.2.2.2.1 _ _ _ _ _ _ _ _ _ _ g0 (k0_ P hP)
theorem ev_ifnullN {d : Nat} {M : MI} {pc : Nat} {ls : List (Nat × Value)} {st : List Value} {n : Nat} {h : Hp} {o : Out} {off : Int} {tgt : Nat} (g0 : decode (mB M) pc = .ok (.ifnull off, 3)) (g1 : (pc : Int) + off = (tgt : Int)) (k0_ : Ev d M (tgt) ls (st) n (h) o) : Ev d M (pc) ls (.null :: st) n (h) o := fun P hP => hP.2.2.2.2.2.2.2.2.2.2.2.2.2.2.2.2.2.2.2.2.2.2.2.2.2.2.2.2.2.2.2.2.2.2.2.2.2.2.2.2.2.2.2.2.2.2.2.2.2.2.2.2.2.2.2.2.2.2.2.1 _ _ _ _ _ _ _ _ _ _ g0 g1 (k0_ P hP)
theorem ev_ifnonnull {d : Nat} {M : MI} {pc : Nat} {ls : List (Nat × Value)} {st : List Value} {n : Nat} {h : Hp} {o : Out} {off : Int} {tgt : Nat} {x : Nat} (g0 : decode (mB M) pc = .ok (.ifnonnull off, 3)) (g1 : (pc : Int) + off = (tgt : Int)) (k0_ : Ev d M (tgt) ls (st) n (h) o) : Ev d M (pc) ls (.ref x :: st) n (h) o := fun P hP => hP.2.2.2.2.2.2.2.2.2.2.2.2.2.2.2.2.2.2.2.2.2.2.2.2.2.2.2.2.2.2.2.2.2.2.2.2.2.2.2.2.2.2.2.2.2.2.2.2.2.2.2.2.2.2.2.2.2.2.2.2.1 _ _ _ _ _ _ _ _ _ _ _ g0 g1 (k0_ P hP)
theorem ev_ifnonnullN {d : Nat} {M : MI} {pc : Nat} {ls : List (Nat × Value)} {st : List Value} {n : Nat} {h : Hp} {o : Out} {off : Int} (g0 : decode (mB M) pc = .ok (.ifnonnull off, 3)) (k0_ : Ev d M (pc + 3) ls (st) n (h) o) : Ev d M (pc) ls (.null :: st) n (h) o := fun P hP => hP.2.2.2.2.2.2.2.2.2.2.2.2.2.2.2.2.2.2.2.2.2.2.2.2.2.2.2.2.2.2.2.2.2.2.2.2.2.2.2.2.2.2.2.2.2.2.2.2.2.2.2.2.2.2.2.2.2.2.2.2.2.1 _ _ _ _ _ _ _ _ _ g0 (k0_ P hP)
theorem ev_tableIn {d : Nat} {M : MI} {pc : Nat} {ls : List (Nat × Value)} {st : List Value} {n : Nat} {h : Hp} {o : Out} {dflt lo hi : Int} {offs : Array Int} {len : Nat} {x : Int32} {off : Int} {tgt : Nat} (g0 : decode (mB M) pc = .ok (.tableswitch dflt lo hi offs, len)) (g1 : ¬ x.toInt < lo) (g2 : ¬ hi < x.toInt) (g3 : offs[(x.toInt - lo).toNat]? = some off) (g4 : (pc : Int) + off = (tgt : Int)) (k0_ : Ev d M (tgt) ls (st) n (h) o) : Ev d M (pc) ls (.int x :: st) n (h) o := fun P hP => hP.2.2.2.2.2.2.2.2.2.2.2.2.2.2.2.2.2.2.2.2.2.2.2.2.2.2.2.2.2.2.2.2.2.2.2.2.2.2.2.2.2.2.2.2.2.2.2.2.2.2.2.2.2.2.2.2.2.2.2.2.2.2.1 _ _ _ _ _ _ _ _ _ _ _ _ _ _ _ _ g0 g1 g2 g3 g4 (k0_ P hP)
theorem ev_tableOut {d : Nat} {M : MI} {pc : Nat} {ls : List (Nat × Value)} {st : List Value} {n : Nat} {h : Hp} {o : Out} {dflt lo hi : Int} {offs : Array Int} {len : Nat} {x : Int32} {tgt : Nat} (g0 : decode (mB M) pc = .ok (.tableswitch dflt lo hi offs, len)) (g1 : x.toInt < lo ∨ hi < x.toInt) (g2 : (pc : Int) + dflt = (tgt : Int)) (k0_ : Ev d M (tgt) ls (st) n (h) o) : Ev d M (pc) ls (.int x :: st) n (h) o := fun P hP => hP.2.2.2.2.2.2.2.2.2.2.2.2.2.2.2.2.2.2.2.2.2.2.2.2.2.2.2.2.2.2.2.2.2.2.2.2.2.2.2.2.2.2.2.2.2.2.2.2.2.2.2.2.2.2.2.2.2.2.2.2.2.2.2.1 _ _ _ _ _ _ _ _ _ _ _ _ _ _ _ g0 g1 g2 (k0_ P hP)
theorem ev_sub {d : Nat} {M : MI} {pc : Nat} {ls : List (Nat × Value)} {st : List Value} {n : Nat} {h : Hp} {o : Out} {ls1 : List (Nat × Value)} (g0 : lsub ls1 ls) (k0_ : Ev d M (pc) ls1 (st) n (h) o) : Ev d M (pc) ls (st) n (h) o := fun P hP => hP.2.2.2.2.2.2.2.2.2.2.2.2.2.2.2.2.2.2.2.2.2.2.2.2.2.2.2.2.2.2.2.2.2.2.2.2.2.2.2.2.2.2.2.2.2.2.2.2.2.2.2.2.2.2.2.2.2.2.2.2.2.2.2.2.1 _ _ _ _ _ _ _ _ _ g0 (k0_ P hP)
theorem ev_getfield {d : Nat} {M : MI} {pc : Nat} {ls : List (Nat × Value)} {st : List Value} {n : Nat} {h : Hp} {o : Out} {idx ci k a : Nat} {fs : List Value} {v : Value} (g0 : decode (mB M) pc = .ok (.getfield idx, 3)) (g1 : am_FL (mC M) idx ci k) (g2 : h a = .inr (ci, fs)) (g3 : fs[k]? = some v) (k0_ : Ev d M (pc + 3) ls (v :: st) n (h) o) : Ev d M (pc) ls (.ref a :: st) n (h) o := fun P hP => hP.2.2.2.2.2.2.2.2.2.2.2.2.2.2.2.2.2.2.2.2.2.2.2.2.2.2.2.2.2.2.2.2.2.2.2.2.2.2.2.2.2.2.2.2.2.2.2.2.2.2.2.2.2.2.2.2.2.2.2.2.2.2.2.2.2.1 _ _ _ _ _ _ _ _ _ _ _ _ _ _ g0 g1 g2 g3 (k0_ P hP)
theorem ev_putfield {d : Nat} {M : MI} {pc : Nat} {ls : List (Nat × Value)} {st : List Value} {n : Nat} {h : Hp} {o : Out} {idx ci k a : Nat} {fs : List Value} {v : Value} (g0 : decode (mB M) pc = .ok (.putfield idx, 3)) (g1 : am_FL (mC M) idx ci k) (g2 : am_fit ci k v) (g3 : (am_fin ci k = true → (mY M).name = "<init>" ∧ am_own ci k = mC M)) (g4 : h a = .inr (ci, fs)) (g5 : k < fs.length) (k0_ : Ev d M (pc + 3) ls (st) n (va_up h a (.inr (ci, fs.set k v))) o) : Ev d M (pc) ls (v :: .ref a :: st) n (h) o := fun P hP => hP.2.2.2.2.2.2.2.2.2.2.2.2.2.2.2.2.2.2.2.2.2.2.2.2.2.2.2.2.2.2.2.2.2.2.2.2.2.2.2.2.2.2.2.2.2.2.2.2.2.2.2.2.2.2.2.2.2.2.2.2.2.2.2.2.2.2.1 _ _ _ _ _ _ _ _ _ _ _ _ _ _ g0 g1 g2 g3 g4 g5 (k0_ P hP)
theorem ev_arraylength {d : Nat} {M : MI} {pc : Nat} {ls : List (Nat × Value)} {st : List Value} {n : Nat} {h : Hp} {o : Out} {a t : Nat} {x : vp_A} (g0 : decode (mB M) pc = .ok (.arraylength, 1)) (g1 : h a = .inl (t, x)) (g2 : t < 4) (k0_ : Ev d M (pc + 1) ls (.int (Int32.ofNat x.1) :: st) n (h) o) : Ev d M (pc) ls (.ref a :: st) n (h) o := fun P hP => hP.2.2.2.2.2.2.2.2.2.2.2.2.2.2.2.2.2.2.2.2.2.2.2.2.2.2.2.2.2.2.2.2.2.2.2.2.2.2.2.2.2.2.2.2.2.2.2.2.2.2.2.2.2.2.2.2.2.2.2.2.2.2.2.2.2.2.2.1 _ _ _ _ _ _ _ _ _ _ _ g0 g1 g2 (k0_ P hP)
theorem ev_iaload {d : Nat} {M : MI} {pc : Nat} {ls : List (Nat × Value)} {st : List Value} {n : Nat} {h : Hp} {o : Out} {a len : Nat} {x : Int32} {f : Nat → Int32} (g0 : decode (mB M) pc = .ok (.iaload, 1)) (g1 : h a = .inl (0, len, .inl f)) (g2 : vp_in x len) (k0_ : Ev d M (pc + 1) ls (.int (f x.toNatClampNeg) :: st) n (h) o) : Ev d M (pc) ls (.int x :: .ref a :: st) n (h) o := fun P hP => hP.2.2.2.2.2.2.2.2.2.2.2.2.2.2.2.2.2.2.2.2.2.2.2.2.2.2.2.2.2.2.2.2.2.2.2.2.2.2.2.2.2.2.2.2.2.2.2.2.2.2.2.2.2.2.2.2.2.2.2.2.2.2.2.2.2.2.2.2.1 _ _ _ _ _ _ _ _ _ _ _ _ g0 g1 g2 (k0_ P hP)
theorem ev_baload {d : Nat} {M : MI} {pc : Nat} {ls : List (Nat × Value)} {st : List Value} {n : Nat} {h : Hp} {o : Out} {a len : Nat} {x : Int32} {f : Nat → Int32} (g0 : decode (mB M) pc = .ok (.baload, 1)) (g1 : h a = .inl (2, len, .inl f)) (g2 : vp_in x len) (k0_ : Ev d M (pc + 1) ls (.int (f x.toNatClampNeg) :: st) n (h) o) : Ev d M (pc) ls (.int x :: .ref a :: st) n (h) o := fun P hP => hP.2.2.2.2.2.2.2.2.2.2.2.2.2.2.2.2.2.2.2.2.2.2.2.2.2.2.2.2.2.2.2.2.2.2.2.2.2.2.2.2.2.2.2.2.2.2.2.2.2.2.2.2.2.2.2.2.2.2.2.2.2.2.2.2.2.2.2.2.2.1 _ _ _ _ _ _ _ _ _ _ _ _ g0 g1 g2 (k0_ P hP)
theorem ev_laload {d : Nat} {M : MI} {pc : Nat} {ls : List (Nat × Value)} {st : List Value} {n : Nat} {h : Hp} {o : Out} {a len : Nat} {x : Int32} {f : Nat → Int64} (g0 : decode (mB M) pc = .ok (.laload, 1)) (g1 : h a = .inl (1, len, .inr (.inl f))) (g2 : vp_in x len) (k0_ : Ev d M (pc + 1) ls (.long (f x.toNatClampNeg) :: st) n (h) o) : Ev d M (pc) ls (.int x :: .ref a :: st) n (h) o := fun P hP => hP.2.2.2.2.2.2.2.2.2.2.2.2.2.2.2.2.2.2.2.2.2.2.2.2.2.2.2.2.2.2.2.2.2.2.2.2.2.2.2.2.2.2.2.2.2.2.2.2.2.2.2.2.2.2.2.2.2.2.2.2.2.2.2.2.2.2.2.2.2.2.1 _ _ _ _ _ _ _ _ _ _ _ _ g0 g1 g2 (k0_ P hP)
theorem ev_aaload {d : Nat} {M : MI} {pc : Nat} {ls : List (Nat × Value)} {st : List Value} {n : Nat} {h : Hp} {o : Out} {a len : Nat} {x : Int32} {f : Nat → Option Nat} (g0 : decode (mB M) pc = .ok (.aaload, 1)) (g1 : h a = .inl (3, len, .inr (.inr (.inr (.inr f))))) (g2 : vp_in x len) (k0_ : Ev d M (pc + 1) ls (va_rf (f x.toNatClampNeg) :: st) n (h) o) : Ev d M (pc) ls (.int x :: .ref a :: st) n (h) o := fun P hP => hP.2.2.2.2.2.2.2.2.2.2.2.2.2.2.2.2.2.2.2.2.2.2.2.2.2.2.2.2.2.2.2.2.2.2.2.2.2.2.2.2.2.2.2.2.2.2.2.2.2.2.2.2.2.2.2.2.2.2.2.2.2.2.2.2.2.2.2.2.2.2.2.1 _ _ _ _ _ _ _ _ _ _ _ _ g0 g1 g2 (k0_ P hP)
theorem ev_iastore {d : Nat} {M : MI} {pc : Nat} {ls : List (Nat × Value)} {st : List Value} {n : Nat} {h : Hp} {o : Out} {a len : Nat} {x y : Int32} {f : Nat → Int32} (g0 : decode (mB M) pc = .ok (.iastore, 1)) (g1 : 2 ≤ a) (g2 : h a = .inl (0, len, .inl f)) (g3 : vp_in x len) (k0_ : Ev d M (pc + 1) ls (st) n (va_up h a (.inl (0, len, .inl (upd f x.toNatClampNeg y)))) o) : Ev d M (pc) ls (.int y :: .int x :: .ref a :: st) n (h) o := fun P hP => hP.2.2.2.2.2.2.2.2.2.2.2.2.2.2.2.2.2.2.2.2.2.2.2.2.2.2.2.2.2.2.2.2.2.2.2.2.2.2.2.2.2.2.2.2.2.2.2.2.2.2.2.2.2.2.2.2.2.2.2.2.2.2.2.2.2.2.2.2.2.2.2.2.1 _ _ _ _ _ _ _ _ _ _ _ _ _ g0 g1 g2 g3 (k0_ P hP)
theorem ev_bastore {d : Nat} {M : MI} {pc : Nat} {ls : List (Nat × Value)} {st : List Value} {n : Nat} {h : Hp} {o : Out} {a len : Nat} {x y : Int32} {f : Nat → Int32} (g0 : decode (mB M) pc = .ok (.bastore, 1)) (g1 : 2 ≤ a) (g2 : h a = .inl (2, len, .inl f)) (g3 : vp_in x len) (k0_ : Ev d M (pc + 1) ls (st) n (va_up h a (.inl (2, len, .inl (upd f x.toNatClampNeg (vp_nar .boolean y))))) o) : Ev d M (pc) ls (.int y :: .int x :: .ref a :: st) n (h) o := fun P hP => hP.2.2.2.2.2.2.2.2.2.2.2.2.2.2.2.2.2.2.2.2.2.2.2.2.2.2.2.2.2.2.2.2.2.2.2.2.2.2.2.2.2.2.2.2.2.2.2.2.2.2.2.2.2.2.2.2.2.2.2.2.2.2.2.2.2.2.2.2.2.2.2.2.2.1 _ _ _ _ _ _ _ _ _ _ _ _ _ g0 g1 g2 g3 (k0_ P hP)
theorem ev_lastore {d : Nat} {M : MI} {pc : Nat} {ls : List (Nat × Value)} {st : List Value} {n : Nat} {h : Hp} {o : Out} {a len : Nat} {x : Int32} {y : Int64} {f : Nat → Int64} (g0 : decode (mB M) pc = .ok (.lastore, 1)) (g1 : 2 ≤ a) (g2 : h a = .inl (1, len, .inr (.inl f))) (g3 : vp_in x len) (k0_ : Ev d M (pc + 1) ls (st) n (va_up h a (.inl (1, len, .inr (.inl (vp_updL f x.toNatClampNeg y))))) o) : Ev d M (pc) ls (.long y :: .int x :: .ref a :: st) n (h) o := fun P hP => hP.2.2.2.2.2.2.2.2.2.2.2.2.2.2.2.2.2.2.2.2.2.2.2.2.2.2.2.2.2.2.2.2.2.2.2.2.2.2.2.2.2.2.2.2.2.2.2.2.2.2.2.2.2.2.2.2.2.2.2.2.2.2.2.2.2.2.2.2.2.2.2.2.2.2.1 _ _ _ _ _ _ _ _ _ _ _ _ _ g0 g1 g2 g3 (k0_ P hP)
theorem ev_aastore {d : Nat} {M : MI} {pc : Nat} {ls : List (Nat × Value)} {st : List Value} {n : Nat} {h : Hp} {o : Out} {a len v : Nat} {x : Int32} {f : Nat → Option Nat} {vs : List Value} (g0 : decode (mB M) pc = .ok (.aastore, 1)) (g1 : 2 ≤ a) (g2 : h a = .inl (3, len, .inr (.inr (.inr (.inr f))))) (g3 : h v = .inr (7, vs)) (g4 : vp_in x len) (k0_ : Ev d M (pc + 1) ls (st) n (va_up h a (.inl (3, len, .inr (.inr (.inr (.inr (va_up f x.toNatClampNeg (some v)))))))) o) : Ev d M (pc) ls (.ref v :: .int x :: .ref a :: st) n (h) o := fun P hP => hP.2.2.2.2.2.2.2.2.2.2.2.2.2.2.2.2.2.2.2.2.2.2.2.2.2.2.2.2.2.2.2.2.2.2.2.2.2.2.2.2.2.2.2.2.2.2.2.2.2.2.2.2.2.2.2.2.2.2.2.2.2.2.2.2.2.2.2.2.2.2.2.2.2.2.2.1 _ _ _ _ _ _ _ _ _ _ _ _ _ _ g0 g1 g2 g3 g4 (k0_ P hP)
theorem ev_new {d : Nat} {M : MI} {pc : Nat} {ls : List (Nat × Value)} {st : List Value} {n : Nat} {h : Hp} {idx ci N : Nat} {fs : List Value} {r : Option Value ⊕ String} {n2 : Nat} {h2 : Hp} {k1 q1 : Nat} (g0 : decode (mB M) pc = .ok (.new idx, 3)) (g1 : am_NW (mC M) idx ci N fs) (k0_ : Ev d M (pc + 3) ls (.ref n :: st) (n + 1) (va_up h n (.inr (ci, fs))) (r, n2, h2, k1, q1)) : Ev d M (pc) ls (st) n (h) (r, n2, h2, 1 + k1, N + q1) := fun P hP => hP.2.2.2.2.2.2.2.2.2.2.2.2.2.2.2.2.2.2.2.2.2.2.2.2.2.2.2.2.2.2.2.2.2.2.2.2.2.2.2.2.2.2.2.2.2.2.2.2.2.2.2.2.2.2.2.2.2.2.2.2.2.2.2.2.2.2.2.2.2.2.2.2.2.2.2.2.1 _ _ _ _ _ _ _ _ _ _ _ _ _ _ _ _ g0 g1 (k0_ P hP)
theorem ev_newarray0 {d : Nat} {M : MI} {pc : Nat} {ls : List (Nat × Value)} {st : List Value} {n : Nat} {h : Hp} {x : Int32} {N : Nat} {r : Option Value ⊕ String} {n2 : Nat} {h2 : Hp} {k1 q1 : Nat} (g0 : decode (mB M) pc = .ok (.newarray .int, 2)) (g1 : x = nI N) (g2 : N < 65536) (k0_ : Ev d M (pc + 2) ls (.ref n :: st) (n + 1) (va_up h n (.inl (0, N, .inl (fun _ => 0)))) (r, n2, h2, k1, q1)) : Ev d M (pc) ls (.int x :: st) n (h) (r, n2, h2, 1 + k1, N + q1) := fun P hP => hP.2.2.2.2.2.2.2.2.2.2.2.2.2.2.2.2.2.2.2.2.2.2.2.2.2.2.2.2.2.2.2.2.2.2.2.2.2.2.2.2.2.2.2.2.2.2.2.2.2.2.2.2.2.2.2.2.2.2.2.2.2.2.2.2.2.2.2.2.2.2.2.2.2.2.2.2.2.1 _ _ _ _ _ _ _ _ _ _ _ _ _ _ g0 g1 g2 (k0_ P hP)
theorem ev_newarray1 {d : Nat} {M : MI} {pc : Nat} {ls : List (Nat × Value)} {st : List Value} {n : Nat} {h : Hp} {x : Int32} {N : Nat} {r : Option Value ⊕ String} {n2 : Nat} {h2 : Hp} {k1 q1 : Nat} (g0 : decode (mB M) pc = .ok (.newarray .long, 2)) (g1 : x = nI N) (g2 : N < 65536) (k0_ : Ev d M (pc + 2) ls (.ref n :: st) (n + 1) (va_up h n (.inl (1, N, .inr (.inl (fun _ => 0))))) (r, n2, h2, k1, q1)) : Ev d M (pc) ls (.int x :: st) n (h) (r, n2, h2, 1 + k1, N + q1) := fun P hP => hP.2.2.2.2.2.2.2.2.2.2.2.2.2.2.2.2.2.2.2.2.2.2.2.2.2.2.2.2.2.2.2.2.2.2.2.2.2.2.2.2.2.2.2.2.2.2.2.2.2.2.2.2.2.2.2.2.2.2.2.2.2.2.2.2.2.2.2.2.2.2.2.2.2.2.2.2.2.2.1 _ _ _ _ _ _ _ _ _ _ _ _ _ _ g0 g1 g2 (k0_ P hP)
theorem ev_newarray2 {d : Nat} {M : MI} {pc : Nat} {ls : List (Nat × Value)} {st : List Value} {n : Nat} {h : Hp} {x : Int32} {N : Nat} {r : Option Value ⊕ String} {n2 : Nat} {h2 : Hp} {k1 q1 : Nat} (g0 : decode (mB M) pc = .ok (.newarray .boolean, 2)) (g1 : x = nI N) (g2 : N < 65536) (k0_ : Ev d M (pc + 2) ls (.ref n :: st) (n + 1) (va_up h n (.inl (2, N, .inl (fun _ => 0)))) (r, n2, h2, k1, q1)) : Ev d M (pc) ls (.int x :: st) n (h) (r, n2, h2, 1 + k1, N + q1) := fun P hP => hP.2.2.2.2.2.2.2.2.2.2.2.2.2.2.2.2.2.2.2.2.2.2.2.2.2.2.2.2.2.2.2.2.2.2.2.2.2.2.2.2.2.2.2.2.2.2.2.2.2.2.2.2.2.2.2.2.2.2.2.2.2.2.2.2.2.2.2.2.2.2.2.2.2.2.2.2.2.2.2.1 _ _ _ _ _ _ _ _ _ _ _ _ _ _ g0 g1 g2 (k0_ P hP)
theorem ev_anewarray {d : Nat} {M : MI} {pc : Nat} {ls : List (Nat × Value)} {st : List Value} {n : Nat} {h : Hp} {x : Int32} {N idx : Nat} {r : Option Value ⊕ String} {n2 : Nat} {h2 : Hp} {k1 q1 : Nat} (g0 : decode (mB M) pc = .ok (.anewarray idx, 3)) (g1 : Cond.classLink (mC M) idx "Glosspair$SentencePair" ∈ am_ws) (g2 : x = nI N) (g3 : N < 65536) (k0_ : Ev d M (pc + 3) ls (.ref n :: st) (n + 1) (va_up h n (.inl (3, N, .inr (.inr (.inr (.inr (fun _ => none))))))) (r, n2, h2, k1, q1)) : Ev d M (pc) ls (.int x :: st) n (h) (r, n2, h2, 1 + k1, N + q1) := fun P hP => hP.2.2.2.2.2.2.2.2.2.2.2.2.2.2.2.2.2.2.2.2.2.2.2.2.2.2.2.2.2.2.2.2.2.2.2.2.2.2.2.2.2.2.2.2.2.2.2.2.2.2.2.2.2.2.2.2.2.2.2.2.2.2.2.2.2.2.2.2.2.2.2.2.2.2.2.2.2.2.2.2.1 _ _ _ _ _ _ _ _ _ _ _ _ _ _ _ g0 g1 g2 g3 (k0_ P hP)
theorem ev_getFW {d : Nat} {M : MI} {pc : Nat} {ls : List (Nat × Value)} {st : List Value} {n : Nat} {h : Hp} {o : Out} {idx : Nat} (g0 : decode (mB M) pc = .ok (.getstatic idx, 3)) (g1 : mC M = RX8) (g2 : idx = 9) (k0_ : Ev d M (pc + 3) ls (.ref 1 :: st) n (h) o) : Ev d M (pc) ls (st) n (h) o := fun P hP => hP.2.2.2.2.2.2.2.2.2.2.2.2.2.2.2.2.2.2.2.2.2.2.2.2.2.2.2.2.2.2.2.2.2.2.2.2.2.2.2.2.2.2.2.2.2.2.2.2.2.2.2.2.2.2.2.2.2.2.2.2.2.2.2.2.2.2.2.2.2.2.2.2.2.2.2.2.2.2.2.2.2.1 _ _ _ _ _ _ _ _ _ g0 g1 g2 (k0_ P hP)
theorem ev_cloneFW {d : Nat} {M : MI} {pc : Nat} {ls : List (Nat × Value)} {st : List Value} {n : Nat} {h : Hp} {idx : Nat} {r : Option Value ⊕ String} {n2 : Nat} {h2 : Hp} {k1 q1 : Nat} (g0 : decode (mB M) pc = .ok (.invokevirtual idx, 3)) (g1 : Cond.methodLink (mC M) idx ⟨"[I", "clone", "()Ljava/lang/Object;"⟩ ∈ am_ws) (g2 : csum st ≤ 8) (k0_ : Ev d M (pc + 3) ls (.ref n :: st) (n + 1) (va_up h n (.inl (0, 5, .inl am_fw))) (r, n2, h2, k1, q1)) : Ev d M (pc) ls (.ref 1 :: st) n (h) (r, n2, h2, 1 + k1, 5 + q1) := fun P hP => hP.2.2.2.2.2.2.2.2.2.2.2.2.2.2.2.2.2.2.2.2.2.2.2.2.2.2.2.2.2.2.2.2.2.2.2.2.2.2.2.2.2.2.2.2.2.2.2.2.2.2.2.2.2.2.2.2.2.2.2.2.2.2.2.2.2.2.2.2.2.2.2.2.2.2.2.2.2.2.2.2.2.2.1 _ _ _ _ _ _ _ _ _ _ _ _ _ g0 g1 g2 (k0_ P hP)
theorem ev_castI {d : Nat} {M : MI} {pc : Nat} {ls : List (Nat × Value)} {st : List Value} {n : Nat} {h : Hp} {o : Out} {idx a len : Nat} {f : Nat → Int32} (g0 : decode (mB M) pc = .ok (.checkcast idx, 3)) (g1 : Cond.classLink (mC M) idx "[I" ∈ am_ws) (g2 : 2 ≤ a) (g3 : h a = .inl (0, len, .inl f)) (k0_ : Ev d M (pc + 3) ls (.ref a :: st) n (h) o) : Ev d M (pc) ls (.ref a :: st) n (h) o := fun P hP => hP.2.2.2.2.2.2.2.2.2.2.2.2.2.2.2.2.2.2.2.2.2.2.2.2.2.2.2.2.2.2.2.2.2.2.2.2.2.2.2.2.2.2.2.2.2.2.2.2.2.2.2.2.2.2.2.2.2.2.2.2.2.2.2.2.2.2.2.2.2.2.2.2.2.2.2.2.2.2.2.2.2.2.2.1 _ _ _ _ _ _ _ _ _ _ _ _ g0 g1 g2 g3 (k0_ P hP)
theorem ev_objInit {d : Nat} {M : MI} {pc : Nat} {ls : List (Nat × Value)} {st : List Value} {n : Nat} {h : Hp} {o : Out} {idx a : Nat} (g0 : decode (mB M) pc = .ok (.invokespecial idx, 3)) (g1 : Cond.methodLink (mC M) idx Jvm.Lib.objectInit ∈ am_ws) (g2 : csum st ≤ 8) (k0_ : Ev d M (pc + 3) ls (st) n (h) o) : Ev d M (pc) ls (.ref a :: st) n (h) o := fun P hP => hP.2.2.2.2.2.2.2.2.2.2.2.2.2.2.2.2.2.2.2.2.2.2.2.2.2.2.2.2.2.2.2.2.2.2.2.2.2.2.2.2.2.2.2.2.2.2.2.2.2.2.2.2.2.2.2.2.2.2.2.2.2.2.2.2.2.2.2.2.2.2.2.2.2.2.2.2.2.2.2.2.2.2.2.2.1 _ _ _ _ _ _ _ _ _ _ g0 g1 g2 (k0_ P hP)
theorem ev_callMin {d : Nat} {M : MI} {pc : Nat} {ls : List (Nat × Value)} {st : List Value} {n : Nat} {h : Hp} {o : Out} {idx : Nat} {x y : Int32} (g0 : decode (mB M) pc = .ok (.invokestatic idx, 3)) (g1 : Cond.methodLink (mC M) idx Jvm.Lib.Math.min.name ∈ am_ws) (g2 : csum st ≤ 8) (k0_ : Ev d M (pc + 3) ls (.int (if y < x then y else x) :: st) n (h) o) : Ev d M (pc) ls (.int y :: .int x :: st) n (h) o := fun P hP => hP.2.2.2.2.2.2.2.2.2.2.2.2.2.2.2.2.2.2.2.2.2.2.2.2.2.2.2.2.2.2.2.2.2.2.2.2.2.2.2.2.2.2.2.2.2.2.2.2.2.2.2.2.2.2.2.2.2.2.2.2.2.2.2.2.2.2.2.2.2.2.2.2.2.2.2.2.2.2.2.2.2.2.2.2.2.1 _ _ _ _ _ _ _ _ _ _ _ g0 g1 g2 (k0_ P hP)
theorem ev_callAbs {d : Nat} {M : MI} {pc : Nat} {ls : List (Nat × Value)} {st : List Value} {n : Nat} {h : Hp} {o : Out} {idx : Nat} {x : Int32} (g0 : decode (mB M) pc = .ok (.invokestatic idx, 3)) (g1 : Cond.methodLink (mC M) idx Jvm.Lib.Math.abs.name ∈ am_ws) (g2 : csum st ≤ 8) (k0_ : Ev d M (pc + 3) ls (.int (if 0 ≤ x then x else 0 - x) :: st) n (h) o) : Ev d M (pc) ls (.int x :: st) n (h) o := fun P hP => hP.2.2.2.2.2.2.2.2.2.2.2.2.2.2.2.2.2.2.2.2.2.2.2.2.2.2.2.2.2.2.2.2.2.2.2.2.2.2.2.2.2.2.2.2.2.2.2.2.2.2.2.2.2.2.2.2.2.2.2.2.2.2.2.2.2.2.2.2.2.2.2.2.2.2.2.2.2.2.2.2.2.2.2.2.2.2.1 _ _ _ _ _ _ _ _ _ _ g0 g1 g2 (k0_ P hP)
theorem ev_callV {d : Nat} {M : MI} {pc : Nat} {ls : List (Nat × Value)} {st : List Value} {n : Nat} {h : Hp} {idx b : Nat} {M2 : MI} {as : List Value} {n1 : Nat} {h1 : Hp} {k1 q1 : Nat} {r : Option Value ⊕ String} {n2 : Nat} {h2 : Hp} {k2 q2 k q : Nat} {v : Option Value} {ci : Nat} {fs : List Value} (g0 : decode (mB M) pc = .ok (.invokevirtual idx, 3)) (g1 : am_SV (mC M) idx M2) (g2 : am_NA M2 as.length) (g3 : csum st ≤ 8) (g4 : csum (.ref b :: as) ≤ mL M2) (g5 : h b = .inr (ci, fs)) (g6 : am_CN ci = (mY M2).cls) (g7 : k1 + k2 = k) (g8 : q1 + q2 = q) (k0_ : Ev d M2 0 (lv_args 0 (.ref b :: as)) [] n h (.inl v, n1, h1, k1, q1)) (k1_ : Ev (d + 1) M (pc + 3) ls (v.toList ++ st) n1 (h1) (r, n2, h2, k2, q2)) : Ev (d + 1) M (pc) ls (as.reverse ++ .ref b :: st) n (h) (r, n2, h2, k, q) := fun P hP => hP.2.2.2.2.2.2.2.2.2.2.2.2.2.2.2.2.2.2.2.2.2.2.2.2.2.2.2.2.2.2.2.2.2.2.2.2.2.2.2.2.2.2.2.2.2.2.2.2.2.2.2.2.2.2.2.2.2.2.2.2.2.2.2.2.2.2.2.2.2.2.2.2.2.2.2.2.2.2.2.2.2.2.2.2.2.2.2.1 _ _ _ _ _ _ _ _ _ _ _ _ _ _ _ _ _ _ _ _ _ _ _ _ _ g0 g1 g2 g3 g4 g5 g6 g7 g8 (k0_ P hP) (k1_ P hP)
theorem ev_callS {d : Nat} {M : MI} {pc : Nat} {ls : List (Nat × Value)} {st : List Value} {n : Nat} {h : Hp} {idx : Nat} {M2 : MI} {as : List Value} {n1 : Nat} {h1 : Hp} {k1 q1 : Nat} {r : Option Value ⊕ String} {n2 : Nat} {h2 : Hp} {k2 q2 k q : Nat} {v : Option Value} (g0 : decode (mB M) pc = .ok (.invokestatic idx, 3)) (g1 : am_SS (mC M) idx M2) (g2 : am_NA M2 as.length) (g3 : csum st ≤ 8) (g4 : csum as ≤ mL M2) (g5 : k1 + k2 = k) (g6 : q1 + q2 = q) (k0_ : Ev d M2 0 (lv_args 0 as) [] n h (.inl v, n1, h1, k1, q1)) (k1_ : Ev (d + 1) M (pc + 3) ls (v.toList ++ st) n1 (h1) (r, n2, h2, k2, q2)) : Ev (d + 1) M (pc) ls (as.reverse ++ st) n (h) (r, n2, h2, k, q) := fun P hP => hP.2.2.2.2.2.2.2.2.2.2.2.2.2.2.2.2.2.2.2.2.2.2.2.2.2.2.2.2.2.2.2.2.2.2.2.2.2.2.2.2.2.2.2.2.2.2.2.2.2.2.2.2.2.2.2.2.2.2.2.2.2.2.2.2.2.2.2.2.2.2.2.2.2.2.2.2.2.2.2.2.2.2.2.2.2.2.2.2.1 _ _ _ _ _ _ _ _ _ _ _ _ _ _ _ _ _ _ _ _ _ _ g0 g1 g2 g3 g4 g5 g6 (k0_ P hP) (k1_ P hP)
theorem ev_callT {d : Nat} {M : MI} {pc : Nat} {ls : List (Nat × Value)} {st : List Value} {n : Nat} {h : Hp} {idx : Nat} {M2 : MI} {as : List Value} {n1 : Nat} {h1 : Hp} {k1 q1 : Nat} {r : Option Value ⊕ String} {n2 : Nat} {h2 : Hp} {k2 q2 k q : Nat} {v : Option Value} (g0 : decode (mB M) pc = .ok (.invokestatic idx, 3)) (g1 : am_ST (mC M) idx M2) (g2 : am_NA M2 as.length) (g3 : csum st ≤ 8) (g4 : csum as ≤ mL M2) (g5 : k1 + k2 = k) (g6 : q1 + q2 = q) (k0_ : Ev d M2 0 (lv_args 0 as) [] n h (.inl v, n1, h1, k1, q1)) (k1_ : Ev (d + 1) M (pc + 3) ls (v.toList ++ st) n1 (h1) (r, n2, h2, k2, q2)) : Ev (d + 1) M (pc) ls (as.reverse ++ st) n (h) (r, n2, h2, k, q) := fun P hP => hP.2.2.2.2.2.2.2.2.2.2.2.2.2.2.2.2.2.2.2.2.2.2.2.2.2.2.2.2.2.2.2.2.2.2.2.2.2.2.2.2.2.2.2.2.2.2.2.2.2.2.2.2.2.2.2.2.2.2.2.2.2.2.2.2.2.2.2.2.2.2.2.2.2.2.2.2.2.2.2.2.2.2.2.2.2.2.2.2.2.1 _ _ _ _ _ _ _ _ _ _ _ _ _ _ _ _ _ _ _ _ _ _ g0 g1 g2 g3 g4 g5 g6 (k0_ P hP) (k1_ P hP)
theorem ev_callI {d : Nat} {M : MI} {pc : Nat} {ls : List (Nat × Value)} {st : List Value} {n : Nat} {h : Hp} {idx b : Nat} {M2 : MI} {as : List Value} {n1 : Nat} {h1 : Hp} {k1 q1 : Nat} {r : Option Value ⊕ String} {n2 : Nat} {h2 : Hp} {k2 q2 k q : Nat} {v : Option Value} (g0 : decode (mB M) pc = .ok (.invokespecial idx, 3)) (g1 : am_SI (mC M) idx M2) (g2 : am_NA M2 as.length) (g3 : csum st ≤ 8) (g4 : csum (.ref b :: as) ≤ mL M2) (g5 : k1 + k2 = k) (g6 : q1 + q2 = q) (k0_ : Ev d M2 0 (lv_args 0 (.ref b :: as)) [] n h (.inl v, n1, h1, k1, q1)) (k1_ : Ev (d + 1) M (pc + 3) ls (v.toList ++ st) n1 (h1) (r, n2, h2, k2, q2)) : Ev (d + 1) M (pc) ls (as.reverse ++ .ref b :: st) n (h) (r, n2, h2, k, q) := fun P hP => hP.2.2.2.2.2.2.2.2.2.2.2.2.2.2.2.2.2.2.2.2.2.2.2.2.2.2.2.2.2.2.2.2.2.2.2.2.2.2.2.2.2.2.2.2.2.2.2.2.2.2.2.2.2.2.2.2.2.2.2.2.2.2.2.2.2.2.2.2.2.2.2.2.2.2.2.2.2.2.2.2.2.2.2.2.2.2.2.2.2.2.1 _ _ _ _ _ _ _ _ _ _ _ _ _ _ _ _ _ _ _ _ _ _ _ g0 g1 g2 g3 g4 g5 g6 (k0_ P hP) (k1_ P hP)
theorem ev_callN {d : Nat} {M : MI} {pc : Nat} {ls : List (Nat × Value)} {st : List Value} {n : Nat} {h : Hp} {idx b : Nat} {M2 : MI} {as : List Value} {n1 : Nat} {h1 : Hp} {k1 q1 : Nat} {r : Option Value ⊕ String} {n2 : Nat} {h2 : Hp} {k2 q2 k q : Nat} {v : Option Value} (g0 : decode (mB M) pc = .ok (.invokespecial idx, 3)) (g1 : am_SN (mC M) idx M2) (g2 : am_NA M2 as.length) (g3 : csum st ≤ 8) (g4 : csum (.ref b :: as) ≤ mL M2) (g5 : k1 + k2 = k) (g6 : q1 + q2 = q) (k0_ : Ev d M2 0 (lv_args 0 (.ref b :: as)) [] n h (.inl v, n1, h1, k1, q1)) (k1_ : Ev (d + 1) M (pc + 3) ls (v.toList ++ st) n1 (h1) (r, n2, h2, k2, q2)) : Ev (d + 1) M (pc) ls (as.reverse ++ .ref b :: st) n (h) (r, n2, h2, k, q) := fun P hP => hP.2.2.2.2.2.2.2.2.2.2.2.2.2.2.2.2.2.2.2.2.2.2.2.2.2.2.2.2.2.2.2.2.2.2.2.2.2.2.2.2.2.2.2.2.2.2.2.2.2.2.2.2.2.2.2.2.2.2.2.2.2.2.2.2.2.2.2.2.2.2.2.2.2.2.2.2.2.2.2.2.2.2.2.2.2.2.2.2.2.2.2.1 _ _ _ _ _ _ _ _ _ _ _ _ _ _ _ _ _ _ _ _ _ _ _ g0 g1 g2 g3 g4 g5 g6 (k0_ P hP) (k1_ P hP)
theorem ev_callZ {d : Nat} {M : MI} {pc : Nat} {ls : List (Nat × Value)} {st : List Value} {n : Nat} {h : Hp} {idx : Nat} {M2 : MI} {as : List Value} {n1 : Nat} {h1 : Hp} {k1 q1 : Nat} {r : Option Value ⊕ String} {n2 : Nat} {h2 : Hp} {k2 q2 k q : Nat} {v : Option Value} (g0 : decode (mB M) pc = .ok (.invokestatic idx, 3)) (g1 : am_SZ (mC M) idx M2) (g2 : am_NA M2 as.length) (g3 : csum st ≤ 8) (g4 : csum as ≤ mL M2) (g5 : k1 + k2 = k) (g6 : q1 + q2 = q) (k0_ : Ev d M2 0 (lv_args 0 as) [] n h (.inl v, n1, h1, k1, q1)) (k1_ : Ev (d + 1) M (pc + 3) ls (v.toList ++ st) n1 (h1) (r, n2, h2, k2, q2)) : Ev (d + 1) M (pc) ls (as.reverse ++ st) n (h) (r, n2, h2, k, q) := fun P hP => hP.2.2.2.2.2.2.2.2.2.2.2.2.2.2.2.2.2.2.2.2.2.2.2.2.2.2.2.2.2.2.2.2.2.2.2.2.2.2.2.2.2.2.2.2.2.2.2.2.2.2.2.2.2.2.2.2.2.2.2.2.2.2.2.2.2.2.2.2.2.2.2.2.2.2.2.2.2.2.2.2.2.2.2.2.2.2.2.2.2.2.2.2.1 _ _ _ _ _ _ _ _ _ _ _ _ _ _ _ _ _ _ _ _ _ _ g0 g1 g2 g3 g4 g5 g6 (k0_ P hP) (k1_ P hP)
theorem ev_callVx {d : Nat} {M : MI} {pc : Nat} {ls : List (Nat × Value)} {st : List Value} {n : Nat} {h : Hp} {idx b : Nat} {M2 : MI} {as : List Value} {n1 : Nat} {h1 : Hp} {k1 q1 : Nat} {E : String} {ci : Nat} {fs : List Value} (g0 : decode (mB M) pc = .ok (.invokevirtual idx, 3)) (g1 : am_SV (mC M) idx M2) (g2 : am_NA M2 as.length) (g3 : csum st ≤ 8) (g4 : csum (.ref b :: as) ≤ mL M2) (g5 : h b = .inr (ci, fs)) (g6 : am_CN ci = (mY M2).cls) (g7 : mH M = []) (k0_ : Ev d M2 0 (lv_args 0 (.ref b :: as)) [] n h (.inr E, n1, h1, k1, q1)) : Ev (d + 1) M (pc) ls (as.reverse ++ .ref b :: st) n (h) (.inr E, n1, h1, k1, q1) := fun P hP => hP.2.2.2.2.2.2.2.2.2.2.2.2.2.2.2.2.2.2.2.2.2.2.2.2.2.2.2.2.2.2.2.2.2.2.2.2.2.2.2.2.2.2.2.2.2.2.2.2.2.2.2.2.2.2.2.2.2.2.2.2.2.2.2.2.2.2.2.2.2.2.2.2.2.2.2.2.2.2.2.2.2.2.2.2.2.2.2.2.2.2.2.2.2.1 _ _ _ _ _ _ _ _ _ _ _ _ _ _ _ _ _ _ g0 g1 g2 g3 g4 g5 g6 g7 (k0_ P hP)
theorem ev_callVc {d : Nat} {M : MI} {pc : Nat} {ls : List (Nat × Value)} {st : List Value} {n : Nat} {h : Hp} {idx b : Nat} {M2 : MI} {as : List Value} {n1 : Nat} {h1 : Hp} {k1 q1 : Nat} {r : Option Value ⊕ String} {n2 : Nat} {h2 : Hp} {k2 q2 k q : Nat} {E : String} {ci : Nat} {fs : List Value} {hpc hk hl : Nat} (g0 : decode (mB M) pc = .ok (.invokevirtual idx, 3)) (g1 : am_SV (mC M) idx M2) (g2 : am_NA M2 as.length) (g3 : csum st ≤ 8) (g4 : csum (.ref b :: as) ≤ mL M2) (g5 : h b = .inr (ci, fs)) (g6 : am_CN ci = (mY M2).cls) (g7 : am_HD (mC M) (mH M) pc E hpc) (g8 : (decode (mB M) hpc = .ok (.astore hk, 2) ∧ hl = 2) ∨ ∃ z : Fin 4, hk = (z : Nat) ∧ decode (mB M) hpc = .ok (.astore_n z, 1) ∧ hl = 1) (g9 : hk < mL M) (g10 : k1 + k2 = k) (g11 : q1 + q2 = q) (k0_ : Ev d M2 0 (lv_args 0 (.ref b :: as)) [] n h (.inr E, n1, h1, k1, q1)) (k1_ : Ev (d + 1) M (hpc + hl) (lrm ls hk) ([]) n1 (h1) (r, n2, h2, k2, q2)) : Ev (d + 1) M (pc) ls (as.reverse ++ .ref b :: st) n (h) (r, n2, h2, k, q) := fun P hP => hP.2.2.2.2.2.2.2.2.2.2.2.2.2.2.2.2.2.2.2.2.2.2.2.2.2.2.2.2.2.2.2.2.2.2.2.2.2.2.2.2.2.2.2.2.2.2.2.2.2.2.2.2.2.2.2.2.2.2.2.2.2.2.2.2.2.2.2.2.2.2.2.2.2.2.2.2.2.2.2.2.2.2.2.2.2.2.2.2.2.2.2.2.2.2.1 _ _ _ _ _ _ _ _ _ _ _ _ _ _ _ _ _ _ _ _ _ _ _ _ _ _ _ _ g0 g1 g2 g3 g4 g5 g6 g7 g8 g9 g10 g11 (k0_ P hP) (k1_ P hP)
theorem ev_throwS {d : Nat} {M : MI} {pc : Nat} {ls : List (Nat × Value)} {st : List Value} {n : Nat} {h : Hp} {E : String} (g0 : am_TH M pc E) (g1 : csum st ≤ 8) (g2 : mH M = [])  : Ev d M (pc) ls (st) n (h) (.inr E, n, h, 1, 6) := fun P hP => hP.2.2.2.2.2.2.2.2.2.2.2.2.2.2.2.2.2.2.2.2.2.2.2.2.2.2.2.2.2.2.2.2.2.2.2.2.2.2.2.2.2.2.2.2.2.2.2.2.2.2.2.2.2.2.2.2.2.2.2.2.2.2.2.2.2.2.2.2.2.2.2.2.2.2.2.2.2.2.2.2.2.2.2.2.2.2.2.2.2.2.2.2.2.2.2.1 _ _ _ _ _ _ _ _ g0 g1 g2 
theorem ev_ireturn {d : Nat} {M : MI} {pc : Nat} {ls : List (Nat × Value)} {n : Nat} {h : Hp} {v : Int32} (g0 : decode (mB M) pc = .ok (.ireturn, 1)) (g1 : mR M = some .int)  : Ev d M (pc) ls ([.int v]) n (h) (.inl (some (.int v)), n, h, 0, 0) := fun P hP => hP.2.2.2.2.2.2.2.2.2.2.2.2.2.2.2.2.2.2.2.2.2.2.2.2.2.2.2.2.2.2.2.2.2.2.2.2.2.2.2.2.2.2.2.2.2.2.2.2.2.2.2.2.2.2.2.2.2.2.2.2.2.2.2.2.2.2.2.2.2.2.2.2.2.2.2.2.2.2.2.2.2.2.2.2.2.2.2.2.2.2.2.2.2.2.2.2.1 _ _ _ _ _ _ _ g0 g1 
theorem ev_zreturn {d : Nat} {M : MI} {pc : Nat} {ls : List (Nat × Value)} {n : Nat} {h : Hp} {v : Int32} (g0 : decode (mB M) pc = .ok (.ireturn, 1)) (g1 : mR M = some .boolean) (g2 : v = 0 ∨ v = 1)  : Ev d M (pc) ls ([.int v]) n (h) (.inl (some (.int v)), n, h, 0, 0) := fun P hP => hP.2.2.2.2.2.2.2.2.2.2.2.2.2.2.2.2.2.2.2.2.2.2.2.2.2.2.2.2.2.2.2.2.2.2.2.2.2.2.2.2.2.2.2.2.2.2.2.2.2.2.2.2.2.2.2.2.2.2.2.2.2.2.2.2.2.2.2.2.2.2.2.2.2.2.2.2.2.2.2.2.2.2.2.2.2.2.2.2.2.2.2.2.2.2.2.2.2.1 _ _ _ _ _ _ _ g0 g1 g2 
theorem ev_lreturn {d : Nat} {M : MI} {pc : Nat} {ls : List (Nat × Value)} {n : Nat} {h : Hp} {v : Int64} (g0 : decode (mB M) pc = .ok (.lreturn, 1)) (g1 : mR M = some .long)  : Ev d M (pc) ls ([.long v]) n (h) (.inl (some (.long v)), n, h, 0, 0) := fun P hP => hP.2.2.2.2.2.2.2.2.2.2.2.2.2.2.2.2.2.2.2.2.2.2.2.2.2.2.2.2.2.2.2.2.2.2.2.2.2.2.2.2.2.2.2.2.2.2.2.2.2.2.2.2.2.2.2.2.2.2.2.2.2.2.2.2.2.2.2.2.2.2.2.2.2.2.2.2.2.2.2.2.2.2.2.2.2.2.2.2.2.2.2.2.2.2.2.2.2.2.1 _ _ _ _ _ _ _ g0 g1 
theorem ev_areturn {d : Nat} {M : MI} {pc : Nat} {ls : List (Nat × Value)} {n : Nat} {h : Hp} {v : Value} {cn : String} (g0 : decode (mB M) pc = .ok (.areturn, 1)) (g1 : mR M = some (.object cn)) (g2 : v = .null ∨ ∃ a, v = .ref a)  : Ev d M (pc) ls ([v]) n (h) (.inl (some v), n, h, 0, 0) := fun P hP => hP.2.2.2.2.2.2.2.2.2.2.2.2.2.2.2.2.2.2.2.2.2.2.2.2.2.2.2.2.2.2.2.2.2.2.2.2.2.2.2.2.2.2.2.2.2.2.2.2.2.2.2.2.2.2.2.2.2.2.2.2.2.2.2.2.2.2.2.2.2.2.2.2.2.2.2.2.2.2.2.2.2.2.2.2.2.2.2.2.2.2.2.2.2.2.2.2.2.2.2.1 _ _ _ _ _ _ _ _ g0 g1 g2 
theorem ev_vreturn {d : Nat} {M : MI} {pc : Nat} {ls : List (Nat × Value)} {n : Nat} {h : Hp}  (g0 : decode (mB M) pc = .ok (.return_, 1)) (g1 : mR M = none)  : Ev d M (pc) ls ([]) n (h) (.inl none, n, h, 0, 0) := fun P hP => hP.2.2.2.2.2.2.2.2.2.2.2.2.2.2.2.2.2.2.2.2.2.2.2.2.2.2.2.2.2.2.2.2.2.2.2.2.2.2.2.2.2.2.2.2.2.2.2.2.2.2.2.2.2.2.2.2.2.2.2.2.2.2.2.2.2.2.2.2.2.2.2.2.2.2.2.2.2.2.2.2.2.2.2.2.2.2.2.2.2.2.2.2.2.2.2.2.2.2.2.2 _ _ _ _ _ _ g0 g1 
end
section
/-! SOUNDNESS, first half: worlds by places, what a frame is, calls -/
def am_A (B0 : Nat) : Nat → Prop := fun q => B0 ≤ q
def am_okE (n : Nat) : va_E → Prop
  | .inl (_, _, .inr (.inr (.inr (.inr f)))) => ∀ j k, f j = some k → k < n
  | .inl _ => True
  | .inr (_, fs) => ∀ v ∈ fs, am_ok n v
def am_CL (n : Nat) (h : Hp) : Prop := ∀ k, k < n → am_okE n (h k)
def cE (cy : Nat → ClassId) (ad : Nat → Nat) : va_E → va_E
  | .inl (t, len, .inr (.inr (.inr (.inr f)))) => .inl (cy t, len, .inr (.inr (.inr (.inr (fun j => (f j).map ad)))))
  | .inl (t, len, .inr (.inr (.inr (.inl f)))) => .inl (cy t, len, .inr (.inr (.inr (.inl f))))
  | .inl (t, len, .inr (.inr (.inl f))) => .inl (cy t, len, .inr (.inr (.inl f)))
  | .inl (t, len, .inr (.inl f)) => .inl (cy t, len, .inr (.inl f))
  | .inl (t, len, .inl f) => .inl (cy t, len, .inl f)
  | .inr (c, fs) => .inr (c, fs.map (cV ad))
def cvP (ad : Nat → Nat) (q : Nat × Value) : Nat × Value := (q.1, cV ad q.2)
def wl (cy : Nat → ClassId) (ad : Nat → Nat) (h : Hp) (n : Nat) : va_W := (List.range (n - 2)).map (fun k => (ad (k + 2), cE cy ad (h (k + 2))))
def am_tys (cy : Nat → ClassId) : List (ClassId × FieldType) := [(cy 0, .int), (cy 1, .long), (cy 2, .boolean), (cy 3, .object "Glosspair$SentencePair")]
theorem am_ok_mono {n n' : Nat} (hn : n ≤ n') {v : Value} (h : am_ok n v) : am_ok n' v := by
  cases v <;> first | trivial | exact Nat.lt_of_lt_of_le h hn
theorem am_okE_mono {n n' : Nat} (hn : n ≤ n') {e : va_E} (h : am_okE n e) : am_okE n' e := by
  rcases e with ⟨t, len, f | f | f | f | f⟩ | ⟨c, fs⟩
  · trivial
  · trivial
  · trivial
  · trivial
  · exact fun j k hj => Nat.lt_of_lt_of_le (h j k hj) hn
  · exact fun v hv => am_ok_mono hn (h v hv)
theorem cV_congr {n : Nat} {ad ad' : Nat → Nat} (ha : ∀ k, k < n → ad' k = ad k) {v : Value} (h : am_ok n v) : cV ad' v = cV ad v := by
  cases v <;> first | rfl | exact congrArg Value.ref (ha _ h)
theorem cV_cat (ad : Nat → Nat) (v : Value) : (cV ad v).category = v.category := by cases v <;> rfl
theorem cE_congr {cy : Nat → ClassId} {n : Nat} {ad ad' : Nat → Nat} (ha : ∀ k, k < n → ad' k = ad k) {e : va_E} (h : am_okE n e) : cE cy ad' e = cE cy ad e := by
  rcases e with ⟨t, len, f | f | f | f | f⟩ | ⟨c, fs⟩
  · rfl
  · rfl
  · rfl
  · rfl
  · have : (fun j => (f j).map ad') = fun j => (f j).map ad := by
      funext j
      cases hj : f j with
      | none => rfl
      | some k => exact congrArg some (ha k (h j k hj))
    show (Sum.inl (cy t, len, Sum.inr (Sum.inr (Sum.inr (Sum.inr (fun j => (f j).map ad'))))) : va_E) = _
    rw [this]
    rfl
  · exact congrArg (fun l => (Sum.inr (c, l) : va_E)) (List.map_congr_left fun v hv => cV_congr ha (h v hv))
theorem wl_get {cy : Nat → ClassId} {ad : Nat → Nat} {h : Hp} {n a : Nat} (h2 : 2 ≤ a) (hn : a < n) : (wl cy ad h n)[a - 2]? = some (ad a, cE cy ad (h a)) := by
  have e : a - 2 + 2 = a := by omega
  unfold wl
  rw [List.getElem?_map, List.getElem?_range (by omega)]
  show some (ad (a - 2 + 2), cE cy ad (h (a - 2 + 2))) = _
  rw [e]
theorem wl_len (cy : Nat → ClassId) (ad : Nat → Nat) (h : Hp) (n : Nat) : (wl cy ad h n).length = n - 2 := by simp [wl]
theorem wl_set {cy : Nat → ClassId} {ad : Nat → Nat} {h : Hp} {n a : Nat} {e : va_E} (h2 : 2 ≤ a) (hn : a < n) : (wl cy ad h n).set (a - 2) (ad a, cE cy ad e) = wl cy ad (va_up h a e) n := by
  apply List.ext_getElem?
  intro i
  by_cases hi : i < n - 2
  · by_cases hia : a - 2 = i
    · subst hia
      rw [List.getElem?_set_self (by rw [wl_len]; exact hi), wl_get h2 hn]
      simp [va_up]
    · rw [List.getElem?_set_ne hia]
      unfold wl
      rw [List.getElem?_map, List.getElem?_map, List.getElem?_range hi]
      show some (ad (i + 2), cE cy ad (h (i + 2))) = some (ad (i + 2), cE cy ad (va_up h a e (i + 2)))
      have : i + 2 ≠ a := by omega
      simp [va_up, this]
  · rw [List.getElem?_eq_none (by rw [List.length_set, wl_len]; omega), List.getElem?_eq_none (by rw [wl_len]; omega)]
theorem wl_push {cy : Nat → ClassId} {ad : Nat → Nat} {h : Hp} {n q : Nat} {e e' : va_E} (h2 : 2 ≤ n) (hc : am_CL n h) (he : cE cy (va_up ad n q) e = e') : wl cy ad h n ++ [(q, e')] = wl cy (va_up ad n q) (va_up h n e) (n + 1) := by
  have hag : ∀ k, k < n → va_up ad n q k = ad k := fun k hk => by simp [va_up, Nat.ne_of_lt hk]
  apply List.ext_getElem?
  intro i
  by_cases hi : i < n - 2
  · rw [List.getElem?_append_left (by rw [wl_len]; exact hi)]
    unfold wl
    rw [List.getElem?_map, List.getElem?_map, List.getElem?_range hi, List.getElem?_range (by omega)]
    show some (ad (i + 2), cE cy ad (h (i + 2))) = some (va_up ad n q (i + 2), cE cy (va_up ad n q) (va_up h n e (i + 2)))
    have h3 : i + 2 < n := by omega
    rw [hag _ h3, show va_up h n e (i + 2) = h (i + 2) by simp [va_up, Nat.ne_of_lt h3], cE_congr hag (hc _ h3)]
  · rw [List.getElem?_append_right (by rw [wl_len]; omega), wl_len]
    by_cases hz : i = n - 2
    · subst hz
      rw [show n - 2 - (n - 2) = 0 by omega, wl_get (a := n) h2 (by omega)]
      simp [va_up, he]
    · rw [List.getElem?_eq_none (by simp; omega), List.getElem?_eq_none (by rw [wl_len]; omega)]
/-- the locals, place by place -/
theorem lk_mem {ls : List (Nat × Value)} {k : Nat} {v : Value} (h : lk ls k = some v) : (k, v) ∈ ls := by
  induction ls with
  | nil => cases h
  | cons q t ih =>
    obtain ⟨j, u⟩ := q
    unfold lk at h
    cases hb : Nat.beq j k with
    | true =>
      rw [hb] at h
      cases h
      have := Nat.eq_of_beq_eq_true hb
      subst this
      exact List.mem_cons_self
    | false =>
      rw [hb] at h
      exact List.mem_cons_of_mem _ (ih h)
theorem lk_has {la : Array Slot} {N : Nat} {ls : List (Nat × Value)} {ad : Nat → Nat} (hl : lv_has la N (ls.map (cvP ad))) {k : Nat} {v : Value} (h : lk ls k = some v) : la[k]? = some (.val (cV ad v)) := hl.2.2 (k, cV ad v) (List.mem_map.mpr ⟨(k, v), lk_mem h, rfl⟩)
theorem am_beq (a b : Nat) : (a == b) = Nat.beq a b := by
  rw [Bool.eq_iff_iff, beq_iff_eq, Nat.beq_eq]
theorem lrm_map (ad : Nat → Nat) (i : Nat) : ∀ ls : List (Nat × Value), (ls.map (cvP ad)).filter (fun q => !(q.1 == i) && !(q.1 + 1 == i && q.2.category == 2)) = (lrm ls i).map (cvP ad)
  | [] => rfl
  | (j, v) :: t => by
    have ih := lrm_map ad i t
    have e1 : (j == i) = Nat.beq j i := am_beq j i
    have e2 : (j + 1 == i) = Nat.beq (j + 1) i := am_beq _ _
    have e3 : ((cV ad v).category == 2) = Nat.beq v.category 2 := by rw [cV_cat]; exact am_beq _ _
    show List.filter _ ((j, cV ad v) :: t.map (cvP ad)) = (cond (Nat.beq j i || (Nat.beq (j + 1) i && Nat.beq v.category 2)) (lrm t i) ((j, v) :: lrm t i)).map (cvP ad)
    rw [List.filter_cons]
    show (if (!(j == i) && !(j + 1 == i && (cV ad v).category == 2)) = true then _ else _) = _
    rw [e1, e2, e3]
    cases Nat.beq j i <;> cases Nat.beq (j + 1) i <;> cases Nat.beq v.category 2 <;> first | exact congrArg (List.cons (j, cV ad v)) ih | exact ih
theorem lrm2_map (ad : Nat → Nat) (i : Nat) : ∀ ls : List (Nat × Value), (ls.map (cvP ad)).filter (fun q => !(q.1 == i) && (!(q.1 == i + 1) && !(q.1 + 1 == i && q.2.category == 2))) = (lrm2 ls i).map (cvP ad)
  | [] => rfl
  | (j, v) :: t => by
    have ih := lrm2_map ad i t
    have e1 : (j == i) = Nat.beq j i := am_beq j i
    have e4 : (j == i + 1) = Nat.beq j (i + 1) := am_beq _ _
    have e2 : (j + 1 == i) = Nat.beq (j + 1) i := am_beq _ _
    have e3 : ((cV ad v).category == 2) = Nat.beq v.category 2 := by rw [cV_cat]; exact am_beq _ _
    show List.filter _ ((j, cV ad v) :: t.map (cvP ad)) = (cond (Nat.beq j i || (Nat.beq j (i + 1) || (Nat.beq (j + 1) i && Nat.beq v.category 2))) (lrm2 t i) ((j, v) :: lrm2 t i)).map (cvP ad)
    rw [List.filter_cons]
    show (if (!(j == i) && (!(j == i + 1) && !(j + 1 == i && (cV ad v).category == 2))) = true then _ else _) = _
    rw [e1, e2, e3, e4]
    cases Nat.beq j i <;> cases Nat.beq j (i + 1) <;> cases Nat.beq (j + 1) i <;> cases Nat.beq v.category 2 <;> first | exact congrArg (List.cons (j, cV ad v)) ih | exact ih
theorem lrm_sub {i : Nat} : ∀ {ls : List (Nat × Value)} {q : Nat × Value}, q ∈ lrm ls i → q ∈ ls
  | [], q, h => by cases h
  | (j, v) :: t, q, h => by
    unfold lrm at h
    cases hb : (Nat.beq j i || (Nat.beq (j + 1) i && Nat.beq v.category 2)) with
    | true => rw [hb] at h; exact List.mem_cons_of_mem _ (lrm_sub h)
    | false =>
      rw [hb] at h
      rcases List.mem_cons.mp h with h | h
      · exact List.mem_cons.mpr (Or.inl h)
      · exact List.mem_cons_of_mem _ (lrm_sub h)
theorem lrm2_sub {i : Nat} : ∀ {ls : List (Nat × Value)} {q : Nat × Value}, q ∈ lrm2 ls i → q ∈ ls
  | [], q, h => by cases h
  | (j, v) :: t, q, h => by
    unfold lrm2 at h
    cases hb : (Nat.beq j i || (Nat.beq j (i + 1) || (Nat.beq (j + 1) i && Nat.beq v.category 2))) with
    | true => rw [hb] at h; exact List.mem_cons_of_mem _ (lrm2_sub h)
    | false =>
      rw [hb] at h
      rcases List.mem_cons.mp h with h | h
      · exact List.mem_cons.mpr (Or.inl h)
      · exact List.mem_cons_of_mem _ (lrm2_sub h)
theorem lsub_mem {ls : List (Nat × Value)} : ∀ {l1 : List (Nat × Value)}, lsub l1 ls → ∀ q ∈ l1, q ∈ ls
  | [], _, q, h => by cases h
  | (j, v) :: t, hs, q, h => by
    rcases List.mem_cons.mp h with h | h
    · rw [h]; exact lk_mem hs.1
    · exact lsub_mem hs.2 q h
theorem args_map (ad : Nat → Nat) : ∀ (vs : List Value) (i : Nat), lv_args i (vs.map (cV ad)) = (lv_args i vs).map (cvP ad)
  | [], _ => rfl
  | v :: vs, i => by
    show (i, cV ad v) :: lv_args (if (cV ad v).category = 2 then i + 2 else i + 1) (vs.map (cV ad)) = (i, cV ad v) :: (lv_args (if v.category = 2 then i + 2 else i + 1) vs).map (cvP ad)
    rw [cV_cat, args_map ad vs]
theorem args_mem : ∀ {vs : List Value} {i : Nat} {q : Nat × Value}, q ∈ lv_args i vs → q.2 ∈ vs
  | [], _, q, h => by cases h
  | v :: vs, i, q, h => by
    rcases List.mem_cons.mp h with h | h
    · rw [h]; exact List.mem_cons_self
    · exact List.mem_cons_of_mem _ (args_mem h)
/-- the machine's world outside -/
def am_Env (B0 b fw L : Nat) (xs : Nat → Int32) (U : State) : Prop :=
  va_X b L xs U U.heap ∧ b < B0 ∧ va_X fw 5 am_fw U U.heap ∧ fw < B0 ∧ va_Z "Glosspair" "FIRST_WEIGHTS" "[I" (.ref fw) (am_A B0) U U.heap ∧ vx_Zq Bundle.tN "UNASSIGNED_STACK" Bundle.steD (am_A B0) U U.heap ∧ vx_Zq Bundle.tN "SUPPRESSED_SENTINEL" Bundle.listD (am_A B0) U U.heap ∧ (∀ q ∈ am_strs, ∃ sa, vk_R q.1 q.2.1 q.2.2 sa U) ∧ (∀ q ∈ am_nests, va_Nw (.methodLinkNest q.1 q.2.1 q.2.2.1 q.2.2.2) U) ∧ va_Nw (.fieldLinkNest "Glosspair$Weights" 9 "Glosspair" "FIRST_WEIGHTS" "[I" "Glosspair") U ∧ (∀ q ∈ am_cas, va_Nw (.castable q.1 q.2) U) ∧ (∀ q ∈ am_ncs, va_Nc q.1 q.2 U) ∧ va_AO "Glosspair$SentencePair" U ∧ (∀ x ∈ am_decs, va_Nw (.declares x) U) ∧ (∃ scr : Cell, U.heap[fw]? = some scr ∧ U.vm.findClass "[I" = some scr.cls ∧ ∀ k, scr.vm ≠ .statics k) ∧ B0 ≤ U.heap.size
theorem am_Env.go {B0 b fw L : Nat} {xs : Nat → Int32} {s U : State} (h : am_Env B0 b fw L xs s) (hW : s.WarmedH U.vm) (hh : ∀ q, q < B0 → U.heap[q]? = s.heap[q]?) (hz : B0 ≤ U.heap.size) : am_Env B0 b fw L xs U := by
  obtain ⟨h1, h2, h3, h4, h5, h6, h7, h8, h9, h10, h11, h12, h14, h16, ⟨h15, f1, f2, f3⟩, h13⟩ := h
  have hk : ∀ a : Nat, a < s.heap.size → ¬ am_A B0 a → U.heap[a]? = s.heap[a]? := fun a _ ha => hh a (Nat.not_le.mp ha)
  exact ⟨(h1.moved hW.alike).kept (hh b h2), h2, (h3.moved hW.alike).kept (hh fw h4), h4, (va_Z.moved hW.alike h5).kept hk, (vx_Zq.moved hW.alike h6).kept hk, (vx_Zq.moved hW.alike h7).kept hk,
    fun q hq => (h8 q hq).imp fun sa hs => vk_R.warm hW hs, fun q hq => va_Nw.warmM hW (h9 q hq), va_Nw.warmF hW h10, fun q hq => va_Nw.warmC hW (h11 q hq), fun q hq => va_Nc.moved hW.alike (h12 q hq), va_AO.moved hW.alike h14, fun x hx => va_Nw.warmD hW (h16 x hx), ⟨h15, (hh fw h4).trans f1, (hW.alike.findClass _ _).trans f2, f3⟩, hz⟩
/-- the world behind, and what a method answers -/
def am_Wd (D : va_G) (cy : Nat → ClassId) (B0 : Nat) (ad : Nat → Nat) (n : Nat) (h : Hp) (U : State) : Prop := va_P D vwCl (wl cy ad h n) U.heap ∧ va_K D vwCl (am_tys cy) U ∧ va_D (am_A B0) (wl cy ad h n)
def am_Qr (D : va_G) (cy : Nat → ClassId) (B0 : Nat) (v : Option Value) (n' : Nat) (h' : Hp) (n0 : Nat) (ad0 : Nat → Nat) : Array Value → State → Outcome → State → Prop := fun _ st oc t =>
  (∃ ad' : Nat → Nat, (∀ k, k < n0 → ad' k = ad0 k) ∧ oc = .returned (v.map (cV ad')) ∧ am_Wd D cy B0 ad' n' h' t) ∧ va_F (am_A B0) st t
def am_Qx (D : va_G) (cy : Nat → ClassId) (B0 : Nat) (E : String) (n' : Nat) (h' : Hp) (n0 : Nat) (ad0 : Nat → Nat) : String → State → State → Prop := fun E' st t =>
  E' = E ∧ (∃ ad' : Nat → Nat, (∀ k, k < n0 → ad' k = ad0 k) ∧ am_Wd D cy B0 ad' n' h' t) ∧ va_F (am_A B0) st t
def am_No : Array Value → State → Outcome → State → Prop := fun _ _ _ _ => False
def am_Fin (D : va_G) (cy : Nat → ClassId) (B0 : Nat) (o : Out) (n0 : Nat) (ad0 : Nat → Nat) (below : List Frame) (args : Array Value) (s : State) (R : Room) : State → Prop := match o.1 with
  | .inl v => MQ below (am_Qr D cy B0 v o.2.1 o.2.2.1 n0 ad0) args s R.cells R.slots (am_A B0)
  | .inr E => vx_MQ below am_No (am_Qx D cy B0 E o.2.1 o.2.2.1 n0 ad0) args s R.cells R.slots (am_A B0)
/-- an abstract config is sound -/
def am_Ab (L : Nat) (xs : Nat → Int32) (n : Nat) (h : Hp) (ls : List (Nat × Value)) (st : List Value) : Prop := 2 ≤ n ∧ am_CL n h ∧ (∀ q ∈ ls, am_ok n q.2) ∧ (∀ v ∈ st, am_ok n v) ∧ h 0 = .inl (0, L, .inl xs) ∧ h 1 = .inl (0, 5, .inl am_fw)
def am_Oo (L : Nat) (xs : Nat → Int32) (n : Nat) (o : Out) : Prop := n ≤ o.2.1 ∧ am_CL o.2.1 o.2.2.1 ∧ o.2.2.1 0 = .inl (0, L, .inl xs) ∧ o.2.2.1 1 = .inl (0, 5, .inl am_fw) ∧ (∀ v, o.1 = .inl (some v) → am_ok o.2.1 v)
/-- what stays in a method's run, and what moves -/
def am_Fx (D : va_G) (cy : Nat → ClassId) (B0 b fw L : Nat) (xs : Nat → Int32) (d : Nat) (M : MI) (p : Program) (R : Room) (s : State) (m : MethodId) (args : Array Value) (meth : Method) (c : Code) : Prop :=
  p.tables.exec = Jvm.exec ∧ c.code = mB M ∧ meth.sig.returnType = mR M ∧ c.maxLocals = mL M ∧ s.vm.findClass (mC M) = some m.cls ∧ (∀ w ∈ am_ws, w.before args s = true) ∧ meth.locks = false ∧ ((mY M).name = "<init>" → meth.name = "<init>") ∧ c.exceptionTable.toList = tableOf (mH M) ∧ 12 + d ≤ R.frames ∧ 300 + 64 * d ≤ R.locals ∧ va_K D vwCl (am_tys cy) s ∧ am_Env B0 b fw L xs s
def am_Mv (D : va_G) (cy : Nat → ClassId) (B0 b fw : Nat) (M : MI) (n0 : Nat) (ad0 : Nat → Nat) (ls : List (Nat × Value)) (n : Nat) (h : Hp) (H : Heap) (locs : List Loc) (la : Array Slot) (ad : Nat → Nat) (s : State) : Prop :=
  va_P D vwCl (wl cy ad h n) H ∧ va_D (am_A B0) (wl cy ad h n) ∧ va_S (am_A B0) s.heap H locs ∧ (ad 0 = b ∧ ad 1 = fw) ∧ n0 ≤ n ∧ (∀ k, k < n0 → ad k = ad0 k) ∧ lv_has la (mL M) (ls.map (cvP ad))
def Snd (l : Launch) (D : va_G) (cy : Nat → ClassId) (B0 b fw L : Nat) (xs : Nat → Int32) : aPr := fun d M pc ls st n h o =>
  am_Ab L xs n h ls st → am_Oo L xs n o ∧ ∀ (p : Program) (e : Env) (R : Room) (s : State) (m : MethodId) (args : Array Value) (below : List Frame) (meth : Method) (c : Code) (n0 : Nat) (ad0 : Nat → Nat), am_Fx D cy B0 b fw L xs d M p R s m args meth c → ∀ (H : Heap) (locs : List Loc) (cells slots : Nat) (la : Array Slot) (ad : Nat → Nat), am_Mv D cy B0 b fw M n0 ad0 ls n h H locs la ad s → cells + o.2.2.2.1 ≤ R.cells → slots + o.2.2.2.2 ≤ R.slots → W p l e R s m args below meth c H locs cells slots (am_Fin D cy B0 o n0 ad0 below args s R) (F0 m pc la (st.map (cV ad)))
theorem am_Ab.push {L : Nat} {xs : Nat → Int32} {n : Nat} {h : Hp} {ls : List (Nat × Value)} {st : List Value} {v : Value} (a : am_Ab L xs n h ls st) (hv : am_ok n v) : am_Ab L xs n h ls (v :: st) :=
  ⟨a.1, a.2.1, a.2.2.1, fun u hu => (List.mem_cons.mp hu).elim (fun e => by rw [e]; exact hv) (a.2.2.2.1 u), a.2.2.2.2⟩
theorem am_Ab.pop {L : Nat} {xs : Nat → Int32} {n : Nat} {h : Hp} {ls : List (Nat × Value)} {st : List Value} {v : Value} (a : am_Ab L xs n h ls (v :: st)) : am_Ab L xs n h ls st :=
  ⟨a.1, a.2.1, a.2.2.1, fun u hu => a.2.2.2.1 u (List.mem_cons_of_mem _ hu), a.2.2.2.2⟩
theorem am_Ab.top {L : Nat} {xs : Nat → Int32} {n : Nat} {h : Hp} {ls : List (Nat × Value)} {st : List Value} {v : Value} (a : am_Ab L xs n h ls (v :: st)) : am_ok n v := a.2.2.2.1 v List.mem_cons_self
theorem am_Ab.drop {L : Nat} {xs : Nat → Int32} {n : Nat} {h : Hp} {ls : List (Nat × Value)} {s1 st : List Value} (a : am_Ab L xs n h ls (s1 ++ st)) : am_Ab L xs n h ls st :=
  ⟨a.1, a.2.1, a.2.2.1, fun u hu => a.2.2.2.1 u (List.mem_append_right _ hu), a.2.2.2.2⟩
theorem am_Ab.lks {L : Nat} {xs : Nat → Int32} {n : Nat} {h : Hp} {ls : List (Nat × Value)} {st : List Value} {k : Nat} {v : Value} (a : am_Ab L xs n h ls st) (hk : lk ls k = some v) : am_ok n v := a.2.2.1 _ (lk_mem hk)
theorem am_Ab.st1 {L : Nat} {xs : Nat → Int32} {n : Nat} {h : Hp} {ls : List (Nat × Value)} {st : List Value} {v : Value} (a : am_Ab L xs n h ls st) (k : Nat) (hv : am_ok n v) : am_Ab L xs n h (lst1 ls k v) st :=
  ⟨a.1, a.2.1, fun q hq => (List.mem_cons.mp hq).elim (fun e => by rw [e]; exact hv) (fun h => a.2.2.1 q (lrm_sub h)), a.2.2.2⟩
theorem am_Ab.st2 {L : Nat} {xs : Nat → Int32} {n : Nat} {h : Hp} {ls : List (Nat × Value)} {st : List Value} {v : Value} (a : am_Ab L xs n h ls st) (k : Nat) (hv : am_ok n v) : am_Ab L xs n h (lst2 ls k v) st :=
  ⟨a.1, a.2.1, fun q hq => (List.mem_cons.mp hq).elim (fun e => by rw [e]; exact hv) (fun h => a.2.2.1 q (lrm2_sub h)), a.2.2.2⟩
theorem am_ge2 {L : Nat} {xs : Nat → Int32} {n : Nat} {h : Hp} {ls : List (Nat × Value)} {st : List Value} {a ci : Nat} {fs : List Value} (ab : am_Ab L xs n h ls st) (g : h a = .inr (ci, fs)) : 2 ≤ a := by
  obtain ⟨-, -, -, -, h0, h1⟩ := ab
  rcases Nat.lt_or_ge a 2 with q | q
  · rcases (show a = 0 ∨ a = 1 by omega) with rfl | rfl
    · rw [h0] at g; cases g
    · rw [h1] at g; cases g
  · exact q
theorem am_ge2t {L : Nat} {xs : Nat → Int32} {n : Nat} {h : Hp} {ls : List (Nat × Value)} {st : List Value} {a t : Nat} {x : vp_A} (ab : am_Ab L xs n h ls st) (g : h a = .inl (t, x)) (ht : t ≠ 0) : 2 ≤ a := by
  obtain ⟨-, -, -, -, h0, h1⟩ := ab
  rcases Nat.lt_or_ge a 2 with q | q
  · rcases (show a = 0 ∨ a = 1 by omega) with rfl | rfl
    · rw [h0] at g; cases g; exact absurd rfl ht
    · rw [h1] at g; cases g; exact absurd rfl ht
  · exact q
theorem am_CL_up {n a : Nat} {h : Hp} {e : va_E} (hc : am_CL n h) (he : am_okE n e) : am_CL n (va_up h a e) := by
  intro k hk
  unfold va_up
  split
  · exact he
  · exact hc k hk
theorem am_CL_push {n : Nat} {h : Hp} {e : va_E} (hc : am_CL n h) (he : am_okE (n + 1) e) : am_CL (n + 1) (va_up h n e) := by
  intro k hk
  unfold va_up
  split
  · exact he
  · exact am_okE_mono (Nat.le_succ n) (hc k (by omega))
theorem am_Ab.up {L : Nat} {xs : Nat → Int32} {n a : Nat} {h : Hp} {ls : List (Nat × Value)} {st : List Value} {e : va_E} (ab : am_Ab L xs n h ls st) (h2 : 2 ≤ a) (he : am_okE n e) : am_Ab L xs n (va_up h a e) ls st :=
  ⟨ab.1, am_CL_up ab.2.1 he, ab.2.2.1, ab.2.2.2.1, by rw [show va_up h a e 0 = h 0 by unfold va_up; rw [if_neg (by omega)]]; exact ab.2.2.2.2.1, by rw [show va_up h a e 1 = h 1 by unfold va_up; rw [if_neg (by omega)]]; exact ab.2.2.2.2.2⟩
theorem am_Ab.new {L : Nat} {xs : Nat → Int32} {n : Nat} {h : Hp} {ls : List (Nat × Value)} {st : List Value} {e : va_E} (ab : am_Ab L xs n h ls st) (he : am_okE (n + 1) e) : am_Ab L xs (n + 1) (va_up h n e) ls st :=
  have h2 := ab.1
  ⟨by omega, am_CL_push ab.2.1 he, fun q hq => am_ok_mono (Nat.le_succ n) (ab.2.2.1 q hq), fun v hv => am_ok_mono (Nat.le_succ n) (ab.2.2.2.1 v hv), by rw [show va_up h n e 0 = h 0 by unfold va_up; rw [if_neg (by omega)]]; exact ab.2.2.2.2.1, by rw [show va_up h n e 1 = h 1 by unfold va_up; rw [if_neg (by omega)]]; exact ab.2.2.2.2.2⟩
theorem map_up {n q : Nat} {ad : Nat → Nat} {st : List Value} (hst : ∀ v ∈ st, am_ok n v) : st.map (cV (va_up ad n q)) = st.map (cV ad) :=
  List.map_congr_left fun v hv => cV_congr (n := n) (fun k hk => by simp [va_up, Nat.ne_of_lt hk]) (hst v hv)
theorem map_agree {n : Nat} {ad ad' : Nat → Nat} (ha : ∀ k, k < n → ad' k = ad k) {st : List Value} (hst : ∀ v ∈ st, am_ok n v) : st.map (cV ad') = st.map (cV ad) :=
  List.map_congr_left fun v hv => cV_congr ha (hst v hv)
theorem mapP_agree {n : Nat} {ad ad' : Nat → Nat} (ha : ∀ k, k < n → ad' k = ad k) {ls : List (Nat × Value)} (hls : ∀ q ∈ ls, am_ok n q.2) : ls.map (cvP ad') = ls.map (cvP ad) :=
  List.map_congr_left fun q hq => by unfold cvP; rw [cV_congr ha (hls q hq)]
end
section
/-! SOUNDNESS, second half: each rule holds of the machine -/
theorem am_in {w : Cond} (i : Nat) (h : lw_tbl[i]? = some w) (g : goodWord w = true) : w ∈ am_ws := List.mem_filter.mpr ⟨List.mem_of_getElem? h, g⟩
theorem va_RA_inj {U : State} {c1 c2 : ClassId} {ty : FieldType} (h1 : va_RA U c1 ty) (h2 : va_RA U c2 ty) : c1 = c2 := by
  cases ty with
  | object C =>
    obtain ⟨-, -, -, -, -, e1⟩ := h1
    obtain ⟨-, -, -, -, -, e2⟩ := h2
    exact Option.some.inj (e1.symm.trans e2)
  | _ => exact Option.some.inj (Eq.trans (Eq.symm h1) h2)
section SND
variable {l : Launch} {D : va_G} {cy : Nat → ClassId} {B0 b fw L : Nat} {xs : Nat → Int32}
theorem am_ty {ty : FieldType} {s : State} (hK : va_K D vwCl (am_tys cy) s) {t : Nat} {c : ClassId} (ht : (am_tys cy)[t]? = some (c, ty)) {cA : ClassId} (h : va_K D vwCl (am_tys cy ++ [(cA, ty)]) s) : cA = c := by
  have h1 := (hK.2 t _ ht).2
  have h2 := (h.2 4 (cA, ty) rfl).2
  exact va_RA_inj h2 h1
theorem am_Mv.st {M : MI} {n0 : Nat} {ad0 : Nat → Nat} {ls ls' : List (Nat × Value)} {n : Nat} {h : Hp} {H : Heap} {locs : List Loc} {la la' : Array Slot} {ad : Nat → Nat} {s : State} (mv : am_Mv D cy B0 b fw M n0 ad0 ls n h H locs la ad s) (hl : lv_has la' (mL M) (ls'.map (cvP ad))) : am_Mv D cy B0 b fw M n0 ad0 ls' n h H locs la' ad s :=
  ⟨mv.1, mv.2.1, mv.2.2.1, mv.2.2.2.1, mv.2.2.2.2.1, mv.2.2.2.2.2.1, hl⟩
theorem am_Mv.up {M : MI} {n0 : Nat} {ad0 : Nat → Nat} {ls : List (Nat × Value)} {n a : Nat} {h : Hp} {e : va_E} {H H1 : Heap} {locs locs1 : List Loc} {la : Array Slot} {ad : Nat → Nat} {s : State} (mv : am_Mv D cy B0 b fw M n0 ad0 ls n h H locs la ad s) (h2 : 2 ≤ a) (hn : a < n)
    (hP : va_P D vwCl ((wl cy ad h n).set (a - 2) (ad a, cE cy ad e)) H1) (hD : va_D (am_A B0) ((wl cy ad h n).set (a - 2) (ad a, cE cy ad e))) (hS : va_S (am_A B0) s.heap H1 locs1) : am_Mv D cy B0 b fw M n0 ad0 ls n (va_up h a e) H1 locs1 la ad s := by
  rw [wl_set h2 hn] at hP hD
  exact ⟨hP, hD, hS, mv.2.2.2.1, mv.2.2.2.2.1, mv.2.2.2.2.2.1, mv.2.2.2.2.2.2⟩
theorem am_Mv.new {M : MI} {n0 : Nat} {ad0 : Nat → Nat} {ls : List (Nat × Value)} {st : List Value} {n q : Nat} {h : Hp} {e e' : va_E} {H H1 : Heap} {locs locs1 : List Loc} {la : Array Slot} {ad : Nat → Nat} {s : State} (mv : am_Mv D cy B0 b fw M n0 ad0 ls n h H locs la ad s) (ab : am_Ab L xs n h ls st) (he : cE cy (va_up ad n q) e = e')
    (hP : va_P D vwCl (wl cy ad h n ++ [(q, e')]) H1) (hD : va_D (am_A B0) (wl cy ad h n ++ [(q, e')])) (hS : va_S (am_A B0) s.heap H1 locs1) : am_Mv D cy B0 b fw M n0 ad0 ls (n + 1) (va_up h n e) H1 locs1 la (va_up ad n q) s := by
  rw [wl_push ab.1 ab.2.1 he] at hP hD
  have h2 := ab.1
  have hn0 := mv.2.2.2.2.1
  have hag : ∀ k, k < n → va_up ad n q k = ad k := fun k hk => by simp [va_up, Nat.ne_of_lt hk]
  exact ⟨hP, hD, hS, ⟨(hag 0 (by omega)).trans mv.2.2.2.1.1, (hag 1 (by omega)).trans mv.2.2.2.1.2⟩, by omega, fun k hk => (hag k (by omega)).trans (mv.2.2.2.2.2.1 k hk), by rw [mapP_agree hag ab.2.2.1]; exact mv.2.2.2.2.2.2⟩
theorem am_room {ad : Nat → Nat} {st : List Value} (h : csum st ≤ 8) : ((st.map (cV ad)).map fun v => v.category).sum ≤ 8 := by
  rw [List.map_map, show (fun v : Value => v.category) ∘ cV ad = fun v => v.category from funext (cV_cat ad)]
  exact h
theorem am_get {n a ci : Nat} {h : Hp} {ls : List (Nat × Value)} {st : List Value} {fs : List Value} (ad : Nat → Nat) (ab : am_Ab L xs n h ls (.ref a :: st)) (g : h a = .inr (ci, fs)) : (wl cy ad h n)[a - 2]? = some (ad a, .inr (ci, fs.map (cV ad))) := by
  rw [wl_get (am_ge2 ab g) ab.top, g]
  rfl
theorem sd_iconst : RU_iconst (Snd l D cy B0 b fw L xs) := by
  intro d M pc ls st n h o z v g0 g1 p0 ab
  obtain ⟨a1, kw⟩ := p0 (ab.push trivial)
  refine ⟨a1, fun p e R s m args below meth c n0 ad0 fx H locs cells slots la ad mv c1 c2 => ?_⟩
  exact lv_iconst fx.1 fx.2.1 g0 g1 (kw p e R s m args below meth c n0 ad0 fx H locs cells slots la ad mv c1 c2)
theorem sd_bipush : RU_bipush (Snd l D cy B0 b fw L xs) := by
  intro d M pc ls st n h o z v g0 g1 p0 ab
  obtain ⟨a1, kw⟩ := p0 (ab.push trivial)
  refine ⟨a1, fun p e R s m args below meth c n0 ad0 fx H locs cells slots la ad mv c1 c2 => ?_⟩
  exact lv_bipush fx.1 fx.2.1 g0 g1 (kw p e R s m args below meth c n0 ad0 fx H locs cells slots la ad mv c1 c2)
theorem sd_sipush : RU_sipush (Snd l D cy B0 b fw L xs) := by
  intro d M pc ls st n h o z v g0 g1 p0 ab
  obtain ⟨a1, kw⟩ := p0 (ab.push trivial)
  refine ⟨a1, fun p e R s m args below meth c n0 ad0 fx H locs cells slots la ad mv c1 c2 => ?_⟩
  exact lv_sipush fx.1 fx.2.1 g0 g1 (kw p e R s m args below meth c n0 ad0 fx H locs cells slots la ad mv c1 c2)
theorem sd_lconst : RU_lconst (Snd l D cy B0 b fw L xs) := by
  intro d M pc ls st n h o z v g0 g1 p0 ab
  obtain ⟨a1, kw⟩ := p0 (ab.push trivial)
  refine ⟨a1, fun p e R s m args below meth c n0 ad0 fx H locs cells slots la ad mv c1 c2 => ?_⟩
  exact lv_lconst fx.1 fx.2.1 g0 g1 (kw p e R s m args below meth c n0 ad0 fx H locs cells slots la ad mv c1 c2)
theorem sd_ldc : RU_ldc (Snd l D cy B0 b fw L xs) := by
  intro d M pc ls st n h o z v g0 g1 p0 ab
  obtain ⟨a1, kw⟩ := p0 (ab.push trivial)
  refine ⟨a1, fun p e R s m args below meth c n0 ad0 fx H locs cells slots la ad mv c1 c2 => ?_⟩
  exact lv_ldc fx.1 fx.2.1 fx.2.2.2.2.1 (fx.2.2.2.2.2.1 _ g1) g0 (kw p e R s m args below meth c n0 ad0 fx H locs cells slots la ad mv c1 c2)
theorem sd_ldcw : RU_ldcw (Snd l D cy B0 b fw L xs) := by
  intro d M pc ls st n h o z v g0 g1 p0 ab
  obtain ⟨a1, kw⟩ := p0 (ab.push trivial)
  refine ⟨a1, fun p e R s m args below meth c n0 ad0 fx H locs cells slots la ad mv c1 c2 => ?_⟩
  exact lv_ldcw fx.1 fx.2.1 fx.2.2.2.2.1 (fx.2.2.2.2.2.1 _ g1) g0 (kw p e R s m args below meth c n0 ad0 fx H locs cells slots la ad mv c1 c2)
theorem sd_ldc2 : RU_ldc2 (Snd l D cy B0 b fw L xs) := by
  intro d M pc ls st n h o z v g0 g1 p0 ab
  obtain ⟨a1, kw⟩ := p0 (ab.push trivial)
  refine ⟨a1, fun p e R s m args below meth c n0 ad0 fx H locs cells slots la ad mv c1 c2 => ?_⟩
  exact lv_ldc2 fx.1 fx.2.1 fx.2.2.2.2.1 (fx.2.2.2.2.2.1 _ g1) g0 (kw p e R s m args below meth c n0 ad0 fx H locs cells slots la ad mv c1 c2)
theorem sd_null : RU_null (Snd l D cy B0 b fw L xs) := by
  intro d M pc ls st n h o  g0 p0 ab
  obtain ⟨a1, kw⟩ := p0 (ab.push trivial)
  refine ⟨a1, fun p e R s m args below meth c n0 ad0 fx H locs cells slots la ad mv c1 c2 => ?_⟩
  exact lv_null fx.1 fx.2.1 g0 (kw p e R s m args below meth c n0 ad0 fx H locs cells slots la ad mv c1 c2)
theorem sd_iload_n : RU_iload_n (Snd l D cy B0 b fw L xs) := by
  intro d M pc ls st n h o k x g0 g1 p0 ab
  obtain ⟨a1, kw⟩ := p0 (ab.push (ab.lks g1))
  refine ⟨a1, fun p e R s m args below meth c n0 ad0 fx H locs cells slots la ad mv c1 c2 => ?_⟩
  exact lv_iload_n fx.1 fx.2.1 g0 rfl (lk_has mv.2.2.2.2.2.2 g1) (kw p e R s m args below meth c n0 ad0 fx H locs cells slots la ad mv c1 c2)
theorem sd_iload : RU_iload (Snd l D cy B0 b fw L xs) := by
  intro d M pc ls st n h o k x g0 g1 p0 ab
  obtain ⟨a1, kw⟩ := p0 (ab.push (ab.lks g1))
  refine ⟨a1, fun p e R s m args below meth c n0 ad0 fx H locs cells slots la ad mv c1 c2 => ?_⟩
  exact lv_iload fx.1 fx.2.1 g0 (lk_has mv.2.2.2.2.2.2 g1) (kw p e R s m args below meth c n0 ad0 fx H locs cells slots la ad mv c1 c2)
theorem sd_lload_n : RU_lload_n (Snd l D cy B0 b fw L xs) := by
  intro d M pc ls st n h o k x g0 g1 p0 ab
  obtain ⟨a1, kw⟩ := p0 (ab.push (ab.lks g1))
  refine ⟨a1, fun p e R s m args below meth c n0 ad0 fx H locs cells slots la ad mv c1 c2 => ?_⟩
  exact lv_lload_n fx.1 fx.2.1 g0 rfl (lk_has mv.2.2.2.2.2.2 g1) (kw p e R s m args below meth c n0 ad0 fx H locs cells slots la ad mv c1 c2)
theorem sd_lload : RU_lload (Snd l D cy B0 b fw L xs) := by
  intro d M pc ls st n h o k x g0 g1 p0 ab
  obtain ⟨a1, kw⟩ := p0 (ab.push (ab.lks g1))
  refine ⟨a1, fun p e R s m args below meth c n0 ad0 fx H locs cells slots la ad mv c1 c2 => ?_⟩
  exact lv_lload fx.1 fx.2.1 g0 (lk_has mv.2.2.2.2.2.2 g1) (kw p e R s m args below meth c n0 ad0 fx H locs cells slots la ad mv c1 c2)
theorem sd_aload_n : RU_aload_n (Snd l D cy B0 b fw L xs) := by
  intro d M pc ls st n h o k x g0 g1 p0 ab
  obtain ⟨a1, kw⟩ := p0 (ab.push (ab.lks g1))
  refine ⟨a1, fun p e R s m args below meth c n0 ad0 fx H locs cells slots la ad mv c1 c2 => ?_⟩
  exact lv_aload_n fx.1 fx.2.1 g0 rfl (lk_has mv.2.2.2.2.2.2 g1) (kw p e R s m args below meth c n0 ad0 fx H locs cells slots la ad mv c1 c2)
theorem sd_aload : RU_aload (Snd l D cy B0 b fw L xs) := by
  intro d M pc ls st n h o k x g0 g1 p0 ab
  obtain ⟨a1, kw⟩ := p0 (ab.push (ab.lks g1))
  refine ⟨a1, fun p e R s m args below meth c n0 ad0 fx H locs cells slots la ad mv c1 c2 => ?_⟩
  exact lv_aload fx.1 fx.2.1 g0 (lk_has mv.2.2.2.2.2.2 g1) (kw p e R s m args below meth c n0 ad0 fx H locs cells slots la ad mv c1 c2)
theorem sd_aload_nN : RU_aload_nN (Snd l D cy B0 b fw L xs) := by
  intro d M pc ls st n h o k g0 g1 p0 ab
  obtain ⟨a1, kw⟩ := p0 (ab.push trivial)
  refine ⟨a1, fun p e R s m args below meth c n0 ad0 fx H locs cells slots la ad mv c1 c2 => ?_⟩
  exact lv_aload_nN fx.1 fx.2.1 g0 rfl (lk_has mv.2.2.2.2.2.2 g1) (kw p e R s m args below meth c n0 ad0 fx H locs cells slots la ad mv c1 c2)
theorem sd_aloadN : RU_aloadN (Snd l D cy B0 b fw L xs) := by
  intro d M pc ls st n h o k g0 g1 p0 ab
  obtain ⟨a1, kw⟩ := p0 (ab.push trivial)
  refine ⟨a1, fun p e R s m args below meth c n0 ad0 fx H locs cells slots la ad mv c1 c2 => ?_⟩
  exact lv_aloadN fx.1 fx.2.1 g0 (lk_has mv.2.2.2.2.2.2 g1) (kw p e R s m args below meth c n0 ad0 fx H locs cells slots la ad mv c1 c2)
theorem sd_istore_n : RU_istore_n (Snd l D cy B0 b fw L xs) := by
  intro d M pc ls st n h o k x g0 g1 p0 ab
  obtain ⟨a1, kw⟩ := p0 (ab.pop.st1 (k : Nat) trivial)
  refine ⟨a1, fun p e R s m args below meth c n0 ad0 fx H locs cells slots la ad mv c1 c2 => ?_⟩
  exact lv_istore_n (lv := ls.map (cvP ad)) (lv' := (lst1 ls (k : Nat) (.int x)).map (cvP ad)) fx.1 fx.2.1 g0 rfl mv.2.2.2.2.2.2 g1 (congrArg (List.cons ((k : Nat), Value.int x)) (lrm_map ad (k : Nat) ls)) (fun la9 h9 => kw p e R s m args below meth c n0 ad0 fx H locs cells slots la9 ad (mv.st h9) c1 c2)
theorem sd_lstore_n : RU_lstore_n (Snd l D cy B0 b fw L xs) := by
  intro d M pc ls st n h o k x g0 g1 p0 ab
  obtain ⟨a1, kw⟩ := p0 (ab.pop.st2 (k : Nat) trivial)
  refine ⟨a1, fun p e R s m args below meth c n0 ad0 fx H locs cells slots la ad mv c1 c2 => ?_⟩
  exact lv_lstore_n (lv := ls.map (cvP ad)) (lv' := (lst2 ls (k : Nat) (.long x)).map (cvP ad)) fx.1 fx.2.1 g0 rfl mv.2.2.2.2.2.2 g1 (congrArg (List.cons ((k : Nat), Value.long x)) (lrm2_map ad (k : Nat) ls)) (fun la9 h9 => kw p e R s m args below meth c n0 ad0 fx H locs cells slots la9 ad (mv.st h9) c1 c2)
theorem sd_astore_n : RU_astore_n (Snd l D cy B0 b fw L xs) := by
  intro d M pc ls st n h o k x g0 g1 p0 ab
  obtain ⟨a1, kw⟩ := p0 (ab.pop.st1 (k : Nat) ab.top)
  refine ⟨a1, fun p e R s m args below meth c n0 ad0 fx H locs cells slots la ad mv c1 c2 => ?_⟩
  exact lv_astore_n (lv := ls.map (cvP ad)) (lv' := (lst1 ls (k : Nat) (.ref x)).map (cvP ad)) fx.1 fx.2.1 g0 rfl mv.2.2.2.2.2.2 g1 (congrArg (List.cons ((k : Nat), Value.ref (ad x))) (lrm_map ad (k : Nat) ls)) (fun la9 h9 => kw p e R s m args below meth c n0 ad0 fx H locs cells slots la9 ad (mv.st h9) c1 c2)
theorem sd_istore : RU_istore (Snd l D cy B0 b fw L xs) := by
  intro d M pc ls st n h o k x g0 g1 p0 ab
  obtain ⟨a1, kw⟩ := p0 (ab.pop.st1 k trivial)
  refine ⟨a1, fun p e R s m args below meth c n0 ad0 fx H locs cells slots la ad mv c1 c2 => ?_⟩
  exact lv_istore (lv := ls.map (cvP ad)) (lv' := (lst1 ls k (.int x)).map (cvP ad)) fx.1 fx.2.1 g0 mv.2.2.2.2.2.2 g1 (congrArg (List.cons (k, Value.int x)) (lrm_map ad k ls)) (fun la9 h9 => kw p e R s m args below meth c n0 ad0 fx H locs cells slots la9 ad (mv.st h9) c1 c2)
theorem sd_lstore : RU_lstore (Snd l D cy B0 b fw L xs) := by
  intro d M pc ls st n h o k x g0 g1 p0 ab
  obtain ⟨a1, kw⟩ := p0 (ab.pop.st2 k trivial)
  refine ⟨a1, fun p e R s m args below meth c n0 ad0 fx H locs cells slots la ad mv c1 c2 => ?_⟩
  exact lv_lstore (lv := ls.map (cvP ad)) (lv' := (lst2 ls k (.long x)).map (cvP ad)) fx.1 fx.2.1 g0 mv.2.2.2.2.2.2 g1 (congrArg (List.cons (k, Value.long x)) (lrm2_map ad k ls)) (fun la9 h9 => kw p e R s m args below meth c n0 ad0 fx H locs cells slots la9 ad (mv.st h9) c1 c2)
theorem sd_astore : RU_astore (Snd l D cy B0 b fw L xs) := by
  intro d M pc ls st n h o k x g0 g1 p0 ab
  obtain ⟨a1, kw⟩ := p0 (ab.pop.st1 k ab.top)
  refine ⟨a1, fun p e R s m args below meth c n0 ad0 fx H locs cells slots la ad mv c1 c2 => ?_⟩
  exact lv_astore (lv := ls.map (cvP ad)) (lv' := (lst1 ls k (.ref x)).map (cvP ad)) fx.1 fx.2.1 g0 mv.2.2.2.2.2.2 g1 (congrArg (List.cons (k, Value.ref (ad x))) (lrm_map ad k ls)) (fun la9 h9 => kw p e R s m args below meth c n0 ad0 fx H locs cells slots la9 ad (mv.st h9) c1 c2)
theorem sd_astore_nN : RU_astore_nN (Snd l D cy B0 b fw L xs) := by
  intro d M pc ls st n h o k g0 g1 p0 ab
  obtain ⟨a1, kw⟩ := p0 (ab.pop.st1 (k : Nat) trivial)
  refine ⟨a1, fun p e R s m args below meth c n0 ad0 fx H locs cells slots la ad mv c1 c2 => ?_⟩
  exact lv_astore_nN (lv := ls.map (cvP ad)) (lv' := (lst1 ls (k : Nat) (.null)).map (cvP ad)) fx.1 fx.2.1 g0 rfl mv.2.2.2.2.2.2 g1 (congrArg (List.cons ((k : Nat), Value.null)) (lrm_map ad (k : Nat) ls)) (fun la9 h9 => kw p e R s m args below meth c n0 ad0 fx H locs cells slots la9 ad (mv.st h9) c1 c2)
theorem sd_iinc : RU_iinc (Snd l D cy B0 b fw L xs) := by
  intro d M pc ls st n h o k z x v g0 g1 g2 g3 p0 ab
  obtain ⟨a1, kw⟩ := p0 (ab.st1 k trivial)
  refine ⟨a1, fun p e R s m args below meth c n0 ad0 fx H locs cells slots la ad mv c1 c2 => ?_⟩
  obtain ⟨j, hj⟩ := List.getElem?_of_mem (show (k, Value.int x) ∈ ls.map (cvP ad) from List.mem_map.mpr ⟨(k, .int x), lk_mem g1, rfl⟩)
  exact lv_iinc (lv := ls.map (cvP ad)) (lv' := (lst1 ls k (.int v)).map (cvP ad)) fx.1 fx.2.1 g0 mv.2.2.2.2.2.2 hj g2 g3 (congrArg (List.cons (k, Value.int v)) (lrm_map ad k ls)) (fun la9 h9 => kw p e R s m args below meth c n0 ad0 fx H locs cells slots la9 ad (mv.st h9) c1 c2)
theorem sd_iadd : RU_iadd (Snd l D cy B0 b fw L xs) := by
  intro d M pc ls st n h o x y g0 p0 ab
  obtain ⟨a1, kw⟩ := p0 (ab.pop.pop.push trivial)
  refine ⟨a1, fun p e R s m args below meth c n0 ad0 fx H locs cells slots la ad mv c1 c2 => ?_⟩
  exact lv_iadd fx.1 fx.2.1 g0 (kw p e R s m args below meth c n0 ad0 fx H locs cells slots la ad mv c1 c2)
theorem sd_isub : RU_isub (Snd l D cy B0 b fw L xs) := by
  intro d M pc ls st n h o x y g0 p0 ab
  obtain ⟨a1, kw⟩ := p0 (ab.pop.pop.push trivial)
  refine ⟨a1, fun p e R s m args below meth c n0 ad0 fx H locs cells slots la ad mv c1 c2 => ?_⟩
  exact lv_isub fx.1 fx.2.1 g0 (kw p e R s m args below meth c n0 ad0 fx H locs cells slots la ad mv c1 c2)
theorem sd_imul : RU_imul (Snd l D cy B0 b fw L xs) := by
  intro d M pc ls st n h o x y g0 p0 ab
  obtain ⟨a1, kw⟩ := p0 (ab.pop.pop.push trivial)
  refine ⟨a1, fun p e R s m args below meth c n0 ad0 fx H locs cells slots la ad mv c1 c2 => ?_⟩
  exact lv_imul fx.1 fx.2.1 g0 (kw p e R s m args below meth c n0 ad0 fx H locs cells slots la ad mv c1 c2)
theorem sd_iand : RU_iand (Snd l D cy B0 b fw L xs) := by
  intro d M pc ls st n h o x y g0 p0 ab
  obtain ⟨a1, kw⟩ := p0 (ab.pop.pop.push trivial)
  refine ⟨a1, fun p e R s m args below meth c n0 ad0 fx H locs cells slots la ad mv c1 c2 => ?_⟩
  exact lv_iand fx.1 fx.2.1 g0 (kw p e R s m args below meth c n0 ad0 fx H locs cells slots la ad mv c1 c2)
theorem sd_ior : RU_ior (Snd l D cy B0 b fw L xs) := by
  intro d M pc ls st n h o x y g0 p0 ab
  obtain ⟨a1, kw⟩ := p0 (ab.pop.pop.push trivial)
  refine ⟨a1, fun p e R s m args below meth c n0 ad0 fx H locs cells slots la ad mv c1 c2 => ?_⟩
  exact lv_ior fx.1 fx.2.1 g0 (kw p e R s m args below meth c n0 ad0 fx H locs cells slots la ad mv c1 c2)
theorem sd_ixor : RU_ixor (Snd l D cy B0 b fw L xs) := by
  intro d M pc ls st n h o x y g0 p0 ab
  obtain ⟨a1, kw⟩ := p0 (ab.pop.pop.push trivial)
  refine ⟨a1, fun p e R s m args below meth c n0 ad0 fx H locs cells slots la ad mv c1 c2 => ?_⟩
  exact lv_ixor fx.1 fx.2.1 g0 (kw p e R s m args below meth c n0 ad0 fx H locs cells slots la ad mv c1 c2)
theorem sd_ishl : RU_ishl (Snd l D cy B0 b fw L xs) := by
  intro d M pc ls st n h o x y g0 p0 ab
  obtain ⟨a1, kw⟩ := p0 (ab.pop.pop.push trivial)
  refine ⟨a1, fun p e R s m args below meth c n0 ad0 fx H locs cells slots la ad mv c1 c2 => ?_⟩
  exact lv_ishl fx.1 fx.2.1 g0 (kw p e R s m args below meth c n0 ad0 fx H locs cells slots la ad mv c1 c2)
theorem sd_ladd : RU_ladd (Snd l D cy B0 b fw L xs) := by
  intro d M pc ls st n h o x y g0 p0 ab
  obtain ⟨a1, kw⟩ := p0 (ab.pop.pop.push trivial)
  refine ⟨a1, fun p e R s m args below meth c n0 ad0 fx H locs cells slots la ad mv c1 c2 => ?_⟩
  exact lv_ladd fx.1 fx.2.1 g0 (kw p e R s m args below meth c n0 ad0 fx H locs cells slots la ad mv c1 c2)
theorem sd_lmul : RU_lmul (Snd l D cy B0 b fw L xs) := by
  intro d M pc ls st n h o x y g0 p0 ab
  obtain ⟨a1, kw⟩ := p0 (ab.pop.pop.push trivial)
  refine ⟨a1, fun p e R s m args below meth c n0 ad0 fx H locs cells slots la ad mv c1 c2 => ?_⟩
  exact lv_lmul fx.1 fx.2.1 g0 (kw p e R s m args below meth c n0 ad0 fx H locs cells slots la ad mv c1 c2)
theorem sd_iushr : RU_iushr (Snd l D cy B0 b fw L xs) := by
  intro d M pc ls st n h o x y v g0 g1 p0 ab
  obtain ⟨a1, kw⟩ := p0 (ab.pop.pop.push trivial)
  refine ⟨a1, fun p e R s m args below meth c n0 ad0 fx H locs cells slots la ad mv c1 c2 => ?_⟩
  exact lv_iushr fx.1 fx.2.1 g0 g1 (kw p e R s m args below meth c n0 ad0 fx H locs cells slots la ad mv c1 c2)
theorem sd_ineg : RU_ineg (Snd l D cy B0 b fw L xs) := by
  intro d M pc ls st n h o x g0 p0 ab
  obtain ⟨a1, kw⟩ := p0 (ab.pop.push trivial)
  refine ⟨a1, fun p e R s m args below meth c n0 ad0 fx H locs cells slots la ad mv c1 c2 => ?_⟩
  exact lv_ineg fx.1 fx.2.1 g0 (kw p e R s m args below meth c n0 ad0 fx H locs cells slots la ad mv c1 c2)
theorem sd_idiv : RU_idiv (Snd l D cy B0 b fw L xs) := by
  intro d M pc ls st n h o x y g0 g1 p0 ab
  obtain ⟨a1, kw⟩ := p0 (ab.pop.pop.push trivial)
  refine ⟨a1, fun p e R s m args below meth c n0 ad0 fx H locs cells slots la ad mv c1 c2 => ?_⟩
  exact lv_idiv fx.1 fx.2.1 g0 g1 (kw p e R s m args below meth c n0 ad0 fx H locs cells slots la ad mv c1 c2)
theorem sd_irem : RU_irem (Snd l D cy B0 b fw L xs) := by
  intro d M pc ls st n h o x y g0 g1 p0 ab
  obtain ⟨a1, kw⟩ := p0 (ab.pop.pop.push trivial)
  refine ⟨a1, fun p e R s m args below meth c n0 ad0 fx H locs cells slots la ad mv c1 c2 => ?_⟩
  exact lv_irem fx.1 fx.2.1 g0 g1 (kw p e R s m args below meth c n0 ad0 fx H locs cells slots la ad mv c1 c2)
theorem sd_ldiv : RU_ldiv (Snd l D cy B0 b fw L xs) := by
  intro d M pc ls st n h o x y g0 g1 p0 ab
  obtain ⟨a1, kw⟩ := p0 (ab.pop.pop.push trivial)
  refine ⟨a1, fun p e R s m args below meth c n0 ad0 fx H locs cells slots la ad mv c1 c2 => ?_⟩
  exact lv_ldiv fx.1 fx.2.1 g0 g1 (kw p e R s m args below meth c n0 ad0 fx H locs cells slots la ad mv c1 c2)
theorem sd_lrem : RU_lrem (Snd l D cy B0 b fw L xs) := by
  intro d M pc ls st n h o x y g0 g1 p0 ab
  obtain ⟨a1, kw⟩ := p0 (ab.pop.pop.push trivial)
  refine ⟨a1, fun p e R s m args below meth c n0 ad0 fx H locs cells slots la ad mv c1 c2 => ?_⟩
  exact lv_lrem fx.1 fx.2.1 g0 g1 (kw p e R s m args below meth c n0 ad0 fx H locs cells slots la ad mv c1 c2)
theorem sd_lcmp : RU_lcmp (Snd l D cy B0 b fw L xs) := by
  intro d M pc ls st n h o x y g0 p0 ab
  obtain ⟨a1, kw⟩ := p0 (ab.pop.pop.push trivial)
  refine ⟨a1, fun p e R s m args below meth c n0 ad0 fx H locs cells slots la ad mv c1 c2 => ?_⟩
  exact W.lcmp fx.1 fx.2.1 g0 (kw p e R s m args below meth c n0 ad0 fx H locs cells slots la ad mv c1 c2)
theorem sd_i2l : RU_i2l (Snd l D cy B0 b fw L xs) := by
  intro d M pc ls st n h o x v g0 g1 p0 ab
  obtain ⟨a1, kw⟩ := p0 (ab.pop.push trivial)
  refine ⟨a1, fun p e R s m args below meth c n0 ad0 fx H locs cells slots la ad mv c1 c2 => ?_⟩
  exact lv_i2l fx.1 fx.2.1 g0 g1 (kw p e R s m args below meth c n0 ad0 fx H locs cells slots la ad mv c1 c2)
theorem sd_l2i : RU_l2i (Snd l D cy B0 b fw L xs) := by
  intro d M pc ls st n h o x v g0 g1 p0 ab
  obtain ⟨a1, kw⟩ := p0 (ab.pop.push trivial)
  refine ⟨a1, fun p e R s m args below meth c n0 ad0 fx H locs cells slots la ad mv c1 c2 => ?_⟩
  exact lv_l2i fx.1 fx.2.1 g0 g1 (kw p e R s m args below meth c n0 ad0 fx H locs cells slots la ad mv c1 c2)
theorem sd_dup : RU_dup (Snd l D cy B0 b fw L xs) := by
  intro d M pc ls st n h o va g0 g1 p0 ab
  obtain ⟨a1, kw⟩ := p0 (ab.push ab.top)
  refine ⟨a1, fun p e R s m args below meth c n0 ad0 fx H locs cells slots la ad mv c1 c2 => ?_⟩
  exact lv_dup (va := cV ad va) fx.1 fx.2.1 g0 (by rw [cV_cat]; exact g1) (kw p e R s m args below meth c n0 ad0 fx H locs cells slots la ad mv c1 c2)
theorem sd_pop : RU_pop (Snd l D cy B0 b fw L xs) := by
  intro d M pc ls st n h o va g0 g1 p0 ab
  obtain ⟨a1, kw⟩ := p0 (ab.pop)
  refine ⟨a1, fun p e R s m args below meth c n0 ad0 fx H locs cells slots la ad mv c1 c2 => ?_⟩
  exact lv_pop (va := cV ad va) fx.1 fx.2.1 g0 (by rw [cV_cat]; exact g1) (kw p e R s m args below meth c n0 ad0 fx H locs cells slots la ad mv c1 c2)
theorem sd_dup2_11 : RU_dup2_11 (Snd l D cy B0 b fw L xs) := by
  intro d M pc ls st n h o va vb g0 g1 g2 p0 ab
  obtain ⟨a1, kw⟩ := p0 ((ab.push ab.pop.top).push ab.top)
  refine ⟨a1, fun p e R s m args below meth c n0 ad0 fx H locs cells slots la ad mv c1 c2 => ?_⟩
  exact lv_dup2_11 (va := cV ad va) (vb := cV ad vb) fx.1 fx.2.1 g0 (by rw [cV_cat]; exact g1) (by rw [cV_cat]; exact g2) (kw p e R s m args below meth c n0 ad0 fx H locs cells slots la ad mv c1 c2)
theorem sd_if_eq : RU_if_eq (Snd l D cy B0 b fw L xs) := by
  intro d M pc ls st n h o off tgt x g0 g1 p0 p1 ab
  have a1 := (Classical.em (x = 0)).elim (fun c9 => (p0 c9 (ab.pop)).1) (fun c9 => (p1 c9 (ab.pop)).1)
  refine ⟨a1, fun p e R s m args below meth c n0 ad0 fx H locs cells slots la ad mv c1 c2 => ?_⟩
  exact lv_if_eq fx.1 fx.2.1 g0 g1 (fun c9 => (p0 c9 (ab.pop)).2 p e R s m args below meth c n0 ad0 fx H locs cells slots la ad mv c1 c2) (fun c9 => (p1 c9 (ab.pop)).2 p e R s m args below meth c n0 ad0 fx H locs cells slots la ad mv c1 c2)
theorem sd_icmp_eq : RU_icmp_eq (Snd l D cy B0 b fw L xs) := by
  intro d M pc ls st n h o off tgt x y g0 g1 p0 p1 ab
  have a1 := (Classical.em (x = y)).elim (fun c9 => (p0 c9 (ab.pop.pop)).1) (fun c9 => (p1 c9 (ab.pop.pop)).1)
  refine ⟨a1, fun p e R s m args below meth c n0 ad0 fx H locs cells slots la ad mv c1 c2 => ?_⟩
  exact lv_icmp_eq fx.1 fx.2.1 g0 g1 (fun c9 => (p0 c9 (ab.pop.pop)).2 p e R s m args below meth c n0 ad0 fx H locs cells slots la ad mv c1 c2) (fun c9 => (p1 c9 (ab.pop.pop)).2 p e R s m args below meth c n0 ad0 fx H locs cells slots la ad mv c1 c2)
theorem sd_if_ne : RU_if_ne (Snd l D cy B0 b fw L xs) := by
  intro d M pc ls st n h o off tgt x g0 g1 p0 p1 ab
  have a1 := (Classical.em (¬ x = 0)).elim (fun c9 => (p0 c9 (ab.pop)).1) (fun c9 => (p1 (Classical.not_not.mp c9) (ab.pop)).1)
  refine ⟨a1, fun p e R s m args below meth c n0 ad0 fx H locs cells slots la ad mv c1 c2 => ?_⟩
  exact lv_if_ne fx.1 fx.2.1 g0 g1 (fun c9 => (p0 c9 (ab.pop)).2 p e R s m args below meth c n0 ad0 fx H locs cells slots la ad mv c1 c2) (fun c9 => (p1 c9 (ab.pop)).2 p e R s m args below meth c n0 ad0 fx H locs cells slots la ad mv c1 c2)
theorem sd_icmp_ne : RU_icmp_ne (Snd l D cy B0 b fw L xs) := by
  intro d M pc ls st n h o off tgt x y g0 g1 p0 p1 ab
  have a1 := (Classical.em (¬ x = y)).elim (fun c9 => (p0 c9 (ab.pop.pop)).1) (fun c9 => (p1 (Classical.not_not.mp c9) (ab.pop.pop)).1)
  refine ⟨a1, fun p e R s m args below meth c n0 ad0 fx H locs cells slots la ad mv c1 c2 => ?_⟩
  exact lv_icmp_ne fx.1 fx.2.1 g0 g1 (fun c9 => (p0 c9 (ab.pop.pop)).2 p e R s m args below meth c n0 ad0 fx H locs cells slots la ad mv c1 c2) (fun c9 => (p1 c9 (ab.pop.pop)).2 p e R s m args below meth c n0 ad0 fx H locs cells slots la ad mv c1 c2)
theorem sd_if_lt : RU_if_lt (Snd l D cy B0 b fw L xs) := by
  intro d M pc ls st n h o off tgt x g0 g1 p0 p1 ab
  have a1 := (Classical.em (x < 0)).elim (fun c9 => (p0 c9 (ab.pop)).1) (fun c9 => (p1 c9 (ab.pop)).1)
  refine ⟨a1, fun p e R s m args below meth c n0 ad0 fx H locs cells slots la ad mv c1 c2 => ?_⟩
  exact lv_if_lt fx.1 fx.2.1 g0 g1 (fun c9 => (p0 c9 (ab.pop)).2 p e R s m args below meth c n0 ad0 fx H locs cells slots la ad mv c1 c2) (fun c9 => (p1 c9 (ab.pop)).2 p e R s m args below meth c n0 ad0 fx H locs cells slots la ad mv c1 c2)
theorem sd_icmp_lt : RU_icmp_lt (Snd l D cy B0 b fw L xs) := by
  intro d M pc ls st n h o off tgt x y g0 g1 p0 p1 ab
  have a1 := (Classical.em (x < y)).elim (fun c9 => (p0 c9 (ab.pop.pop)).1) (fun c9 => (p1 c9 (ab.pop.pop)).1)
  refine ⟨a1, fun p e R s m args below meth c n0 ad0 fx H locs cells slots la ad mv c1 c2 => ?_⟩
  exact lv_icmp_lt fx.1 fx.2.1 g0 g1 (fun c9 => (p0 c9 (ab.pop.pop)).2 p e R s m args below meth c n0 ad0 fx H locs cells slots la ad mv c1 c2) (fun c9 => (p1 c9 (ab.pop.pop)).2 p e R s m args below meth c n0 ad0 fx H locs cells slots la ad mv c1 c2)
theorem sd_if_ge : RU_if_ge (Snd l D cy B0 b fw L xs) := by
  intro d M pc ls st n h o off tgt x g0 g1 p0 p1 ab
  have a1 := (Classical.em (0 ≤ x)).elim (fun c9 => (p0 c9 (ab.pop)).1) (fun c9 => (p1 c9 (ab.pop)).1)
  refine ⟨a1, fun p e R s m args below meth c n0 ad0 fx H locs cells slots la ad mv c1 c2 => ?_⟩
  exact lv_if_ge fx.1 fx.2.1 g0 g1 (fun c9 => (p0 c9 (ab.pop)).2 p e R s m args below meth c n0 ad0 fx H locs cells slots la ad mv c1 c2) (fun c9 => (p1 c9 (ab.pop)).2 p e R s m args below meth c n0 ad0 fx H locs cells slots la ad mv c1 c2)
theorem sd_icmp_ge : RU_icmp_ge (Snd l D cy B0 b fw L xs) := by
  intro d M pc ls st n h o off tgt x y g0 g1 p0 p1 ab
  have a1 := (Classical.em (y ≤ x)).elim (fun c9 => (p0 c9 (ab.pop.pop)).1) (fun c9 => (p1 c9 (ab.pop.pop)).1)
  refine ⟨a1, fun p e R s m args below meth c n0 ad0 fx H locs cells slots la ad mv c1 c2 => ?_⟩
  exact lv_icmp_ge fx.1 fx.2.1 g0 g1 (fun c9 => (p0 c9 (ab.pop.pop)).2 p e R s m args below meth c n0 ad0 fx H locs cells slots la ad mv c1 c2) (fun c9 => (p1 c9 (ab.pop.pop)).2 p e R s m args below meth c n0 ad0 fx H locs cells slots la ad mv c1 c2)
theorem sd_if_gt : RU_if_gt (Snd l D cy B0 b fw L xs) := by
  intro d M pc ls st n h o off tgt x g0 g1 p0 p1 ab
  have a1 := (Classical.em (0 < x)).elim (fun c9 => (p0 c9 (ab.pop)).1) (fun c9 => (p1 c9 (ab.pop)).1)
  refine ⟨a1, fun p e R s m args below meth c n0 ad0 fx H locs cells slots la ad mv c1 c2 => ?_⟩
  exact lv_if_gt fx.1 fx.2.1 g0 g1 (fun c9 => (p0 c9 (ab.pop)).2 p e R s m args below meth c n0 ad0 fx H locs cells slots la ad mv c1 c2) (fun c9 => (p1 c9 (ab.pop)).2 p e R s m args below meth c n0 ad0 fx H locs cells slots la ad mv c1 c2)
theorem sd_icmp_gt : RU_icmp_gt (Snd l D cy B0 b fw L xs) := by
  intro d M pc ls st n h o off tgt x y g0 g1 p0 p1 ab
  have a1 := (Classical.em (y < x)).elim (fun c9 => (p0 c9 (ab.pop.pop)).1) (fun c9 => (p1 c9 (ab.pop.pop)).1)
  refine ⟨a1, fun p e R s m args below meth c n0 ad0 fx H locs cells slots la ad mv c1 c2 => ?_⟩
  exact lv_icmp_gt fx.1 fx.2.1 g0 g1 (fun c9 => (p0 c9 (ab.pop.pop)).2 p e R s m args below meth c n0 ad0 fx H locs cells slots la ad mv c1 c2) (fun c9 => (p1 c9 (ab.pop.pop)).2 p e R s m args below meth c n0 ad0 fx H locs cells slots la ad mv c1 c2)
theorem sd_if_le : RU_if_le (Snd l D cy B0 b fw L xs) := by
  intro d M pc ls st n h o off tgt x g0 g1 p0 p1 ab
  have a1 := (Classical.em (x ≤ 0)).elim (fun c9 => (p0 c9 (ab.pop)).1) (fun c9 => (p1 c9 (ab.pop)).1)
  refine ⟨a1, fun p e R s m args below meth c n0 ad0 fx H locs cells slots la ad mv c1 c2 => ?_⟩
  exact lv_if_le fx.1 fx.2.1 g0 g1 (fun c9 => (p0 c9 (ab.pop)).2 p e R s m args below meth c n0 ad0 fx H locs cells slots la ad mv c1 c2) (fun c9 => (p1 c9 (ab.pop)).2 p e R s m args below meth c n0 ad0 fx H locs cells slots la ad mv c1 c2)
theorem sd_icmp_le : RU_icmp_le (Snd l D cy B0 b fw L xs) := by
  intro d M pc ls st n h o off tgt x y g0 g1 p0 p1 ab
  have a1 := (Classical.em (x ≤ y)).elim (fun c9 => (p0 c9 (ab.pop.pop)).1) (fun c9 => (p1 c9 (ab.pop.pop)).1)
  refine ⟨a1, fun p e R s m args below meth c n0 ad0 fx H locs cells slots la ad mv c1 c2 => ?_⟩
  exact lv_icmp_le fx.1 fx.2.1 g0 g1 (fun c9 => (p0 c9 (ab.pop.pop)).2 p e R s m args below meth c n0 ad0 fx H locs cells slots la ad mv c1 c2) (fun c9 => (p1 c9 (ab.pop.pop)).2 p e R s m args below meth c n0 ad0 fx H locs cells slots la ad mv c1 c2)
theorem sd_goto : RU_goto (Snd l D cy B0 b fw L xs) := by
  intro d M pc ls st n h o off tgt g0 g1 p0 ab
  obtain ⟨a1, kw⟩ := p0 (ab)
  refine ⟨a1, fun p e R s m args below meth c n0 ad0 fx H locs cells slots la ad mv c1 c2 => ?_⟩
  exact lv_goto fx.1 fx.2.1 g0 g1 (kw p e R s m args below meth c n0 ad0 fx H locs cells slots la ad mv c1 c2)
theorem sd_ifnull : RU_ifnull (Snd l D cy B0 b fw L xs) := by
  intro d M pc ls st n h o off x g0 p0 ab
  obtain ⟨a1, kw⟩ := p0 (ab.pop)
  refine ⟨a1, fun p e R s m args below meth c n0 ad0 fx H locs cells slots la ad mv c1 c2 => ?_⟩
  exact lv_ifnull fx.1 fx.2.1 g0 (kw p e R s m args below meth c n0 ad0 fx H locs cells slots la ad mv c1 c2)
theorem sd_ifnullN : RU_ifnullN (Snd l D cy B0 b fw L xs) := by
  intro d M pc ls st n h o off tgt g0 g1 p0 ab
  obtain ⟨a1, kw⟩ := p0 (ab.pop)
  refine ⟨a1, fun p e R s m args below meth c n0 ad0 fx H locs cells slots la ad mv c1 c2 => ?_⟩
  exact lv_ifnullN fx.1 fx.2.1 g0 g1 (kw p e R s m args below meth c n0 ad0 fx H locs cells slots la ad mv c1 c2)
theorem sd_ifnonnull : RU_ifnonnull (Snd l D cy B0 b fw L xs) := by
  intro d M pc ls st n h o off tgt x g0 g1 p0 ab
  obtain ⟨a1, kw⟩ := p0 (ab.pop)
  refine ⟨a1, fun p e R s m args below meth c n0 ad0 fx H locs cells slots la ad mv c1 c2 => ?_⟩
  exact lv_ifnonnull fx.1 fx.2.1 g0 g1 (kw p e R s m args below meth c n0 ad0 fx H locs cells slots la ad mv c1 c2)
theorem sd_ifnonnullN : RU_ifnonnullN (Snd l D cy B0 b fw L xs) := by
  intro d M pc ls st n h o off g0 p0 ab
  obtain ⟨a1, kw⟩ := p0 (ab.pop)
  refine ⟨a1, fun p e R s m args below meth c n0 ad0 fx H locs cells slots la ad mv c1 c2 => ?_⟩
  exact lv_ifnonnullN fx.1 fx.2.1 g0 (kw p e R s m args below meth c n0 ad0 fx H locs cells slots la ad mv c1 c2)
theorem sd_tableIn : RU_tableIn (Snd l D cy B0 b fw L xs) := by
  intro d M pc ls st n h o dflt lo hi offs len x off tgt g0 g1 g2 g3 g4 p0 ab
  obtain ⟨a1, kw⟩ := p0 (ab.pop)
  refine ⟨a1, fun p e R s m args below meth c n0 ad0 fx H locs cells slots la ad mv c1 c2 => ?_⟩
  exact lv_tableIn fx.1 fx.2.1 g0 g1 g2 g3 g4 (kw p e R s m args below meth c n0 ad0 fx H locs cells slots la ad mv c1 c2)
theorem sd_tableOut : RU_tableOut (Snd l D cy B0 b fw L xs) := by
  intro d M pc ls st n h o dflt lo hi offs len x tgt g0 g1 g2 p0 ab
  obtain ⟨a1, kw⟩ := p0 (ab.pop)
  refine ⟨a1, fun p e R s m args below meth c n0 ad0 fx H locs cells slots la ad mv c1 c2 => ?_⟩
  exact lv_tableOut fx.1 fx.2.1 g0 g1 g2 (kw p e R s m args below meth c n0 ad0 fx H locs cells slots la ad mv c1 c2)
theorem sd_sub : RU_sub (Snd l D cy B0 b fw L xs) := by
  intro d M pc ls st n h o ls1 g0 p0 ab
  obtain ⟨a1, kw⟩ := p0 ⟨ab.1, ab.2.1, fun q hq => ab.2.2.1 q (lsub_mem g0 q hq), ab.2.2.2⟩
  refine ⟨a1, fun p e R s m args below meth c n0 ad0 fx H locs cells slots la ad mv c1 c2 => ?_⟩
  have hl := mv.2.2.2.2.2.2
  exact kw p e R s m args below meth c n0 ad0 fx H locs cells slots la ad (mv.st ⟨hl.1, hl.2.1, fun q hq => by
    obtain ⟨q1, h1, rfl⟩ := List.mem_map.mp hq
    exact hl.2.2 _ (List.mem_map.mpr ⟨q1, lsub_mem g0 q1 h1, rfl⟩)⟩) c1 c2
end SND
end
section
/-! SOUNDNESS, third part: the heap, calls, ends -/
theorem am_k0 : ∀ w ∈ u_ws RX0 TX0 5, w ∈ am_ws := by
  intro w hw
  obtain ⟨k, hk, rfl⟩ := List.mem_map.mp hw
  have hk := List.mem_range.mp hk
  rcases (show k = 0 ∨ k = 1 ∨ k = 2 ∨ k = 3 ∨ k = 4 by omega) with rfl | rfl | rfl | rfl | rfl
  · exact am_in 164 (by decide +kernel) rfl
  · exact am_in 166 (by decide +kernel) rfl
  · exact am_in 168 (by decide +kernel) rfl
  · exact am_in 170 (by decide +kernel) rfl
  · exact am_in 172 (by decide +kernel) rfl
theorem am_k1 : ∀ w ∈ u_ws RX1 TX1 3, w ∈ am_ws := by
  intro w hw
  obtain ⟨k, hk, rfl⟩ := List.mem_map.mp hw
  have hk := List.mem_range.mp hk
  rcases (show k = 0 ∨ k = 1 ∨ k = 2 by omega) with rfl | rfl | rfl
  · exact am_in 87 (by decide +kernel) rfl
  · exact am_in 89 (by decide +kernel) rfl
  · exact am_in 91 (by decide +kernel) rfl
theorem am_k2 : ∀ w ∈ u_ws RX2 TX2 5, w ∈ am_ws := by
  intro w hw
  obtain ⟨k, hk, rfl⟩ := List.mem_map.mp hw
  have hk := List.mem_range.mp hk
  rcases (show k = 0 ∨ k = 1 ∨ k = 2 ∨ k = 3 ∨ k = 4 by omega) with rfl | rfl | rfl | rfl | rfl
  · exact am_in 111 (by decide +kernel) rfl
  · exact am_in 113 (by decide +kernel) rfl
  · exact am_in 115 (by decide +kernel) rfl
  · exact am_in 117 (by decide +kernel) rfl
  · exact am_in 119 (by decide +kernel) rfl
theorem am_k3 : ∀ w ∈ u_ws RX3 TX3 3, w ∈ am_ws := by
  intro w hw
  obtain ⟨k, hk, rfl⟩ := List.mem_map.mp hw
  have hk := List.mem_range.mp hk
  rcases (show k = 0 ∨ k = 1 ∨ k = 2 by omega) with rfl | rfl | rfl
  · exact am_in 197 (by decide +kernel) rfl
  · exact am_in 199 (by decide +kernel) rfl
  · exact am_in 201 (by decide +kernel) rfl
theorem am_k4 : ∀ w ∈ u_ws RX4 TX4 3, w ∈ am_ws := by
  intro w hw
  obtain ⟨k, hk, rfl⟩ := List.mem_map.mp hw
  have hk := List.mem_range.mp hk
  rcases (show k = 0 ∨ k = 1 ∨ k = 2 by omega) with rfl | rfl | rfl
  · exact am_in 146 (by decide +kernel) rfl
  · exact am_in 148 (by decide +kernel) rfl
  · exact am_in 150 (by decide +kernel) rfl
theorem am_k5 : ∀ w ∈ u_ws RX5 TX5 2, w ∈ am_ws := by
  intro w hw
  obtain ⟨k, hk, rfl⟩ := List.mem_map.mp hw
  have hk := List.mem_range.mp hk
  rcases (show k = 0 ∨ k = 1 by omega) with rfl | rfl
  · exact am_in 183 (by decide +kernel) rfl
  · exact am_in 185 (by decide +kernel) rfl
theorem am_k6 : ∀ w ∈ u_ws RX6 TX6 2, w ∈ am_ws := by
  intro w hw
  obtain ⟨k, hk, rfl⟩ := List.mem_map.mp hw
  have hk := List.mem_range.mp hk
  rcases (show k = 0 ∨ k = 1 by omega) with rfl | rfl
  · exact am_in 218 (by decide +kernel) rfl
  · exact am_in 220 (by decide +kernel) rfl
theorem am_k7 : ∀ w ∈ u_ws RX7 TX7 3, w ∈ am_ws := by
  intro w hw
  obtain ⟨k, hk, rfl⟩ := List.mem_map.mp hw
  have hk := List.mem_range.mp hk
  rcases (show k = 0 ∨ k = 1 ∨ k = 2 by omega) with rfl | rfl | rfl
  · exact am_in 226 (by decide +kernel) rfl
  · exact am_in 228 (by decide +kernel) rfl
  · exact am_in 230 (by decide +kernel) rfl
theorem am_k8 : ∀ w ∈ u_ws RX8 TX8 1, w ∈ am_ws := by
  intro w hw
  obtain ⟨k, hk, rfl⟩ := List.mem_map.mp hw
  have hk := List.mem_range.mp hk
  rcases (show k = 0 by omega) with rfl
  · exact am_in 140 (by decide +kernel) rfl
theorem am_k9 : ∀ w ∈ u_ws RX9 TX9 6, w ∈ am_ws := by
  intro w hw
  obtain ⟨k, hk, rfl⟩ := List.mem_map.mp hw
  have hk := List.mem_range.mp hk
  rcases (show k = 0 ∨ k = 1 ∨ k = 2 ∨ k = 3 ∨ k = 4 ∨ k = 5 by omega) with rfl | rfl | rfl | rfl | rfl | rfl
  · exact am_in 239 (by decide +kernel) rfl
  · exact am_in 241 (by decide +kernel) rfl
  · exact am_in 243 (by decide +kernel) rfl
  · exact am_in 245 (by decide +kernel) rfl
  · exact am_in 247 (by decide +kernel) rfl
  · exact am_in 249 (by decide +kernel) rfl
theorem am_k10 : ∀ w ∈ u_ws RX10 TX10 18, w ∈ am_ws := by
  intro w hw
  obtain ⟨k, hk, rfl⟩ := List.mem_map.mp hw
  have hk := List.mem_range.mp hk
  rcases (show k = 0 ∨ k = 1 ∨ k = 2 ∨ k = 3 ∨ k = 4 ∨ k = 5 ∨ k = 6 ∨ k = 7 ∨ k = 8 ∨ k = 9 ∨ k = 10 ∨ k = 11 ∨ k = 12 ∨ k = 13 ∨ k = 14 ∨ k = 15 ∨ k = 16 ∨ k = 17 by omega) with rfl | rfl | rfl | rfl | rfl | rfl | rfl | rfl | rfl | rfl | rfl | rfl | rfl | rfl | rfl | rfl | rfl | rfl
  · exact am_in 835 (by decide +kernel) rfl
  · exact am_in 837 (by decide +kernel) rfl
  · exact am_in 839 (by decide +kernel) rfl
  · exact am_in 841 (by decide +kernel) rfl
  · exact am_in 843 (by decide +kernel) rfl
  · exact am_in 845 (by decide +kernel) rfl
  · exact am_in 847 (by decide +kernel) rfl
  · exact am_in 849 (by decide +kernel) rfl
  · exact am_in 851 (by decide +kernel) rfl
  · exact am_in 853 (by decide +kernel) rfl
  · exact am_in 855 (by decide +kernel) rfl
  · exact am_in 857 (by decide +kernel) rfl
  · exact am_in 859 (by decide +kernel) rfl
  · exact am_in 861 (by decide +kernel) rfl
  · exact am_in 863 (by decide +kernel) rfl
  · exact am_in 865 (by decide +kernel) rfl
  · exact am_in 867 (by decide +kernel) rfl
  · exact am_in 869 (by decide +kernel) rfl
theorem am_cls : ∀ (ci : Nat) (q : vw_C), vwCl[ci]? = some q → (∀ w ∈ u_ws q.1 q.2.1 q.2.2, w ∈ am_ws) ∧ (∃ ty0 : Nat → FieldType, ∀ k, k < q.2.2 → parseFieldDescriptor (q.2.1 k).2.2.1 = some (ty0 k)) ∧ (∀ a, a < q.2.2 → ∀ b, b < q.2.2 → a ≠ b → (q.2.1 a).2.1 ≠ (q.2.1 b).2.1) := by
  intro ci q h
  match ci, h with
  | 0, h => cases h; exact ⟨am_k0, ⟨tyX0, tyX0_ok⟩, nmX0⟩
  | 1, h => cases h; exact ⟨am_k1, ⟨tyX1, tyX1_ok⟩, nmX1⟩
  | 2, h => cases h; exact ⟨am_k2, ⟨tyX2, tyX2_ok⟩, nmX2⟩
  | 3, h => cases h; exact ⟨am_k3, ⟨tyX3, tyX3_ok⟩, nmX3⟩
  | 4, h => cases h; exact ⟨am_k4, ⟨tyX4, tyX4_ok⟩, nmX4⟩
  | 5, h => cases h; exact ⟨am_k5, ⟨tyX5, tyX5_ok⟩, nmX5⟩
  | 6, h => cases h; exact ⟨am_k6, ⟨tyX6, tyX6_ok⟩, nmX6⟩
  | 7, h => cases h; exact ⟨am_k7, ⟨tyX7, tyX7_ok⟩, nmX7⟩
  | 8, h => cases h; exact ⟨am_k8, ⟨tyX8, tyX8_ok⟩, nmX8⟩
  | 9, h => cases h; exact ⟨am_k9, ⟨tyX9, tyX9_ok⟩, nmX9⟩
  | 10, h => cases h; exact ⟨am_k10, ⟨tyX10, tyX10_ok⟩, nmX10⟩
  | k + 11, h => simp [vwCl] at h
section SND
variable {l : Launch} {D : va_G} {cy : Nat → ClassId} {B0 b fw L : Nat} {xs : Nat → Int32}
theorem am_Oo.less {n n2 k1 q1 k q : Nat} {r : Option Value ⊕ String} {h2 : Hp} (a : am_Oo L xs (n + 1) (r, n2, h2, k1, q1)) : am_Oo L xs n (r, n2, h2, k, q) := ⟨Nat.le_of_succ_le a.1, a.2⟩
theorem am_good {w : Cond} (h : w ∈ am_ws) : (w.onTables && w.keeps) = true ∨ ∃ ty, w = .arrayClass ty := good_of_word (List.mem_filter.mp h).2
theorem am_code0 {M : MI} (hh : mH M = []) : am_code M = .code (mY M) (mB M) (mL M) (mR M) := by unfold am_code; rw [hh]
theorem am_codeT {M : MI} (hh : mH M ≠ []) : am_code M = .codeWith (mY M) (mB M) (mL M) (mR M) (mH M) := by
  unfold am_code
  split
  · next h => exact absurd h hh
  · rfl
theorem am_goodIn {M : MI} {w : Cond} (hc : w ∈ am_ws) : GoodIn am_ws (w :: am_ws) := by
  intro v hv
  rcases List.mem_cons.mp hv with h | h
  · rw [h]; exact ⟨hc, am_good hc⟩
  · exact ⟨h, am_good h⟩
/-- a method's start -/
def am_Pre (D : va_G) (cy : Nat → ClassId) (B0 b fw L : Nat) (xs : Nat → Int32) (ad : Nat → Nat) (n : Nat) (h : Hp) (U : State) : Prop := am_Wd D cy B0 ad n h U ∧ am_Env B0 b fw L xs U ∧ ad 0 = b ∧ ad 1 = fw
def am_rm (d k q : Nat) : Room := { frames := 12 + d, cells := k, slots := q, locals := 300 + 64 * d }
theorem am_slen : ∀ (vs : List Value), (lg_sl vs).length = csum vs
  | [] => rfl
  | v :: vs => by
    have ih := am_slen vs
    unfold lg_sl csum at *
    rw [List.flatMap_cons, List.length_append, ih, List.map_cons, List.sum_cons]
    rcases lv_cat v with h | h <;> simp [h]
theorem am_csum (ad : Nat → Nat) (vs : List Value) : csum (vs.map (cV ad)) = csum vs := by
  unfold csum
  rw [List.map_map, show (fun v : Value => v.category) ∘ cV ad = fun v => v.category from funext (cV_cat ad)]
theorem am_blind {ad : Nat → Nat} {n : Nat} {h : Hp} {vs : List Value} : FrameBlind (va_Pc vs (am_Pre D cy B0 b fw L xs ad n h)) := by
  intro a U g mk hq
  obtain ⟨q0, ⟨qP, qK, qD⟩, qE, q1⟩ := hq
  exact ⟨q0, ⟨qP, va_K.moved (u := U) (U := U.calling g mk a) (Vm.Alike.refl U.vm) qK, qD⟩, qE.go (U := U.calling g mk a) (State.WarmedH.refl U) (fun _ _ => rfl) qE.2.2.2.2.2.2.2.2.2.2.2.2.2.2.2, q1⟩
theorem am_onU {ad : Nat → Nat} {n : Nat} {h : Hp} {s U : State} {H : Heap} {locs : List Loc} (hP : va_P D vwCl (wl cy ad h n) H) (hK : va_K D vwCl (am_tys cy) s) (hD : va_D (am_A B0) (wl cy ad h n)) (hS : va_S (am_A B0) s.heap H locs) (hE : am_Env B0 b fw L xs s) (hb : ad 0 = b ∧ ad 1 = fw) (hU : U.heap = H) (hW : s.WarmedH U.vm) : am_Pre D cy B0 b fw L xs ad n h U := by
  have hz := hE.2.2.2.2.2.2.2.2.2.2.2.2.2.2.2
  refine ⟨⟨by rw [hU]; exact hP, va_K.moved hW.alike hK, hD⟩, hE.go hW (fun q hq => ?_) ?_, hb⟩
  · rw [hU]
    exact hS.2.1 q (Nat.lt_of_lt_of_le hq hz) (Nat.not_le.mpr hq)
  · rw [hU]
    exact Nat.le_trans hz hS.1
/-- the contract of a run that returns -/
theorem am_met {d : Nat} {M : MI} {vs : List Value} {n : Nat} {h : Hp} {v : Option Value} {n1 : Nat} {h1 : Hp} {k1 q1 : Nat} (S : Snd l D cy B0 b fw L xs d M 0 (lv_args 0 vs) [] n h (.inl v, n1, h1, k1, q1)) (ab : am_Ab L xs n h (lv_args 0 vs) []) (ok : am_OK M) (hh : mH M = []) (hm : csum vs ≤ mL M) (ad : Nat → Nat) :
    Met l (mY M) (Cond.code (mY M) (mB M) (mL M) (mR M) :: am_ws) (am_rm d k1 q1) (va_Pc (vs.map (cV ad)) (am_Pre D cy B0 b fw L xs ad n h)) (am_Qr D cy B0 v n1 h1 n ad) k1 q1 (am_A B0) := by
  refine Met.ofW (cc := mB M) (maxL := mL M) (ret := mR M) ok.1 rfl ?_
  intro p e s m args below meth c s₁ B hml hv
  obtain ⟨rfl, ⟨hP, hK, hD⟩, hE, hb⟩ := hv
  have hts := atoms_spec (ws := Cond.code (mY M) (mB M) (mL M) (mR M) :: am_ws) B.pre
  have hown : s.vm.findClass (mY M).cls = some m.cls := findClass_of_methodNamed B.named
  have ht : c.exceptionTable.toList = tableOf (mH M) := by
    obtain ⟨meth9, c9, e1, e2, -, -, -, -, e7, -⟩ := Cond.code_spec B.named (hts _ List.mem_cons_self)
    cases Option.some.inj (e1.symm.trans B.method)
    cases Option.some.inj (e2.symm.trans (Stand.of_body B).code)
    rw [Array.isEmpty_iff.mp e7, hh]
    rfl
  have hl := lv_entry (vs.map (cV ad)) (n := mL M) (by rw [am_slen, am_csum]; exact hm)
  rw [args_map] at hl
  rw [lg_entry_eq]
  generalize (lg_sl (vs.map (cV ad)) ++ List.replicate (mL M - (lg_sl (vs.map (cV ad))).length) Slot.unset).toArray = la at hl ⊢
  exact (S ab).2 p e (am_rm d k1 q1) s m _ below meth c n ad ⟨B.exec, B.bytes, B.returns, hml, by rw [ok.2.1]; exact hown, fun w hw => hts w (List.mem_cons_of_mem _ hw), B.notSynchronized, fun hi => (name_of_methodNamed B.named B.method).1.trans hi, ht, Nat.le_refl _, Nat.le_refl _, hK, hE⟩ s.heap [] 0 0 la ad ⟨hP, hD, va_S.rf, hb, Nat.le_refl _, fun _ _ => rfl, hl⟩ (Nat.le_of_eq (Nat.zero_add _)) (Nat.le_of_eq (Nat.zero_add _))
/-- .. of a method with a table -/
theorem am_metT {d : Nat} {M : MI} {vs : List Value} {n : Nat} {h : Hp} {v : Option Value} {n1 : Nat} {h1 : Hp} {k1 q1 : Nat} (S : Snd l D cy B0 b fw L xs d M 0 (lv_args 0 vs) [] n h (.inl v, n1, h1, k1, q1)) (ab : am_Ab L xs n h (lv_args 0 vs) []) (ok : am_OK M) (hm : csum vs ≤ mL M) (ad : Nat → Nat) :
    vx_Met l (mY M) (Cond.codeWith (mY M) (mB M) (mL M) (mR M) (mH M) :: am_ws) (am_rm d k1 q1) (va_Pc (vs.map (cV ad)) (am_Pre D cy B0 b fw L xs ad n h)) (am_Qr D cy B0 v n1 h1 n ad) (fun _ _ _ => False) k1 q1 (am_A B0) := by
  refine vx_ofWH (cc := mB M) (maxL := mL M) (ret := mR M) (hh := mH M) ok.1 rfl ?_
  intro p e s m args below meth c s₁ B hml hv
  obtain ⟨rfl, ⟨hP, hK, hD⟩, hE, hb⟩ := hv
  have hts := atoms_spec (ws := Cond.codeWith (mY M) (mB M) (mL M) (mR M) (mH M) :: am_ws) B.pre
  have hown : s.vm.findClass (mY M).cls = some m.cls := findClass_of_methodNamed B.named
  have ht : c.exceptionTable.toList = tableOf (mH M) := vx_table (x := mY M) (y := mY M) B (hts _ List.mem_cons_self)
  have hl := lv_entry (vs.map (cV ad)) (n := mL M) (by rw [am_slen, am_csum]; exact hm)
  rw [args_map] at hl
  rw [lg_entry_eq]
  generalize (lg_sl (vs.map (cV ad)) ++ List.replicate (mL M - (lg_sl (vs.map (cV ad))).length) Slot.unset).toArray = la at hl ⊢
  exact vx_ret ((S ab).2 p e (am_rm d k1 q1) s m _ below meth c n ad ⟨B.exec, B.bytes, B.returns, hml, by rw [ok.2.1]; exact hown, fun w hw => hts w (List.mem_cons_of_mem _ hw), B.notSynchronized, fun hi => (name_of_methodNamed B.named B.method).1.trans hi, ht, Nat.le_refl _, Nat.le_refl _, hK, hE⟩ s.heap [] 0 0 la ad ⟨hP, hD, va_S.rf, hb, Nat.le_refl _, fun _ _ => rfl, hl⟩ (Nat.le_of_eq (Nat.zero_add _)) (Nat.le_of_eq (Nat.zero_add _)))
/-- .. of a run that throws -/
theorem am_metX {d : Nat} {M : MI} {vs : List Value} {n : Nat} {h : Hp} {E : String} {n1 : Nat} {h1 : Hp} {k1 q1 : Nat} (S : Snd l D cy B0 b fw L xs d M 0 (lv_args 0 vs) [] n h (.inr E, n1, h1, k1, q1)) (ab : am_Ab L xs n h (lv_args 0 vs) []) (ok : am_OK M) (hh : mH M = []) (hm : csum vs ≤ mL M) (ad : Nat → Nat) :
    vx_Met l (mY M) (Cond.code (mY M) (mB M) (mL M) (mR M) :: am_ws) (am_rm d k1 q1) (va_Pc (vs.map (cV ad)) (am_Pre D cy B0 b fw L xs ad n h)) am_No (am_Qx D cy B0 E n1 h1 n ad) k1 q1 (am_A B0) := by
  refine vx_ofW (cc := mB M) (maxL := mL M) (ret := mR M) ok.1 rfl ?_
  intro p e s m args below meth c s₁ B hml ht0 hv
  obtain ⟨rfl, ⟨hP, hK, hD⟩, hE, hb⟩ := hv
  have hts := atoms_spec (ws := Cond.code (mY M) (mB M) (mL M) (mR M) :: am_ws) B.pre
  have hown : s.vm.findClass (mY M).cls = some m.cls := findClass_of_methodNamed B.named
  have ht : c.exceptionTable.toList = tableOf (mH M) := by
    rw [hh]
    exact List.eq_nil_iff_forall_not_mem.mpr ht0
  have hl := lv_entry (vs.map (cV ad)) (n := mL M) (by rw [am_slen, am_csum]; exact hm)
  rw [args_map] at hl
  rw [lg_entry_eq]
  generalize (lg_sl (vs.map (cV ad)) ++ List.replicate (mL M - (lg_sl (vs.map (cV ad))).length) Slot.unset).toArray = la at hl ⊢
  exact (S ab).2 p e (am_rm d k1 q1) s m _ below meth c n ad ⟨B.exec, B.bytes, B.returns, hml, by rw [ok.2.1]; exact hown, fun w hw => hts w (List.mem_cons_of_mem _ hw), B.notSynchronized, fun hi => (name_of_methodNamed B.named B.method).1.trans hi, ht, Nat.le_refl _, Nat.le_refl _, hK, hE⟩ s.heap [] 0 0 la ad ⟨hP, hD, va_S.rf, hb, Nat.le_refl _, fun _ _ => rfl, hl⟩ (Nat.le_of_eq (Nat.zero_add _)) (Nat.le_of_eq (Nat.zero_add _))
section CALLS
variable {p : Program} {e : Env} {R : Room} {s : State} {m : MethodId} {args : Array Value} {below : List Frame} {meth : Method} {c : Code} {H : Heap} {locs : List Loc} {cells slots : Nat} {Q : State → Prop} {k1 q1 pc n n1 : Nat} {h1 : Hp} {ad : Nat → Nat} {la : Array Slot} {st0 rest : List Value} {v : Option Value} {E : String} {a : Array Value}
theorem am_callR (hr : va_Run p l e R s m args below meth c H locs cells slots k1 q1 (F0 m pc la st0) rest (am_Qr D cy B0 v n1 h1 n ad a) (am_A B0)) (hS : va_S (am_A B0) s.heap H locs)
    (kk : ∀ (ad' : Nat → Nat) (H1 : Heap) (locs1 : List Loc), (∀ k, k < n → ad' k = ad k) → va_P D vwCl (wl cy ad' h1 n1) H1 → va_D (am_A B0) (wl cy ad' h1 n1) → va_S (am_A B0) s.heap H1 locs1 → W p l e R s m args below meth c H1 locs1 (cells + k1) (slots + q1) Q (F0 m (pc + 3) la ((v.map (cV ad')).toList ++ rest))) : W p l e R s m args below meth c H locs cells slots Q (F0 m pc la st0) := by
  intro T hT X
  obtain ⟨v', st₀, t, T', L9, h0, X', hL, e1, e2, ⟨⟨ad', hag, hv, hP, hK, hD⟩, hF⟩, st⟩ := hr T hT X
  cases hv
  obtain ⟨z1, z2, z3⟩ := vx_keep (A1 := am_A B0) (free := am_A B0) h0 e1 hS (fun _ _ h => h) (fun _ h => h) hL hF
  obtain ⟨t2, a1, b1⟩ := kk ad' T'.heap (locs ++ L9) hag (by rw [e1]; exact hP) hD z3 T' rfl X'
  exact ⟨t2, st t2 a1, b1⟩
theorem am_callRX (hr : vx_Run p l e R s m args below meth c H locs cells slots k1 q1 (F0 m pc la st0) rest (am_Qr D cy B0 v n1 h1 n ad a) (fun _ _ _ => False) (am_A B0)) (hS : va_S (am_A B0) s.heap H locs)
    (kk : ∀ (ad' : Nat → Nat) (H1 : Heap) (locs1 : List Loc), (∀ k, k < n → ad' k = ad k) → va_P D vwCl (wl cy ad' h1 n1) H1 → va_D (am_A B0) (wl cy ad' h1 n1) → va_S (am_A B0) s.heap H1 locs1 → W p l e R s m args below meth c H1 locs1 (cells + k1) (slots + q1) Q (F0 m (pc + 3) la ((v.map (cV ad')).toList ++ rest))) : W p l e R s m args below meth c H locs cells slots Q (F0 m pc la st0) := by
  intro T hT X
  rcases hr T hT X with ⟨v', st₀, t, T', L9, h0, X', hL, e1, e2, ⟨⟨ad', hag, hv, hP, hK, hD⟩, hF⟩, st⟩ | ⟨q, st₀, t, T', L9, E', ce, h0, X', hL, e1, e2, hx, -⟩
  · cases hv
    obtain ⟨z1, z2, z3⟩ := vx_keep (A1 := am_A B0) (free := am_A B0) h0 e1 hS (fun _ _ h => h) (fun _ h => h) hL hF
    obtain ⟨t2, a1, b1⟩ := kk ad' T'.heap (locs ++ L9) hag (by rw [e1]; exact hP) hD z3 T' rfl X'
    exact ⟨t2, st t2 a1, b1⟩
  · exact hx.elim
theorem am_callX (hr : vx_Run p l e R s m args below meth c H locs cells slots k1 q1 (F0 m pc la st0) rest (am_No a) (am_Qx D cy B0 E n1 h1 n ad) (am_A B0)) (hS : va_S (am_A B0) s.heap H locs)
    (kx : ∀ (ad' : Nat → Nat) (H1 : Heap) (locs1 : List Loc) (ce : Cell) (q9 : Addr), (∀ k, k < n → ad' k = ad k) → va_P D vwCl (wl cy ad' h1 n1) H1 → va_D (am_A B0) (wl cy ad' h1 n1) → va_S (am_A B0) s.heap H1 locs1 → H1[q9]? = some ce → ce.vm = .none → s.vm.findClass E = some ce.cls → vx_W p l e R s m args below meth c H1 locs1 (cells + k1) (slots + q1) Q (F0 m pc la rest) q9) : W p l e R s m args below meth c H locs cells slots Q (F0 m pc la st0) := by
  intro T hT X
  rcases hr T hT X with ⟨v', st₀, t, T', L9, h0, X', hL, e1, e2, hq, -⟩ | ⟨q, st₀, t, T', L9, E', ce, h0, X', hL, e1, e2, ⟨rfl, ⟨ad', hag, hP, hK, hD⟩, hF⟩, hce, hcv, hcl, st⟩
  · exact hq.elim
  · obtain ⟨z1, z2, z3⟩ := vx_keep (A1 := am_A B0) (free := am_A B0) h0 e1 hS (fun _ _ h => h) (fun _ h => h) hL hF
    obtain ⟨t2, a1, b1⟩ := kx ad' T'.heap (locs ++ L9) ce q hag (by rw [e1]; exact hP) hD z3 (by rw [e1]; exact hce) hcv hcl T' rfl X'
    exact ⟨t2, st.trans a1, b1⟩
end CALLS
theorem am_Mv.call {M : MI} {n0 : Nat} {ad0 : Nat → Nat} {ls : List (Nat × Value)} {st : List Value} {n n1 : Nat} {h h1 : Hp} {H H1 : Heap} {locs locs1 : List Loc} {la : Array Slot} {ad ad' : Nat → Nat} {s : State} (mv : am_Mv D cy B0 b fw M n0 ad0 ls n h H locs la ad s) (ab : am_Ab L xs n h ls st) (hn : n ≤ n1) (hag : ∀ k, k < n → ad' k = ad k)
    (hP : va_P D vwCl (wl cy ad' h1 n1) H1) (hD : va_D (am_A B0) (wl cy ad' h1 n1)) (hS : va_S (am_A B0) s.heap H1 locs1) : am_Mv D cy B0 b fw M n0 ad0 ls n1 h1 H1 locs1 la ad' s :=
  have h2 := ab.1
  have hn0 := mv.2.2.2.2.1
  ⟨hP, hD, hS, ⟨(hag 0 (by omega)).trans mv.2.2.2.1.1, (hag 1 (by omega)).trans mv.2.2.2.1.2⟩, Nat.le_trans hn0 hn, fun k hk => (hag k (Nat.lt_of_lt_of_le hk hn0)).trans (mv.2.2.2.2.2.1 k hk), by rw [mapP_agree hag ab.2.2.1]; exact mv.2.2.2.2.2.2⟩
theorem am_vst {ad : Nat → Nat} {v : Option Value} {st : List Value} : (v.toList ++ st).map (cV ad) = (v.map (cV ad)).toList ++ st.map (cV ad) := by cases v <;> rfl
theorem am_Abargs {n : Nat} {h : Hp} {ls : List (Nat × Value)} {st vs : List Value} (ab : am_Ab L xs n h ls st) (hv : ∀ v ∈ vs, v ∈ st) : am_Ab L xs n h (lv_args 0 vs) [] := ⟨ab.1, ab.2.1, fun q hq => ab.2.2.2.1 _ (hv _ (args_mem hq)), fun v hv => (by cases hv), ab.2.2.2.2⟩
theorem am_Abret {n n1 : Nat} {h h1 : Hp} {ls : List (Nat × Value)} {st : List Value} {v : Option Value} {k1 q1 : Nat} (ab : am_Ab L xs n h ls st) (o1 : am_Oo L xs n (.inl v, n1, h1, k1, q1)) : am_Ab L xs n1 h1 ls (v.toList ++ st) := by
  refine ⟨Nat.le_trans ab.1 o1.1, o1.2.1, fun q hq => am_ok_mono o1.1 (ab.2.2.1 q hq), fun u hu => ?_, o1.2.2.1, o1.2.2.2.1⟩
  rcases List.mem_append.mp hu with hu | hu
  · cases v with
    | none => cases hu
    | some v =>
      rcases List.mem_cons.mp hu with rfl | hu
      · exact o1.2.2.2.2 _ rfl
      · cases hu
  · exact am_ok_mono o1.1 (ab.2.2.2.1 u hu)
theorem am_Abx {n n1 : Nat} {h h1 : Hp} {ls : List (Nat × Value)} {st : List Value} {E : String} {k1 q1 : Nat} (ab : am_Ab L xs n h ls st) (o1 : am_Oo L xs n (.inr E, n1, h1, k1, q1)) (hk : Nat) : am_Ab L xs n1 h1 (lrm ls hk) [] :=
  ⟨Nat.le_trans ab.1 o1.1, o1.2.1, fun q hq => am_ok_mono o1.1 (ab.2.2.1 q (lrm_sub hq)), fun u hu => (by cases hu), o1.2.2.1, o1.2.2.2.1⟩
theorem am_nolong {M : MI} {n0 : Nat} {ad0 : Nat → Nat} {ls ls' : List (Nat × Value)} {n : Nat} {h : Hp} {H : Heap} {locs : List Loc} {la : Array Slot} {ad : Nat → Nat} {s : State} (mv : am_Mv D cy B0 b fw M n0 ad0 ls n h H locs la ad s) (hs : ∀ q ∈ ls', q ∈ ls) : am_Mv D cy B0 b fw M n0 ad0 ls' n h H locs la ad s :=
  mv.st ⟨mv.2.2.2.2.2.2.1, mv.2.2.2.2.2.2.2.1, fun q hq => by
    obtain ⟨q1, h1, rfl⟩ := List.mem_map.mp hq
    exact mv.2.2.2.2.2.2.2.2 _ (List.mem_map.mpr ⟨q1, hs q1 h1, rfl⟩)⟩

theorem sd_getfield : RU_getfield (Snd l D cy B0 b fw L xs) := by
  intro d M pc ls st n h o idx ci k a fs v g0 g1 g2 g3 p0 ab
  have hv : am_ok n v := by
    have h9 := ab.2.1 a ab.top
    rw [g2] at h9
    exact h9 v (List.mem_of_getElem? g3)
  obtain ⟨a1, kw⟩ := p0 (ab.pop.push hv)
  refine ⟨a1, fun p e R s m args below meth c n0 ad0 fx H locs cells slots la ad mv c1 c2 => ?_⟩
  obtain ⟨q, q1, q2, q3⟩ := g1
  exact va_get (C := q.1) (T := q.2.1) (N := q.2.2) fx.1 fx.2.1 fx.2.2.2.2.2.1 (am_cls ci q q1).1 fx.2.2.2.2.1 fx.2.2.2.2.2.2.2.2.2.2.2.1 mv.1 (a - 2) (am_get ad ab g2) q1 k q2 (fx.2.2.2.2.2.1 _ q3) (fun _ h9 => h9) (v := cV ad v) (by rw [List.getElem?_map, g3]; rfl) g0 (kw p e R s m args below meth c n0 ad0 fx H locs cells slots la ad mv c1 c2)
theorem sd_putfield : RU_putfield (Snd l D cy B0 b fw L xs) := by
  intro d M pc ls st n h o idx ci k a fs v g0 g1 g2 g3 g4 g5 p0 ab
  have h2 := am_ge2 ab.pop g4
  have han : a < n := ab.pop.top
  have hok : am_okE n (.inr (ci, fs.set k v)) := by
    intro u hu
    rcases List.mem_or_eq_of_mem_set hu with hu | rfl
    · have h9 := ab.2.1 a han
      rw [g4] at h9
      exact h9 u hu
    · exact ab.top
  obtain ⟨a1, kw⟩ := p0 (ab.pop.pop.up h2 hok)
  refine ⟨a1, fun p e R s m args below meth c n0 ad0 fx H locs cells slots la ad mv c1 c2 => ?_⟩
  obtain ⟨q, q1, q2, q3⟩ := g1
  obtain ⟨ty, t1, t2⟩ := g2 q q1
  obtain ⟨f1, ⟨ty0, f2⟩, f3⟩ := am_cls ci q q1
  have e9 : (ad a, (Sum.inr (ci, (fs.map (cV ad)).set k (cV ad v)) : va_E)) = (ad a, cE cy ad (.inr (ci, fs.set k v))) := by
    show _ = (ad a, (Sum.inr (ci, (fs.set k v).map (cV ad)) : va_E))
    rw [List.map_set]
  have kk : ∀ (H1 : Heap) (locs1 : List Loc), va_P D vwCl ((wl cy ad h n).set (a - 2) (ad a, .inr (ci, (fs.map (cV ad)).set k (cV ad v)))) H1 → va_D (am_A B0) ((wl cy ad h n).set (a - 2) (ad a, .inr (ci, (fs.map (cV ad)).set k (cV ad v)))) → va_S (am_A B0) s.heap H1 locs1 → W p l e R s m args below meth c H1 locs1 cells slots (am_Fin D cy B0 o n0 ad0 below args s R) (F0 m (pc + 3) la (st.map (cV ad))) := by
    intro H1 locs1 hP hD hS
    rw [e9] at hP hD
    exact kw p e R s m args below meth c n0 ad0 fx H1 locs1 cells slots la ad (mv.up h2 han hP hD hS) c1 c2
  cases hf : am_fin ci k with
  | false => exact va_put (C := q.1) (T := q.2.1) (N := q.2.2) fx.1 fx.2.1 fx.2.2.2.2.2.1 f1 ty0 f2 f3 fx.2.2.2.2.1 fx.2.2.2.2.2.2.2.2.2.2.2.1 mv.1 mv.2.1 mv.2.2.1 (a - 2) (am_get ad (ls := ls) (st := st) ab.pop g4) q1 k q2 (fx.2.2.2.2.2.1 _ q3) (fun _ h9 => h9) (by unfold am_fin at hf; rw [q1] at hf; exact hf) (v := cV ad v) t1 (t2 ad).1 (t2 ad).2 (by rw [List.length_map]; exact g5) g0 kk
  | true =>
    obtain ⟨i1, i2⟩ := g3 hf
    exact va_putF (C := q.1) (T := q.2.1) (N := q.2.2) fx.1 fx.2.1 fx.2.2.2.2.2.1 f1 ty0 f2 f3 fx.2.2.2.2.1 fx.2.2.2.2.2.2.2.2.2.2.2.1 mv.1 mv.2.1 mv.2.2.1 (a - 2) (am_get ad (ls := ls) (st := st) ab.pop g4) q1 k q2 (fx.2.2.2.2.2.1 _ q3) (fun _ h9 => h9) (by unfold am_fin at hf; rw [q1] at hf; exact hf) (fx.2.2.2.2.2.2.2.1 i1) (by unfold am_own at i2; rw [q1] at i2; exact i2) (v := cV ad v) t1 (t2 ad).1 (t2 ad).2 (by rw [List.length_map]; exact g5) g0 kk
theorem am_geta {n a t len : Nat} {h : Hp} {f : Nat → Int32} (ad : Nat → Nat) (h2 : 2 ≤ a) (hn : a < n) (g : h a = .inl (t, len, .inl f)) : (wl cy ad h n)[a - 2]? = some (ad a, .inl (cy t, len, .inl f)) := by
  rw [wl_get h2 hn, g]
  rfl
theorem am_getl {n a t len : Nat} {h : Hp} {f : Nat → Int64} (ad : Nat → Nat) (h2 : 2 ≤ a) (hn : a < n) (g : h a = .inl (t, len, .inr (.inl f))) : (wl cy ad h n)[a - 2]? = some (ad a, .inl (cy t, len, .inr (.inl f))) := by
  rw [wl_get h2 hn, g]
  rfl
theorem am_getq {n a t len : Nat} {h : Hp} {f : Nat → Option Nat} (ad : Nat → Nat) (h2 : 2 ≤ a) (hn : a < n) (g : h a = .inl (t, len, .inr (.inr (.inr (.inr f))))) : (wl cy ad h n)[a - 2]? = some (ad a, .inl (cy t, len, .inr (.inr (.inr (.inr (fun j => (f j).map ad)))))) := by
  rw [wl_get h2 hn, g]
  rfl
theorem am_geta9 {n a t : Nat} {h : Hp} {x : vp_A} (ad : Nat → Nat) (h2 : 2 ≤ a) (hn : a < n) (g : h a = .inl (t, x)) : ∃ y : vp_A, y.1 = x.1 ∧ (wl cy ad h n)[a - 2]? = some (ad a, .inl (cy t, y)) := by
  rw [wl_get h2 hn, g]
  obtain ⟨len, f | f | f | f | f⟩ := x
  · exact ⟨(len, .inl f), rfl, rfl⟩
  · exact ⟨(len, .inr (.inl f)), rfl, rfl⟩
  · exact ⟨(len, .inr (.inr (.inl f))), rfl, rfl⟩
  · exact ⟨(len, .inr (.inr (.inr (.inl f)))), rfl, rfl⟩
  · exact ⟨(len, .inr (.inr (.inr (.inr (fun j => (f j).map ad))))), rfl, rfl⟩
theorem am_rf (ad : Nat → Nat) (r : Option Nat) : cV ad (va_rf r) = va_rf (r.map ad) := by cases r <;> rfl
theorem sd_arraylength : RU_arraylength (Snd l D cy B0 b fw L xs) := by
  intro d M pc ls st n h o a t x g0 g1 g2 p0 ab
  obtain ⟨a1, kw⟩ := p0 (ab.pop.push trivial)
  refine ⟨a1, fun p e R s m args below meth c n0 ad0 fx H locs cells slots la ad mv c1 c2 => ?_⟩
  have hz := fx.2.2.2.2.2.2.2.2.2.2.2.2.2.2.2.2.2.2.2.2.2.2.2.2.2.2.2
  rcases (show a = 0 ∨ a = 1 ∨ 2 ≤ a by omega) with rfl | rfl | h2
  · have e9 := g1.symm.trans ab.2.2.2.2.1
    cases e9
    have kw := kw p e R s m args below meth c n0 ad0 fx H locs cells slots la ad mv c1 c2
    have hX := fx.2.2.2.2.2.2.2.2.2.2.2.2.1
    have hbl := fx.2.2.2.2.2.2.2.2.2.2.2.2.2.1
    rw [← mv.2.2.2.1.1] at hX hbl
    exact va_slen fx.1 fx.2.1 hX (Nat.lt_of_lt_of_le hbl hz) (Nat.not_le.mpr hbl) mv.2.2.1 g0 kw
  · have e9 := g1.symm.trans ab.2.2.2.2.2
    cases e9
    have kw := kw p e R s m args below meth c n0 ad0 fx H locs cells slots la ad mv c1 c2
    have hX := fx.2.2.2.2.2.2.2.2.2.2.2.2.2.2.1
    have hbl := fx.2.2.2.2.2.2.2.2.2.2.2.2.2.2.2.1
    rw [← mv.2.2.2.1.2] at hX hbl
    exact va_slen fx.1 fx.2.1 hX (Nat.lt_of_lt_of_le hbl hz) (Nat.not_le.mpr hbl) mv.2.2.1 g0 kw
  · obtain ⟨y, y1, y2⟩ := am_geta9 (cy := cy) ad h2 ab.top g1
    rcases (show t = 0 ∨ t = 1 ∨ t = 2 ∨ t = 3 by omega) with rfl | rfl | rfl | rfl
    · exact va_alen fx.1 fx.2.1 fx.2.2.2.2.2.2.2.2.2.2.2.1 mv.1 (a - 2) 0 y2 (ty := .int) rfl (by rw [y1]) g0 (kw p e R s m args below meth c n0 ad0 fx H locs cells slots la ad mv c1 c2)
    · exact va_alen fx.1 fx.2.1 fx.2.2.2.2.2.2.2.2.2.2.2.1 mv.1 (a - 2) 1 y2 (ty := .long) rfl (by rw [y1]) g0 (kw p e R s m args below meth c n0 ad0 fx H locs cells slots la ad mv c1 c2)
    · exact va_alen fx.1 fx.2.1 fx.2.2.2.2.2.2.2.2.2.2.2.1 mv.1 (a - 2) 2 y2 (ty := .boolean) rfl (by rw [y1]) g0 (kw p e R s m args below meth c n0 ad0 fx H locs cells slots la ad mv c1 c2)
    · exact va_alen fx.1 fx.2.1 fx.2.2.2.2.2.2.2.2.2.2.2.1 mv.1 (a - 2) 3 y2 (ty := .object "Glosspair$SentencePair") rfl (by rw [y1]) g0 (kw p e R s m args below meth c n0 ad0 fx H locs cells slots la ad mv c1 c2)
theorem sd_iaload : RU_iaload (Snd l D cy B0 b fw L xs) := by
  intro d M pc ls st n h o a len x f g0 g1 g2 p0 ab
  obtain ⟨a1, kw⟩ := p0 (ab.pop.pop.push trivial)
  refine ⟨a1, fun p e R s m args below meth c n0 ad0 fx H locs cells slots la ad mv c1 c2 => ?_⟩
  have hz := fx.2.2.2.2.2.2.2.2.2.2.2.2.2.2.2.2.2.2.2.2.2.2.2.2.2.2.2
  rcases (show a = 0 ∨ a = 1 ∨ 2 ≤ a by omega) with rfl | rfl | h2
  · have e9 := g1.symm.trans ab.2.2.2.2.1
    cases e9
    have kw := kw p e R s m args below meth c n0 ad0 fx H locs cells slots la ad mv c1 c2
    have hX := fx.2.2.2.2.2.2.2.2.2.2.2.2.1
    have hbl := fx.2.2.2.2.2.2.2.2.2.2.2.2.2.1
    rw [← mv.2.2.2.1.1] at hX hbl
    exact va_sld fx.1 fx.2.1 hX (Nat.lt_of_lt_of_le hbl hz) (Nat.not_le.mpr hbl) mv.2.2.1 g2 g0 kw
  · have e9 := g1.symm.trans ab.2.2.2.2.2
    cases e9
    have kw := kw p e R s m args below meth c n0 ad0 fx H locs cells slots la ad mv c1 c2
    have hX := fx.2.2.2.2.2.2.2.2.2.2.2.2.2.2.1
    have hbl := fx.2.2.2.2.2.2.2.2.2.2.2.2.2.2.2.1
    rw [← mv.2.2.2.1.2] at hX hbl
    exact va_sld fx.1 fx.2.1 hX (Nat.lt_of_lt_of_le hbl hz) (Nat.not_le.mpr hbl) mv.2.2.1 g2 g0 kw
  · exact va_iald fx.1 fx.2.1 fx.2.2.2.2.2.2.2.2.2.2.2.1 mv.1 (a - 2) 0 (am_geta ad h2 ab.pop.top g1) rfl g2 g0 (kw p e R s m args below meth c n0 ad0 fx H locs cells slots la ad mv c1 c2)
theorem sd_baload : RU_baload (Snd l D cy B0 b fw L xs) := by
  intro d M pc ls st n h o a len x f g0 g1 g2 p0 ab
  obtain ⟨a1, kw⟩ := p0 (ab.pop.pop.push trivial)
  refine ⟨a1, fun p e R s m args below meth c n0 ad0 fx H locs cells slots la ad mv c1 c2 => ?_⟩
  exact va_zald fx.1 fx.2.1 fx.2.2.2.2.2.2.2.2.2.2.2.1 mv.1 (a - 2) 2 (am_geta ad (am_ge2t ab g1 (by omega)) ab.pop.top g1) rfl g2 g0 (kw p e R s m args below meth c n0 ad0 fx H locs cells slots la ad mv c1 c2)
theorem sd_laload : RU_laload (Snd l D cy B0 b fw L xs) := by
  intro d M pc ls st n h o a len x f g0 g1 g2 p0 ab
  obtain ⟨a1, kw⟩ := p0 (ab.pop.pop.push trivial)
  refine ⟨a1, fun p e R s m args below meth c n0 ad0 fx H locs cells slots la ad mv c1 c2 => ?_⟩
  exact va_lald fx.1 fx.2.1 fx.2.2.2.2.2.2.2.2.2.2.2.1 mv.1 (a - 2) 1 (am_getl ad (am_ge2t ab g1 (by omega)) ab.pop.top g1) rfl g2 g0 (kw p e R s m args below meth c n0 ad0 fx H locs cells slots la ad mv c1 c2)
theorem sd_aaload : RU_aaload (Snd l D cy B0 b fw L xs) := by
  intro d M pc ls st n h o a len x f g0 g1 g2 p0 ab
  have hv : am_ok n (va_rf (f x.toNatClampNeg)) := by
    have h9 := ab.2.1 a ab.pop.top
    rw [g1] at h9
    cases hf : f x.toNatClampNeg with
    | none => trivial
    | some k => exact h9 _ k hf
  obtain ⟨a1, kw⟩ := p0 (ab.pop.pop.push hv)
  refine ⟨a1, fun p e R s m args below meth c n0 ad0 fx H locs cells slots la ad mv c1 c2 => ?_⟩
  have kw := kw p e R s m args below meth c n0 ad0 fx H locs cells slots la ad mv c1 c2
  rw [List.map_cons, am_rf] at kw
  exact va_aldq fx.1 fx.2.1 fx.2.2.2.2.2.2.2.2.2.2.2.1 mv.1 (a - 2) 3 (am_getq ad (am_ge2t ab g1 (by omega)) ab.pop.top g1) rfl g2 g0 kw
theorem sd_iastore : RU_iastore (Snd l D cy B0 b fw L xs) := by
  intro d M pc ls st n h o a len x y f g0 g1 g2 g3 p0 ab
  have han : a < n := ab.pop.pop.top
  obtain ⟨a1, kw⟩ := p0 (ab.pop.pop.pop.up g1 trivial)
  refine ⟨a1, fun p e R s m args below meth c n0 ad0 fx H locs cells slots la ad mv c1 c2 => ?_⟩
  exact va_iast fx.1 fx.2.1 fx.2.2.2.2.2.2.2.2.2.2.2.1 mv.1 mv.2.1 mv.2.2.1 (a - 2) 0 (am_geta ad g1 han g2) rfl g3 g0 (fun H1 locs1 hP hD hS => kw p e R s m args below meth c n0 ad0 fx H1 locs1 cells slots la ad (mv.up g1 han hP hD hS) c1 c2)
theorem sd_bastore : RU_bastore (Snd l D cy B0 b fw L xs) := by
  intro d M pc ls st n h o a len x y f g0 g1 g2 g3 p0 ab
  have han : a < n := ab.pop.pop.top
  obtain ⟨a1, kw⟩ := p0 (ab.pop.pop.pop.up g1 trivial)
  refine ⟨a1, fun p e R s m args below meth c n0 ad0 fx H locs cells slots la ad mv c1 c2 => ?_⟩
  exact va_zast fx.1 fx.2.1 fx.2.2.2.2.2.2.2.2.2.2.2.1 mv.1 mv.2.1 mv.2.2.1 (a - 2) 2 (am_geta ad g1 han g2) rfl g3 g0 (fun H1 locs1 hP hD hS => kw p e R s m args below meth c n0 ad0 fx H1 locs1 cells slots la ad (mv.up g1 han hP hD hS) c1 c2)
theorem sd_lastore : RU_lastore (Snd l D cy B0 b fw L xs) := by
  intro d M pc ls st n h o a len x y f g0 g1 g2 g3 p0 ab
  have han : a < n := ab.pop.pop.top
  obtain ⟨a1, kw⟩ := p0 (ab.pop.pop.pop.up g1 trivial)
  refine ⟨a1, fun p e R s m args below meth c n0 ad0 fx H locs cells slots la ad mv c1 c2 => ?_⟩
  exact va_last fx.1 fx.2.1 fx.2.2.2.2.2.2.2.2.2.2.2.1 mv.1 mv.2.1 mv.2.2.1 (a - 2) 1 (am_getl ad g1 han g2) rfl g3 g0 (fun H1 locs1 hP hD hS => kw p e R s m args below meth c n0 ad0 fx H1 locs1 cells slots la ad (mv.up g1 han hP hD hS) c1 c2)
theorem sd_aastore : RU_aastore (Snd l D cy B0 b fw L xs) := by
  intro d M pc ls st n h o a len v x f vs g0 g1 g2 g3 g4 p0 ab
  have han : a < n := ab.pop.pop.top
  have hvn : v < n := ab.top
  have hok : am_okE n (.inl (3, len, .inr (.inr (.inr (.inr (va_up f x.toNatClampNeg (some v))))))) := by
    intro j k hj
    unfold va_up at hj
    split at hj
    · cases hj; exact hvn
    · have h9 := ab.2.1 a han
      rw [g2] at h9
      exact h9 j k hj
  obtain ⟨a1, kw⟩ := p0 (ab.pop.pop.pop.up g1 hok)
  refine ⟨a1, fun p e R s m args below meth c n0 ad0 fx H locs cells slots la ad mv c1 c2 => ?_⟩
  have e9 : (va_up (fun j => (f j).map ad) x.toNatClampNeg (some (ad v))) = fun j => (va_up f x.toNatClampNeg (some v) j).map ad := by
    funext j
    unfold va_up
    split <;> rfl
  refine va_astq (r := (RX7, TX7, 3)) fx.1 fx.2.1 fx.2.2.2.2.2.2.2.2.2.2.2.1 mv.1 mv.2.1 mv.2.2.1 (a - 2) 3 (v - 2) 7 (am_getq ad g1 han g2) rfl (am_get ad (ls := ls) (st := .int x :: .ref a :: st) ab g3) rfl g4 g0 (fun H1 locs1 hP hD hS => ?_)
  rw [e9] at hP hD
  exact kw p e R s m args below meth c n0 ad0 fx H1 locs1 cells slots la ad (mv.up g1 han hP hD hS) c1 c2
theorem sd_new : RU_new (Snd l D cy B0 b fw L xs) := by
  intro d M pc ls st n h idx ci N fs r n2 h2 k1 q1 g0 g1 p0 ab
  obtain ⟨q, qq, q2, q3, q4, q5, q6, q7⟩ := g1
  have hok : am_okE (n + 1) (.inr (ci, fs)) := fun v hv => am_ok_mono (Nat.zero_le _) (q7 v hv).1
  obtain ⟨a0, kw⟩ := p0 ((ab.new hok).push (Nat.lt_succ_self n))
  have a1 : am_Oo L xs n (r, n2, h2, 1 + k1, N + q1) := a0.less
  refine ⟨a1, fun p e R s m args below meth c n0 ad0 fx H locs cells slots la ad mv c1 c2 => ?_⟩
  obtain ⟨f1, ⟨ty0, f2⟩, f3⟩ := am_cls ci q qq
  have c1 : cells + (1 + k1) ≤ R.cells := c1
  have c2 : slots + (N + q1) ≤ R.slots := c2
  subst q2
  refine va_new (C := q.1) (T := q.2.1) (N := q.2.2) (fs := fs) fx.1 fx.2.1 fx.2.2.2.2.2.1 f1 ty0 f2 fx.2.2.2.2.1 (fx.2.2.2.2.2.1 _ q3) (fx.2.2.2.2.2.1 _ q4) (fx.2.2.2.2.2.1 _ q5) fx.2.2.2.2.2.2.2.2.2.2.2.1 mv.1 mv.2.1 mv.2.2.1 (fun _ h9 => Nat.le_trans fx.2.2.2.2.2.2.2.2.2.2.2.2.2.2.2.2.2.2.2.2.2.2.2.2.2.2.2 h9) qq (fun j hj => q6 j hj _ (f2 j hj)) (by omega) (by omega) g0 (fun q9 H1 hP hD hS => ?_)
  have kw := kw p e R s m args below meth c n0 ad0 fx H1 locs (cells + 1) (slots + q.2.2) la (va_up ad n q9) (mv.new ab (show cE cy (va_up ad n q9) (.inr (ci, fs)) = .inr (ci, fs) by
    show (Sum.inr (ci, fs.map (cV (va_up ad n q9))) : va_E) = _
    rw [show fs.map (cV (va_up ad n q9)) = fs from (List.map_congr_left fun v hv => (q7 v hv).2 _).trans (List.map_id fs)]) hP hD hS) (by show cells + 1 + k1 ≤ _; omega) (by show slots + q.2.2 + q1 ≤ _; omega)
  rw [List.map_cons, map_up ab.2.2.2.1, show cV (va_up ad n q9) (.ref n) = .ref q9 by simp [cV, va_up]] at kw
  exact kw
theorem sd_newarray0 : RU_newarray0 (Snd l D cy B0 b fw L xs) := by
  intro d M pc ls st n h x N r n2 h2 k1 q1 g0 g1 g2 p0 ab
  obtain ⟨a0, kw⟩ := p0 ((ab.pop.new (e := .inl (0, N, .inl (fun _ => 0))) trivial).push (Nat.lt_succ_self n))
  have a1 : am_Oo L xs n (r, n2, h2, 1 + k1, N + q1) := a0.less
  refine ⟨a1, fun p e R s m args below meth c n0 ad0 fx H locs cells slots la ad mv c1 c2 => ?_⟩
  have c1 : cells + (1 + k1) ≤ R.cells := c1
  have c2 : slots + (N + q1) ≤ R.slots := c2
  subst g1
  refine va_newa (atype := .int) (ty := .int) (N' := N) (a0 := (N, .inl (fun _ => 0))) fx.1 fx.2.1 (fx.2.2.2.2.2.1 (.arrayClass .int) (am_in 122 (by decide +kernel) rfl)) rfl fx.2.2.2.2.2.2.2.2.2.2.2.1 mv.1 mv.2.1 mv.2.2.1 (fun _ h9 => Nat.le_trans fx.2.2.2.2.2.2.2.2.2.2.2.2.2.2.2.2.2.2.2.2.2.2.2.2.2.2.2 h9) (fun cA => rfl) (nI_pos (by omega)) (nI_clamp (by omega)) (by show N * 4 ≤ _; omega) (by omega) (by omega) g0 (fun q9 cA H1 hK hP hD hS => ?_)
  have hcA := am_ty (ty := .int) fx.2.2.2.2.2.2.2.2.2.2.2.1 (t := 0) rfl hK
  subst hcA
  have kw := kw p e R s m args below meth c n0 ad0 fx H1 locs (cells + 1) (slots + N) la (va_up ad n q9) (mv.new ab.pop (show cE cy (va_up ad n q9) (.inl (0, N, .inl (fun _ => 0))) = .inl (cy 0, N, .inl (fun _ => 0)) from rfl) hP hD hS) (by show cells + 1 + k1 ≤ _; omega) (by show slots + N + q1 ≤ _; omega)
  rw [List.map_cons, map_up ab.pop.2.2.2.1, show cV (va_up ad n q9) (.ref n) = .ref q9 by simp [cV, va_up]] at kw
  exact kw
theorem sd_newarray1 : RU_newarray1 (Snd l D cy B0 b fw L xs) := by
  intro d M pc ls st n h x N r n2 h2 k1 q1 g0 g1 g2 p0 ab
  obtain ⟨a0, kw⟩ := p0 ((ab.pop.new (e := .inl (1, N, .inr (.inl (fun _ => 0)))) trivial).push (Nat.lt_succ_self n))
  have a1 : am_Oo L xs n (r, n2, h2, 1 + k1, N + q1) := a0.less
  refine ⟨a1, fun p e R s m args below meth c n0 ad0 fx H locs cells slots la ad mv c1 c2 => ?_⟩
  have c1 : cells + (1 + k1) ≤ R.cells := c1
  have c2 : slots + (N + q1) ≤ R.slots := c2
  subst g1
  refine va_newa (atype := .long) (ty := .long) (N' := N) (a0 := (N, .inr (.inl (fun _ => 0)))) fx.1 fx.2.1 (fx.2.2.2.2.2.1 (.arrayClass .long) (am_in 123 (by decide +kernel) rfl)) rfl fx.2.2.2.2.2.2.2.2.2.2.2.1 mv.1 mv.2.1 mv.2.2.1 (fun _ h9 => Nat.le_trans fx.2.2.2.2.2.2.2.2.2.2.2.2.2.2.2.2.2.2.2.2.2.2.2.2.2.2.2 h9) (fun cA => rfl) (nI_pos (by omega)) (nI_clamp (by omega)) (by show N * 8 ≤ _; omega) (by omega) (by omega) g0 (fun q9 cA H1 hK hP hD hS => ?_)
  have hcA := am_ty (ty := .long) fx.2.2.2.2.2.2.2.2.2.2.2.1 (t := 1) rfl hK
  subst hcA
  have kw := kw p e R s m args below meth c n0 ad0 fx H1 locs (cells + 1) (slots + N) la (va_up ad n q9) (mv.new ab.pop (show cE cy (va_up ad n q9) (.inl (1, N, .inr (.inl (fun _ => 0)))) = .inl (cy 1, N, .inr (.inl (fun _ => 0))) from rfl) hP hD hS) (by show cells + 1 + k1 ≤ _; omega) (by show slots + N + q1 ≤ _; omega)
  rw [List.map_cons, map_up ab.pop.2.2.2.1, show cV (va_up ad n q9) (.ref n) = .ref q9 by simp [cV, va_up]] at kw
  exact kw
theorem sd_newarray2 : RU_newarray2 (Snd l D cy B0 b fw L xs) := by
  intro d M pc ls st n h x N r n2 h2 k1 q1 g0 g1 g2 p0 ab
  obtain ⟨a0, kw⟩ := p0 ((ab.pop.new (e := .inl (2, N, .inl (fun _ => 0))) trivial).push (Nat.lt_succ_self n))
  have a1 : am_Oo L xs n (r, n2, h2, 1 + k1, N + q1) := a0.less
  refine ⟨a1, fun p e R s m args below meth c n0 ad0 fx H locs cells slots la ad mv c1 c2 => ?_⟩
  have c1 : cells + (1 + k1) ≤ R.cells := c1
  have c2 : slots + (N + q1) ≤ R.slots := c2
  subst g1
  refine va_newa (atype := .boolean) (ty := .boolean) (N' := N) (a0 := (N, .inl (fun _ => 0))) fx.1 fx.2.1 (fx.2.2.2.2.2.1 (.arrayClass .boolean) (am_in 872 (by decide +kernel) rfl)) rfl fx.2.2.2.2.2.2.2.2.2.2.2.1 mv.1 mv.2.1 mv.2.2.1 (fun _ h9 => Nat.le_trans fx.2.2.2.2.2.2.2.2.2.2.2.2.2.2.2.2.2.2.2.2.2.2.2.2.2.2.2 h9) (fun cA => rfl) (nI_pos (by omega)) (nI_clamp (by omega)) (by show N * 1 ≤ _; omega) (by omega) (by omega) g0 (fun q9 cA H1 hK hP hD hS => ?_)
  have hcA := am_ty (ty := .boolean) fx.2.2.2.2.2.2.2.2.2.2.2.1 (t := 2) rfl hK
  subst hcA
  have kw := kw p e R s m args below meth c n0 ad0 fx H1 locs (cells + 1) (slots + N) la (va_up ad n q9) (mv.new ab.pop (show cE cy (va_up ad n q9) (.inl (2, N, .inl (fun _ => 0))) = .inl (cy 2, N, .inl (fun _ => 0)) from rfl) hP hD hS) (by show cells + 1 + k1 ≤ _; omega) (by show slots + N + q1 ≤ _; omega)
  rw [List.map_cons, map_up ab.pop.2.2.2.1, show cV (va_up ad n q9) (.ref n) = .ref q9 by simp [cV, va_up]] at kw
  exact kw
theorem sd_anewarray : RU_anewarray (Snd l D cy B0 b fw L xs) := by
  intro d M pc ls st n h x N idx r n2 h2 k1 q1 g0 g1 g2 g3 p0 ab
  obtain ⟨a0, kw⟩ := p0 ((ab.pop.new (e := .inl (3, N, .inr (.inr (.inr (.inr (fun _ => none)))))) (fun j k hj => by cases hj)).push (Nat.lt_succ_self n))
  have a1 : am_Oo L xs n (r, n2, h2, 1 + k1, N + q1) := a0.less
  refine ⟨a1, fun p e R s m args below meth c n0 ad0 fx H locs cells slots la ad mv c1 c2 => ?_⟩
  have c1 : cells + (1 + k1) ≤ R.cells := c1
  have c2 : slots + (N + q1) ≤ R.slots := c2
  subst g2
  refine va_newq (C := "Glosspair$SentencePair") (N' := N) fx.1 fx.2.1 fx.2.2.2.2.1 (fx.2.2.2.2.2.1 _ g1) fx.2.2.2.2.2.2.2.2.2.2.2.2.2.2.2.2.2.2.2.2.2.2.2.2.1 fx.2.2.2.2.2.2.2.2.2.2.2.1 mv.1 mv.2.1 mv.2.2.1 (fun _ h9 => Nat.le_trans fx.2.2.2.2.2.2.2.2.2.2.2.2.2.2.2.2.2.2.2.2.2.2.2.2.2.2.2 h9) (nI_pos (by omega)) (nI_clamp (by omega)) (by omega) (by omega) (by omega) g0 (fun q9 cA H1 hK hP hD hS => ?_)
  have hcA := am_ty (ty := .object "Glosspair$SentencePair") fx.2.2.2.2.2.2.2.2.2.2.2.1 (t := 3) rfl hK
  subst hcA
  have kw := kw p e R s m args below meth c n0 ad0 fx H1 locs (cells + 1) (slots + N) la (va_up ad n q9) (mv.new ab.pop (show cE cy (va_up ad n q9) (.inl (3, N, .inr (.inr (.inr (.inr (fun _ => none)))))) = .inl (cy 3, N, .inr (.inr (.inr (.inr (fun _ => none))))) from rfl) hP hD hS) (by show cells + 1 + k1 ≤ _; omega) (by show slots + N + q1 ≤ _; omega)
  rw [List.map_cons, map_up ab.pop.2.2.2.1, show cV (va_up ad n q9) (.ref n) = .ref q9 by simp [cV, va_up]] at kw
  exact kw
theorem sd_getFW : RU_getFW (Snd l D cy B0 b fw L xs) := by
  intro d M pc ls st n h o idx g0 g1 g2 p0 ab
  have h2 := ab.1
  obtain ⟨a1, kw⟩ := p0 (ab.push (show 1 < n by omega))
  refine ⟨a1, fun p e R s m args below meth c n0 ad0 fx H locs cells slots la ad mv c1 c2 => ?_⟩
  subst g2
  have kw := kw p e R s m args below meth c n0 ad0 fx H locs cells slots la ad mv c1 c2
  rw [List.map_cons, show cV ad (.ref 1) = .ref fw from congrArg Value.ref mv.2.2.2.1.2] at kw
  have ho := fx.2.2.2.2.1
  rw [g1] at ho
  exact va_getsN fx.1 fx.2.1 fx.2.2.2.2.2.2.2.2.2.2.2.2.2.2.2.2.1 mv.2.2.1 ho (va_Nw.use rfl fx.2.2.2.2.2.2.2.2.2.2.2.2.2.2.2.2.2.2.2.2.2.1) (fun _ h9 => h9) g0 kw
theorem sd_castI : RU_castI (Snd l D cy B0 b fw L xs) := by
  intro d M pc ls st n h o idx a len f g0 g1 g2 g3 p0 ab
  obtain ⟨a1, kw⟩ := p0 ab
  refine ⟨a1, fun p e R s m args below meth c n0 ad0 fx H locs cells slots la ad mv c1 c2 => ?_⟩
  exact va_castA fx.1 fx.2.1 fx.2.2.2.2.1 (fx.2.2.2.2.2.1 _ g1) mv.1 (a - 2) (am_geta ad g2 ab.top g3) (((fx.2.2.2.2.2.2.2.2.2.2.2.1).2 0 _ rfl).2) g0 (kw p e R s m args below meth c n0 ad0 fx H locs cells slots la ad mv c1 c2)
theorem sd_objInit : RU_objInit (Snd l D cy B0 b fw L xs) := by
  intro d M pc ls st n h o idx a g0 g1 g2 p0 ab
  obtain ⟨a1, kw⟩ := p0 ab.pop
  refine ⟨a1, fun p e R s m args below meth c n0 ad0 fx H locs cells slots la ad mv c1 c2 => ?_⟩
  have hlo := fx.2.2.2.2.2.2.2.2.2.2.1
  have hfr := fx.2.2.2.2.2.2.2.2.2.1
  refine W.objInit fx.1 fx.2.1 fx.2.2.2.2.1 (fx.2.2.2.2.2.1 _ g1) (fx.2.2.2.2.2.1 _ (am_in 74 (by decide +kernel) rfl)) (fx.2.2.2.2.2.1 _ (am_in 75 (by decide +kernel) rfl)) (g := F0 m pc la (.ref (ad a) :: st.map (cV ad))) rfl (mv.2.2.2.2.2.2.1.trans fx.2.2.2.1.symm) rfl g0 (by omega) (by have := am_room (ad := ad) g2; show 2 * 0 + _ + 12 ≤ _; omega) ?_
  exact kw p e R s m args below meth c n0 ad0 fx H locs cells slots la ad mv c1 c2
theorem sd_cloneFW : RU_cloneFW (Snd l D cy B0 b fw L xs) := by
  intro d M pc ls st n h idx r n2 h2 k1 q1 g0 g1 g2 p0 ab
  obtain ⟨a0, kw⟩ := p0 ((ab.pop.new (e := .inl (0, 5, .inl am_fw)) trivial).push (Nat.lt_succ_self n))
  have a1 : am_Oo L xs n (r, n2, h2, 1 + k1, 5 + q1) := a0.less
  refine ⟨a1, fun p e R s m args below meth c n0 ad0 fx H locs cells slots la ad mv c1 c2 => ?_⟩
  have c1 : cells + (1 + k1) ≤ R.cells := c1
  have c2 : slots + (5 + q1) ≤ R.slots := c2
  have hlo := fx.2.2.2.2.2.2.2.2.2.2.1
  have hfr := fx.2.2.2.2.2.2.2.2.2.1
  have hz := fx.2.2.2.2.2.2.2.2.2.2.2.2.2.2.2.2.2.2.2.2.2.2.2.2.2.2.2
  have hroom := am_room (ad := ad) g2
  have hfw := mv.2.2.2.1.2
  obtain ⟨scr, x1, x2, x3, x4, x5⟩ := fx.2.2.2.2.2.2.2.2.2.2.2.2.2.2.1
  obtain ⟨scr', y1, y2, y3⟩ := fx.2.2.2.2.2.2.2.2.2.2.2.2.2.2.2.2.2.2.2.2.2.2.2.2.2.2.1
  cases x1.symm.trans y1
  have hfl := fx.2.2.2.2.2.2.2.2.2.2.2.2.2.2.2.1
  have hH : H[fw]? = some scr := by rw [mv.2.2.1.2.1 fw (Nat.lt_of_lt_of_le hfl hz) (Nat.not_le.mpr hfl)]; exact x1
  have hnm : s.vm.findClass "[I" = some (cy 0) := ((fx.2.2.2.2.2.2.2.2.2.2.2.1).2 0 _ rfl).2
  have hcls : scr.cls = cy 0 := Option.some.inj (y2.symm.trans hnm)
  obtain ⟨cc0, tt0, f1, f2, f3⟩ := Cond.castable_spec (va_Nw.use (A := args) rfl (fx.2.2.2.2.2.2.2.2.2.2.2.2.2.2.2.2.2.2.2.2.2.2.1 ("[I", "java/lang/Cloneable") (by decide +kernel)))
  cases hnm.symm.trans f1
  have hslots : scr.slots = (arrV (cy 0) 5 (fun j => .int (am_fw j))).slots := by
    apply Array.ext_getElem?
    intro i
    by_cases hi : i < 5
    · rw [x5 i hi, arrV_read _ _ hi]
    · rw [Array.getElem?_eq_none (by rw [x4]; omega), Array.getElem?_eq_none (by rw [arrV_size]; omega)]
  intro T hT X
  have hcellT : T.heap[fw]? = some scr := by rw [hT]; exact hH
  obtain ⟨-, kA, hkA, comp, hkind⟩ := State.isArrayOf_alike X.warmed.alike (((fx.2.2.2.2.2.2.2.2.2.2.2.1).2 0 _ rfl).1 0 (fun _ => .null))
  obtain ⟨-, kS, hkS, compS, hkindS⟩ := ((fx.2.2.2.2.2.2.2.2.2.2.2.1).2 0 _ rfl).1 0 (fun _ => .null)
  obtain ⟨vm', X', st9⟩ := X.cloneArray fx.1 fx.2.2.2.2.1 (fx.2.2.2.2.2.1 _ g1) (fx.2.2.2.2.2.1 _ (am_in 133 (by decide +kernel) rfl)) (fx.2.2.2.2.2.1 _ (am_in 134 (by decide +kernel) rfl)) (fx.2.2.2.2.2.1 _ (am_in 135 (by decide +kernel) rfl)) (fx.2.2.2.2.2.1 _ (am_in 136 (by decide +kernel) rfl)) (a := fw) (cell := scr) hcellT y3 x3 y2 f2 (by rw [hcls]; exact f3)
    (fun i v hv => by
      rw [hcls]
      have hk' : T.vm.classes[cy 0]? = some kA := hkA
      rw [hslots] at hv
      have hfit : fits .int v = true := va_fit (F := fun j => .int (am_fw j)) (fun i hi => rfl) i v hv
      simpa [State.fitsSlot, State.slotType?, hk', hkind] using hfit)
    (g := F0 m pc la (.ref fw :: st.map (cV ad))) rfl (mv.2.2.2.2.2.2.1.trans fx.2.2.2.1.symm) rfl (by rw [fx.2.1]; exact g0) (by omega) (by show 2 * 0 + _ + 14 ≤ _; omega) (by omega) (by rw [x4]; omega) (hloader := by rw [hcls]; exact Vm.clonesLoader_of_array hkS hkindS)
  have hcellE : ({ cls := scr.cls, slots := scr.slots } : Cell) = vp_cell (cy 0) (5, .inl am_fw) := by rw [hcls, hslots]; rfl
  rw [hcellE, x4] at X'
  generalize hH1 : H.push (vp_cell (cy 0) (5, .inl am_fw)) = H1
  have z1 : H1.size = H.size + 1 := by rw [← hH1, Array.size_push]
  have e1 : H1[H.size]? = some (vp_cell (cy 0) (5, .inl am_fw)) := by rw [← hH1, Array.getElem?_push_size]
  have o1 : ∀ q : Nat, q < H.size → H1[q]? = H[q]? := fun q hq => by rw [← hH1, Array.getElem?_push, if_neg (Nat.ne_of_lt hq)]
  have hk : ∀ (k : Nat) (y : Nat × va_E), (wl cy ad h n)[k]? = some y → H1[y.1]? = H[y.1]? := fun k y hy => o1 y.1 ((mv.1 k y hy).lt)
  have hP1 : va_P D vwCl (wl cy ad h n ++ [(H.size, .inl (cy 0, 5, .inl am_fw))]) H1 := (mv.1.kept hk).app (fun k y hy => by
    have hz9 : k < 1 := (List.getElem?_eq_some_iff.mp hy).1
    rw [show k = 0 by omega] at hy
    cases hy
    exact e1)
  have hD1 : va_D (am_A B0) (wl cy ad h n ++ [(H.size, .inl (cy 0, 5, .inl am_fw))]) := mv.2.1.push mv.1 rfl (Nat.le_trans hz mv.2.2.1.1)
  have hS1 : va_S (am_A B0) s.heap H1 locs := ⟨Nat.le_trans mv.2.2.1.1 (by omega), fun y h1 h2 => (o1 y (Nat.lt_of_lt_of_le h1 mv.2.2.1.1)).trans (mv.2.2.1.2.1 y h1 h2), mv.2.2.1.2.2⟩
  have kw := kw p e R s m args below meth c n0 ad0 fx H1 locs (cells + 1) (slots + 5) la (va_up ad n H.size) (mv.new ab.pop (show cE cy (va_up ad n H.size) (.inl (0, 5, .inl am_fw)) = .inl (cy 0, 5, .inl am_fw) from rfl) hP1 hD1 hS1) (by show cells + 1 + k1 ≤ _; omega) (by show slots + 5 + q1 ≤ _; omega)
  rw [List.map_cons, map_up ab.pop.2.2.2.1, show cV (va_up ad n H.size) (.ref n) = .ref H.size by simp [cV, va_up]] at kw
  obtain ⟨t, b1, b2⟩ := kw ((T.setVm vm').pushCell (vp_cell (cy 0) (5, .inl am_fw))) (by rw [← hH1, ← hT]; rfl) X'
  refine ⟨t, ?_, b2⟩
  rw [List.map_cons, show cV ad (.ref 1) = .ref fw from congrArg Value.ref hfw]
  refine st9 t ?_
  rw [hcellE, hT]
  exact b1
theorem sd_callMin : RU_callMin (Snd l D cy B0 b fw L xs) := by
  intro d M pc ls st n h o idx x y g0 g1 g2 p0 ab
  obtain ⟨a1, kw⟩ := p0 ((ab.pop.pop).push trivial)
  refine ⟨a1, fun p e R s m args below meth c n0 ad0 fx H locs cells slots la ad mv c1 c2 => ?_⟩
  have hlo := fx.2.2.2.2.2.2.2.2.2.2.1
  have hfr := fx.2.2.2.2.2.2.2.2.2.1
  have hroom := am_room (ad := ad) g2
  have c3 : cells + o.2.2.2.1 ≤ R.cells := c1
  have c4 : slots + o.2.2.2.2 ≤ R.slots := c2
  exact va_mmin fx.1 fx.2.1 (fx.2.2.2.1.trans mv.2.2.2.2.2.2.1.symm) fx.2.2.2.2.1 (fx.2.2.2.2.2.1 _ g1) (fx.2.2.2.2.2.1 _ (am_in 620 (by decide +kernel) rfl)) (fx.2.2.2.2.2.1 _ (am_in 66 (by decide +kernel) rfl)) (fx.2.2.2.2.2.1 _ (am_in 621 (by decide +kernel) rfl)) (by omega) (by omega) (by omega) (by omega) g0 (kw p e R s m args below meth c n0 ad0 fx H locs cells slots la ad mv c1 c2)
theorem sd_callAbs : RU_callAbs (Snd l D cy B0 b fw L xs) := by
  intro d M pc ls st n h o idx x g0 g1 g2 p0 ab
  obtain ⟨a1, kw⟩ := p0 ((ab.pop).push trivial)
  refine ⟨a1, fun p e R s m args below meth c n0 ad0 fx H locs cells slots la ad mv c1 c2 => ?_⟩
  have hlo := fx.2.2.2.2.2.2.2.2.2.2.1
  have hfr := fx.2.2.2.2.2.2.2.2.2.1
  have hroom := am_room (ad := ad) g2
  have c3 : cells + o.2.2.2.1 ≤ R.cells := c1
  have c4 : slots + o.2.2.2.2 ≤ R.slots := c2
  exact va_mabs fx.1 fx.2.1 (fx.2.2.2.1.trans mv.2.2.2.2.2.2.1.symm) fx.2.2.2.2.1 (fx.2.2.2.2.2.1 _ g1) (fx.2.2.2.2.2.1 _ (am_in 617 (by decide +kernel) rfl)) (fx.2.2.2.2.2.1 _ (am_in 66 (by decide +kernel) rfl)) (fx.2.2.2.2.2.1 _ (am_in 618 (by decide +kernel) rfl)) (by omega) (by omega) (by omega) (by omega) g0 (kw p e R s m args below meth c n0 ad0 fx H locs cells slots la ad mv c1 c2)
theorem sd_callV : RU_callV (Snd l D cy B0 b fw L xs) := by
  intro d M pc ls st n h idx b9 M2 as n1 h1 k1 q1 r n2 h2 k2 q2 k q v ci fs g0 g1 g2 g3 g4 g5 g6 g7 g8 p0 p1 ab
  have hmem : ∀ v ∈ ((.ref b9 :: as) : List Value), v ∈ (as.reverse ++ .ref b9 :: st) := fun v hv => (List.mem_cons.mp hv).elim (fun e9 => List.mem_append_right _ (by rw [e9]; exact List.mem_cons_self)) (fun h9 => List.mem_append_left _ (List.mem_reverse.mpr h9))
  have abc := am_Abargs (vs := (.ref b9 :: as)) ab hmem
  have abr : am_Ab L xs n h ls st := ab.drop.pop
  obtain ⟨o1, -⟩ := p0 abc
  obtain ⟨a2, kw⟩ := p1 (am_Abret abr o1)
  have a1 : am_Oo L xs n (r, n2, h2, k, q) := ⟨Nat.le_trans o1.1 a2.1, a2.2⟩
  refine ⟨a1, fun p e R s m args below meth c n0 ad0 fx H locs cells slots la ad mv c1 c2 => ?_⟩
  have c1 : cells + k ≤ R.cells := c1
  have c2 : slots + q ≤ R.slots := c2
  have hfr := fx.2.2.2.2.2.2.2.2.2.1
  have hlo := fx.2.2.2.2.2.2.2.2.2.2.1
  have hcd : Cond.code (mY M2) (mB M2) (mL M2) (mR M2) ∈ am_ws := by rw [← am_code0 g1.2.2.1]; exact g1.2.1.2.2.2.2.1
  have hM := am_met p0 abc g1.2.1 g1.2.2.1 g4 ad
  have hrecv : ∃ cellB : Cell, H[ad b9]? = some cellB ∧ cellB.vm.isStatics = false ∧ s.vm.findClass (mY M2).cls = some cellB.cls := by
    have he := am_get (cy := cy) ad (ls := ls) (st := st) ab.drop g5
    obtain ⟨q, hq, -⟩ := mv.1 _ _ he
    have hq : vwCl[ci]? = some q := hq
    have h9 := va_recv fx.2.2.2.2.2.2.2.2.2.2.2.1 mv.1 hq he
    rw [← g6, show am_CN ci = q.1 by unfold am_CN; rw [hq]]
    exact h9
  have hstk : (as.reverse ++ .ref b9 :: st).map (cV ad) = (as.map (cV ad)).reverse ++ .ref (ad b9) :: st.map (cV ad) := by
    rw [List.map_append, List.map_reverse]; rfl
  rw [hstk]
  refine am_callR (va_runV (As := as.map (cV ad)) (rest := st.map (cV ad)) (C := (mY M2).cls) ⟨fx.1, fx.2.1, fx.2.2.2.1, fx.2.2.2.2.1, fx.2.2.2.2.2.1⟩ hM ⟨callB_of as.length fx.2.2.2.2.2.1 (am_goodIn (M := M2) hcd) rfl rfl rfl (fx.2.2.2.2.2.1 _ g1.2.1.2.2.1) (fx.2.2.2.2.2.1 _ g1.1) ⟨g1.2.1.2.2.2.1.1, g1.2.1.2.2.2.1.2, g2⟩ ⟨by show 12 + d + 1 ≤ _; omega, by show 8 + (mL M2 + 11) + (300 + 64 * d) ≤ _; have := g1.2.1.2.2.2.2.2; omega⟩, fx.2.2.2.2.2.1 _ g1.2.2.2.1, fx.2.2.2.2.2.1 _ g1.2.2.2.2⟩ ⟨am_blind, hrecv, fun U hU hW => ⟨rfl, am_onU mv.1 fx.2.2.2.2.2.2.2.2.2.2.2.1 mv.2.1 mv.2.2.1 fx.2.2.2.2.2.2.2.2.2.2.2.2 mv.2.2.2.1 hU hW⟩⟩ rfl (List.length_map _) mv.2.2.2.2.2.2.1 rfl (lv_room (am_room g3)) g0 ⟨by omega, by omega⟩) mv.2.2.1 (fun ad' H1 locs1 hag hP hD hS => ?_)
  have mv1 := mv.call abr o1.1 hag hP hD hS
  have kw := kw p e R s m args below meth c n0 ad0 fx H1 locs1 (cells + k1) (slots + q1) la ad' mv1 (by show cells + k1 + k2 ≤ _; omega) (by show slots + q1 + q2 ≤ _; omega)
  rw [am_vst, map_agree hag abr.2.2.2.1] at kw
  exact kw
theorem sd_callS : RU_callS (Snd l D cy B0 b fw L xs) := by
  intro d M pc ls st n h idx M2 as n1 h1 k1 q1 r n2 h2 k2 q2 k q v g0 g1 g2 g3 g4 g5 g6 p0 p1 ab
  have hmem : ∀ v ∈ (as : List Value), v ∈ (as.reverse ++ st) := fun v hv => List.mem_append_left _ (List.mem_reverse.mpr hv)
  have abc := am_Abargs (vs := as) ab hmem
  have abr : am_Ab L xs n h ls st := ab.drop
  obtain ⟨o1, -⟩ := p0 abc
  obtain ⟨a2, kw⟩ := p1 (am_Abret abr o1)
  have a1 : am_Oo L xs n (r, n2, h2, k, q) := ⟨Nat.le_trans o1.1 a2.1, a2.2⟩
  refine ⟨a1, fun p e R s m args below meth c n0 ad0 fx H locs cells slots la ad mv c1 c2 => ?_⟩
  have c1 : cells + k ≤ R.cells := c1
  have c2 : slots + q ≤ R.slots := c2
  have hfr := fx.2.2.2.2.2.2.2.2.2.1
  have hlo := fx.2.2.2.2.2.2.2.2.2.2.1
  have hcd : Cond.code (mY M2) (mB M2) (mL M2) (mR M2) ∈ am_ws := by rw [← am_code0 g1.2.2.1]; exact g1.2.1.2.2.2.2.1
  have hM := am_met p0 abc g1.2.1 g1.2.2.1 g4 ad
  have hstk : (as.reverse ++ st).map (cV ad) = (as.map (cV ad)).reverse ++ st.map (cV ad) := by
    rw [List.map_append, List.map_reverse]
  rw [hstk]
  refine am_callR (va_runS (As := as.map (cV ad)) (rest := st.map (cV ad)) ⟨fx.1, fx.2.1, fx.2.2.2.1, fx.2.2.2.2.1, fx.2.2.2.2.2.1⟩ hM ⟨callB_of as.length fx.2.2.2.2.2.1 (am_goodIn (M := M2) hcd) rfl rfl rfl (fx.2.2.2.2.2.1 _ g1.2.1.2.2.1) (fx.2.2.2.2.2.1 _ g1.1) ⟨g1.2.1.2.2.2.1.1, g1.2.1.2.2.2.1.2, g2⟩ ⟨by show 12 + d + 1 ≤ _; omega, by show 8 + (mL M2 + 11) + (300 + 64 * d) ≤ _; have := g1.2.1.2.2.2.2.2; omega⟩, fx.2.2.2.2.2.1 _ g1.2.2.2⟩ ⟨am_blind, fun U hU hW => ⟨rfl, am_onU mv.1 fx.2.2.2.2.2.2.2.2.2.2.2.1 mv.2.1 mv.2.2.1 fx.2.2.2.2.2.2.2.2.2.2.2.2 mv.2.2.2.1 hU hW⟩⟩ rfl (List.length_map _) mv.2.2.2.2.2.2.1 rfl (lv_room (am_room g3)) g0 ⟨by omega, by omega⟩) mv.2.2.1 (fun ad' H1 locs1 hag hP hD hS => ?_)
  have mv1 := mv.call abr o1.1 hag hP hD hS
  have kw := kw p e R s m args below meth c n0 ad0 fx H1 locs1 (cells + k1) (slots + q1) la ad' mv1 (by show cells + k1 + k2 ≤ _; omega) (by show slots + q1 + q2 ≤ _; omega)
  rw [am_vst, map_agree hag abr.2.2.2.1] at kw
  exact kw
theorem sd_callT : RU_callT (Snd l D cy B0 b fw L xs) := by
  intro d M pc ls st n h idx M2 as n1 h1 k1 q1 r n2 h2 k2 q2 k q v g0 g1 g2 g3 g4 g5 g6 p0 p1 ab
  have hmem : ∀ v ∈ (as : List Value), v ∈ (as.reverse ++ st) := fun v hv => List.mem_append_left _ (List.mem_reverse.mpr hv)
  have abc := am_Abargs (vs := as) ab hmem
  have abr : am_Ab L xs n h ls st := ab.drop
  obtain ⟨o1, -⟩ := p0 abc
  obtain ⟨a2, kw⟩ := p1 (am_Abret abr o1)
  have a1 : am_Oo L xs n (r, n2, h2, k, q) := ⟨Nat.le_trans o1.1 a2.1, a2.2⟩
  refine ⟨a1, fun p e R s m args below meth c n0 ad0 fx H locs cells slots la ad mv c1 c2 => ?_⟩
  have c1 : cells + k ≤ R.cells := c1
  have c2 : slots + q ≤ R.slots := c2
  have hfr := fx.2.2.2.2.2.2.2.2.2.1
  have hlo := fx.2.2.2.2.2.2.2.2.2.2.1
  have hcd : Cond.codeWith (mY M2) (mB M2) (mL M2) (mR M2) (mH M2) ∈ am_ws := by rw [← am_codeT g1.2.2.1]; exact g1.2.1.2.2.2.2.1
  have hM := am_metT p0 abc g1.2.1 g4 ad
  have hstk : (as.reverse ++ st).map (cV ad) = (as.map (cV ad)).reverse ++ st.map (cV ad) := by
    rw [List.map_append, List.map_reverse]
  have hna : (parseMethodDescriptor (mY M2).desc).map (fun d => d.parameters.length) = some as.length := g2
  rw [hstk]
  refine am_callRX (vx_runSX (As := as.map (cV ad)) (rest := st.map (cV ad)) ⟨fx.1, fx.2.1, fx.2.2.2.1, fx.2.2.2.2.1, fx.2.2.2.2.2.1⟩ hM ⟨⟨rfl, rfl, by show 12 + d + 1 ≤ _; omega, by show 8 + (mL M2 + 11) + (300 + 64 * d) ≤ _; have := g1.2.1.2.2.2.2.2; omega, pay_in fx.2.2.2.2.2.1 (am_goodIn (M := M2) hcd), List.mem_cons_self⟩, fx.2.2.2.2.2.1 _ hcd, fx.2.2.2.2.2.1 _ g1.2.1.2.2.1, g1.2.1.2.2.2.1, (fun sig h9 => by rw [show parseMethodDescriptor (mY M2).desc = some sig from h9] at hna; exact (Option.some.inj hna).symm), fx.2.2.2.2.2.1 _ g1.1, fx.2.2.2.2.2.1 _ g1.2.2.2⟩ ⟨am_blind, fun U hU hW => ⟨rfl, am_onU mv.1 fx.2.2.2.2.2.2.2.2.2.2.2.1 mv.2.1 mv.2.2.1 fx.2.2.2.2.2.2.2.2.2.2.2.2 mv.2.2.2.1 hU hW⟩⟩ rfl (List.length_map _) mv.2.2.2.2.2.2.1 rfl (lv_room (am_room g3)) g0 ⟨by omega, by omega⟩) mv.2.2.1 (fun ad' H1 locs1 hag hP hD hS => ?_)
  have mv1 := mv.call abr o1.1 hag hP hD hS
  have kw := kw p e R s m args below meth c n0 ad0 fx H1 locs1 (cells + k1) (slots + q1) la ad' mv1 (by show cells + k1 + k2 ≤ _; omega) (by show slots + q1 + q2 ≤ _; omega)
  rw [am_vst, map_agree hag abr.2.2.2.1] at kw
  exact kw
theorem sd_callI : RU_callI (Snd l D cy B0 b fw L xs) := by
  intro d M pc ls st n h idx b9 M2 as n1 h1 k1 q1 r n2 h2 k2 q2 k q v g0 g1 g2 g3 g4 g5 g6 p0 p1 ab
  have hmem : ∀ v ∈ ((.ref b9 :: as) : List Value), v ∈ (as.reverse ++ .ref b9 :: st) := fun v hv => (List.mem_cons.mp hv).elim (fun e9 => List.mem_append_right _ (by rw [e9]; exact List.mem_cons_self)) (fun h9 => List.mem_append_left _ (List.mem_reverse.mpr h9))
  have abc := am_Abargs (vs := (.ref b9 :: as)) ab hmem
  have abr : am_Ab L xs n h ls st := ab.drop.pop
  obtain ⟨o1, -⟩ := p0 abc
  obtain ⟨a2, kw⟩ := p1 (am_Abret abr o1)
  have a1 : am_Oo L xs n (r, n2, h2, k, q) := ⟨Nat.le_trans o1.1 a2.1, a2.2⟩
  refine ⟨a1, fun p e R s m args below meth c n0 ad0 fx H locs cells slots la ad mv c1 c2 => ?_⟩
  have c1 : cells + k ≤ R.cells := c1
  have c2 : slots + q ≤ R.slots := c2
  have hfr := fx.2.2.2.2.2.2.2.2.2.1
  have hlo := fx.2.2.2.2.2.2.2.2.2.2.1
  have hcd : Cond.code (mY M2) (mB M2) (mL M2) (mR M2) ∈ am_ws := by rw [← am_code0 g1.2.2.1]; exact g1.2.1.2.2.2.2.1
  have hret : mR M2 = none := g1.2.2.2.2.1
  have hM := am_met p0 abc g1.2.1 g1.2.2.1 g4 ad
  have hstk : (as.reverse ++ .ref b9 :: st).map (cV ad) = (as.map (cV ad)).reverse ++ .ref (ad b9) :: st.map (cV ad) := by
    rw [List.map_append, List.map_reverse]; rfl
  rw [hret] at hM hcd
  rw [hstk]
  refine am_callR (va_runI (As := as.map (cV ad)) (rest := st.map (cV ad)) ⟨fx.1, fx.2.1, fx.2.2.2.1, fx.2.2.2.2.1, fx.2.2.2.2.2.1⟩ hM ⟨callB_of as.length fx.2.2.2.2.2.1 (am_goodIn (M := M2) hcd) rfl rfl rfl (fx.2.2.2.2.2.1 _ g1.2.1.2.2.1) (fx.2.2.2.2.2.1 _ g1.1) ⟨g1.2.1.2.2.2.1.1, g1.2.1.2.2.2.1.2, g2⟩ ⟨by show 12 + d + 1 ≤ _; omega, by show 8 + (mL M2 + 11) + (300 + 64 * d) ≤ _; have := g1.2.1.2.2.2.2.2; omega⟩, g1.2.2.2.1, fx.2.2.2.2.2.1 _ g1.2.2.2.2.2⟩ ⟨am_blind, fun U hU hW => ⟨rfl, am_onU mv.1 fx.2.2.2.2.2.2.2.2.2.2.2.1 mv.2.1 mv.2.2.1 fx.2.2.2.2.2.2.2.2.2.2.2.2 mv.2.2.2.1 hU hW⟩⟩ rfl (List.length_map _) mv.2.2.2.2.2.2.1 rfl (lv_room (am_room g3)) g0 ⟨by omega, by omega⟩) mv.2.2.1 (fun ad' H1 locs1 hag hP hD hS => ?_)
  have mv1 := mv.call abr o1.1 hag hP hD hS
  have kw := kw p e R s m args below meth c n0 ad0 fx H1 locs1 (cells + k1) (slots + q1) la ad' mv1 (by show cells + k1 + k2 ≤ _; omega) (by show slots + q1 + q2 ≤ _; omega)
  rw [am_vst, map_agree hag abr.2.2.2.1] at kw
  exact kw
theorem sd_callN : RU_callN (Snd l D cy B0 b fw L xs) := by
  intro d M pc ls st n h idx b9 M2 as n1 h1 k1 q1 r n2 h2 k2 q2 k q v g0 g1 g2 g3 g4 g5 g6 p0 p1 ab
  have hmem : ∀ v ∈ ((.ref b9 :: as) : List Value), v ∈ (as.reverse ++ .ref b9 :: st) := fun v hv => (List.mem_cons.mp hv).elim (fun e9 => List.mem_append_right _ (by rw [e9]; exact List.mem_cons_self)) (fun h9 => List.mem_append_left _ (List.mem_reverse.mpr h9))
  have abc := am_Abargs (vs := (.ref b9 :: as)) ab hmem
  have abr : am_Ab L xs n h ls st := ab.drop.pop
  obtain ⟨o1, -⟩ := p0 abc
  obtain ⟨a2, kw⟩ := p1 (am_Abret abr o1)
  have a1 : am_Oo L xs n (r, n2, h2, k, q) := ⟨Nat.le_trans o1.1 a2.1, a2.2⟩
  refine ⟨a1, fun p e R s m args below meth c n0 ad0 fx H locs cells slots la ad mv c1 c2 => ?_⟩
  have c1 : cells + k ≤ R.cells := c1
  have c2 : slots + q ≤ R.slots := c2
  have hfr := fx.2.2.2.2.2.2.2.2.2.1
  have hlo := fx.2.2.2.2.2.2.2.2.2.2.1
  have hcd : Cond.code (mY M2) (mB M2) (mL M2) (mR M2) ∈ am_ws := by rw [← am_code0 g1.2.2.1]; exact g1.2.1.2.2.2.2.1
  have hret : mR M2 = none := g1.2.2.2.2.1
  have hM := am_met p0 abc g1.2.1 g1.2.2.1 g4 ad
  have hstk : (as.reverse ++ .ref b9 :: st).map (cV ad) = (as.map (cV ad)).reverse ++ .ref (ad b9) :: st.map (cV ad) := by
    rw [List.map_append, List.map_reverse]; rfl
  rw [hret] at hM hcd
  rw [hstk]
  refine am_callR (va_runIN (As := as.map (cV ad)) (rest := st.map (cV ad)) ⟨fx.1, fx.2.1, fx.2.2.2.1, fx.2.2.2.2.1, fx.2.2.2.2.2.1⟩ hM ⟨va_cnB as.length fx.2.2.2.2.2.1 (am_goodIn (M := M2) hcd) rfl rfl rfl (fx.2.2.2.2.2.2.2.2.2.2.2.2.2.2.2.2.2.2.2.2.1 _ g1.1) (fx.2.2.2.2.2.1 _ g1.2.1.2.2.1) ⟨g1.2.1.2.2.2.1.1, g1.2.1.2.2.2.1.2, g2⟩ ⟨by show 12 + d + 1 ≤ _; omega, by show 8 + (mL M2 + 11) + (300 + 64 * d) ≤ _; have := g1.2.1.2.2.2.2.2; omega⟩, g1.2.2.2.1, fx.2.2.2.2.2.1 _ g1.2.2.2.2.2⟩ ⟨am_blind, fun U hU hW => ⟨rfl, am_onU mv.1 fx.2.2.2.2.2.2.2.2.2.2.2.1 mv.2.1 mv.2.2.1 fx.2.2.2.2.2.2.2.2.2.2.2.2 mv.2.2.2.1 hU hW⟩⟩ rfl (List.length_map _) mv.2.2.2.2.2.2.1 rfl (lv_room (am_room g3)) g0 ⟨by omega, by omega⟩) mv.2.2.1 (fun ad' H1 locs1 hag hP hD hS => ?_)
  have mv1 := mv.call abr o1.1 hag hP hD hS
  have kw := kw p e R s m args below meth c n0 ad0 fx H1 locs1 (cells + k1) (slots + q1) la ad' mv1 (by show cells + k1 + k2 ≤ _; omega) (by show slots + q1 + q2 ≤ _; omega)
  rw [am_vst, map_agree hag abr.2.2.2.1] at kw
  exact kw
theorem sd_callZ : RU_callZ (Snd l D cy B0 b fw L xs) := by
  intro d M pc ls st n h idx M2 as n1 h1 k1 q1 r n2 h2 k2 q2 k q v g0 g1 g2 g3 g4 g5 g6 p0 p1 ab
  have hmem : ∀ v ∈ (as : List Value), v ∈ (as.reverse ++ st) := fun v hv => List.mem_append_left _ (List.mem_reverse.mpr hv)
  have abc := am_Abargs (vs := as) ab hmem
  have abr : am_Ab L xs n h ls st := ab.drop
  obtain ⟨o1, -⟩ := p0 abc
  obtain ⟨a2, kw⟩ := p1 (am_Abret abr o1)
  have a1 : am_Oo L xs n (r, n2, h2, k, q) := ⟨Nat.le_trans o1.1 a2.1, a2.2⟩
  refine ⟨a1, fun p e R s m args below meth c n0 ad0 fx H locs cells slots la ad mv c1 c2 => ?_⟩
  have c1 : cells + k ≤ R.cells := c1
  have c2 : slots + q ≤ R.slots := c2
  have hfr := fx.2.2.2.2.2.2.2.2.2.1
  have hlo := fx.2.2.2.2.2.2.2.2.2.2.1
  have hcd : Cond.code (mY M2) (mB M2) (mL M2) (mR M2) ∈ am_ws := by rw [← am_code0 g1.2.2.1]; exact g1.2.1.2.2.2.2.1
  have hM := am_met p0 abc g1.2.1 g1.2.2.1 g4 ad
  have hstk : (as.reverse ++ st).map (cV ad) = (as.map (cV ad)).reverse ++ st.map (cV ad) := by
    rw [List.map_append, List.map_reverse]
  rw [hstk]
  refine am_callR (va_runSN (As := as.map (cV ad)) (rest := st.map (cV ad)) ⟨fx.1, fx.2.1, fx.2.2.2.1, fx.2.2.2.2.1, fx.2.2.2.2.2.1⟩ hM ⟨va_cnB as.length fx.2.2.2.2.2.1 (am_goodIn (M := M2) hcd) rfl rfl rfl (fx.2.2.2.2.2.2.2.2.2.2.2.2.2.2.2.2.2.2.2.2.1 _ g1.1) (fx.2.2.2.2.2.1 _ g1.2.1.2.2.1) ⟨g1.2.1.2.2.2.1.1, g1.2.1.2.2.2.1.2, g2⟩ ⟨by show 12 + d + 1 ≤ _; omega, by show 8 + (mL M2 + 11) + (300 + 64 * d) ≤ _; have := g1.2.1.2.2.2.2.2; omega⟩, fx.2.2.2.2.2.1 _ g1.2.2.2, trivial⟩ ⟨am_blind, fun U hU hW => ⟨rfl, am_onU mv.1 fx.2.2.2.2.2.2.2.2.2.2.2.1 mv.2.1 mv.2.2.1 fx.2.2.2.2.2.2.2.2.2.2.2.2 mv.2.2.2.1 hU hW⟩⟩ rfl (List.length_map _) mv.2.2.2.2.2.2.1 rfl (lv_room (am_room g3)) g0 ⟨by omega, by omega⟩) mv.2.2.1 (fun ad' H1 locs1 hag hP hD hS => ?_)
  have mv1 := mv.call abr o1.1 hag hP hD hS
  have kw := kw p e R s m args below meth c n0 ad0 fx H1 locs1 (cells + k1) (slots + q1) la ad' mv1 (by show cells + k1 + k2 ≤ _; omega) (by show slots + q1 + q2 ≤ _; omega)
  rw [am_vst, map_agree hag abr.2.2.2.1] at kw
  exact kw
theorem sd_callVx : RU_callVx (Snd l D cy B0 b fw L xs) := by
  intro d M pc ls st n h idx b9 M2 as n1 h1 k1 q1 E ci fs g0 g1 g2 g3 g4 g5 g6 g7 p0 ab
  have hmem : ∀ v ∈ ((.ref b9 :: as) : List Value), v ∈ (as.reverse ++ .ref b9 :: st) := fun v hv => (List.mem_cons.mp hv).elim (fun e9 => List.mem_append_right _ (by rw [e9]; exact List.mem_cons_self)) (fun h9 => List.mem_append_left _ (List.mem_reverse.mpr h9))
  have abc := am_Abargs (vs := (.ref b9 :: as)) ab hmem
  have abr : am_Ab L xs n h ls st := ab.drop.pop
  obtain ⟨o1, -⟩ := p0 abc
  have a1 : am_Oo L xs n (.inr E, n1, h1, k1, q1) := o1
  refine ⟨a1, fun p e R s m args below meth c n0 ad0 fx H locs cells slots la ad mv c1 c2 => ?_⟩
  have c1 : cells + k1 ≤ R.cells := c1
  have c2 : slots + q1 ≤ R.slots := c2
  have hfr := fx.2.2.2.2.2.2.2.2.2.1
  have hlo := fx.2.2.2.2.2.2.2.2.2.2.1
  have hcd : Cond.code (mY M2) (mB M2) (mL M2) (mR M2) ∈ am_ws := by rw [← am_code0 g1.2.2.1]; exact g1.2.1.2.2.2.2.1
  have hM := am_metX p0 abc g1.2.1 g1.2.2.1 g4 ad
  have hrecv : ∃ cellB : Cell, H[ad b9]? = some cellB ∧ cellB.vm.isStatics = false ∧ s.vm.findClass (mY M2).cls = some cellB.cls := by
    have he := am_get (cy := cy) ad (ls := ls) (st := st) ab.drop g5
    obtain ⟨q, hq, -⟩ := mv.1 _ _ he
    have hq : vwCl[ci]? = some q := hq
    have h9 := va_recv fx.2.2.2.2.2.2.2.2.2.2.2.1 mv.1 hq he
    rw [← g6, show am_CN ci = q.1 by unfold am_CN; rw [hq]]
    exact h9
  have hstk : (as.reverse ++ .ref b9 :: st).map (cV ad) = (as.map (cV ad)).reverse ++ .ref (ad b9) :: st.map (cV ad) := by
    rw [List.map_append, List.map_reverse]; rfl
  rw [hstk]
  refine am_callX (vx_runV (As := as.map (cV ad)) (rest := st.map (cV ad)) (C := (mY M2).cls) ⟨fx.1, fx.2.1, fx.2.2.2.1, fx.2.2.2.2.1, fx.2.2.2.2.2.1⟩ hM ⟨callB_of as.length fx.2.2.2.2.2.1 (am_goodIn (M := M2) hcd) rfl rfl rfl (fx.2.2.2.2.2.1 _ g1.2.1.2.2.1) (fx.2.2.2.2.2.1 _ g1.1) ⟨g1.2.1.2.2.2.1.1, g1.2.1.2.2.2.1.2, g2⟩ ⟨by show 12 + d + 1 ≤ _; omega, by show 8 + (mL M2 + 11) + (300 + 64 * d) ≤ _; have := g1.2.1.2.2.2.2.2; omega⟩, fx.2.2.2.2.2.1 _ g1.2.2.2.1, fx.2.2.2.2.2.1 _ g1.2.2.2.2⟩ ⟨am_blind, hrecv, fun U hU hW => ⟨rfl, am_onU mv.1 fx.2.2.2.2.2.2.2.2.2.2.2.1 mv.2.1 mv.2.2.1 fx.2.2.2.2.2.2.2.2.2.2.2.2 mv.2.2.2.1 hU hW⟩⟩ rfl (List.length_map _) mv.2.2.2.2.2.2.1 rfl (lv_room (am_room g3)) g0 ⟨by omega, by omega⟩) mv.2.2.1 (fun ad' H1 locs1 ce q9 hag hP hD hS hce hcv hcl => ?_)
  exact vx_out (by rw [fx.2.2.2.2.2.2.2.2.1, g7]; exact fun x hx => by cases hx) fx.2.2.2.2.2.2.1 hce hcv hcl (fun t ht hvm => ⟨rfl, ⟨ad', fun k hk => (hag k (Nat.lt_of_lt_of_le hk mv.2.2.2.2.1)).trans (mv.2.2.2.2.2.1 k hk), by rw [ht]; exact hP, va_K.moved hvm fx.2.2.2.2.2.2.2.2.2.2.2.1, hD⟩, hS.F ht⟩) hS.2.2 c1 c2
theorem sd_callVc : RU_callVc (Snd l D cy B0 b fw L xs) := by
  intro d M pc ls st n h idx b9 M2 as n1 h1 k1 q1 r n2 h2 k2 q2 k q E ci fs hpc hk hl g0 g1 g2 g3 g4 g5 g6 g7 g8 g9 g10 g11 p0 p1 ab
  have hmem : ∀ v ∈ ((.ref b9 :: as) : List Value), v ∈ (as.reverse ++ .ref b9 :: st) := fun v hv => (List.mem_cons.mp hv).elim (fun e9 => List.mem_append_right _ (by rw [e9]; exact List.mem_cons_self)) (fun h9 => List.mem_append_left _ (List.mem_reverse.mpr h9))
  have abc := am_Abargs (vs := (.ref b9 :: as)) ab hmem
  have abr : am_Ab L xs n h ls st := ab.drop.pop
  obtain ⟨o1, -⟩ := p0 abc
  obtain ⟨a2, kw⟩ := p1 (am_Abx abr o1 hk)
  have a1 : am_Oo L xs n (r, n2, h2, k, q) := ⟨Nat.le_trans o1.1 a2.1, a2.2⟩
  refine ⟨a1, fun p e R s m args below meth c n0 ad0 fx H locs cells slots la ad mv c1 c2 => ?_⟩
  have c1 : cells + k ≤ R.cells := c1
  have c2 : slots + q ≤ R.slots := c2
  have hfr := fx.2.2.2.2.2.2.2.2.2.1
  have hlo := fx.2.2.2.2.2.2.2.2.2.2.1
  have hcd : Cond.code (mY M2) (mB M2) (mL M2) (mR M2) ∈ am_ws := by rw [← am_code0 g1.2.2.1]; exact g1.2.1.2.2.2.2.1
  have hM := am_metX p0 abc g1.2.1 g1.2.2.1 g4 ad
  have hrecv : ∃ cellB : Cell, H[ad b9]? = some cellB ∧ cellB.vm.isStatics = false ∧ s.vm.findClass (mY M2).cls = some cellB.cls := by
    have he := am_get (cy := cy) ad (ls := ls) (st := st) ab.drop g5
    obtain ⟨q, hq, -⟩ := mv.1 _ _ he
    have hq : vwCl[ci]? = some q := hq
    have h9 := va_recv fx.2.2.2.2.2.2.2.2.2.2.2.1 mv.1 hq he
    rw [← g6, show am_CN ci = q.1 by unfold am_CN; rw [hq]]
    exact h9
  have hstk : (as.reverse ++ .ref b9 :: st).map (cV ad) = (as.map (cV ad)).reverse ++ .ref (ad b9) :: st.map (cV ad) := by
    rw [List.map_append, List.map_reverse]; rfl
  rw [hstk]
  refine am_callX (vx_runV (As := as.map (cV ad)) (rest := st.map (cV ad)) (C := (mY M2).cls) ⟨fx.1, fx.2.1, fx.2.2.2.1, fx.2.2.2.2.1, fx.2.2.2.2.2.1⟩ hM ⟨callB_of as.length fx.2.2.2.2.2.1 (am_goodIn (M := M2) hcd) rfl rfl rfl (fx.2.2.2.2.2.1 _ g1.2.1.2.2.1) (fx.2.2.2.2.2.1 _ g1.1) ⟨g1.2.1.2.2.2.1.1, g1.2.1.2.2.2.1.2, g2⟩ ⟨by show 12 + d + 1 ≤ _; omega, by show 8 + (mL M2 + 11) + (300 + 64 * d) ≤ _; have := g1.2.1.2.2.2.2.2; omega⟩, fx.2.2.2.2.2.1 _ g1.2.2.2.1, fx.2.2.2.2.2.1 _ g1.2.2.2.2⟩ ⟨am_blind, hrecv, fun U hU hW => ⟨rfl, am_onU mv.1 fx.2.2.2.2.2.2.2.2.2.2.2.1 mv.2.1 mv.2.2.1 fx.2.2.2.2.2.2.2.2.2.2.2.2 mv.2.2.2.1 hU hW⟩⟩ rfl (List.length_map _) mv.2.2.2.2.2.2.1 rfl (lv_room (am_room g3)) g0 ⟨by omega, by omega⟩) mv.2.2.1 (fun ad' H1 locs1 ce q9 hag hP hD hS hce hcv hcl => ?_)
  obtain ⟨pre, x, suf, t1, t2, t3, t4, t5, t6, t7⟩ := g7
  have mv1 := mv.call abr o1.1 hag hP hD hS
  have kk : ∀ la' : Array Slot, lv_has la' (mL M) ((hk, Value.ref q9) :: (lrm ls hk).map (cvP ad')) → W p l e R s m args below meth c H1 locs1 (cells + k1) (slots + q1) (am_Fin D cy B0 (r, n2, h2, k, q) n0 ad0 below args s R) (F0 m (hpc + hl) la' []) := fun la' h9 =>
    kw p e R s m args below meth c n0 ad0 fx H1 locs1 (cells + k1) (slots + q1) la' ad' (mv1.st (ls' := lrm ls hk) ⟨h9.1, h9.2.1, fun q hq => h9.2.2 q (List.mem_cons_of_mem _ hq)⟩) (by show cells + k1 + k2 ≤ _; omega) (by show slots + q1 + q2 ≤ _; omega)
  refine vx_catch fx.2.2.2.2.1 (tableOf pre) ⟨x.1, x.2.1, x.2.2.1, x.2.2.2⟩ (tableOf suf) (by rw [fx.2.2.2.2.2.2.2.2.1, t1]; simp [tableOf]) (fun z hz => ?_) t3 t4 (fx.2.2.2.2.2.1 _ t5) (va_Nw.use rfl (fx.2.2.2.2.2.2.2.2.2.2.2.2.2.2.2.2.2.2.2.2.2.2.1 _ t6)) hce hcv hcl ?_
  · obtain ⟨z0, hz0, rfl⟩ := List.mem_map.mp hz
    obtain ⟨w1, nm, w2, w3⟩ := t7 z0 hz0
    exact Or.inr ⟨w1, nm, fx.2.2.2.2.2.1 _ w2, fx.2.2.2.2.2.2.2.2.2.2.2.2.2.2.2.2.2.2.2.2.2.2.2.1 _ w3⟩
  · subst t2
    rcases g8 with ⟨g8, rfl⟩ | ⟨z, rfl, g8, rfl⟩
    · exact lv_astore (lv := ls.map (cvP ad')) fx.1 fx.2.1 g8 mv1.2.2.2.2.2.2 g9 (congrArg (List.cons (hk, Value.ref q9)) (lrm_map ad' hk ls)) kk
    · exact lv_astore_n (lv := ls.map (cvP ad')) fx.1 fx.2.1 g8 rfl mv1.2.2.2.2.2.2 g9 (congrArg (List.cons ((z : Nat), Value.ref q9)) (lrm_map ad' z ls)) kk
theorem sd_throwS (hlf : l.stackTraces = false) : RU_throwS (Snd l D cy B0 b fw L xs) := by
  intro d M pc ls st n h E g0 g1 g2  ab
  have a1 : am_Oo L xs n (.inr E, n, h, 1, 6) := ⟨Nat.le_refl _, ab.2.1, ab.2.2.2.2.1, ab.2.2.2.2.2, fun v hv => by cases hv⟩
  refine ⟨a1, fun p e R s m args below meth c n0 ad0 fx H locs cells slots la ad mv c1 c2 => ?_⟩
  have c1 : cells + 1 ≤ R.cells := c1
  have c2 : slots + 6 ≤ R.slots := c2
  have hfr := fx.2.2.2.2.2.2.2.2.2.1
  have hlo := fx.2.2.2.2.2.2.2.2.2.2.1
  have hroom := am_room (ad := ad) g1
  obtain ⟨ik, is, ic, text, names, d0, d3, d4, d6, d9, t1, t2, t3, t4, t5, t6, t7, t8, t9⟩ := g0
  obtain ⟨sa, hsa⟩ := fx.2.2.2.2.2.2.2.2.2.2.2.2.2.2.2.2.2.2.2.1 _ t6
  exact vx_throwS (A := am_A B0) fx.1 fx.2.1 hlf fx.2.2.2.2.1 t1 t2 (fx.2.2.2.2.2.1 _ t4) (fx.2.2.2.2.2.1 _ t5) hsa (fun w hw => (t7 w hw).elim (fx.2.2.2.2.2.1 w) (fun e9 => e9.elim (fun e9 => by rw [e9]; exact va_Nw.use rfl (fx.2.2.2.2.2.2.2.2.2.2.2.2.2.2.2.2.2.2.2.2.2.2.1 _ t8)) (fun e9 => by
    obtain ⟨x9, hx9, rfl⟩ := e9
    exact va_Nw.use rfl (fx.2.2.2.2.2.2.2.2.2.2.2.2.2.2.2.2.2.2.2.2.2.2.2.2.2.1 _ hx9)))) t9 fx.2.2.2.2.2.2.2.2.2.2.2.2.2.2.2.2.2.1 fx.2.2.2.2.2.2.2.2.2.2.2.2.2.2.2.2.2.2.1 mv.2.2.1 (mv.2.2.2.2.2.2.1.trans fx.2.2.2.1.symm) d0 d3 d4 d6 d9 (by rw [fx.2.2.2.2.2.2.2.2.1, g2]; exact fun x hx => by cases hx) (by omega) (by omega) c1 c2 fx.2.2.2.2.2.2.1
    (fun t hvm hz hk => ⟨rfl, ⟨ad, mv.2.2.2.2.2.1, mv.1.kept (fun k y hy => hk _ ((mv.1 k y hy).lt)), va_K.moved hvm fx.2.2.2.2.2.2.2.2.2.2.2.1, mv.2.1⟩, Nat.le_trans mv.2.2.1.1 hz, fun q h1 h2 => (hk q (Nat.lt_of_lt_of_le h1 mv.2.2.1.1)).trans (mv.2.2.1.2.1 q h1 h2)⟩) mv.2.2.1.2.2 c1 c2
theorem sd_ireturn : RU_ireturn (Snd l D cy B0 b fw L xs) := by
  intro d M pc ls n h v g0 g1  ab
  have a1 : am_Oo L xs n (.inl (some (.int v)), n, h, 0, 0) := ⟨Nat.le_refl _, ab.2.1, ab.2.2.2.2.1, ab.2.2.2.2.2, fun v9 hv9 => by cases hv9; trivial⟩
  refine ⟨a1, fun p e R s m args below meth c n0 ad0 fx H locs cells slots la ad mv c1 c2 => ?_⟩
  refine W.widen (k := R.cells) (n := R.slots) c1 c2 ?_
  exact W.iret fx.1 fx.2.1 (fx.2.2.1.trans g1)  (fun t ht hW => ⟨⟨ad, mv.2.2.2.2.2.1, rfl, by rw [ht]; exact mv.1, va_K.moved hW.alike fx.2.2.2.2.2.2.2.2.2.2.2.1, mv.2.1⟩, mv.2.2.1.F ht⟩) mv.2.2.1.2.2 g0 (hlocks := fx.2.2.2.2.2.2.1)
theorem sd_zreturn : RU_zreturn (Snd l D cy B0 b fw L xs) := by
  intro d M pc ls n h v g0 g1 g2  ab
  have a1 : am_Oo L xs n (.inl (some (.int v)), n, h, 0, 0) := ⟨Nat.le_refl _, ab.2.1, ab.2.2.2.2.1, ab.2.2.2.2.2, fun v9 hv9 => by cases hv9; trivial⟩
  refine ⟨a1, fun p e R s m args below meth c n0 ad0 fx H locs cells slots la ad mv c1 c2 => ?_⟩
  refine W.widen (k := R.cells) (n := R.slots) c1 c2 ?_
  exact W.zret fx.1 fx.2.1 (fx.2.2.1.trans g1) (by rcases g2 with rfl | rfl <;> rfl) (fun t ht hW => ⟨⟨ad, mv.2.2.2.2.2.1, rfl, by rw [ht]; exact mv.1, va_K.moved hW.alike fx.2.2.2.2.2.2.2.2.2.2.2.1, mv.2.1⟩, mv.2.2.1.F ht⟩) mv.2.2.1.2.2 g0 (hlocks := fx.2.2.2.2.2.2.1)
theorem sd_lreturn : RU_lreturn (Snd l D cy B0 b fw L xs) := by
  intro d M pc ls n h v g0 g1  ab
  have a1 : am_Oo L xs n (.inl (some (.long v)), n, h, 0, 0) := ⟨Nat.le_refl _, ab.2.1, ab.2.2.2.2.1, ab.2.2.2.2.2, fun v9 hv9 => by cases hv9; trivial⟩
  refine ⟨a1, fun p e R s m args below meth c n0 ad0 fx H locs cells slots la ad mv c1 c2 => ?_⟩
  refine W.widen (k := R.cells) (n := R.slots) c1 c2 ?_
  exact W.lret fx.1 fx.2.1 (fx.2.2.1.trans g1)  (fun t ht hW => ⟨⟨ad, mv.2.2.2.2.2.1, rfl, by rw [ht]; exact mv.1, va_K.moved hW.alike fx.2.2.2.2.2.2.2.2.2.2.2.1, mv.2.1⟩, mv.2.2.1.F ht⟩) mv.2.2.1.2.2 g0 (hlocks := fx.2.2.2.2.2.2.1)
theorem sd_areturn : RU_areturn (Snd l D cy B0 b fw L xs) := by
  intro d M pc ls n h v cn g0 g1 g2  ab
  have a1 : am_Oo L xs n (.inl (some v), n, h, 0, 0) := ⟨Nat.le_refl _, ab.2.1, ab.2.2.2.2.1, ab.2.2.2.2.2, fun v9 hv9 => by cases hv9; exact ab.top⟩
  refine ⟨a1, fun p e R s m args below meth c n0 ad0 fx H locs cells slots la ad mv c1 c2 => ?_⟩
  refine W.widen (k := R.cells) (n := R.slots) c1 c2 ?_
  exact W.aret (v := cV ad v) fx.1 fx.2.1 (fx.2.2.1.trans g1) (Or.inl ⟨cn, rfl⟩) (by rcases g2 with rfl | ⟨a, rfl⟩; exact Or.inl rfl; exact Or.inr ⟨ad a, rfl⟩) (fun t ht hW => ⟨⟨ad, mv.2.2.2.2.2.1, rfl, by rw [ht]; exact mv.1, va_K.moved hW.alike fx.2.2.2.2.2.2.2.2.2.2.2.1, mv.2.1⟩, mv.2.2.1.F ht⟩) mv.2.2.1.2.2 g0 (hlocks := fx.2.2.2.2.2.2.1)
theorem sd_vreturn : RU_vreturn (Snd l D cy B0 b fw L xs) := by
  intro d M pc ls n h  g0 g1  ab
  have a1 : am_Oo L xs n (.inl none, n, h, 0, 0) := ⟨Nat.le_refl _, ab.2.1, ab.2.2.2.2.1, ab.2.2.2.2.2, fun v9 hv9 => by cases hv9⟩
  refine ⟨a1, fun p e R s m args below meth c n0 ad0 fx H locs cells slots la ad mv c1 c2 => ?_⟩
  refine W.widen (k := R.cells) (n := R.slots) c1 c2 ?_
  exact W.vret fx.1 fx.2.1 (fx.2.2.1.trans g1)  (fun t ht hW => ⟨⟨ad, mv.2.2.2.2.2.1, rfl, by rw [ht]; exact mv.1, va_K.moved hW.alike fx.2.2.2.2.2.2.2.2.2.2.2.1, mv.2.1⟩, mv.2.2.1.F ht⟩) mv.2.2.1.2.2 g0 (hlocks := fx.2.2.2.2.2.2.1)
theorem am_rules (hlf : l.stackTraces = false) : Rules (Snd l D cy B0 b fw L xs) := ⟨sd_iconst, sd_bipush, sd_sipush, sd_lconst, sd_ldc, sd_ldcw, sd_ldc2, sd_null, sd_iload_n, sd_iload, sd_lload_n, sd_lload, sd_aload_n, sd_aload, sd_aload_nN, sd_aloadN, sd_istore_n, sd_istore, sd_lstore_n, sd_lstore, sd_astore_n, sd_astore, sd_astore_nN, sd_iinc, sd_iadd, sd_isub, sd_imul, sd_iand, sd_ior, sd_ixor, sd_ishl, sd_ladd, sd_lmul, sd_iushr, sd_ineg, sd_idiv, sd_irem, sd_ldiv, sd_lrem, sd_lcmp, sd_i2l, sd_l2i, sd_dup, sd_pop, sd_dup2_11, sd_if_eq, sd_icmp_eq, sd_if_ne, sd_icmp_ne, sd_if_lt, sd_icmp_lt, sd_if_ge, sd_icmp_ge, sd_if_gt, sd_icmp_gt, sd_if_le, sd_icmp_le, sd_goto, sd_ifnull, sd_ifnullN, sd_ifnonnull, sd_ifnonnullN, sd_tableIn, sd_tableOut, sd_sub, sd_getfield, sd_putfield, sd_arraylength, sd_iaload, sd_baload, sd_laload, sd_aaload, sd_iastore, sd_bastore, sd_lastore, sd_aastore, sd_new, sd_newarray0, sd_newarray1, sd_newarray2, sd_anewarray, sd_getFW, sd_cloneFW, sd_castI, sd_objInit, sd_callMin, sd_callAbs, sd_callV, sd_callS, sd_callT, sd_callI, sd_callN, sd_callZ, sd_callVx, sd_callVc, sd_throwS hlf, sd_ireturn, sd_zreturn, sd_lreturn, sd_areturn, sd_vreturn⟩
end SND
end
section
/-! the methods, their sites, fields, throws: by program out of the tables -/
abbrev MX0_init : MI := (yX0_init, cX0_init, 1, (Option.none : Option Jvm.ClassFile.FieldType), RX0, [])
abbrev MX0_firstLength : MI := (yX0_firstLength, cX0_firstLength, 1, (Option.some Jvm.ClassFile.FieldType.int), RX0, [])
abbrev MX0_secondLength : MI := (yX0_secondLength, cX0_secondLength, 1, (Option.some Jvm.ClassFile.FieldType.int), RX0, [])
abbrev MX0_joinedBits : MI := (yX0_joinedBits, cX0_joinedBits, 2, (Option.some Jvm.ClassFile.FieldType.int), RX0, [])
abbrev MX0_joinedOf : MI := (yX0_joinedOf, cX0_joinedOf, 2, (Option.some Jvm.ClassFile.FieldType.int), RX0, [])
abbrev MX0_hasJoined : MI := (yX0_hasJoined, cX0_hasJoined, 3, (Option.some Jvm.ClassFile.FieldType.boolean), RX0, [])
abbrev MX0_align : MI := (yX0_align, cX0_align, 5, (Option.none : Option Jvm.ClassFile.FieldType), RX0, [])
abbrev MX0_takeLinks : MI := (yX0_takeLinks, cX0_takeLinks, 4, (Option.none : Option Jvm.ClassFile.FieldType), RX0, [])
abbrev MX0_takeLink : MI := (yX0_takeLink, cX0_takeLink, 3, (Option.none : Option Jvm.ClassFile.FieldType), RX0, [])
abbrev MX0_growOnce : MI := (yX0_growOnce, cX0_growOnce, 4, (Option.some Jvm.ClassFile.FieldType.boolean), RX0, [])
abbrev MX0_isToJoin : MI := (yX0_isToJoin, cX0_isToJoin, 4, (Option.some Jvm.ClassFile.FieldType.boolean), RX0, [])
abbrev MX0_isFree : MI := (yX0_isFree, cX0_isFree, 4, (Option.some Jvm.ClassFile.FieldType.boolean), RX0, [])
abbrev MX0_isBesideJoined : MI := (yX0_isBesideJoined, cX0_isBesideJoined, 5, (Option.some Jvm.ClassFile.FieldType.boolean), RX0, [])
abbrev MX0_join : MI := (yX0_join, cX0_join, 3, (Option.none : Option Jvm.ClassFile.FieldType), RX0, [])
abbrev MX0_bitOf : MI := (yX0_bitOf, cX0_bitOf, 1, (Option.some Jvm.ClassFile.FieldType.int), RX0, [])
abbrev MX0_bitsAt : MI := (yX0_bitsAt, cX0_bitsAt, 2, (Option.some Jvm.ClassFile.FieldType.int), RX0, [])
abbrev MX1_init : MI := (yX1_init, cX1_init, 1, (Option.none : Option Jvm.ClassFile.FieldType), RX1, [])
abbrev MX1_made : MI := (yX1_made, cX1_made, 1, (Option.some Jvm.ClassFile.FieldType.int), RX1, [])
abbrev MX1_size : MI := (yX1_size, cX1_size, 1, (Option.some Jvm.ClassFile.FieldType.int), RX1, [])
abbrev MX1_isFull : MI := (yX1_isFull, cX1_isFull, 1, (Option.some Jvm.ClassFile.FieldType.boolean), RX1, [])
abbrev MX1_add : MI := (yX1_add, cX1_add, 3, (Option.some Jvm.ClassFile.FieldType.int), RX1, [])
abbrev MX1_remove : MI := (yX1_remove, cX1_remove, 2, (Option.none : Option Jvm.ClassFile.FieldType), RX1, [])
abbrev MX1_find : MI := (yX1_find, cX1_find, 3, (Option.some (Jvm.ClassFile.FieldType.object "Glosspair$SentencePair")), RX1, [])
abbrev MX2_init : MI := (yX2_init, cX2_init, 2, (Option.none : Option Jvm.ClassFile.FieldType), RX2, [])
abbrev MX2_shareOf : MI := (yX2_shareOf, cX2_shareOf, 4, (Option.some Jvm.ClassFile.FieldType.int), RX2, [])
abbrev MX2_start : MI := (yX2_start, cX2_start, 2, (Option.some Jvm.ClassFile.FieldType.int), RX2, [])
abbrev MX2_learn : MI := (yX2_learn, cX2_learn, 2, (Option.some Jvm.ClassFile.FieldType.int), RX2, [])
abbrev MX2_cellOf : MI := (yX2_cellOf, cX2_cellOf, 3, (Option.some Jvm.ClassFile.FieldType.int), RX2, [])
abbrev MX2_countMeetings : MI := (yX2_countMeetings, cX2_countMeetings, 4, (Option.none : Option Jvm.ClassFile.FieldType), RX2, [])
abbrev MX2_meetAll : MI := (yX2_meetAll, cX2_meetAll, 6, (Option.none : Option Jvm.ClassFile.FieldType), RX2, [])
abbrev MX2_meet : MI := (yX2_meet, cX2_meet, 4, (Option.none : Option Jvm.ClassFile.FieldType), RX2, [])
abbrev MX2_countAnswers : MI := (yX2_countAnswers, cX2_countAnswers, 4, (Option.none : Option Jvm.ClassFile.FieldType), RX2, [])
abbrev MX2_answerAll : MI := (yX2_answerAll, cX2_answerAll, 8, (Option.none : Option Jvm.ClassFile.FieldType), RX2, [])
abbrev MX2_sumOfShares : MI := (yX2_sumOfShares, cX2_sumOfShares, 6, (Option.some Jvm.ClassFile.FieldType.long), RX2, [])
abbrev MX2_addAnswer : MI := (yX2_addAnswer, cX2_addAnswer, 6, (Option.none : Option Jvm.ClassFile.FieldType), RX2, [])
abbrev MX2_apportionAll : MI := (yX2_apportionAll, cX2_apportionAll, 3, (Option.some Jvm.ClassFile.FieldType.int), RX2, [])
abbrev MX2_apportion : MI := (yX2_apportion, cX2_apportion, 5, (Option.none : Option Jvm.ClassFile.FieldType), RX2, [])
abbrev MX2_countOf : MI := (yX2_countOf, cX2_countOf, 4, (Option.some Jvm.ClassFile.FieldType.long), RX2, [])
abbrev MX2_giveWholes : MI := (yX2_giveWholes, cX2_giveWholes, 8, (Option.some Jvm.ClassFile.FieldType.int), RX2, [])
abbrev MX2_giveRests : MI := (yX2_giveRests, cX2_giveRests, 4, (Option.none : Option Jvm.ClassFile.FieldType), RX2, [])
abbrev MX2_placeOfGreatestRest : MI := (yX2_placeOfGreatestRest, cX2_placeOfGreatestRest, 5, (Option.some Jvm.ClassFile.FieldType.int), RX2, [])
abbrev MX2_replaceShares : MI := (yX2_replaceShares, cX2_replaceShares, 5, (Option.some Jvm.ClassFile.FieldType.int), RX2, [])
abbrev MX2_sharesAboveZero : MI := (yX2_sharesAboveZero, cX2_sharesAboveZero, 3, (Option.some Jvm.ClassFile.FieldType.int), RX2, [])
abbrev MX3_init : MI := (yX3_init, cX3_init, 1, (Option.none : Option Jvm.ClassFile.FieldType), RX3, [])
abbrev MX3_consider : MI := (yX3_consider, cX3_consider, 9, (Option.none : Option Jvm.ClassFile.FieldType), RX3, [])
abbrev MX3_productOfSums : MI := (yX3_productOfSums, cX3_productOfSums, 7, (Option.some Jvm.ClassFile.FieldType.long), RX3, [])
abbrev MX3_sumOfProducts : MI := (yX3_sumOfProducts, cX3_sumOfProducts, 1, (Option.some Jvm.ClassFile.FieldType.long), RX3, [])
abbrev MX3_sumOfWays : MI := (yX3_sumOfWays, cX3_sumOfWays, 11, (Option.some Jvm.ClassFile.FieldType.long), RX3, [])
abbrev MX3_setPart : MI := (yX3_setPart, cX3_setPart, 6, (Option.none : Option Jvm.ClassFile.FieldType), RX3, [])
abbrev MX3_partOf : MI := (yX3_partOf, cX3_partOf, 4, (Option.some Jvm.ClassFile.FieldType.long), RX3, [])
abbrev MX3_cellOf : MI := (yX3_cellOf, cX3_cellOf, 2, (Option.some Jvm.ClassFile.FieldType.int), RX3, [])
abbrev MX4_init : MI := (yX4_init, cX4_init, 1, (Option.none : Option Jvm.ClassFile.FieldType), RX4, [])
abbrev MX4_lexicon : MI := (yX4_lexicon, cX4_lexicon, 2, (Option.some (Jvm.ClassFile.FieldType.object "Glosspair$Lexicon")), RX4, [])
abbrev MX4_setWeight : MI := (yX4_setWeight, cX4_setWeight, 3, (Option.some Jvm.ClassFile.FieldType.int), RX4, [])
abbrev MX4_answerFor : MI := (yX4_answerFor, cX4_answerFor, 12, (Option.some Jvm.ClassFile.FieldType.int), RX4, [])
abbrev MX5_init : MI := (yX5_init, cX5_init, 1, (Option.none : Option Jvm.ClassFile.FieldType), RX5, [])
abbrev MX5_count : MI := (yX5_count, cX5_count, 1, (Option.some Jvm.ClassFile.FieldType.int), RX5, [])
abbrev MX5_endOfFound : MI := (yX5_endOfFound, cX5_endOfFound, 2, (Option.some Jvm.ClassFile.FieldType.int), RX5, [])
abbrev MX5_seek : MI := (yX5_seek, cX5_seek, 6, (Option.none : Option Jvm.ClassFile.FieldType), RX5, [])
abbrev MX5_seekAcross : MI := (yX5_seekAcross, cX5_seekAcross, 10, (Option.none : Option Jvm.ClassFile.FieldType), RX5, [])
abbrev MX5_isPhrase : MI := (yX5_isPhrase, cX5_isPhrase, 3, (Option.some Jvm.ClassFile.FieldType.boolean), RX5, [])
abbrev MX5_spanBits : MI := (yX5_spanBits, cX5_spanBits, 4, (Option.some Jvm.ClassFile.FieldType.int), RX5, [])
abbrev MX5_meet : MI := (yX5_meet, cX5_meet, 6, (Option.none : Option Jvm.ClassFile.FieldType), RX5, [])
abbrev MX6_init : MI := (yX6_init, cX6_init, 1, (Option.none : Option Jvm.ClassFile.FieldType), RX6, [])
abbrev MX6_length : MI := (yX6_length, cX6_length, 1, (Option.some Jvm.ClassFile.FieldType.int), RX6, [])
abbrev MX6_isFull : MI := (yX6_isFull, cX6_isFull, 1, (Option.some Jvm.ClassFile.FieldType.boolean), RX6, [])
abbrev MX6_has : MI := (yX6_has, cX6_has, 2, (Option.some Jvm.ClassFile.FieldType.boolean), RX6, [])
abbrev MX6_at : MI := (yX6_at, cX6_at, 2, (Option.some Jvm.ClassFile.FieldType.int), RX6, [])
abbrev MX6_append : MI := (yX6_append, cX6_append, 2, (Option.none : Option Jvm.ClassFile.FieldType), RX6, [])
abbrev MX6_clear : MI := (yX6_clear, cX6_clear, 1, (Option.none : Option Jvm.ClassFile.FieldType), RX6, [])
abbrev MX7_init : MI := (yX7_init, cX7_init, 1, (Option.none : Option Jvm.ClassFile.FieldType), RX7, [])
abbrev MX7_ofSide : MI := (yX7_ofSide, cX7_ofSide, 2, (Option.some (Jvm.ClassFile.FieldType.object "Glosspair$Sentence")), RX7, [])
abbrev MX7_isThere : MI := (yX7_isThere, cX7_isThere, 1, (Option.some Jvm.ClassFile.FieldType.boolean), RX7, [])
abbrev MX7_setThere : MI := (yX7_setThere, cX7_setThere, 2, (Option.none : Option Jvm.ClassFile.FieldType), RX7, [])
abbrev MX8_init : MI := (yX8_init, cX8_init, 1, (Option.none : Option Jvm.ClassFile.FieldType), RX8, [])
abbrev MX8_at : MI := (yX8_at, cX8_at, 2, (Option.some Jvm.ClassFile.FieldType.int), RX8, [])
abbrev MX8_replace : MI := (yX8_replace, cX8_replace, 4, (Option.some Jvm.ClassFile.FieldType.int), RX8, [])
abbrev MX8_between : MI := (yX8_between, cX8_between, 3, (Option.some Jvm.ClassFile.FieldType.int), RX8, [])
abbrev MX8_ofEmpty : MI := (yX8_ofEmpty, cX8_ofEmpty, 1, (Option.some Jvm.ClassFile.FieldType.int), RX8, [])
abbrev MX9_init : MI := (yX9_init, cX9_init, 1, (Option.none : Option Jvm.ClassFile.FieldType), RX9, [])
abbrev MX9_put : MI := (yX9_put, cX9_put, 4, (Option.some Jvm.ClassFile.FieldType.int), RX9, [])
abbrev MX9_wipe : MI := (yX9_wipe, cX9_wipe, 2, (Option.some Jvm.ClassFile.FieldType.int), RX9, [])
abbrev MX9_pair : MI := (yX9_pair, cX9_pair, 2, (Option.some Jvm.ClassFile.FieldType.int), RX9, [])
abbrev MX9_takeBack : MI := (yX9_takeBack, cX9_takeBack, 3, (Option.some Jvm.ClassFile.FieldType.int), RX9, [])
abbrev MX9_begin : MI := (yX9_begin, cX9_begin, 1, (Option.some Jvm.ClassFile.FieldType.int), RX9, [])
abbrev MX9_round : MI := (yX9_round, cX9_round, 1, (Option.some Jvm.ClassFile.FieldType.int), RX9, [])
abbrev MX9_weight : MI := (yX9_weight, cX9_weight, 3, (Option.some Jvm.ClassFile.FieldType.int), RX9, [])
abbrev MX9_pairs : MI := (yX9_pairs, cX9_pairs, 1, (Option.some Jvm.ClassFile.FieldType.int), RX9, [])
abbrev MX9_word : MI := (yX9_word, cX9_word, 5, (Option.some Jvm.ClassFile.FieldType.int), RX9, [])
abbrev MX9_share : MI := (yX9_share, cX9_share, 4, (Option.some Jvm.ClassFile.FieldType.int), RX9, [])
abbrev MX9_link : MI := (yX9_link, cX9_link, 5, (Option.some Jvm.ClassFile.FieldType.int), RX9, [])
abbrev MX9_isJoined : MI := (yX9_isJoined, cX9_isJoined, 5, (Option.some Jvm.ClassFile.FieldType.boolean), RX9, [])
abbrev MX9_phrases : MI := (yX9_phrases, cX9_phrases, 3, (Option.some Jvm.ClassFile.FieldType.int), RX9, [])
abbrev MX9_phrase : MI := (yX9_phrase, cX9_phrase, 5, (Option.some Jvm.ClassFile.FieldType.int), RX9, [])
abbrev MX9_fertility : MI := (yX9_fertility, cX9_fertility, 6, (Option.some Jvm.ClassFile.FieldType.int), RX9, [])
abbrev MX9_total : MI := (yX9_total, cX9_total, 2, (Option.some Jvm.ClassFile.FieldType.long), RX9, [])
abbrev MX9_totalAnew : MI := (yX9_totalAnew, cX9_totalAnew, 2, (Option.some Jvm.ClassFile.FieldType.long), RX9, [])
abbrev MX9_isSide : MI := (yX9_isSide, cX9_isSide, 1, (Option.some Jvm.ClassFile.FieldType.boolean), RX9, [])
abbrev MX9_isWord : MI := (yX9_isWord, cX9_isWord, 1, (Option.some Jvm.ClassFile.FieldType.boolean), RX9, [])
abbrev MX9_pairThatIsThere : MI := (yX9_pairThatIsThere, cX9_pairThatIsThere, 3, (Option.some (Jvm.ClassFile.FieldType.object "Glosspair$SentencePair")), RX9, [])
abbrev MX9_shortPair : MI := (yX9_shortPair, cX9_shortPair, 3, (Option.some (Jvm.ClassFile.FieldType.object "Glosspair$SentencePair")), RX9, [])
abbrev MX9_placesWith : MI := (yX9_placesWith, cX9_placesWith, 6, (Option.some Jvm.ClassFile.FieldType.int), RX9, [])
abbrev MX10_init : MI := (yX10_init, cX10_init, 1, (Option.none : Option Jvm.ClassFile.FieldType), RX10, [])
abbrev MX10_thrown : MI := (yX10_thrown, cX10_thrown, 1, (Option.some Jvm.ClassFile.FieldType.int), RX10, [])
abbrev MX10_in : MI := (yX10_in, cX10_in, 3, (Option.some Jvm.ClassFile.FieldType.boolean), RX10, [])
abbrev MX10_goes : MI := (yX10_goes, cX10_goes, 4, (Option.some Jvm.ClassFile.FieldType.boolean), RX10, [])
abbrev MX10_isThere : MI := (yX10_isThere, cX10_isThere, 2, (Option.some Jvm.ClassFile.FieldType.boolean), RX10, [])
abbrev MX10_longOf : MI := (yX10_longOf, cX10_longOf, 3, (Option.some Jvm.ClassFile.FieldType.int), RX10, [])
abbrev MX10_wordAt : MI := (yX10_wordAt, cX10_wordAt, 4, (Option.some Jvm.ClassFile.FieldType.int), RX10, [])
abbrev MX10_at : MI := (yX10_at, cX10_at, 3, (Option.some Jvm.ClassFile.FieldType.int), RX10, [])
abbrev MX10_put : MI := (yX10_put, cX10_put, 4, (Option.some Jvm.ClassFile.FieldType.int), RX10, [])
abbrev MX10_wipe : MI := (yX10_wipe, cX10_wipe, 2, (Option.some Jvm.ClassFile.FieldType.int), RX10, [])
abbrev MX10_pair : MI := (yX10_pair, cX10_pair, 2, (Option.some Jvm.ClassFile.FieldType.int), RX10, [])
abbrev MX10_there : MI := (yX10_there, cX10_there, 3, (Option.some Jvm.ClassFile.FieldType.int), RX10, [])
abbrev MX10_takeBack : MI := (yX10_takeBack, cX10_takeBack, 2, (Option.some Jvm.ClassFile.FieldType.int), RX10, [])
abbrev MX10_marks : MI := (yX10_marks, cX10_marks, 6, (Option.none : Option Jvm.ClassFile.FieldType), RX10, [])
abbrev MX10_clears : MI := (yX10_clears, cX10_clears, 2, (Option.none : Option Jvm.ClassFile.FieldType), RX10, [])
abbrev MX10_begin : MI := (yX10_begin, cX10_begin, 6, (Option.some Jvm.ClassFile.FieldType.int), RX10, [])
abbrev MX10_allFor : MI := (yX10_allFor, cX10_allFor, 7, (Option.some Jvm.ClassFile.FieldType.long), RX10, [])
abbrev MX10_adds : MI := (yX10_adds, cX10_adds, 9, (Option.none : Option Jvm.ClassFile.FieldType), RX10, [])
abbrev MX10_renews : MI := (yX10_renews, cX10_renews, 8, (Option.none : Option Jvm.ClassFile.FieldType), RX10, [])
abbrev MX10_round : MI := (yX10_round, cX10_round, 4, (Option.some Jvm.ClassFile.FieldType.int), RX10, [])
abbrev MX10_weight : MI := (yX10_weight, cX10_weight, 4, (Option.some Jvm.ClassFile.FieldType.int), RX10, [])
abbrev MX10_between : MI := (yX10_between, cX10_between, 2, (Option.some Jvm.ClassFile.FieldType.int), RX10, [])
abbrev MX10_linkOf : MI := (yX10_linkOf, cX10_linkOf, 10, (Option.some Jvm.ClassFile.FieldType.int), RX10, [])
abbrev MX10_isBeside : MI := (yX10_isBeside, cX10_isBeside, 4, (Option.some Jvm.ClassFile.FieldType.boolean), RX10, [])
abbrev MX10_isFree : MI := (yX10_isFree, cX10_isFree, 5, (Option.some Jvm.ClassFile.FieldType.boolean), RX10, [])
abbrev MX10_finds : MI := (yX10_finds, cX10_finds, 4, (Option.none : Option Jvm.ClassFile.FieldType), RX10, [])
abbrev MX10_isPhrase : MI := (yX10_isPhrase, cX10_isPhrase, 10, (Option.some Jvm.ClassFile.FieldType.boolean), RX10, [])
abbrev MX10_meets : MI := (yX10_meets, cX10_meets, 10, (Option.some Jvm.ClassFile.FieldType.int), RX10, [])
abbrev MX10_pairs : MI := (yX10_pairs, cX10_pairs, 1, (Option.some Jvm.ClassFile.FieldType.int), RX10, [])
abbrev MX10_word : MI := (yX10_word, cX10_word, 4, (Option.some Jvm.ClassFile.FieldType.int), RX10, [])
abbrev MX10_share : MI := (yX10_share, cX10_share, 5, (Option.some Jvm.ClassFile.FieldType.int), RX10, [])
abbrev MX10_isPlace : MI := (yX10_isPlace, cX10_isPlace, 4, (Option.some Jvm.ClassFile.FieldType.boolean), RX10, [])
abbrev MX10_link : MI := (yX10_link, cX10_link, 5, (Option.some Jvm.ClassFile.FieldType.int), RX10, [])
abbrev MX10_isJoined : MI := (yX10_isJoined, cX10_isJoined, 4, (Option.some Jvm.ClassFile.FieldType.boolean), RX10, [])
abbrev MX10_phrases : MI := (yX10_phrases, cX10_phrases, 2, (Option.some Jvm.ClassFile.FieldType.int), RX10, [])
abbrev MX10_phrase : MI := (yX10_phrase, cX10_phrase, 5, (Option.some Jvm.ClassFile.FieldType.int), RX10, [])
abbrev MX10_fertilityOf : MI := (yX10_fertilityOf, cX10_fertilityOf, 4, (Option.some Jvm.ClassFile.FieldType.int), RX10, [])
abbrev MX10_fertility : MI := (yX10_fertility, cX10_fertility, 6, (Option.some Jvm.ClassFile.FieldType.int), RX10, [])
abbrev MX10_total : MI := (yX10_total, cX10_total, 9, (Option.some Jvm.ClassFile.FieldType.long), RX10, [])
abbrev MX10_totalAnew : MI := (yX10_totalAnew, cX10_totalAnew, 2, (Option.some Jvm.ClassFile.FieldType.long), RX10, [])
abbrev MJ6_bitCount_0f7a4 : MI := (yJ6_bitCount_0f7a4, cJ6_bitCount_0f7a4, 1, (Option.some Jvm.ClassFile.FieldType.int), RJ6, [])
abbrev MJ9_abs_0f7a4 : MI := (yJ9_abs_0f7a4, cJ9_abs_0f7a4, 1, (Option.some Jvm.ClassFile.FieldType.int), RJ9, [])
abbrev MJ9_min_7cf53 : MI := (yJ9_min_7cf53, cJ9_min_7cf53, 2, (Option.some Jvm.ClassFile.FieldType.int), RJ9, [])
abbrev MJ7_fill_d0a16 : MI := (yJ7_fill_d0a16, cJ7_fill_d0a16, 5, (Option.none : Option Jvm.ClassFile.FieldType), RJ7, [])
abbrev MJ7_fill_53178 : MI := (yJ7_fill_53178, cJ7_fill_53178, 4, (Option.none : Option Jvm.ClassFile.FieldType), RJ7, [])
abbrev ML_put : MI := (yL_put, cL_put, 5, (Option.some Jvm.ClassFile.FieldType.int), RL, [((0 : Nat), (10 : Nat), (13 : Nat), (13 : Nat)), ((0 : Nat), (10 : Nat), (17 : Nat), (15 : Nat))])
abbrev ML_pair : MI := (yL_pair, cL_pair, 3, (Option.some Jvm.ClassFile.FieldType.int), RL, [((0 : Nat), (8 : Nat), (11 : Nat), (15 : Nat))])
abbrev ML_takeBack : MI := (yL_takeBack, cL_takeBack, 4, (Option.some Jvm.ClassFile.FieldType.int), RL, [((0 : Nat), (9 : Nat), (12 : Nat), (13 : Nat))])
abbrev ML_weight : MI := (yL_weight, cL_weight, 5, (Option.some Jvm.ClassFile.FieldType.int), RL, [((0 : Nat), (10 : Nat), (13 : Nat), (13 : Nat)), ((0 : Nat), (10 : Nat), (17 : Nat), (28 : Nat))])
abbrev ML_word : MI := (yL_word, cL_word, 6, (Option.some Jvm.ClassFile.FieldType.int), RL, [((0 : Nat), (12 : Nat), (15 : Nat), (13 : Nat))])
abbrev ML_share : MI := (yL_share, cL_share, 6, (Option.some Jvm.ClassFile.FieldType.int), RL, [((0 : Nat), (12 : Nat), (15 : Nat), (13 : Nat))])
abbrev ML_link : MI := (yL_link, cL_link, 6, (Option.some Jvm.ClassFile.FieldType.int), RL, [((0 : Nat), (12 : Nat), (15 : Nat), (13 : Nat))])
abbrev ML_isJoined : MI := (yL_isJoined, cL_isJoined, 6, (Option.some Jvm.ClassFile.FieldType.int), RL, [((0 : Nat), (19 : Nat), (22 : Nat), (13 : Nat))])
abbrev ML_phrases : MI := (yL_phrases, cL_phrases, 4, (Option.some Jvm.ClassFile.FieldType.int), RL, [((0 : Nat), (9 : Nat), (12 : Nat), (13 : Nat))])
abbrev ML_phrase : MI := (yL_phrase, cL_phrase, 6, (Option.some Jvm.ClassFile.FieldType.int), RL, [((0 : Nat), (12 : Nat), (15 : Nat), (13 : Nat)), ((0 : Nat), (12 : Nat), (19 : Nat), (28 : Nat))])
abbrev ML_fertility : MI := (yL_fertility, cL_fertility, 5, (Option.some Jvm.ClassFile.FieldType.int), RL, [((0 : Nat), (10 : Nat), (13 : Nat), (13 : Nat)), ((0 : Nat), (10 : Nat), (17 : Nat), (28 : Nat))])
abbrev ML_total : MI := (yL_total, cL_total, 4, (Option.some Jvm.ClassFile.FieldType.int), RL, [((0 : Nat), (8 : Nat), (11 : Nat), (13 : Nat)), ((0 : Nat), (8 : Nat), (14 : Nat), (15 : Nat))])
abbrev ML_totalAnew : MI := (yL_totalAnew, cL_totalAnew, 4, (Option.some Jvm.ClassFile.FieldType.int), RL, [((0 : Nat), (8 : Nat), (11 : Nat), (13 : Nat)), ((0 : Nat), (8 : Nat), (14 : Nat), (15 : Nat))])
abbrev ML_law : MI := (yL_law, cL_law, 8, (some FieldType.boolean), RL, [])
theorem ok_X0_init : am_OK MX0_init := ⟨by decide +kernel, rfl, am_in 53 (by decide +kernel) rfl, ⟨by decide +kernel, by decide +kernel⟩, am_in 157 (by decide +kernel) rfl, by decide⟩
theorem na_X0_init : am_NA MX0_init 0 := by unfold am_NA; decide +kernel
theorem ok_X0_firstLength : am_OK MX0_firstLength := ⟨by decide +kernel, rfl, am_in 53 (by decide +kernel) rfl, ⟨by decide +kernel, by decide +kernel⟩, am_in 699 (by decide +kernel) rfl, by decide⟩
theorem na_X0_firstLength : am_NA MX0_firstLength 0 := by unfold am_NA; decide +kernel
theorem ok_X0_secondLength : am_OK MX0_secondLength := ⟨by decide +kernel, rfl, am_in 53 (by decide +kernel) rfl, ⟨by decide +kernel, by decide +kernel⟩, am_in 709 (by decide +kernel) rfl, by decide⟩
theorem na_X0_secondLength : am_NA MX0_secondLength 0 := by unfold am_NA; decide +kernel
theorem ok_X0_joinedBits : am_OK MX0_joinedBits := ⟨by decide +kernel, rfl, am_in 53 (by decide +kernel) rfl, ⟨by decide +kernel, by decide +kernel⟩, am_in 671 (by decide +kernel) rfl, by decide⟩
theorem na_X0_joinedBits : am_NA MX0_joinedBits 1 := by unfold am_NA; decide +kernel
theorem ok_X0_joinedOf : am_OK MX0_joinedOf := ⟨by decide +kernel, rfl, am_in 53 (by decide +kernel) rfl, ⟨by decide +kernel, by decide +kernel⟩, am_in 755 (by decide +kernel) rfl, by decide⟩
theorem na_X0_joinedOf : am_NA MX0_joinedOf 1 := by unfold am_NA; decide +kernel
theorem ok_X0_hasJoined : am_OK MX0_hasJoined := ⟨by decide +kernel, rfl, am_in 53 (by decide +kernel) rfl, ⟨by decide +kernel, by decide +kernel⟩, am_in 667 (by decide +kernel) rfl, by decide⟩
theorem na_X0_hasJoined : am_NA MX0_hasJoined 2 := by unfold am_NA; decide +kernel
theorem ok_X0_align : am_OK MX0_align := ⟨by decide +kernel, rfl, am_in 53 (by decide +kernel) rfl, ⟨by decide +kernel, by decide +kernel⟩, am_in 637 (by decide +kernel) rfl, by decide⟩
theorem na_X0_align : am_NA MX0_align 2 := by unfold am_NA; decide +kernel
theorem ok_X0_takeLinks : am_OK MX0_takeLinks := ⟨by decide +kernel, rfl, am_in 53 (by decide +kernel) rfl, ⟨by decide +kernel, by decide +kernel⟩, am_in 643 (by decide +kernel) rfl, by decide⟩
theorem na_X0_takeLinks : am_NA MX0_takeLinks 2 := by unfold am_NA; decide +kernel
theorem ok_X0_takeLink : am_OK MX0_takeLink := ⟨by decide +kernel, rfl, am_in 53 (by decide +kernel) rfl, ⟨by decide +kernel, by decide +kernel⟩, am_in 649 (by decide +kernel) rfl, by decide⟩
theorem na_X0_takeLink : am_NA MX0_takeLink 2 := by unfold am_NA; decide +kernel
theorem ok_X0_growOnce : am_OK MX0_growOnce := ⟨by decide +kernel, rfl, am_in 53 (by decide +kernel) rfl, ⟨by decide +kernel, by decide +kernel⟩, am_in 659 (by decide +kernel) rfl, by decide⟩
theorem na_X0_growOnce : am_NA MX0_growOnce 0 := by unfold am_NA; decide +kernel
theorem ok_X0_isToJoin : am_OK MX0_isToJoin := ⟨by decide +kernel, rfl, am_in 53 (by decide +kernel) rfl, ⟨by decide +kernel, by decide +kernel⟩, am_in 663 (by decide +kernel) rfl, by decide⟩
theorem na_X0_isToJoin : am_NA MX0_isToJoin 2 := by unfold am_NA; decide +kernel
theorem ok_X0_isFree : am_OK MX0_isFree := ⟨by decide +kernel, rfl, am_in 53 (by decide +kernel) rfl, ⟨by decide +kernel, by decide +kernel⟩, am_in 675 (by decide +kernel) rfl, by decide⟩
theorem na_X0_isFree : am_NA MX0_isFree 1 := by unfold am_NA; decide +kernel
theorem ok_X0_isBesideJoined : am_OK MX0_isBesideJoined := ⟨by decide +kernel, rfl, am_in 53 (by decide +kernel) rfl, ⟨by decide +kernel, by decide +kernel⟩, am_in 679 (by decide +kernel) rfl, by decide⟩
theorem na_X0_isBesideJoined : am_NA MX0_isBesideJoined 2 := by unfold am_NA; decide +kernel
theorem ok_X0_join : am_OK MX0_join := ⟨by decide +kernel, rfl, am_in 53 (by decide +kernel) rfl, ⟨by decide +kernel, by decide +kernel⟩, am_in 683 (by decide +kernel) rfl, by decide⟩
theorem na_X0_join : am_NA MX0_join 2 := by unfold am_NA; decide +kernel
theorem ok_X0_bitOf : am_OK MX0_bitOf := ⟨by decide +kernel, rfl, am_in 53 (by decide +kernel) rfl, ⟨by decide +kernel, by decide +kernel⟩, am_in 652 (by decide +kernel) rfl, by decide⟩
theorem na_X0_bitOf : am_NA MX0_bitOf 1 := by unfold am_NA; decide +kernel
theorem ok_X0_bitsAt : am_OK MX0_bitsAt := ⟨by decide +kernel, rfl, am_in 53 (by decide +kernel) rfl, ⟨by decide +kernel, by decide +kernel⟩, am_in 655 (by decide +kernel) rfl, by decide⟩
theorem na_X0_bitsAt : am_NA MX0_bitsAt 2 := by unfold am_NA; decide +kernel
theorem ok_X1_init : am_OK MX1_init := ⟨by decide +kernel, rfl, am_in 49 (by decide +kernel) rfl, ⟨by decide +kernel, by decide +kernel⟩, am_in 80 (by decide +kernel) rfl, by decide⟩
theorem na_X1_init : am_NA MX1_init 0 := by unfold am_NA; decide +kernel
theorem ok_X1_made : am_OK MX1_made := ⟨by decide +kernel, rfl, am_in 49 (by decide +kernel) rfl, ⟨by decide +kernel, by decide +kernel⟩, am_in 290 (by decide +kernel) rfl, by decide⟩
theorem na_X1_made : am_NA MX1_made 0 := by unfold am_NA; decide +kernel
theorem ok_X1_size : am_OK MX1_size := ⟨by decide +kernel, rfl, am_in 49 (by decide +kernel) rfl, ⟨by decide +kernel, by decide +kernel⟩, am_in 393 (by decide +kernel) rfl, by decide⟩
theorem na_X1_size : am_NA MX1_size 0 := by unfold am_NA; decide +kernel
theorem ok_X1_isFull : am_OK MX1_isFull := ⟨by decide +kernel, rfl, am_in 49 (by decide +kernel) rfl, ⟨by decide +kernel, by decide +kernel⟩, am_in 512 (by decide +kernel) rfl, by decide⟩
theorem na_X1_isFull : am_NA MX1_isFull 0 := by unfold am_NA; decide +kernel
theorem ok_X1_add : am_OK MX1_add := ⟨by decide +kernel, rfl, am_in 49 (by decide +kernel) rfl, ⟨by decide +kernel, by decide +kernel⟩, am_in 517 (by decide +kernel) rfl, by decide⟩
theorem na_X1_add : am_NA MX1_add 1 := by unfold am_NA; decide +kernel
theorem ok_X1_remove : am_OK MX1_remove := ⟨by decide +kernel, rfl, am_in 49 (by decide +kernel) rfl, ⟨by decide +kernel, by decide +kernel⟩, am_in 538 (by decide +kernel) rfl, by decide⟩
theorem na_X1_remove : am_NA MX1_remove 1 := by unfold am_NA; decide +kernel
theorem ok_X1_find : am_OK MX1_find := ⟨by decide +kernel, rfl, am_in 49 (by decide +kernel) rfl, ⟨by decide +kernel, by decide +kernel⟩, am_in 294 (by decide +kernel) rfl, by decide⟩
theorem na_X1_find : am_NA MX1_find 1 := by unfold am_NA; decide +kernel
theorem ok_X2_init : am_OK MX2_init := ⟨by decide +kernel, rfl, am_in 51 (by decide +kernel) rfl, ⟨by decide +kernel, by decide +kernel⟩, am_in 104 (by decide +kernel) rfl, by decide⟩
theorem na_X2_init : am_NA MX2_init 1 := by unfold am_NA; decide +kernel
theorem ok_X2_shareOf : am_OK MX2_shareOf := ⟨by decide +kernel, rfl, am_in 51 (by decide +kernel) rfl, ⟨by decide +kernel, by decide +kernel⟩, am_in 381 (by decide +kernel) rfl, by decide⟩
theorem na_X2_shareOf : am_NA MX2_shareOf 2 := by unfold am_NA; decide +kernel
theorem ok_X2_start : am_OK MX2_start := ⟨by decide +kernel, rfl, am_in 51 (by decide +kernel) rfl, ⟨by decide +kernel, by decide +kernel⟩, am_in 279 (by decide +kernel) rfl, by decide⟩
theorem na_X2_start : am_NA MX2_start 1 := by unfold am_NA; decide +kernel
theorem ok_X2_learn : am_OK MX2_learn := ⟨by decide +kernel, rfl, am_in 51 (by decide +kernel) rfl, ⟨by decide +kernel, by decide +kernel⟩, am_in 365 (by decide +kernel) rfl, by decide⟩
theorem na_X2_learn : am_NA MX2_learn 1 := by unfold am_NA; decide +kernel
theorem ok_X2_cellOf : am_OK MX2_cellOf := ⟨by decide +kernel, rfl, am_in 51 (by decide +kernel) rfl, ⟨by decide +kernel, by decide +kernel⟩, am_in 319 (by decide +kernel) rfl, by decide⟩
theorem na_X2_cellOf : am_NA MX2_cellOf 2 := by unfold am_NA; decide +kernel
theorem ok_X2_countMeetings : am_OK MX2_countMeetings := ⟨by decide +kernel, rfl, am_in 51 (by decide +kernel) rfl, ⟨by decide +kernel, by decide +kernel⟩, am_in 283 (by decide +kernel) rfl, by decide⟩
theorem na_X2_countMeetings : am_NA MX2_countMeetings 1 := by unfold am_NA; decide +kernel
theorem ok_X2_meetAll : am_OK MX2_meetAll := ⟨by decide +kernel, rfl, am_in 51 (by decide +kernel) rfl, ⟨by decide +kernel, by decide +kernel⟩, am_in 303 (by decide +kernel) rfl, by decide⟩
theorem na_X2_meetAll : am_NA MX2_meetAll 2 := by unfold am_NA; decide +kernel
theorem ok_X2_meet : am_OK MX2_meet := ⟨by decide +kernel, rfl, am_in 51 (by decide +kernel) rfl, ⟨by decide +kernel, by decide +kernel⟩, am_in 316 (by decide +kernel) rfl, by decide⟩
theorem na_X2_meet : am_NA MX2_meet 2 := by unfold am_NA; decide +kernel
theorem ok_X2_countAnswers : am_OK MX2_countAnswers := ⟨by decide +kernel, rfl, am_in 51 (by decide +kernel) rfl, ⟨by decide +kernel, by decide +kernel⟩, am_in 369 (by decide +kernel) rfl, by decide⟩
theorem na_X2_countAnswers : am_NA MX2_countAnswers 1 := by unfold am_NA; decide +kernel
theorem ok_X2_answerAll : am_OK MX2_answerAll := ⟨by decide +kernel, rfl, am_in 51 (by decide +kernel) rfl, ⟨by decide +kernel, by decide +kernel⟩, am_in 373 (by decide +kernel) rfl, by decide⟩
theorem na_X2_answerAll : am_NA MX2_answerAll 2 := by unfold am_NA; decide +kernel
theorem ok_X2_sumOfShares : am_OK MX2_sumOfShares := ⟨by decide +kernel, rfl, am_in 51 (by decide +kernel) rfl, ⟨by decide +kernel, by decide +kernel⟩, am_in 377 (by decide +kernel) rfl, by decide⟩
theorem na_X2_sumOfShares : am_NA MX2_sumOfShares 2 := by unfold am_NA; decide +kernel
theorem ok_X2_addAnswer : am_OK MX2_addAnswer := ⟨by decide +kernel, rfl, am_in 51 (by decide +kernel) rfl, ⟨by decide +kernel, by decide +kernel⟩, am_in 385 (by decide +kernel) rfl, by decide⟩
theorem na_X2_addAnswer : am_NA MX2_addAnswer 3 := by unfold am_NA; decide +kernel
theorem ok_X2_apportionAll : am_OK MX2_apportionAll := ⟨by decide +kernel, rfl, am_in 51 (by decide +kernel) rfl, ⟨by decide +kernel, by decide +kernel⟩, am_in 323 (by decide +kernel) rfl, by decide⟩
theorem na_X2_apportionAll : am_NA MX2_apportionAll 0 := by unfold am_NA; decide +kernel
theorem ok_X2_apportion : am_OK MX2_apportion := ⟨by decide +kernel, rfl, am_in 51 (by decide +kernel) rfl, ⟨by decide +kernel, by decide +kernel⟩, am_in 327 (by decide +kernel) rfl, by decide⟩
theorem na_X2_apportion : am_NA MX2_apportion 1 := by unfold am_NA; decide +kernel
theorem ok_X2_countOf : am_OK MX2_countOf := ⟨by decide +kernel, rfl, am_in 51 (by decide +kernel) rfl, ⟨by decide +kernel, by decide +kernel⟩, am_in 334 (by decide +kernel) rfl, by decide⟩
theorem na_X2_countOf : am_NA MX2_countOf 2 := by unfold am_NA; decide +kernel
theorem ok_X2_giveWholes : am_OK MX2_giveWholes := ⟨by decide +kernel, rfl, am_in 51 (by decide +kernel) rfl, ⟨by decide +kernel, by decide +kernel⟩, am_in 338 (by decide +kernel) rfl, by decide⟩
theorem na_X2_giveWholes : am_NA MX2_giveWholes 2 := by unfold am_NA; decide +kernel
theorem ok_X2_giveRests : am_OK MX2_giveRests := ⟨by decide +kernel, rfl, am_in 51 (by decide +kernel) rfl, ⟨by decide +kernel, by decide +kernel⟩, am_in 344 (by decide +kernel) rfl, by decide⟩
theorem na_X2_giveRests : am_NA MX2_giveRests 1 := by unfold am_NA; decide +kernel
theorem ok_X2_placeOfGreatestRest : am_OK MX2_placeOfGreatestRest := ⟨by decide +kernel, rfl, am_in 51 (by decide +kernel) rfl, ⟨by decide +kernel, by decide +kernel⟩, am_in 348 (by decide +kernel) rfl, by decide⟩
theorem na_X2_placeOfGreatestRest : am_NA MX2_placeOfGreatestRest 0 := by unfold am_NA; decide +kernel
theorem ok_X2_replaceShares : am_OK MX2_replaceShares := ⟨by decide +kernel, rfl, am_in 51 (by decide +kernel) rfl, ⟨by decide +kernel, by decide +kernel⟩, am_in 353 (by decide +kernel) rfl, by decide⟩
theorem na_X2_replaceShares : am_NA MX2_replaceShares 1 := by unfold am_NA; decide +kernel
theorem ok_X2_sharesAboveZero : am_OK MX2_sharesAboveZero := ⟨by decide +kernel, rfl, am_in 51 (by decide +kernel) rfl, ⟨by decide +kernel, by decide +kernel⟩, am_in 357 (by decide +kernel) rfl, by decide⟩
theorem na_X2_sharesAboveZero : am_NA MX2_sharesAboveZero 0 := by unfold am_NA; decide +kernel
theorem ok_X3_init : am_OK MX3_init := ⟨by decide +kernel, rfl, am_in 55 (by decide +kernel) rfl, ⟨by decide +kernel, by decide +kernel⟩, am_in 192 (by decide +kernel) rfl, by decide⟩
theorem na_X3_init : am_NA MX3_init 0 := by unfold am_NA; decide +kernel
theorem ok_X3_consider : am_OK MX3_consider := ⟨by decide +kernel, rfl, am_in 55 (by decide +kernel) rfl, ⟨by decide +kernel, by decide +kernel⟩, am_in 777 (by decide +kernel) rfl, by decide⟩
theorem na_X3_consider : am_NA MX3_consider 2 := by unfold am_NA; decide +kernel
theorem ok_X3_productOfSums : am_OK MX3_productOfSums := ⟨by decide +kernel, rfl, am_in 55 (by decide +kernel) rfl, ⟨by decide +kernel, by decide +kernel⟩, am_in 793 (by decide +kernel) rfl, by decide⟩
theorem na_X3_productOfSums : am_NA MX3_productOfSums 0 := by unfold am_NA; decide +kernel
theorem ok_X3_sumOfProducts : am_OK MX3_sumOfProducts := ⟨by decide +kernel, rfl, am_in 55 (by decide +kernel) rfl, ⟨by decide +kernel, by decide +kernel⟩, am_in 807 (by decide +kernel) rfl, by decide⟩
theorem na_X3_sumOfProducts : am_NA MX3_sumOfProducts 0 := by unfold am_NA; decide +kernel
theorem ok_X3_sumOfWays : am_OK MX3_sumOfWays := ⟨by decide +kernel, rfl, am_in 55 (by decide +kernel) rfl, ⟨by decide +kernel, by decide +kernel⟩, am_in 810 (by decide +kernel) rfl, by decide⟩
theorem na_X3_sumOfWays : am_NA MX3_sumOfWays 5 := by unfold am_NA; decide +kernel
theorem ok_X3_setPart : am_OK MX3_setPart := ⟨by decide +kernel, rfl, am_in 55 (by decide +kernel) rfl, ⟨by decide +kernel, by decide +kernel⟩, am_in 786 (by decide +kernel) rfl, by decide⟩
theorem na_X3_setPart : am_NA MX3_setPart 3 := by unfold am_NA; decide +kernel
theorem ok_X3_partOf : am_OK MX3_partOf := ⟨by decide +kernel, rfl, am_in 55 (by decide +kernel) rfl, ⟨by decide +kernel, by decide +kernel⟩, am_in 796 (by decide +kernel) rfl, by decide⟩
theorem na_X3_partOf : am_NA MX3_partOf 3 := by unfold am_NA; decide +kernel
theorem ok_X3_cellOf : am_OK MX3_cellOf := ⟨by decide +kernel, rfl, am_in 55 (by decide +kernel) rfl, ⟨by decide +kernel, by decide +kernel⟩, am_in 789 (by decide +kernel) rfl, by decide⟩
theorem na_X3_cellOf : am_NA MX3_cellOf 2 := by unfold am_NA; decide +kernel
theorem ok_X4_init : am_OK MX4_init := ⟨by decide +kernel, rfl, am_in 50 (by decide +kernel) rfl, ⟨by decide +kernel, by decide +kernel⟩, am_in 98 (by decide +kernel) rfl, by decide⟩
theorem na_X4_init : am_NA MX4_init 0 := by unfold am_NA; decide +kernel
theorem ok_X4_lexicon : am_OK MX4_lexicon := ⟨by decide +kernel, rfl, am_in 50 (by decide +kernel) rfl, ⟨by decide +kernel, by decide +kernel⟩, am_in 275 (by decide +kernel) rfl, by decide⟩
theorem na_X4_lexicon : am_NA MX4_lexicon 1 := by unfold am_NA; decide +kernel
theorem ok_X4_setWeight : am_OK MX4_setWeight := ⟨by decide +kernel, rfl, am_in 50 (by decide +kernel) rfl, ⟨by decide +kernel, by decide +kernel⟩, am_in 567 (by decide +kernel) rfl, by decide⟩
theorem na_X4_setWeight : am_NA MX4_setWeight 2 := by unfold am_NA; decide +kernel
theorem ok_X4_answerFor : am_OK MX4_answerFor := ⟨by decide +kernel, rfl, am_in 50 (by decide +kernel) rfl, ⟨by decide +kernel, by decide +kernel⟩, am_in 606 (by decide +kernel) rfl, by decide⟩
theorem na_X4_answerFor : am_NA MX4_answerFor 3 := by unfold am_NA; decide +kernel
theorem ok_X5_init : am_OK MX5_init := ⟨by decide +kernel, rfl, am_in 54 (by decide +kernel) rfl, ⟨by decide +kernel, by decide +kernel⟩, am_in 179 (by decide +kernel) rfl, by decide⟩
theorem na_X5_init : am_NA MX5_init 0 := by unfold am_NA; decide +kernel
theorem ok_X5_count : am_OK MX5_count := ⟨by decide +kernel, rfl, am_in 54 (by decide +kernel) rfl, ⟨by decide +kernel, by decide +kernel⟩, am_in 724 (by decide +kernel) rfl, by decide⟩
theorem na_X5_count : am_NA MX5_count 0 := by unfold am_NA; decide +kernel
theorem ok_X5_endOfFound : am_OK MX5_endOfFound := ⟨by decide +kernel, rfl, am_in 54 (by decide +kernel) rfl, ⟨by decide +kernel, by decide +kernel⟩, am_in 737 (by decide +kernel) rfl, by decide⟩
theorem na_X5_endOfFound : am_NA MX5_endOfFound 1 := by unfold am_NA; decide +kernel
theorem ok_X5_seek : am_OK MX5_seek := ⟨by decide +kernel, rfl, am_in 54 (by decide +kernel) rfl, ⟨by decide +kernel, by decide +kernel⟩, am_in 695 (by decide +kernel) rfl, by decide⟩
theorem na_X5_seek : am_NA MX5_seek 2 := by unfold am_NA; decide +kernel
theorem ok_X5_seekAcross : am_OK MX5_seekAcross := ⟨by decide +kernel, rfl, am_in 54 (by decide +kernel) rfl, ⟨by decide +kernel, by decide +kernel⟩, am_in 704 (by decide +kernel) rfl, by decide⟩
theorem na_X5_seekAcross : am_NA MX5_seekAcross 4 := by unfold am_NA; decide +kernel
theorem ok_X5_isPhrase : am_OK MX5_isPhrase := ⟨by decide +kernel, rfl, am_in 54 (by decide +kernel) rfl, ⟨by decide +kernel, by decide +kernel⟩, am_in 716 (by decide +kernel) rfl, by decide⟩
theorem na_X5_isPhrase : am_NA MX5_isPhrase 3 := by unfold am_NA; decide +kernel
theorem ok_X5_spanBits : am_OK MX5_spanBits := ⟨by decide +kernel, rfl, am_in 54 (by decide +kernel) rfl, ⟨by decide +kernel, by decide +kernel⟩, am_in 712 (by decide +kernel) rfl, by decide⟩
theorem na_X5_spanBits : am_NA MX5_spanBits 2 := by unfold am_NA; decide +kernel
theorem ok_X5_meet : am_OK MX5_meet := ⟨by decide +kernel, rfl, am_in 54 (by decide +kernel) rfl, ⟨by decide +kernel, by decide +kernel⟩, am_in 720 (by decide +kernel) rfl, by decide⟩
theorem na_X5_meet : am_NA MX5_meet 5 := by unfold am_NA; decide +kernel
theorem ok_X6_init : am_OK MX6_init := ⟨by decide +kernel, rfl, am_in 57 (by decide +kernel) rfl, ⟨by decide +kernel, by decide +kernel⟩, am_in 214 (by decide +kernel) rfl, by decide⟩
theorem na_X6_init : am_NA MX6_init 0 := by unfold am_NA; decide +kernel
theorem ok_X6_length : am_OK MX6_length := ⟨by decide +kernel, rfl, am_in 57 (by decide +kernel) rfl, ⟨by decide +kernel, by decide +kernel⟩, am_in 263 (by decide +kernel) rfl, by decide⟩
theorem na_X6_length : am_NA MX6_length 0 := by unfold am_NA; decide +kernel
theorem ok_X6_isFull : am_OK MX6_isFull := ⟨by decide +kernel, rfl, am_in 57 (by decide +kernel) rfl, ⟨by decide +kernel, by decide +kernel⟩, am_in 480 (by decide +kernel) rfl, by decide⟩
theorem na_X6_isFull : am_NA MX6_isFull 0 := by unfold am_NA; decide +kernel
theorem ok_X6_has : am_OK MX6_has := ⟨by decide +kernel, rfl, am_in 57 (by decide +kernel) rfl, ⟨by decide +kernel, by decide +kernel⟩, am_in 312 (by decide +kernel) rfl, by decide⟩
theorem na_X6_has : am_NA MX6_has 1 := by unfold am_NA; decide +kernel
theorem ok_X6_at : am_OK MX6_at := ⟨by decide +kernel, rfl, am_in 57 (by decide +kernel) rfl, ⟨by decide +kernel, by decide +kernel⟩, am_in 308 (by decide +kernel) rfl, by decide⟩
theorem na_X6_at : am_NA MX6_at 1 := by unfold am_NA; decide +kernel
theorem ok_X6_append : am_OK MX6_append := ⟨by decide +kernel, rfl, am_in 57 (by decide +kernel) rfl, ⟨by decide +kernel, by decide +kernel⟩, am_in 500 (by decide +kernel) rfl, by decide⟩
theorem na_X6_append : am_NA MX6_append 1 := by unfold am_NA; decide +kernel
theorem ok_X6_clear : am_OK MX6_clear := ⟨by decide +kernel, rfl, am_in 57 (by decide +kernel) rfl, ⟨by decide +kernel, by decide +kernel⟩, am_in 267 (by decide +kernel) rfl, by decide⟩
theorem na_X6_clear : am_NA MX6_clear 0 := by unfold am_NA; decide +kernel
theorem ok_X7_init : am_OK MX7_init := ⟨by decide +kernel, rfl, am_in 56 (by decide +kernel) rfl, ⟨by decide +kernel, by decide +kernel⟩, am_in 208 (by decide +kernel) rfl, by decide⟩
theorem na_X7_init : am_NA MX7_init 0 := by unfold am_NA; decide +kernel
theorem ok_X7_ofSide : am_OK MX7_ofSide := ⟨by decide +kernel, rfl, am_in 56 (by decide +kernel) rfl, ⟨by decide +kernel, by decide +kernel⟩, am_in 259 (by decide +kernel) rfl, by decide⟩
theorem na_X7_ofSide : am_NA MX7_ofSide 1 := by unfold am_NA; decide +kernel
theorem ok_X7_isThere : am_OK MX7_isThere := ⟨by decide +kernel, rfl, am_in 56 (by decide +kernel) rfl, ⟨by decide +kernel, by decide +kernel⟩, am_in 298 (by decide +kernel) rfl, by decide⟩
theorem na_X7_isThere : am_NA MX7_isThere 0 := by unfold am_NA; decide +kernel
theorem ok_X7_setThere : am_OK MX7_setThere := ⟨by decide +kernel, rfl, am_in 56 (by decide +kernel) rfl, ⟨by decide +kernel, by decide +kernel⟩, am_in 521 (by decide +kernel) rfl, by decide⟩
theorem na_X7_setThere : am_NA MX7_setThere 1 := by unfold am_NA; decide +kernel
theorem ok_X8_init : am_OK MX8_init := ⟨by decide +kernel, rfl, am_in 52 (by decide +kernel) rfl, ⟨by decide +kernel, by decide +kernel⟩, am_in 128 (by decide +kernel) rfl, by decide⟩
theorem na_X8_init : am_NA MX8_init 0 := by unfold am_NA; decide +kernel
theorem ok_X8_at : am_OK MX8_at := ⟨by decide +kernel, rfl, am_in 52 (by decide +kernel) rfl, ⟨by decide +kernel, by decide +kernel⟩, am_in 575 (by decide +kernel) rfl, by decide⟩
theorem na_X8_at : am_NA MX8_at 1 := by unfold am_NA; decide +kernel
theorem ok_X8_replace : am_OK MX8_replace := ⟨by decide +kernel, rfl, am_in 52 (by decide +kernel) rfl, ⟨by decide +kernel, by decide +kernel⟩, am_in 571 (by decide +kernel) rfl, by decide⟩
theorem na_X8_replace : am_NA MX8_replace 2 := by unfold am_NA; decide +kernel
theorem ok_X8_between : am_OK MX8_between := ⟨by decide +kernel, rfl, am_in 52 (by decide +kernel) rfl, ⟨by decide +kernel, by decide +kernel⟩, am_in 615 (by decide +kernel) rfl, by decide⟩
theorem na_X8_between : am_NA MX8_between 2 := by unfold am_NA; decide +kernel
theorem ok_X8_ofEmpty : am_OK MX8_ofEmpty := ⟨by decide +kernel, rfl, am_in 52 (by decide +kernel) rfl, ⟨by decide +kernel, by decide +kernel⟩, am_in 625 (by decide +kernel) rfl, by decide⟩
theorem na_X8_ofEmpty : am_NA MX8_ofEmpty 0 := by unfold am_NA; decide +kernel
theorem ok_X9_init : am_OK MX9_init := ⟨by decide +kernel, rfl, am_in 48 (by decide +kernel) rfl, ⟨by decide +kernel, by decide +kernel⟩, am_in 72 (by decide +kernel) rfl, by decide⟩
theorem na_X9_init : am_NA MX9_init 0 := by unfold am_NA; decide +kernel
theorem ok_X9_put : am_OK MX9_put := ⟨by decide +kernel, rfl, am_in 48 (by decide +kernel) rfl, ⟨by decide +kernel, by decide +kernel⟩, am_in 402 (by decide +kernel) rfl, by decide⟩
theorem na_X9_put : am_NA MX9_put 2 := by unfold am_NA; decide +kernel
theorem ok_X9_wipe : am_OK MX9_wipe := ⟨by decide +kernel, rfl, am_in 48 (by decide +kernel) rfl, ⟨by decide +kernel, by decide +kernel⟩, am_in 255 (by decide +kernel) rfl, by decide⟩
theorem na_X9_wipe : am_NA MX9_wipe 0 := by unfold am_NA; decide +kernel
theorem ok_X9_pair : am_OK MX9_pair := ⟨by decide +kernel, rfl, am_in 48 (by decide +kernel) rfl, ⟨by decide +kernel, by decide +kernel⟩, am_in 507 (by decide +kernel) rfl, by decide⟩
theorem na_X9_pair : am_NA MX9_pair 0 := by unfold am_NA; decide +kernel
theorem ok_X9_takeBack : am_OK MX9_takeBack := ⟨by decide +kernel, rfl, am_in 48 (by decide +kernel) rfl, ⟨by decide +kernel, by decide +kernel⟩, am_in 528 (by decide +kernel) rfl, by decide⟩
theorem na_X9_takeBack : am_NA MX9_takeBack 1 := by unfold am_NA; decide +kernel
theorem ok_X9_begin : am_OK MX9_begin := ⟨by decide +kernel, rfl, am_in 48 (by decide +kernel) rfl, ⟨by decide +kernel, by decide +kernel⟩, am_in 271 (by decide +kernel) rfl, by decide⟩
theorem na_X9_begin : am_NA MX9_begin 0 := by unfold am_NA; decide +kernel
theorem ok_X9_round : am_OK MX9_round := ⟨by decide +kernel, rfl, am_in 48 (by decide +kernel) rfl, ⟨by decide +kernel, by decide +kernel⟩, am_in 361 (by decide +kernel) rfl, by decide⟩
theorem na_X9_round : am_NA MX9_round 0 := by unfold am_NA; decide +kernel
theorem ok_X9_weight : am_OK MX9_weight := ⟨by decide +kernel, rfl, am_in 48 (by decide +kernel) rfl, ⟨by decide +kernel, by decide +kernel⟩, am_in 546 (by decide +kernel) rfl, by decide⟩
theorem na_X9_weight : am_NA MX9_weight 2 := by unfold am_NA; decide +kernel
theorem ok_X9_pairs : am_OK MX9_pairs := ⟨by decide +kernel, rfl, am_in 48 (by decide +kernel) rfl, ⟨by decide +kernel, by decide +kernel⟩, am_in 389 (by decide +kernel) rfl, by decide⟩
theorem na_X9_pairs : am_NA MX9_pairs 0 := by unfold am_NA; decide +kernel
theorem ok_X9_word : am_OK MX9_word := ⟨by decide +kernel, rfl, am_in 48 (by decide +kernel) rfl, ⟨by decide +kernel, by decide +kernel⟩, am_in 582 (by decide +kernel) rfl, by decide⟩
theorem na_X9_word : am_NA MX9_word 3 := by unfold am_NA; decide +kernel
theorem ok_X9_share : am_OK MX9_share := ⟨by decide +kernel, rfl, am_in 48 (by decide +kernel) rfl, ⟨by decide +kernel, by decide +kernel⟩, am_in 591 (by decide +kernel) rfl, by decide⟩
theorem na_X9_share : am_NA MX9_share 3 := by unfold am_NA; decide +kernel
theorem ok_X9_link : am_OK MX9_link := ⟨by decide +kernel, rfl, am_in 48 (by decide +kernel) rfl, ⟨by decide +kernel, by decide +kernel⟩, am_in 600 (by decide +kernel) rfl, by decide⟩
theorem na_X9_link : am_NA MX9_link 3 := by unfold am_NA; decide +kernel
theorem ok_X9_isJoined : am_OK MX9_isJoined := ⟨by decide +kernel, rfl, am_in 48 (by decide +kernel) rfl, ⟨by decide +kernel, by decide +kernel⟩, am_in 632 (by decide +kernel) rfl, by decide⟩
theorem na_X9_isJoined : am_NA MX9_isJoined 3 := by unfold am_NA; decide +kernel
theorem ok_X9_phrases : am_OK MX9_phrases := ⟨by decide +kernel, rfl, am_in 48 (by decide +kernel) rfl, ⟨by decide +kernel, by decide +kernel⟩, am_in 691 (by decide +kernel) rfl, by decide⟩
theorem na_X9_phrases : am_NA MX9_phrases 1 := by unfold am_NA; decide +kernel
theorem ok_X9_phrase : am_OK MX9_phrase := ⟨by decide +kernel, rfl, am_in 48 (by decide +kernel) rfl, ⟨by decide +kernel, by decide +kernel⟩, am_in 731 (by decide +kernel) rfl, by decide⟩
theorem na_X9_phrase : am_NA MX9_phrase 3 := by unfold am_NA; decide +kernel
theorem ok_X9_fertility : am_OK MX9_fertility := ⟨by decide +kernel, rfl, am_in 48 (by decide +kernel) rfl, ⟨by decide +kernel, by decide +kernel⟩, am_in 744 (by decide +kernel) rfl, by decide⟩
theorem na_X9_fertility : am_NA MX9_fertility 2 := by unfold am_NA; decide +kernel
theorem ok_X9_total : am_OK MX9_total := ⟨by decide +kernel, rfl, am_in 48 (by decide +kernel) rfl, ⟨by decide +kernel, by decide +kernel⟩, am_in 768 (by decide +kernel) rfl, by decide⟩
theorem na_X9_total : am_NA MX9_total 1 := by unfold am_NA; decide +kernel
theorem ok_X9_totalAnew : am_OK MX9_totalAnew := ⟨by decide +kernel, rfl, am_in 48 (by decide +kernel) rfl, ⟨by decide +kernel, by decide +kernel⟩, am_in 803 (by decide +kernel) rfl, by decide⟩
theorem na_X9_totalAnew : am_NA MX9_totalAnew 1 := by unfold am_NA; decide +kernel
theorem ok_X9_isSide : am_OK MX9_isSide := ⟨by decide +kernel, rfl, am_in 48 (by decide +kernel) rfl, ⟨by decide +kernel, by decide +kernel⟩, am_in 405 (by decide +kernel) rfl, by decide⟩
theorem na_X9_isSide : am_NA MX9_isSide 1 := by unfold am_NA; decide +kernel
theorem ok_X9_isWord : am_OK MX9_isWord := ⟨by decide +kernel, rfl, am_in 48 (by decide +kernel) rfl, ⟨by decide +kernel, by decide +kernel⟩, am_in 408 (by decide +kernel) rfl, by decide⟩
theorem na_X9_isWord : am_NA MX9_isWord 1 := by unfold am_NA; decide +kernel
theorem ok_X9_pairThatIsThere : am_OK MX9_pairThatIsThere := ⟨by decide +kernel, rfl, am_in 48 (by decide +kernel) rfl, ⟨by decide +kernel, by decide +kernel⟩, am_in 532 (by decide +kernel) rfl, by decide⟩
theorem na_X9_pairThatIsThere : am_NA MX9_pairThatIsThere 1 := by unfold am_NA; decide +kernel
theorem ok_X9_shortPair : am_OK MX9_shortPair := ⟨by decide +kernel, rfl, am_in 48 (by decide +kernel) rfl, ⟨by decide +kernel, by decide +kernel⟩, am_in 772 (by decide +kernel) rfl, by decide⟩
theorem na_X9_shortPair : am_NA MX9_shortPair 1 := by unfold am_NA; decide +kernel
theorem ok_X9_placesWith : am_OK MX9_placesWith := ⟨by decide +kernel, rfl, am_in 48 (by decide +kernel) rfl, ⟨by decide +kernel, by decide +kernel⟩, am_in 751 (by decide +kernel) rfl, by decide⟩
theorem na_X9_placesWith : am_NA MX9_placesWith 3 := by unfold am_NA; decide +kernel
theorem ok_X10_init : am_OK MX10_init := ⟨by decide +kernel, rfl, am_in 58 (by decide +kernel) rfl, ⟨by decide +kernel, by decide +kernel⟩, am_in 815 (by decide +kernel) rfl, by decide⟩
theorem na_X10_init : am_NA MX10_init 0 := by unfold am_NA; decide +kernel
theorem ok_X10_thrown : am_OK MX10_thrown := ⟨by decide +kernel, rfl, am_in 58 (by decide +kernel) rfl, ⟨by decide +kernel, by decide +kernel⟩, am_in 876 (by decide +kernel) rfl, by decide⟩
theorem na_X10_thrown : am_NA MX10_thrown 0 := by unfold am_NA; decide +kernel
theorem ok_X10_in : am_OK MX10_in := ⟨by decide +kernel, rfl, am_in 58 (by decide +kernel) rfl, ⟨by decide +kernel, by decide +kernel⟩, am_in 883 (by decide +kernel) rfl, by decide⟩
theorem na_X10_in : am_NA MX10_in 3 := by unfold am_NA; decide +kernel
theorem ok_X10_goes : am_OK MX10_goes := ⟨by decide +kernel, rfl, am_in 58 (by decide +kernel) rfl, ⟨by decide +kernel, by decide +kernel⟩, am_in 887 (by decide +kernel) rfl, by decide⟩
theorem na_X10_goes : am_NA MX10_goes 3 := by unfold am_NA; decide +kernel
theorem ok_X10_isThere : am_OK MX10_isThere := ⟨by decide +kernel, rfl, am_in 58 (by decide +kernel) rfl, ⟨by decide +kernel, by decide +kernel⟩, am_in 904 (by decide +kernel) rfl, by decide⟩
theorem na_X10_isThere : am_NA MX10_isThere 1 := by unfold am_NA; decide +kernel
theorem ok_X10_longOf : am_OK MX10_longOf := ⟨by decide +kernel, rfl, am_in 58 (by decide +kernel) rfl, ⟨by decide +kernel, by decide +kernel⟩, am_in 924 (by decide +kernel) rfl, by decide⟩
theorem na_X10_longOf : am_NA MX10_longOf 2 := by unfold am_NA; decide +kernel
theorem ok_X10_wordAt : am_OK MX10_wordAt := ⟨by decide +kernel, rfl, am_in 58 (by decide +kernel) rfl, ⟨by decide +kernel, by decide +kernel⟩, am_in 928 (by decide +kernel) rfl, by decide⟩
theorem na_X10_wordAt : am_NA MX10_wordAt 3 := by unfold am_NA; decide +kernel
theorem ok_X10_at : am_OK MX10_at := ⟨by decide +kernel, rfl, am_in 58 (by decide +kernel) rfl, ⟨by decide +kernel, by decide +kernel⟩, am_in 931 (by decide +kernel) rfl, by decide⟩
theorem na_X10_at : am_NA MX10_at 3 := by unfold am_NA; decide +kernel
theorem ok_X10_put : am_OK MX10_put := ⟨by decide +kernel, rfl, am_in 58 (by decide +kernel) rfl, ⟨by decide +kernel, by decide +kernel⟩, am_in 880 (by decide +kernel) rfl, by decide⟩
theorem na_X10_put : am_NA MX10_put 2 := by unfold am_NA; decide +kernel
theorem ok_X10_wipe : am_OK MX10_wipe := ⟨by decide +kernel, rfl, am_in 58 (by decide +kernel) rfl, ⟨by decide +kernel, by decide +kernel⟩, am_in 891 (by decide +kernel) rfl, by decide⟩
theorem na_X10_wipe : am_NA MX10_wipe 0 := by unfold am_NA; decide +kernel
theorem ok_X10_pair : am_OK MX10_pair := ⟨by decide +kernel, rfl, am_in 58 (by decide +kernel) rfl, ⟨by decide +kernel, by decide +kernel⟩, am_in 895 (by decide +kernel) rfl, by decide⟩
theorem na_X10_pair : am_NA MX10_pair 0 := by unfold am_NA; decide +kernel
theorem ok_X10_there : am_OK MX10_there := ⟨by decide +kernel, rfl, am_in 58 (by decide +kernel) rfl, ⟨by decide +kernel, by decide +kernel⟩, am_in 908 (by decide +kernel) rfl, by decide⟩
theorem na_X10_there : am_NA MX10_there 0 := by unfold am_NA; decide +kernel
theorem ok_X10_takeBack : am_OK MX10_takeBack := ⟨by decide +kernel, rfl, am_in 58 (by decide +kernel) rfl, ⟨by decide +kernel, by decide +kernel⟩, am_in 900 (by decide +kernel) rfl, by decide⟩
theorem na_X10_takeBack : am_NA MX10_takeBack 1 := by unfold am_NA; decide +kernel
theorem ok_X10_marks : am_OK MX10_marks := ⟨by decide +kernel, rfl, am_in 58 (by decide +kernel) rfl, ⟨by decide +kernel, by decide +kernel⟩, am_in 920 (by decide +kernel) rfl, by decide⟩
theorem na_X10_marks : am_NA MX10_marks 2 := by unfold am_NA; decide +kernel
theorem ok_X10_clears : am_OK MX10_clears := ⟨by decide +kernel, rfl, am_in 58 (by decide +kernel) rfl, ⟨by decide +kernel, by decide +kernel⟩, am_in 916 (by decide +kernel) rfl, by decide⟩
theorem na_X10_clears : am_NA MX10_clears 0 := by unfold am_NA; decide +kernel
theorem ok_X10_begin : am_OK MX10_begin := ⟨by decide +kernel, rfl, am_in 58 (by decide +kernel) rfl, ⟨by decide +kernel, by decide +kernel⟩, am_in 912 (by decide +kernel) rfl, by decide⟩
theorem na_X10_begin : am_NA MX10_begin 0 := by unfold am_NA; decide +kernel
theorem ok_X10_allFor : am_OK MX10_allFor := ⟨by decide +kernel, rfl, am_in 58 (by decide +kernel) rfl, ⟨by decide +kernel, by decide +kernel⟩, am_in 944 (by decide +kernel) rfl, by decide⟩
theorem na_X10_allFor : am_NA MX10_allFor 3 := by unfold am_NA; decide +kernel
theorem ok_X10_adds : am_OK MX10_adds := ⟨by decide +kernel, rfl, am_in 58 (by decide +kernel) rfl, ⟨by decide +kernel, by decide +kernel⟩, am_in 940 (by decide +kernel) rfl, by decide⟩
theorem na_X10_adds : am_NA MX10_adds 2 := by unfold am_NA; decide +kernel
theorem ok_X10_renews : am_OK MX10_renews := ⟨by decide +kernel, rfl, am_in 58 (by decide +kernel) rfl, ⟨by decide +kernel, by decide +kernel⟩, am_in 949 (by decide +kernel) rfl, by decide⟩
theorem na_X10_renews : am_NA MX10_renews 1 := by unfold am_NA; decide +kernel
theorem ok_X10_round : am_OK MX10_round := ⟨by decide +kernel, rfl, am_in 58 (by decide +kernel) rfl, ⟨by decide +kernel, by decide +kernel⟩, am_in 936 (by decide +kernel) rfl, by decide⟩
theorem na_X10_round : am_NA MX10_round 0 := by unfold am_NA; decide +kernel
theorem ok_X10_weight : am_OK MX10_weight := ⟨by decide +kernel, rfl, am_in 58 (by decide +kernel) rfl, ⟨by decide +kernel, by decide +kernel⟩, am_in 954 (by decide +kernel) rfl, by decide⟩
theorem na_X10_weight : am_NA MX10_weight 2 := by unfold am_NA; decide +kernel
theorem ok_X10_between : am_OK MX10_between := ⟨by decide +kernel, rfl, am_in 58 (by decide +kernel) rfl, ⟨by decide +kernel, by decide +kernel⟩, am_in 981 (by decide +kernel) rfl, by decide⟩
theorem na_X10_between : am_NA MX10_between 2 := by unfold am_NA; decide +kernel
theorem ok_X10_linkOf : am_OK MX10_linkOf := ⟨by decide +kernel, rfl, am_in 58 (by decide +kernel) rfl, ⟨by decide +kernel, by decide +kernel⟩, am_in 978 (by decide +kernel) rfl, by decide⟩
theorem na_X10_linkOf : am_NA MX10_linkOf 3 := by unfold am_NA; decide +kernel
theorem ok_X10_isBeside : am_OK MX10_isBeside := ⟨by decide +kernel, rfl, am_in 58 (by decide +kernel) rfl, ⟨by decide +kernel, by decide +kernel⟩, am_in 993 (by decide +kernel) rfl, by decide⟩
theorem na_X10_isBeside : am_NA MX10_isBeside 1 := by unfold am_NA; decide +kernel
theorem ok_X10_isFree : am_OK MX10_isFree := ⟨by decide +kernel, rfl, am_in 58 (by decide +kernel) rfl, ⟨by decide +kernel, by decide +kernel⟩, am_in 997 (by decide +kernel) rfl, by decide⟩
theorem na_X10_isFree : am_NA MX10_isFree 1 := by unfold am_NA; decide +kernel
theorem ok_X10_finds : am_OK MX10_finds := ⟨by decide +kernel, rfl, am_in 58 (by decide +kernel) rfl, ⟨by decide +kernel, by decide +kernel⟩, am_in 989 (by decide +kernel) rfl, by decide⟩
theorem na_X10_finds : am_NA MX10_finds 1 := by unfold am_NA; decide +kernel
theorem ok_X10_isPhrase : am_OK MX10_isPhrase := ⟨by decide +kernel, rfl, am_in 58 (by decide +kernel) rfl, ⟨by decide +kernel, by decide +kernel⟩, am_in 1009 (by decide +kernel) rfl, by decide⟩
theorem na_X10_isPhrase : am_NA MX10_isPhrase 4 := by unfold am_NA; decide +kernel
theorem ok_X10_meets : am_OK MX10_meets := ⟨by decide +kernel, rfl, am_in 58 (by decide +kernel) rfl, ⟨by decide +kernel, by decide +kernel⟩, am_in 1005 (by decide +kernel) rfl, by decide⟩
theorem na_X10_meets : am_NA MX10_meets 2 := by unfold am_NA; decide +kernel
theorem ok_X10_pairs : am_OK MX10_pairs := ⟨by decide +kernel, rfl, am_in 58 (by decide +kernel) rfl, ⟨by decide +kernel, by decide +kernel⟩, am_in 958 (by decide +kernel) rfl, by decide⟩
theorem na_X10_pairs : am_NA MX10_pairs 0 := by unfold am_NA; decide +kernel
theorem ok_X10_word : am_OK MX10_word := ⟨by decide +kernel, rfl, am_in 58 (by decide +kernel) rfl, ⟨by decide +kernel, by decide +kernel⟩, am_in 962 (by decide +kernel) rfl, by decide⟩
theorem na_X10_word : am_NA MX10_word 3 := by unfold am_NA; decide +kernel
theorem ok_X10_share : am_OK MX10_share := ⟨by decide +kernel, rfl, am_in 58 (by decide +kernel) rfl, ⟨by decide +kernel, by decide +kernel⟩, am_in 966 (by decide +kernel) rfl, by decide⟩
theorem na_X10_share : am_NA MX10_share 3 := by unfold am_NA; decide +kernel
theorem ok_X10_isPlace : am_OK MX10_isPlace := ⟨by decide +kernel, rfl, am_in 58 (by decide +kernel) rfl, ⟨by decide +kernel, by decide +kernel⟩, am_in 974 (by decide +kernel) rfl, by decide⟩
theorem na_X10_isPlace : am_NA MX10_isPlace 3 := by unfold am_NA; decide +kernel
theorem ok_X10_link : am_OK MX10_link := ⟨by decide +kernel, rfl, am_in 58 (by decide +kernel) rfl, ⟨by decide +kernel, by decide +kernel⟩, am_in 970 (by decide +kernel) rfl, by decide⟩
theorem na_X10_link : am_NA MX10_link 3 := by unfold am_NA; decide +kernel
theorem ok_X10_isJoined : am_OK MX10_isJoined := ⟨by decide +kernel, rfl, am_in 58 (by decide +kernel) rfl, ⟨by decide +kernel, by decide +kernel⟩, am_in 985 (by decide +kernel) rfl, by decide⟩
theorem na_X10_isJoined : am_NA MX10_isJoined 3 := by unfold am_NA; decide +kernel
theorem ok_X10_phrases : am_OK MX10_phrases := ⟨by decide +kernel, rfl, am_in 58 (by decide +kernel) rfl, ⟨by decide +kernel, by decide +kernel⟩, am_in 1001 (by decide +kernel) rfl, by decide⟩
theorem na_X10_phrases : am_NA MX10_phrases 1 := by unfold am_NA; decide +kernel
theorem ok_X10_phrase : am_OK MX10_phrase := ⟨by decide +kernel, rfl, am_in 58 (by decide +kernel) rfl, ⟨by decide +kernel, by decide +kernel⟩, am_in 1013 (by decide +kernel) rfl, by decide⟩
theorem na_X10_phrase : am_NA MX10_phrase 3 := by unfold am_NA; decide +kernel
theorem ok_X10_fertilityOf : am_OK MX10_fertilityOf := ⟨by decide +kernel, rfl, am_in 58 (by decide +kernel) rfl, ⟨by decide +kernel, by decide +kernel⟩, am_in 1021 (by decide +kernel) rfl, by decide⟩
theorem na_X10_fertilityOf : am_NA MX10_fertilityOf 1 := by unfold am_NA; decide +kernel
theorem ok_X10_fertility : am_OK MX10_fertility := ⟨by decide +kernel, rfl, am_in 58 (by decide +kernel) rfl, ⟨by decide +kernel, by decide +kernel⟩, am_in 1017 (by decide +kernel) rfl, by decide⟩
theorem na_X10_fertility : am_NA MX10_fertility 2 := by unfold am_NA; decide +kernel
theorem ok_X10_total : am_OK MX10_total := ⟨by decide +kernel, rfl, am_in 58 (by decide +kernel) rfl, ⟨by decide +kernel, by decide +kernel⟩, am_in 1025 (by decide +kernel) rfl, by decide⟩
theorem na_X10_total : am_NA MX10_total 1 := by unfold am_NA; decide +kernel
theorem ok_X10_totalAnew : am_OK MX10_totalAnew := ⟨by decide +kernel, rfl, am_in 58 (by decide +kernel) rfl, ⟨by decide +kernel, by decide +kernel⟩, am_in 1029 (by decide +kernel) rfl, by decide⟩
theorem na_X10_totalAnew : am_NA MX10_totalAnew 1 := by unfold am_NA; decide +kernel
theorem ok_J6_bitCount_0f7a4 : am_OK MJ6_bitCount_0f7a4 := ⟨by decide +kernel, rfl, am_in 67 (by decide +kernel) rfl, ⟨by decide +kernel, by decide +kernel⟩, am_in 758 (by decide +kernel) rfl, by decide⟩
theorem na_J6_bitCount_0f7a4 : am_NA MJ6_bitCount_0f7a4 1 := by unfold am_NA; decide +kernel
theorem ok_J7_fill_d0a16 : am_OK MJ7_fill_d0a16 := ⟨by decide +kernel, rfl, am_in 64 (by decide +kernel) rfl, ⟨by decide +kernel, by decide +kernel⟩, am_in 286 (by decide +kernel) rfl, by decide⟩
theorem na_J7_fill_d0a16 : am_NA MJ7_fill_d0a16 2 := by unfold am_NA; decide +kernel
theorem ok_J7_fill_53178 : am_OK MJ7_fill_53178 := ⟨by decide +kernel, rfl, am_in 64 (by decide +kernel) rfl, ⟨by decide +kernel, by decide +kernel⟩, am_in 330 (by decide +kernel) rfl, by decide⟩
theorem na_J7_fill_53178 : am_NA MJ7_fill_53178 2 := by unfold am_NA; decide +kernel
theorem ok_L_put : am_OK ML_put := ⟨by decide +kernel, rfl, am_in 47 (by decide +kernel) rfl, ⟨by decide +kernel, by decide +kernel⟩, am_in 396 (by decide +kernel) rfl, by decide⟩
theorem na_L_put : am_NA ML_put 4 := by unfold am_NA; decide +kernel
theorem ok_L_pair : am_OK ML_pair := ⟨by decide +kernel, rfl, am_in 47 (by decide +kernel) rfl, ⟨by decide +kernel, by decide +kernel⟩, am_in 503 (by decide +kernel) rfl, by decide⟩
theorem na_L_pair : am_NA ML_pair 2 := by unfold am_NA; decide +kernel
theorem ok_L_takeBack : am_OK ML_takeBack := ⟨by decide +kernel, rfl, am_in 47 (by decide +kernel) rfl, ⟨by decide +kernel, by decide +kernel⟩, am_in 524 (by decide +kernel) rfl, by decide⟩
theorem na_L_takeBack : am_NA ML_takeBack 3 := by unfold am_NA; decide +kernel
theorem ok_L_weight : am_OK ML_weight := ⟨by decide +kernel, rfl, am_in 47 (by decide +kernel) rfl, ⟨by decide +kernel, by decide +kernel⟩, am_in 541 (by decide +kernel) rfl, by decide⟩
theorem na_L_weight : am_NA ML_weight 4 := by unfold am_NA; decide +kernel
theorem ok_L_word : am_OK ML_word := ⟨by decide +kernel, rfl, am_in 47 (by decide +kernel) rfl, ⟨by decide +kernel, by decide +kernel⟩, am_in 578 (by decide +kernel) rfl, by decide⟩
theorem na_L_word : am_NA ML_word 5 := by unfold am_NA; decide +kernel
theorem ok_L_share : am_OK ML_share := ⟨by decide +kernel, rfl, am_in 47 (by decide +kernel) rfl, ⟨by decide +kernel, by decide +kernel⟩, am_in 587 (by decide +kernel) rfl, by decide⟩
theorem na_L_share : am_NA ML_share 5 := by unfold am_NA; decide +kernel
theorem ok_L_link : am_OK ML_link := ⟨by decide +kernel, rfl, am_in 47 (by decide +kernel) rfl, ⟨by decide +kernel, by decide +kernel⟩, am_in 596 (by decide +kernel) rfl, by decide⟩
theorem na_L_link : am_NA ML_link 5 := by unfold am_NA; decide +kernel
theorem ok_L_isJoined : am_OK ML_isJoined := ⟨by decide +kernel, rfl, am_in 47 (by decide +kernel) rfl, ⟨by decide +kernel, by decide +kernel⟩, am_in 628 (by decide +kernel) rfl, by decide⟩
theorem na_L_isJoined : am_NA ML_isJoined 5 := by unfold am_NA; decide +kernel
theorem ok_L_phrases : am_OK ML_phrases := ⟨by decide +kernel, rfl, am_in 47 (by decide +kernel) rfl, ⟨by decide +kernel, by decide +kernel⟩, am_in 687 (by decide +kernel) rfl, by decide⟩
theorem na_L_phrases : am_NA ML_phrases 3 := by unfold am_NA; decide +kernel
theorem ok_L_phrase : am_OK ML_phrase := ⟨by decide +kernel, rfl, am_in 47 (by decide +kernel) rfl, ⟨by decide +kernel, by decide +kernel⟩, am_in 727 (by decide +kernel) rfl, by decide⟩
theorem na_L_phrase : am_NA ML_phrase 5 := by unfold am_NA; decide +kernel
theorem ok_L_fertility : am_OK ML_fertility := ⟨by decide +kernel, rfl, am_in 47 (by decide +kernel) rfl, ⟨by decide +kernel, by decide +kernel⟩, am_in 740 (by decide +kernel) rfl, by decide⟩
theorem na_L_fertility : am_NA ML_fertility 4 := by unfold am_NA; decide +kernel
theorem ok_L_total : am_OK ML_total := ⟨by decide +kernel, rfl, am_in 47 (by decide +kernel) rfl, ⟨by decide +kernel, by decide +kernel⟩, am_in 764 (by decide +kernel) rfl, by decide⟩
theorem na_L_total : am_NA ML_total 3 := by unfold am_NA; decide +kernel
theorem ok_L_totalAnew : am_OK ML_totalAnew := ⟨by decide +kernel, rfl, am_in 47 (by decide +kernel) rfl, ⟨by decide +kernel, by decide +kernel⟩, am_in 799 (by decide +kernel) rfl, by decide⟩
theorem na_L_totalAnew : am_NA ML_totalAnew 3 := by unfold am_NA; decide +kernel
theorem fl_RX1_11 : am_FL RX1 11 1 0 := ⟨_, rfl, by decide, am_in 84 (by decide +kernel) rfl⟩
theorem fl_RX1_17 : am_FL RX1 17 1 1 := ⟨_, rfl, by decide, am_in 85 (by decide +kernel) rfl⟩
theorem fl_RX1_21 : am_FL RX1 21 1 2 := ⟨_, rfl, by decide, am_in 86 (by decide +kernel) rfl⟩
theorem fl_RX2_25 : am_FL RX2 25 2 0 := ⟨_, rfl, by decide, am_in 106 (by decide +kernel) rfl⟩
theorem fl_RX2_9 : am_FL RX2 9 2 1 := ⟨_, rfl, by decide, am_in 107 (by decide +kernel) rfl⟩
theorem fl_RX2_15 : am_FL RX2 15 2 2 := ⟨_, rfl, by decide, am_in 108 (by decide +kernel) rfl⟩
theorem fl_RX2_19 : am_FL RX2 19 2 3 := ⟨_, rfl, by decide, am_in 109 (by decide +kernel) rfl⟩
theorem fl_RX2_22 : am_FL RX2 22 2 4 := ⟨_, rfl, by decide, am_in 110 (by decide +kernel) rfl⟩
theorem fl_RX8_18 : am_FL RX8 18 8 0 := ⟨_, rfl, by decide, am_in 139 (by decide +kernel) rfl⟩
theorem fl_RX4_14 : am_FL RX4 14 4 0 := ⟨_, rfl, by decide, am_in 143 (by decide +kernel) rfl⟩
theorem fl_RX4_20 : am_FL RX4 20 4 1 := ⟨_, rfl, by decide, am_in 144 (by decide +kernel) rfl⟩
theorem fl_RX4_26 : am_FL RX4 26 4 2 := ⟨_, rfl, by decide, am_in 145 (by decide +kernel) rfl⟩
theorem fl_RX0_9 : am_FL RX0 9 0 0 := ⟨_, rfl, by decide, am_in 159 (by decide +kernel) rfl⟩
theorem fl_RX0_15 : am_FL RX0 15 0 1 := ⟨_, rfl, by decide, am_in 160 (by decide +kernel) rfl⟩
theorem fl_RX0_18 : am_FL RX0 18 0 2 := ⟨_, rfl, by decide, am_in 161 (by decide +kernel) rfl⟩
theorem fl_RX0_21 : am_FL RX0 21 0 3 := ⟨_, rfl, by decide, am_in 162 (by decide +kernel) rfl⟩
theorem fl_RX0_25 : am_FL RX0 25 0 4 := ⟨_, rfl, by decide, am_in 163 (by decide +kernel) rfl⟩
theorem fl_RX5_9 : am_FL RX5 9 5 0 := ⟨_, rfl, by decide, am_in 181 (by decide +kernel) rfl⟩
theorem fl_RX5_15 : am_FL RX5 15 5 1 := ⟨_, rfl, by decide, am_in 182 (by decide +kernel) rfl⟩
theorem fl_RX3_9 : am_FL RX3 9 3 0 := ⟨_, rfl, by decide, am_in 194 (by decide +kernel) rfl⟩
theorem fl_RX3_33 : am_FL RX3 33 3 1 := ⟨_, rfl, by decide, am_in 195 (by decide +kernel) rfl⟩
theorem fl_RX3_37 : am_FL RX3 37 3 2 := ⟨_, rfl, by decide, am_in 196 (by decide +kernel) rfl⟩
theorem fl_RX6_9 : am_FL RX6 9 6 0 := ⟨_, rfl, by decide, am_in 216 (by decide +kernel) rfl⟩
theorem fl_RX6_15 : am_FL RX6 15 6 1 := ⟨_, rfl, by decide, am_in 217 (by decide +kernel) rfl⟩
theorem fl_RX7_10 : am_FL RX7 10 7 0 := ⟨_, rfl, by decide, am_in 223 (by decide +kernel) rfl⟩
theorem fl_RX7_16 : am_FL RX7 16 7 1 := ⟨_, rfl, by decide, am_in 224 (by decide +kernel) rfl⟩
theorem fl_RX7_19 : am_FL RX7 19 7 2 := ⟨_, rfl, by decide, am_in 225 (by decide +kernel) rfl⟩
theorem fl_RX9_12 : am_FL RX9 12 9 0 := ⟨_, rfl, by decide, am_in 233 (by decide +kernel) rfl⟩
theorem fl_RX9_19 : am_FL RX9 19 9 1 := ⟨_, rfl, by decide, am_in 234 (by decide +kernel) rfl⟩
theorem fl_RX9_26 : am_FL RX9 26 9 2 := ⟨_, rfl, by decide, am_in 235 (by decide +kernel) rfl⟩
theorem fl_RX9_33 : am_FL RX9 33 9 3 := ⟨_, rfl, by decide, am_in 236 (by decide +kernel) rfl⟩
theorem fl_RX9_40 : am_FL RX9 40 9 4 := ⟨_, rfl, by decide, am_in 237 (by decide +kernel) rfl⟩
theorem fl_RX9_47 : am_FL RX9 47 9 5 := ⟨_, rfl, by decide, am_in 238 (by decide +kernel) rfl⟩
theorem fl_RX10_7 : am_FL RX10 7 10 0 := ⟨_, rfl, by decide, am_in 817 (by decide +kernel) rfl⟩
theorem fl_RX10_13 : am_FL RX10 13 10 1 := ⟨_, rfl, by decide, am_in 818 (by decide +kernel) rfl⟩
theorem fl_RX10_52 : am_FL RX10 52 10 2 := ⟨_, rfl, by decide, am_in 819 (by decide +kernel) rfl⟩
theorem fl_RX10_16 : am_FL RX10 16 10 3 := ⟨_, rfl, by decide, am_in 820 (by decide +kernel) rfl⟩
theorem fl_RX10_19 : am_FL RX10 19 10 4 := ⟨_, rfl, by decide, am_in 821 (by decide +kernel) rfl⟩
theorem fl_RX10_22 : am_FL RX10 22 10 5 := ⟨_, rfl, by decide, am_in 822 (by decide +kernel) rfl⟩
theorem fl_RX10_26 : am_FL RX10 26 10 6 := ⟨_, rfl, by decide, am_in 823 (by decide +kernel) rfl⟩
theorem fl_RX10_29 : am_FL RX10 29 10 7 := ⟨_, rfl, by decide, am_in 824 (by decide +kernel) rfl⟩
theorem fl_RX10_32 : am_FL RX10 32 10 8 := ⟨_, rfl, by decide, am_in 825 (by decide +kernel) rfl⟩
theorem fl_RX10_36 : am_FL RX10 36 10 9 := ⟨_, rfl, by decide, am_in 826 (by decide +kernel) rfl⟩
theorem fl_RX10_39 : am_FL RX10 39 10 10 := ⟨_, rfl, by decide, am_in 827 (by decide +kernel) rfl⟩
theorem fl_RX10_42 : am_FL RX10 42 10 11 := ⟨_, rfl, by decide, am_in 828 (by decide +kernel) rfl⟩
theorem fl_RX10_45 : am_FL RX10 45 10 12 := ⟨_, rfl, by decide, am_in 829 (by decide +kernel) rfl⟩
theorem fl_RX10_126 : am_FL RX10 126 10 13 := ⟨_, rfl, by decide, am_in 830 (by decide +kernel) rfl⟩
theorem fl_RX10_129 : am_FL RX10 129 10 14 := ⟨_, rfl, by decide, am_in 831 (by decide +kernel) rfl⟩
theorem fl_RX10_132 : am_FL RX10 132 10 15 := ⟨_, rfl, by decide, am_in 832 (by decide +kernel) rfl⟩
theorem fl_RX10_135 : am_FL RX10 135 10 16 := ⟨_, rfl, by decide, am_in 833 (by decide +kernel) rfl⟩
theorem fl_RX10_48 : am_FL RX10 48 10 17 := ⟨_, rfl, by decide, am_in 834 (by decide +kernel) rfl⟩
theorem fit_0_0 (x : Nat) : am_fit 0 0 (.ref x) := fun q hq => by cases hq; exact ⟨_, tyX0_ok 0 (by decide), fun _ => ⟨rfl, rfl⟩⟩
theorem fit_0_1 (x : Nat) : am_fit 0 1 (.ref x) := fun q hq => by cases hq; exact ⟨_, tyX0_ok 1 (by decide), fun _ => ⟨rfl, rfl⟩⟩
theorem fit_0_2 (x : Nat) : am_fit 0 2 (.ref x) := fun q hq => by cases hq; exact ⟨_, tyX0_ok 2 (by decide), fun _ => ⟨rfl, rfl⟩⟩
theorem fit_0_3 (x : Int32) : am_fit 0 3 (.int x) := fun q hq => by cases hq; exact ⟨_, tyX0_ok 3 (by decide), fun _ => ⟨rfl, rfl⟩⟩
theorem fit_0_4 (x : Int32) : am_fit 0 4 (.int x) := fun q hq => by cases hq; exact ⟨_, tyX0_ok 4 (by decide), fun _ => ⟨rfl, rfl⟩⟩
theorem fit_1_0 (x : Nat) : am_fit 1 0 (.ref x) := fun q hq => by cases hq; exact ⟨_, tyX1_ok 0 (by decide), fun _ => ⟨rfl, rfl⟩⟩
theorem fit_1_1 (x : Int32) : am_fit 1 1 (.int x) := fun q hq => by cases hq; exact ⟨_, tyX1_ok 1 (by decide), fun _ => ⟨rfl, rfl⟩⟩
theorem fit_1_2 (x : Int32) : am_fit 1 2 (.int x) := fun q hq => by cases hq; exact ⟨_, tyX1_ok 2 (by decide), fun _ => ⟨rfl, rfl⟩⟩
theorem fit_2_0 (x : Int32) : am_fit 2 0 (.int x) := fun q hq => by cases hq; exact ⟨_, tyX2_ok 0 (by decide), fun _ => ⟨rfl, rfl⟩⟩
theorem fit_2_1 (x : Nat) : am_fit 2 1 (.ref x) := fun q hq => by cases hq; exact ⟨_, tyX2_ok 1 (by decide), fun _ => ⟨rfl, rfl⟩⟩
theorem fit_2_2 (x : Nat) : am_fit 2 2 (.ref x) := fun q hq => by cases hq; exact ⟨_, tyX2_ok 2 (by decide), fun _ => ⟨rfl, rfl⟩⟩
theorem fit_2_3 (x : Nat) : am_fit 2 3 (.ref x) := fun q hq => by cases hq; exact ⟨_, tyX2_ok 3 (by decide), fun _ => ⟨rfl, rfl⟩⟩
theorem fit_2_4 (x : Nat) : am_fit 2 4 (.ref x) := fun q hq => by cases hq; exact ⟨_, tyX2_ok 4 (by decide), fun _ => ⟨rfl, rfl⟩⟩
theorem fit_3_0 (x : Nat) : am_fit 3 0 (.ref x) := fun q hq => by cases hq; exact ⟨_, tyX3_ok 0 (by decide), fun _ => ⟨rfl, rfl⟩⟩
theorem fit_3_1 (x : Int32) : am_fit 3 1 (.int x) := fun q hq => by cases hq; exact ⟨_, tyX3_ok 1 (by decide), fun _ => ⟨rfl, rfl⟩⟩
theorem fit_3_2 (x : Int32) : am_fit 3 2 (.int x) := fun q hq => by cases hq; exact ⟨_, tyX3_ok 2 (by decide), fun _ => ⟨rfl, rfl⟩⟩
theorem fit_4_0 (x : Nat) : am_fit 4 0 (.ref x) := fun q hq => by cases hq; exact ⟨_, tyX4_ok 0 (by decide), fun _ => ⟨rfl, rfl⟩⟩
theorem fit_4_1 (x : Nat) : am_fit 4 1 (.ref x) := fun q hq => by cases hq; exact ⟨_, tyX4_ok 1 (by decide), fun _ => ⟨rfl, rfl⟩⟩
theorem fit_4_2 (x : Nat) : am_fit 4 2 (.ref x) := fun q hq => by cases hq; exact ⟨_, tyX4_ok 2 (by decide), fun _ => ⟨rfl, rfl⟩⟩
theorem fit_5_0 (x : Nat) : am_fit 5 0 (.ref x) := fun q hq => by cases hq; exact ⟨_, tyX5_ok 0 (by decide), fun _ => ⟨rfl, rfl⟩⟩
theorem fit_5_1 (x : Int32) : am_fit 5 1 (.int x) := fun q hq => by cases hq; exact ⟨_, tyX5_ok 1 (by decide), fun _ => ⟨rfl, rfl⟩⟩
theorem fit_6_0 (x : Nat) : am_fit 6 0 (.ref x) := fun q hq => by cases hq; exact ⟨_, tyX6_ok 0 (by decide), fun _ => ⟨rfl, rfl⟩⟩
theorem fit_6_1 (x : Int32) : am_fit 6 1 (.int x) := fun q hq => by cases hq; exact ⟨_, tyX6_ok 1 (by decide), fun _ => ⟨rfl, rfl⟩⟩
theorem fit_7_0 (x : Nat) : am_fit 7 0 (.ref x) := fun q hq => by cases hq; exact ⟨_, tyX7_ok 0 (by decide), fun _ => ⟨rfl, rfl⟩⟩
theorem fit_7_1 (x : Nat) : am_fit 7 1 (.ref x) := fun q hq => by cases hq; exact ⟨_, tyX7_ok 1 (by decide), fun _ => ⟨rfl, rfl⟩⟩
theorem fit_7_2 (x : Int32) (hx : x = 0 ∨ x = 1) : am_fit 7 2 (.int x) := fun q hq => by cases hq; exact ⟨_, tyX7_ok 2 (by decide), fun _ => by rcases hx with rfl | rfl <;> exact ⟨rfl, rfl⟩⟩
theorem fit_8_0 (x : Nat) : am_fit 8 0 (.ref x) := fun q hq => by cases hq; exact ⟨_, tyX8_ok 0 (by decide), fun _ => ⟨rfl, rfl⟩⟩
theorem fit_9_0 (x : Nat) : am_fit 9 0 (.ref x) := fun q hq => by cases hq; exact ⟨_, tyX9_ok 0 (by decide), fun _ => ⟨rfl, rfl⟩⟩
theorem fit_9_1 (x : Nat) : am_fit 9 1 (.ref x) := fun q hq => by cases hq; exact ⟨_, tyX9_ok 1 (by decide), fun _ => ⟨rfl, rfl⟩⟩
theorem fit_9_2 (x : Nat) : am_fit 9 2 (.ref x) := fun q hq => by cases hq; exact ⟨_, tyX9_ok 2 (by decide), fun _ => ⟨rfl, rfl⟩⟩
theorem fit_9_3 (x : Nat) : am_fit 9 3 (.ref x) := fun q hq => by cases hq; exact ⟨_, tyX9_ok 3 (by decide), fun _ => ⟨rfl, rfl⟩⟩
theorem fit_9_4 (x : Nat) : am_fit 9 4 (.ref x) := fun q hq => by cases hq; exact ⟨_, tyX9_ok 4 (by decide), fun _ => ⟨rfl, rfl⟩⟩
theorem fit_9_5 (x : Nat) : am_fit 9 5 (.ref x) := fun q hq => by cases hq; exact ⟨_, tyX9_ok 5 (by decide), fun _ => ⟨rfl, rfl⟩⟩
theorem fit_10_0 (x : Nat) : am_fit 10 0 (.ref x) := fun q hq => by cases hq; exact ⟨_, tyX10_ok 0 (by decide), fun _ => ⟨rfl, rfl⟩⟩
theorem fit_10_1 (x : Nat) : am_fit 10 1 (.ref x) := fun q hq => by cases hq; exact ⟨_, tyX10_ok 1 (by decide), fun _ => ⟨rfl, rfl⟩⟩
theorem fit_10_2 (x : Int32) : am_fit 10 2 (.int x) := fun q hq => by cases hq; exact ⟨_, tyX10_ok 2 (by decide), fun _ => ⟨rfl, rfl⟩⟩
theorem fit_10_3 (x : Nat) : am_fit 10 3 (.ref x) := fun q hq => by cases hq; exact ⟨_, tyX10_ok 3 (by decide), fun _ => ⟨rfl, rfl⟩⟩
theorem fit_10_4 (x : Nat) : am_fit 10 4 (.ref x) := fun q hq => by cases hq; exact ⟨_, tyX10_ok 4 (by decide), fun _ => ⟨rfl, rfl⟩⟩
theorem fit_10_5 (x : Nat) : am_fit 10 5 (.ref x) := fun q hq => by cases hq; exact ⟨_, tyX10_ok 5 (by decide), fun _ => ⟨rfl, rfl⟩⟩
theorem fit_10_6 (x : Nat) : am_fit 10 6 (.ref x) := fun q hq => by cases hq; exact ⟨_, tyX10_ok 6 (by decide), fun _ => ⟨rfl, rfl⟩⟩
theorem fit_10_7 (x : Nat) : am_fit 10 7 (.ref x) := fun q hq => by cases hq; exact ⟨_, tyX10_ok 7 (by decide), fun _ => ⟨rfl, rfl⟩⟩
theorem fit_10_8 (x : Nat) : am_fit 10 8 (.ref x) := fun q hq => by cases hq; exact ⟨_, tyX10_ok 8 (by decide), fun _ => ⟨rfl, rfl⟩⟩
theorem fit_10_9 (x : Nat) : am_fit 10 9 (.ref x) := fun q hq => by cases hq; exact ⟨_, tyX10_ok 9 (by decide), fun _ => ⟨rfl, rfl⟩⟩
theorem fit_10_10 (x : Nat) : am_fit 10 10 (.ref x) := fun q hq => by cases hq; exact ⟨_, tyX10_ok 10 (by decide), fun _ => ⟨rfl, rfl⟩⟩
theorem fit_10_11 (x : Nat) : am_fit 10 11 (.ref x) := fun q hq => by cases hq; exact ⟨_, tyX10_ok 11 (by decide), fun _ => ⟨rfl, rfl⟩⟩
theorem fit_10_12 (x : Nat) : am_fit 10 12 (.ref x) := fun q hq => by cases hq; exact ⟨_, tyX10_ok 12 (by decide), fun _ => ⟨rfl, rfl⟩⟩
theorem fit_10_13 (x : Int32) : am_fit 10 13 (.int x) := fun q hq => by cases hq; exact ⟨_, tyX10_ok 13 (by decide), fun _ => ⟨rfl, rfl⟩⟩
theorem fit_10_14 (x : Int32) : am_fit 10 14 (.int x) := fun q hq => by cases hq; exact ⟨_, tyX10_ok 14 (by decide), fun _ => ⟨rfl, rfl⟩⟩
theorem fit_10_15 (x : Int32) : am_fit 10 15 (.int x) := fun q hq => by cases hq; exact ⟨_, tyX10_ok 15 (by decide), fun _ => ⟨rfl, rfl⟩⟩
theorem fit_10_16 (x : Int32) : am_fit 10 16 (.int x) := fun q hq => by cases hq; exact ⟨_, tyX10_ok 16 (by decide), fun _ => ⟨rfl, rfl⟩⟩
theorem fit_10_17 (x : Int32) : am_fit 10 17 (.int x) := fun q hq => by cases hq; exact ⟨_, tyX10_ok 17 (by decide), fun _ => ⟨rfl, rfl⟩⟩
theorem st_RX9_11 : am_SN RX9 11 MX1_init := ⟨by decide +kernel, ok_X1_init, rfl, rfl, rfl, am_in 79 (by decide +kernel) rfl⟩
theorem st_RX9_18 : am_SN RX9 18 MX4_init := ⟨by decide +kernel, ok_X4_init, rfl, rfl, rfl, am_in 97 (by decide +kernel) rfl⟩
theorem st_RX9_25 : am_SN RX9 25 MX0_init := ⟨by decide +kernel, ok_X0_init, rfl, rfl, rfl, am_in 156 (by decide +kernel) rfl⟩
theorem st_RX9_32 : am_SN RX9 32 MX5_init := ⟨by decide +kernel, ok_X5_init, rfl, rfl, rfl, am_in 178 (by decide +kernel) rfl⟩
theorem st_RX9_39 : am_SN RX9 39 MX3_init := ⟨by decide +kernel, ok_X3_init, rfl, rfl, rfl, am_in 191 (by decide +kernel) rfl⟩
theorem st_RX9_46 : am_SN RX9 46 MX7_init := ⟨by decide +kernel, ok_X7_init, rfl, rfl, rfl, am_in 207 (by decide +kernel) rfl⟩
theorem st_RX9_51 : am_SS RX9 51 MX9_isSide := ⟨am_in 403 (by decide +kernel) rfl, ok_X9_isSide, rfl, am_in 404 (by decide +kernel) rfl⟩
theorem st_RX9_55 : am_SS RX9 55 MX9_isWord := ⟨am_in 406 (by decide +kernel) rfl, ok_X9_isWord, rfl, am_in 407 (by decide +kernel) rfl⟩
theorem st_RX9_65 : am_SV RX9 65 MX7_ofSide := ⟨am_in 256 (by decide +kernel) rfl, ok_X7_ofSide, rfl, am_in 257 (by decide +kernel) rfl, am_in 258 (by decide +kernel) rfl⟩
theorem st_RX9_69 : am_SV RX9 69 MX6_isFull := ⟨am_in 477 (by decide +kernel) rfl, ok_X6_isFull, rfl, am_in 478 (by decide +kernel) rfl, am_in 479 (by decide +kernel) rfl⟩
theorem st_RX9_80 : am_SV RX9 80 MX6_append := ⟨am_in 497 (by decide +kernel) rfl, ok_X6_append, rfl, am_in 498 (by decide +kernel) rfl, am_in 499 (by decide +kernel) rfl⟩
theorem st_RX9_84 : am_SV RX9 84 MX6_length := ⟨am_in 260 (by decide +kernel) rfl, ok_X6_length, rfl, am_in 261 (by decide +kernel) rfl, am_in 262 (by decide +kernel) rfl⟩
theorem st_RX9_88 : am_SV RX9 88 MX6_clear := ⟨am_in 264 (by decide +kernel) rfl, ok_X6_clear, rfl, am_in 265 (by decide +kernel) rfl, am_in 266 (by decide +kernel) rfl⟩
theorem st_RX9_93 : am_SV RX9 93 MX1_isFull := ⟨am_in 509 (by decide +kernel) rfl, ok_X1_isFull, rfl, am_in 510 (by decide +kernel) rfl, am_in 511 (by decide +kernel) rfl⟩
theorem st_RX9_96 : am_SV RX9 96 MX1_add := ⟨am_in 514 (by decide +kernel) rfl, ok_X1_add, rfl, am_in 515 (by decide +kernel) rfl, am_in 516 (by decide +kernel) rfl⟩
theorem st_RX9_100 : am_SV RX9 100 MX9_pairThatIsThere := ⟨am_in 529 (by decide +kernel) rfl, ok_X9_pairThatIsThere, rfl, am_in 531 (by decide +kernel) rfl, am_in 16 (by decide +kernel) rfl⟩
theorem st_RX9_104 : am_SV RX9 104 MX1_remove := ⟨am_in 535 (by decide +kernel) rfl, ok_X1_remove, rfl, am_in 536 (by decide +kernel) rfl, am_in 537 (by decide +kernel) rfl⟩
theorem st_RX9_108 : am_SV RX9 108 MX1_size := ⟨am_in 390 (by decide +kernel) rfl, ok_X1_size, rfl, am_in 391 (by decide +kernel) rfl, am_in 392 (by decide +kernel) rfl⟩
theorem st_RX9_111 : am_SV RX9 111 MX4_lexicon := ⟨am_in 272 (by decide +kernel) rfl, ok_X4_lexicon, rfl, am_in 273 (by decide +kernel) rfl, am_in 274 (by decide +kernel) rfl⟩
theorem st_RX9_115 : am_SV RX9 115 MX2_start := ⟨am_in 276 (by decide +kernel) rfl, ok_X2_start, rfl, am_in 277 (by decide +kernel) rfl, am_in 278 (by decide +kernel) rfl⟩
theorem st_RX9_121 : am_SV RX9 121 MX2_learn := ⟨am_in 362 (by decide +kernel) rfl, ok_X2_learn, rfl, am_in 363 (by decide +kernel) rfl, am_in 364 (by decide +kernel) rfl⟩
theorem st_RX9_131 : am_SV RX9 131 MX4_setWeight := ⟨am_in 564 (by decide +kernel) rfl, ok_X4_setWeight, rfl, am_in 565 (by decide +kernel) rfl, am_in 566 (by decide +kernel) rfl⟩
theorem st_RX9_137 : am_SV RX9 137 MX6_at := ⟨am_in 584 (by decide +kernel) rfl, ok_X6_at, rfl, am_in 306 (by decide +kernel) rfl, am_in 307 (by decide +kernel) rfl⟩
theorem st_RX9_143 : am_SV RX9 143 MX2_shareOf := ⟨am_in 593 (by decide +kernel) rfl, ok_X2_shareOf, rfl, am_in 379 (by decide +kernel) rfl, am_in 380 (by decide +kernel) rfl⟩
theorem st_RX9_146 : am_SV RX9 146 MX6_has := ⟨am_in 601 (by decide +kernel) rfl, ok_X6_has, rfl, am_in 310 (by decide +kernel) rfl, am_in 311 (by decide +kernel) rfl⟩
theorem st_RX9_151 : am_SV RX9 151 MX4_answerFor := ⟨am_in 603 (by decide +kernel) rfl, ok_X4_answerFor, rfl, am_in 604 (by decide +kernel) rfl, am_in 605 (by decide +kernel) rfl⟩
theorem st_RX9_157 : am_SV RX9 157 MX0_align := ⟨am_in 634 (by decide +kernel) rfl, ok_X0_align, rfl, am_in 635 (by decide +kernel) rfl, am_in 636 (by decide +kernel) rfl⟩
theorem st_RX9_161 : am_SV RX9 161 MX0_hasJoined := ⟨am_in 684 (by decide +kernel) rfl, ok_X0_hasJoined, rfl, am_in 665 (by decide +kernel) rfl, am_in 666 (by decide +kernel) rfl⟩
theorem st_RX9_165 : am_SV RX9 165 MX5_seek := ⟨am_in 692 (by decide +kernel) rfl, ok_X5_seek, rfl, am_in 693 (by decide +kernel) rfl, am_in 694 (by decide +kernel) rfl⟩
theorem st_RX9_169 : am_SV RX9 169 MX5_count := ⟨am_in 721 (by decide +kernel) rfl, ok_X5_count, rfl, am_in 722 (by decide +kernel) rfl, am_in 723 (by decide +kernel) rfl⟩
theorem st_RX9_176 : am_SV RX9 176 MX5_endOfFound := ⟨am_in 734 (by decide +kernel) rfl, ok_X5_endOfFound, rfl, am_in 735 (by decide +kernel) rfl, am_in 736 (by decide +kernel) rfl⟩
theorem st_RX9_183 : am_SV RX9 183 MX1_made := ⟨am_in 747 (by decide +kernel) rfl, ok_X1_made, rfl, am_in 288 (by decide +kernel) rfl, am_in 289 (by decide +kernel) rfl⟩
theorem st_RX9_186 : am_SV RX9 186 MX1_find := ⟨am_in 533 (by decide +kernel) rfl, ok_X1_find, rfl, am_in 292 (by decide +kernel) rfl, am_in 293 (by decide +kernel) rfl⟩
theorem st_RX9_189 : am_SV RX9 189 MX9_placesWith := ⟨am_in 748 (by decide +kernel) rfl, ok_X9_placesWith, rfl, am_in 750 (by decide +kernel) rfl, am_in 26 (by decide +kernel) rfl⟩
theorem st_RX9_193 : am_SV RX9 193 MX9_shortPair := ⟨am_in 769 (by decide +kernel) rfl, ok_X9_shortPair, rfl, am_in 771 (by decide +kernel) rfl, am_in 27 (by decide +kernel) rfl⟩
theorem st_RX9_196 : am_SV RX9 196 MX3_consider := ⟨am_in 774 (by decide +kernel) rfl, ok_X3_consider, rfl, am_in 775 (by decide +kernel) rfl, am_in 776 (by decide +kernel) rfl⟩
theorem st_RX9_200 : am_SV RX9 200 MX3_productOfSums := ⟨am_in 790 (by decide +kernel) rfl, ok_X3_productOfSums, rfl, am_in 791 (by decide +kernel) rfl, am_in 792 (by decide +kernel) rfl⟩
theorem st_RX9_204 : am_SV RX9 204 MX3_sumOfProducts := ⟨am_in 804 (by decide +kernel) rfl, ok_X3_sumOfProducts, rfl, am_in 805 (by decide +kernel) rfl, am_in 806 (by decide +kernel) rfl⟩
theorem st_RX9_211 : am_SV RX9 211 MX0_joinedOf := ⟨am_in 752 (by decide +kernel) rfl, ok_X0_joinedOf, rfl, am_in 753 (by decide +kernel) rfl, am_in 754 (by decide +kernel) rfl⟩
theorem st_RX0_28 : am_SS RX0 28 MX0_bitsAt := ⟨am_in 653 (by decide +kernel) rfl, ok_X0_bitsAt, rfl, am_in 654 (by decide +kernel) rfl⟩
theorem st_RX0_32 : am_SV RX0 32 MX0_joinedBits := ⟨am_in 668 (by decide +kernel) rfl, ok_X0_joinedBits, rfl, am_in 669 (by decide +kernel) rfl, am_in 670 (by decide +kernel) rfl⟩
theorem st_RX0_36 : am_SS RX0 36 MJ6_bitCount_0f7a4 := ⟨am_in 756 (by decide +kernel) rfl, ok_J6_bitCount_0f7a4, rfl, am_in 757 (by decide +kernel) rfl⟩
theorem st_RX0_41 : am_SS RX0 41 MX0_bitOf := ⟨am_in 650 (by decide +kernel) rfl, ok_X0_bitOf, rfl, am_in 651 (by decide +kernel) rfl⟩
theorem st_RX0_44 : am_SV RX0 44 MX7_ofSide := ⟨am_in 638 (by decide +kernel) rfl, ok_X7_ofSide, rfl, am_in 257 (by decide +kernel) rfl, am_in 258 (by decide +kernel) rfl⟩
theorem st_RX0_50 : am_SV RX0 50 MX6_length := ⟨am_in 639 (by decide +kernel) rfl, ok_X6_length, rfl, am_in 261 (by decide +kernel) rfl, am_in 262 (by decide +kernel) rfl⟩
theorem st_RX0_56 : am_SV RX0 56 MX0_takeLinks := ⟨am_in 640 (by decide +kernel) rfl, ok_X0_takeLinks, rfl, am_in 642 (by decide +kernel) rfl, am_in 17 (by decide +kernel) rfl⟩
theorem st_RX0_60 : am_SV RX0 60 MX0_growOnce := ⟨am_in 656 (by decide +kernel) rfl, ok_X0_growOnce, rfl, am_in 658 (by decide +kernel) rfl, am_in 19 (by decide +kernel) rfl⟩
theorem st_RX0_64 : am_SS RX0 64 MJ7_fill_53178 := ⟨am_in 644 (by decide +kernel) rfl, ok_J7_fill_53178, rfl, am_in 329 (by decide +kernel) rfl⟩
theorem st_RX0_70 : am_SV RX0 70 MX4_answerFor := ⟨am_in 645 (by decide +kernel) rfl, ok_X4_answerFor, rfl, am_in 604 (by decide +kernel) rfl, am_in 605 (by decide +kernel) rfl⟩
theorem st_RX0_76 : am_SV RX0 76 MX0_takeLink := ⟨am_in 646 (by decide +kernel) rfl, ok_X0_takeLink, rfl, am_in 648 (by decide +kernel) rfl, am_in 18 (by decide +kernel) rfl⟩
theorem st_RX0_80 : am_SV RX0 80 MX0_isToJoin := ⟨am_in 660 (by decide +kernel) rfl, ok_X0_isToJoin, rfl, am_in 662 (by decide +kernel) rfl, am_in 20 (by decide +kernel) rfl⟩
theorem st_RX0_84 : am_SV RX0 84 MX0_join := ⟨am_in 680 (by decide +kernel) rfl, ok_X0_join, rfl, am_in 682 (by decide +kernel) rfl, am_in 23 (by decide +kernel) rfl⟩
theorem st_RX0_87 : am_SV RX0 87 MX0_hasJoined := ⟨am_in 664 (by decide +kernel) rfl, ok_X0_hasJoined, rfl, am_in 665 (by decide +kernel) rfl, am_in 666 (by decide +kernel) rfl⟩
theorem st_RX0_90 : am_SV RX0 90 MX0_isFree := ⟨am_in 672 (by decide +kernel) rfl, ok_X0_isFree, rfl, am_in 674 (by decide +kernel) rfl, am_in 21 (by decide +kernel) rfl⟩
theorem st_RX0_94 : am_SV RX0 94 MX0_isBesideJoined := ⟨am_in 676 (by decide +kernel) rfl, ok_X0_isBesideJoined, rfl, am_in 678 (by decide +kernel) rfl, am_in 22 (by decide +kernel) rfl⟩
theorem st_RX1_24 : am_SV RX1 24 MX7_setThere := ⟨am_in 518 (by decide +kernel) rfl, ok_X7_setThere, rfl, am_in 519 (by decide +kernel) rfl, am_in 520 (by decide +kernel) rfl⟩
theorem st_RX1_28 : am_SV RX1 28 MX7_isThere := ⟨am_in 295 (by decide +kernel) rfl, ok_X7_isThere, rfl, am_in 296 (by decide +kernel) rfl, am_in 297 (by decide +kernel) rfl⟩
theorem st_RX2_29 : am_SS RX2 29 MX2_cellOf := ⟨am_in 317 (by decide +kernel) rfl, ok_X2_cellOf, rfl, am_in 318 (by decide +kernel) rfl⟩
theorem st_RX2_33 : am_SV RX2 33 MX2_countMeetings := ⟨am_in 280 (by decide +kernel) rfl, ok_X2_countMeetings, rfl, am_in 282 (by decide +kernel) rfl, am_in 0 (by decide +kernel) rfl⟩
theorem st_RX2_37 : am_SV RX2 37 MX2_apportionAll := ⟨am_in 320 (by decide +kernel) rfl, ok_X2_apportionAll, rfl, am_in 322 (by decide +kernel) rfl, am_in 3 (by decide +kernel) rfl⟩
theorem st_RX2_41 : am_SV RX2 41 MX2_sharesAboveZero := ⟨am_in 354 (by decide +kernel) rfl, ok_X2_sharesAboveZero, rfl, am_in 356 (by decide +kernel) rfl, am_in 10 (by decide +kernel) rfl⟩
theorem st_RX2_44 : am_SV RX2 44 MX2_countAnswers := ⟨am_in 366 (by decide +kernel) rfl, ok_X2_countAnswers, rfl, am_in 368 (by decide +kernel) rfl, am_in 11 (by decide +kernel) rfl⟩
theorem st_RX2_47 : am_SS RX2 47 MJ7_fill_d0a16 := ⟨am_in 284 (by decide +kernel) rfl, ok_J7_fill_d0a16, rfl, am_in 285 (by decide +kernel) rfl⟩
theorem st_RX2_53 : am_SV RX2 53 MX1_made := ⟨am_in 287 (by decide +kernel) rfl, ok_X1_made, rfl, am_in 288 (by decide +kernel) rfl, am_in 289 (by decide +kernel) rfl⟩
theorem st_RX2_58 : am_SV RX2 58 MX1_find := ⟨am_in 291 (by decide +kernel) rfl, ok_X1_find, rfl, am_in 292 (by decide +kernel) rfl, am_in 293 (by decide +kernel) rfl⟩
theorem st_RX2_62 : am_SV RX2 62 MX7_ofSide := ⟨am_in 299 (by decide +kernel) rfl, ok_X7_ofSide, rfl, am_in 257 (by decide +kernel) rfl, am_in 258 (by decide +kernel) rfl⟩
theorem st_RX2_68 : am_SV RX2 68 MX2_meetAll := ⟨am_in 300 (by decide +kernel) rfl, ok_X2_meetAll, rfl, am_in 302 (by decide +kernel) rfl, am_in 1 (by decide +kernel) rfl⟩
theorem st_RX2_72 : am_SV RX2 72 MX6_length := ⟨am_in 304 (by decide +kernel) rfl, ok_X6_length, rfl, am_in 261 (by decide +kernel) rfl, am_in 262 (by decide +kernel) rfl⟩
theorem st_RX2_77 : am_SV RX2 77 MX6_at := ⟨am_in 305 (by decide +kernel) rfl, ok_X6_at, rfl, am_in 306 (by decide +kernel) rfl, am_in 307 (by decide +kernel) rfl⟩
theorem st_RX2_81 : am_SV RX2 81 MX2_meet := ⟨am_in 313 (by decide +kernel) rfl, ok_X2_meet, rfl, am_in 315 (by decide +kernel) rfl, am_in 2 (by decide +kernel) rfl⟩
theorem st_RX2_85 : am_SV RX2 85 MX2_answerAll := ⟨am_in 370 (by decide +kernel) rfl, ok_X2_answerAll, rfl, am_in 372 (by decide +kernel) rfl, am_in 12 (by decide +kernel) rfl⟩
theorem st_RX2_88 : am_SV RX2 88 MX2_sumOfShares := ⟨am_in 374 (by decide +kernel) rfl, ok_X2_sumOfShares, rfl, am_in 376 (by decide +kernel) rfl, am_in 13 (by decide +kernel) rfl⟩
theorem st_RX2_92 : am_SV RX2 92 MX2_addAnswer := ⟨am_in 382 (by decide +kernel) rfl, ok_X2_addAnswer, rfl, am_in 384 (by decide +kernel) rfl, am_in 14 (by decide +kernel) rfl⟩
theorem st_RX2_96 : am_SV RX2 96 MX2_shareOf := ⟨am_in 378 (by decide +kernel) rfl, ok_X2_shareOf, rfl, am_in 379 (by decide +kernel) rfl, am_in 380 (by decide +kernel) rfl⟩
theorem st_RX2_101 : am_SV RX2 101 MX2_apportion := ⟨am_in 324 (by decide +kernel) rfl, ok_X2_apportion, rfl, am_in 326 (by decide +kernel) rfl, am_in 4 (by decide +kernel) rfl⟩
theorem st_RX2_105 : am_SV RX2 105 MX2_replaceShares := ⟨am_in 350 (by decide +kernel) rfl, ok_X2_replaceShares, rfl, am_in 352 (by decide +kernel) rfl, am_in 9 (by decide +kernel) rfl⟩
theorem st_RX2_108 : am_SS RX2 108 MJ7_fill_53178 := ⟨am_in 328 (by decide +kernel) rfl, ok_J7_fill_53178, rfl, am_in 329 (by decide +kernel) rfl⟩
theorem st_RX2_111 : am_SV RX2 111 MX2_countOf := ⟨am_in 331 (by decide +kernel) rfl, ok_X2_countOf, rfl, am_in 333 (by decide +kernel) rfl, am_in 5 (by decide +kernel) rfl⟩
theorem st_RX2_115 : am_SV RX2 115 MX2_giveWholes := ⟨am_in 335 (by decide +kernel) rfl, ok_X2_giveWholes, rfl, am_in 337 (by decide +kernel) rfl, am_in 6 (by decide +kernel) rfl⟩
theorem st_RX2_119 : am_SV RX2 119 MX2_giveRests := ⟨am_in 341 (by decide +kernel) rfl, ok_X2_giveRests, rfl, am_in 343 (by decide +kernel) rfl, am_in 7 (by decide +kernel) rfl⟩
theorem st_RX2_123 : am_SV RX2 123 MX2_placeOfGreatestRest := ⟨am_in 345 (by decide +kernel) rfl, ok_X2_placeOfGreatestRest, rfl, am_in 347 (by decide +kernel) rfl, am_in 8 (by decide +kernel) rfl⟩
theorem st_RX3_15 : am_SV RX3 15 MX7_ofSide := ⟨am_in 778 (by decide +kernel) rfl, ok_X7_ofSide, rfl, am_in 257 (by decide +kernel) rfl, am_in 258 (by decide +kernel) rfl⟩
theorem st_RX3_21 : am_SV RX3 21 MX6_length := ⟨am_in 779 (by decide +kernel) rfl, ok_X6_length, rfl, am_in 261 (by decide +kernel) rfl, am_in 262 (by decide +kernel) rfl⟩
theorem st_RX3_27 : Cond.methodLink RX3 27 Jvm.Lib.Math.min.name ∈ am_ws := am_in 780 (by decide +kernel) rfl
theorem st_RX3_40 : am_SV RX3 40 MX6_at := ⟨am_in 781 (by decide +kernel) rfl, ok_X6_at, rfl, am_in 306 (by decide +kernel) rfl, am_in 307 (by decide +kernel) rfl⟩
theorem st_RX3_44 : am_SV RX3 44 MX2_shareOf := ⟨am_in 782 (by decide +kernel) rfl, ok_X2_shareOf, rfl, am_in 379 (by decide +kernel) rfl, am_in 380 (by decide +kernel) rfl⟩
theorem st_RX3_49 : am_SV RX3 49 MX3_setPart := ⟨am_in 783 (by decide +kernel) rfl, ok_X3_setPart, rfl, am_in 785 (by decide +kernel) rfl, am_in 28 (by decide +kernel) rfl⟩
theorem st_RX3_53 : am_SS RX3 53 MX3_partOf := ⟨am_in 794 (by decide +kernel) rfl, ok_X3_partOf, rfl, am_in 795 (by decide +kernel) rfl⟩
theorem st_RX3_57 : am_SS RX3 57 MX3_sumOfWays := ⟨am_in 808 (by decide +kernel) rfl, ok_X3_sumOfWays, rfl, am_in 809 (by decide +kernel) rfl⟩
theorem st_RX3_61 : am_SS RX3 61 MX3_cellOf := ⟨am_in 787 (by decide +kernel) rfl, ok_X3_cellOf, rfl, am_in 788 (by decide +kernel) rfl⟩
theorem st_RX4_11 : am_SI RX4 11 MX2_init := ⟨am_in 102 (by decide +kernel) rfl, ok_X2_init, rfl, rfl, rfl, am_in 103 (by decide +kernel) rfl⟩
theorem st_RX4_25 : am_SN RX4 25 MX8_init := ⟨by decide +kernel, ok_X8_init, rfl, rfl, rfl, am_in 127 (by decide +kernel) rfl⟩
theorem st_RX4_30 : am_SV RX4 30 MX8_replace := ⟨am_in 568 (by decide +kernel) rfl, ok_X8_replace, rfl, am_in 569 (by decide +kernel) rfl, am_in 570 (by decide +kernel) rfl⟩
theorem st_RX4_34 : am_SV RX4 34 MX4_lexicon := ⟨am_in 607 (by decide +kernel) rfl, ok_X4_lexicon, rfl, am_in 273 (by decide +kernel) rfl, am_in 274 (by decide +kernel) rfl⟩
theorem st_RX4_38 : am_SV RX4 38 MX7_ofSide := ⟨am_in 608 (by decide +kernel) rfl, ok_X7_ofSide, rfl, am_in 257 (by decide +kernel) rfl, am_in 258 (by decide +kernel) rfl⟩
theorem st_RX4_44 : am_SV RX4 44 MX6_at := ⟨am_in 609 (by decide +kernel) rfl, ok_X6_at, rfl, am_in 306 (by decide +kernel) rfl, am_in 307 (by decide +kernel) rfl⟩
theorem st_RX4_50 : am_SV RX4 50 MX6_length := ⟨am_in 610 (by decide +kernel) rfl, ok_X6_length, rfl, am_in 261 (by decide +kernel) rfl, am_in 262 (by decide +kernel) rfl⟩
theorem st_RX4_54 : am_SV RX4 54 MX2_shareOf := ⟨am_in 611 (by decide +kernel) rfl, ok_X2_shareOf, rfl, am_in 379 (by decide +kernel) rfl, am_in 380 (by decide +kernel) rfl⟩
theorem st_RX4_57 : am_SV RX4 57 MX8_between := ⟨am_in 612 (by decide +kernel) rfl, ok_X8_between, rfl, am_in 613 (by decide +kernel) rfl, am_in 614 (by decide +kernel) rfl⟩
theorem st_RX4_60 : am_SV RX4 60 MX8_ofEmpty := ⟨am_in 622 (by decide +kernel) rfl, ok_X8_ofEmpty, rfl, am_in 623 (by decide +kernel) rfl, am_in 624 (by decide +kernel) rfl⟩
theorem st_RX5_19 : am_SV RX5 19 MX0_firstLength := ⟨am_in 696 (by decide +kernel) rfl, ok_X0_firstLength, rfl, am_in 697 (by decide +kernel) rfl, am_in 698 (by decide +kernel) rfl⟩
theorem st_RX5_25 : Cond.methodLink RX5 25 Jvm.Lib.Math.min.name ∈ am_ws := am_in 700 (by decide +kernel) rfl
theorem st_RX5_31 : am_SV RX5 31 MX5_seekAcross := ⟨am_in 701 (by decide +kernel) rfl, ok_X5_seekAcross, rfl, am_in 703 (by decide +kernel) rfl, am_in 24 (by decide +kernel) rfl⟩
theorem st_RX5_35 : am_SV RX5 35 MX0_joinedBits := ⟨am_in 705 (by decide +kernel) rfl, ok_X0_joinedBits, rfl, am_in 669 (by decide +kernel) rfl, am_in 670 (by decide +kernel) rfl⟩
theorem st_RX5_39 : am_SV RX5 39 MX0_secondLength := ⟨am_in 706 (by decide +kernel) rfl, ok_X0_secondLength, rfl, am_in 707 (by decide +kernel) rfl, am_in 708 (by decide +kernel) rfl⟩
theorem st_RX5_42 : am_SS RX5 42 MX5_spanBits := ⟨am_in 710 (by decide +kernel) rfl, ok_X5_spanBits, rfl, am_in 711 (by decide +kernel) rfl⟩
theorem st_RX5_45 : am_SS RX5 45 MX5_isPhrase := ⟨am_in 714 (by decide +kernel) rfl, ok_X5_isPhrase, rfl, am_in 715 (by decide +kernel) rfl⟩
theorem st_RX5_49 : am_SV RX5 49 MX5_meet := ⟨am_in 717 (by decide +kernel) rfl, ok_X5_meet, rfl, am_in 719 (by decide +kernel) rfl, am_in 25 (by decide +kernel) rfl⟩
theorem st_RX5_53 : am_SZ RX5 53 MX0_bitOf := ⟨by decide +kernel, ok_X0_bitOf, rfl, am_in 651 (by decide +kernel) rfl⟩
theorem st_RX6_19 : am_SV RX6 19 MX6_has := ⟨am_in 309 (by decide +kernel) rfl, ok_X6_has, rfl, am_in 310 (by decide +kernel) rfl, am_in 311 (by decide +kernel) rfl⟩
theorem st_RX7_9 : am_SN RX7 9 MX6_init := ⟨by decide +kernel, ok_X6_init, rfl, rfl, rfl, am_in 213 (by decide +kernel) rfl⟩
theorem st_RX8_23 : am_SV RX8 23 MX8_at := ⟨am_in 572 (by decide +kernel) rfl, ok_X8_at, rfl, am_in 573 (by decide +kernel) rfl, am_in 574 (by decide +kernel) rfl⟩
theorem st_RX8_27 : Cond.methodLink RX8 27 Jvm.Lib.Math.abs.name ∈ am_ws := am_in 616 (by decide +kernel) rfl
theorem st_RX8_32 : Cond.methodLink RX8 32 Jvm.Lib.Math.min.name ∈ am_ws := am_in 619 (by decide +kernel) rfl
theorem st_RL_7 : am_SV RL 7 MX9_put := ⟨am_in 399 (by decide +kernel) rfl, ok_X9_put, rfl, am_in 400 (by decide +kernel) rfl, am_in 401 (by decide +kernel) rfl⟩
theorem st_RL_17 : am_SV RL 17 MX9_pair := ⟨am_in 504 (by decide +kernel) rfl, ok_X9_pair, rfl, am_in 505 (by decide +kernel) rfl, am_in 506 (by decide +kernel) rfl⟩
theorem st_RL_21 : am_SV RL 21 MX9_takeBack := ⟨am_in 525 (by decide +kernel) rfl, ok_X9_takeBack, rfl, am_in 526 (by decide +kernel) rfl, am_in 527 (by decide +kernel) rfl⟩
theorem st_RL_25 : am_SV RL 25 MX9_weight := ⟨am_in 543 (by decide +kernel) rfl, ok_X9_weight, rfl, am_in 544 (by decide +kernel) rfl, am_in 545 (by decide +kernel) rfl⟩
theorem st_RL_30 : am_SV RL 30 MX9_word := ⟨am_in 579 (by decide +kernel) rfl, ok_X9_word, rfl, am_in 580 (by decide +kernel) rfl, am_in 581 (by decide +kernel) rfl⟩
theorem st_RL_34 : am_SV RL 34 MX9_share := ⟨am_in 588 (by decide +kernel) rfl, ok_X9_share, rfl, am_in 589 (by decide +kernel) rfl, am_in 590 (by decide +kernel) rfl⟩
theorem st_RL_37 : am_SV RL 37 MX9_link := ⟨am_in 597 (by decide +kernel) rfl, ok_X9_link, rfl, am_in 598 (by decide +kernel) rfl, am_in 599 (by decide +kernel) rfl⟩
theorem st_RL_40 : am_SV RL 40 MX9_isJoined := ⟨am_in 629 (by decide +kernel) rfl, ok_X9_isJoined, rfl, am_in 630 (by decide +kernel) rfl, am_in 631 (by decide +kernel) rfl⟩
theorem st_RL_44 : am_SV RL 44 MX9_phrases := ⟨am_in 688 (by decide +kernel) rfl, ok_X9_phrases, rfl, am_in 689 (by decide +kernel) rfl, am_in 690 (by decide +kernel) rfl⟩
theorem st_RL_47 : am_SV RL 47 MX9_phrase := ⟨am_in 728 (by decide +kernel) rfl, ok_X9_phrase, rfl, am_in 729 (by decide +kernel) rfl, am_in 730 (by decide +kernel) rfl⟩
theorem st_RL_50 : am_SV RL 50 MX9_fertility := ⟨am_in 741 (by decide +kernel) rfl, ok_X9_fertility, rfl, am_in 742 (by decide +kernel) rfl, am_in 743 (by decide +kernel) rfl⟩
theorem st_RL_53 : am_SV RL 53 MX9_total := ⟨am_in 765 (by decide +kernel) rfl, ok_X9_total, rfl, am_in 766 (by decide +kernel) rfl, am_in 767 (by decide +kernel) rfl⟩
theorem st_RL_57 : am_SV RL 57 MX9_totalAnew := ⟨am_in 800 (by decide +kernel) rfl, ok_X9_totalAnew, rfl, am_in 801 (by decide +kernel) rfl, am_in 802 (by decide +kernel) rfl⟩
theorem st_RL_60 : am_SI RL 60 MX9_init := ⟨am_in 70 (by decide +kernel) rfl, ok_X9_init, rfl, rfl, rfl, am_in 71 (by decide +kernel) rfl⟩
theorem st_RL_63 : am_SI RL 63 MX10_init := ⟨am_in 813 (by decide +kernel) rfl, ok_X10_init, rfl, rfl, rfl, am_in 814 (by decide +kernel) rfl⟩
theorem st_RL_64 : am_ST RL 64 ML_put := ⟨am_in 394 (by decide +kernel) rfl, ok_L_put, (by simp), am_in 395 (by decide +kernel) rfl⟩
theorem st_RL_69 : am_SV RL 69 MX10_put := ⟨am_in 877 (by decide +kernel) rfl, ok_X10_put, rfl, am_in 878 (by decide +kernel) rfl, am_in 879 (by decide +kernel) rfl⟩
theorem st_RL_70 : am_SV RL 70 MX10_thrown := ⟨am_in 873 (by decide +kernel) rfl, ok_X10_thrown, rfl, am_in 874 (by decide +kernel) rfl, am_in 875 (by decide +kernel) rfl⟩
theorem st_RL_73 : am_SV RL 73 MX9_wipe := ⟨am_in 252 (by decide +kernel) rfl, ok_X9_wipe, rfl, am_in 253 (by decide +kernel) rfl, am_in 254 (by decide +kernel) rfl⟩
theorem st_RL_76 : am_SV RL 76 MX10_wipe := ⟨am_in 888 (by decide +kernel) rfl, ok_X10_wipe, rfl, am_in 889 (by decide +kernel) rfl, am_in 890 (by decide +kernel) rfl⟩
theorem st_RL_77 : am_ST RL 77 ML_pair := ⟨am_in 501 (by decide +kernel) rfl, ok_L_pair, (by simp), am_in 502 (by decide +kernel) rfl⟩
theorem st_RL_80 : am_SV RL 80 MX10_pair := ⟨am_in 892 (by decide +kernel) rfl, ok_X10_pair, rfl, am_in 893 (by decide +kernel) rfl, am_in 894 (by decide +kernel) rfl⟩
theorem st_RL_81 : am_ST RL 81 ML_takeBack := ⟨am_in 522 (by decide +kernel) rfl, ok_L_takeBack, (by simp), am_in 523 (by decide +kernel) rfl⟩
theorem st_RL_84 : am_SV RL 84 MX10_takeBack := ⟨am_in 897 (by decide +kernel) rfl, ok_X10_takeBack, rfl, am_in 898 (by decide +kernel) rfl, am_in 899 (by decide +kernel) rfl⟩
theorem st_RL_85 : am_SV RL 85 MX9_begin := ⟨am_in 268 (by decide +kernel) rfl, ok_X9_begin, rfl, am_in 269 (by decide +kernel) rfl, am_in 270 (by decide +kernel) rfl⟩
theorem st_RL_88 : am_SV RL 88 MX10_begin := ⟨am_in 909 (by decide +kernel) rfl, ok_X10_begin, rfl, am_in 910 (by decide +kernel) rfl, am_in 911 (by decide +kernel) rfl⟩
theorem st_RL_89 : am_SV RL 89 MX9_round := ⟨am_in 358 (by decide +kernel) rfl, ok_X9_round, rfl, am_in 359 (by decide +kernel) rfl, am_in 360 (by decide +kernel) rfl⟩
theorem st_RL_92 : am_SV RL 92 MX10_round := ⟨am_in 933 (by decide +kernel) rfl, ok_X10_round, rfl, am_in 934 (by decide +kernel) rfl, am_in 935 (by decide +kernel) rfl⟩
theorem st_RL_93 : am_ST RL 93 ML_weight := ⟨am_in 539 (by decide +kernel) rfl, ok_L_weight, (by simp), am_in 540 (by decide +kernel) rfl⟩
theorem st_RL_95 : am_SV RL 95 MX10_weight := ⟨am_in 951 (by decide +kernel) rfl, ok_X10_weight, rfl, am_in 952 (by decide +kernel) rfl, am_in 953 (by decide +kernel) rfl⟩
theorem st_RL_96 : am_SV RL 96 MX9_pairs := ⟨am_in 386 (by decide +kernel) rfl, ok_X9_pairs, rfl, am_in 387 (by decide +kernel) rfl, am_in 388 (by decide +kernel) rfl⟩
theorem st_RL_99 : am_SV RL 99 MX10_pairs := ⟨am_in 955 (by decide +kernel) rfl, ok_X10_pairs, rfl, am_in 956 (by decide +kernel) rfl, am_in 957 (by decide +kernel) rfl⟩
theorem st_RL_100 : am_ST RL 100 ML_word := ⟨am_in 576 (by decide +kernel) rfl, ok_L_word, (by simp), am_in 577 (by decide +kernel) rfl⟩
theorem st_RL_103 : am_SV RL 103 MX10_word := ⟨am_in 959 (by decide +kernel) rfl, ok_X10_word, rfl, am_in 960 (by decide +kernel) rfl, am_in 961 (by decide +kernel) rfl⟩
theorem st_RL_104 : am_ST RL 104 ML_share := ⟨am_in 585 (by decide +kernel) rfl, ok_L_share, (by simp), am_in 586 (by decide +kernel) rfl⟩
theorem st_RL_106 : am_SV RL 106 MX10_share := ⟨am_in 963 (by decide +kernel) rfl, ok_X10_share, rfl, am_in 964 (by decide +kernel) rfl, am_in 965 (by decide +kernel) rfl⟩
theorem st_RL_107 : am_ST RL 107 ML_link := ⟨am_in 594 (by decide +kernel) rfl, ok_L_link, (by simp), am_in 595 (by decide +kernel) rfl⟩
theorem st_RL_109 : am_SV RL 109 MX10_link := ⟨am_in 967 (by decide +kernel) rfl, ok_X10_link, rfl, am_in 968 (by decide +kernel) rfl, am_in 969 (by decide +kernel) rfl⟩
theorem st_RL_110 : am_ST RL 110 ML_isJoined := ⟨am_in 626 (by decide +kernel) rfl, ok_L_isJoined, (by simp), am_in 627 (by decide +kernel) rfl⟩
theorem st_RL_112 : am_SV RL 112 MX10_isJoined := ⟨am_in 982 (by decide +kernel) rfl, ok_X10_isJoined, rfl, am_in 983 (by decide +kernel) rfl, am_in 984 (by decide +kernel) rfl⟩
theorem st_RL_113 : am_ST RL 113 ML_phrases := ⟨am_in 685 (by decide +kernel) rfl, ok_L_phrases, (by simp), am_in 686 (by decide +kernel) rfl⟩
theorem st_RL_115 : am_SV RL 115 MX10_phrases := ⟨am_in 998 (by decide +kernel) rfl, ok_X10_phrases, rfl, am_in 999 (by decide +kernel) rfl, am_in 1000 (by decide +kernel) rfl⟩
theorem st_RL_116 : am_ST RL 116 ML_phrase := ⟨am_in 725 (by decide +kernel) rfl, ok_L_phrase, (by simp), am_in 726 (by decide +kernel) rfl⟩
theorem st_RL_118 : am_SV RL 118 MX10_phrase := ⟨am_in 1010 (by decide +kernel) rfl, ok_X10_phrase, rfl, am_in 1011 (by decide +kernel) rfl, am_in 1012 (by decide +kernel) rfl⟩
theorem st_RL_119 : am_ST RL 119 ML_fertility := ⟨am_in 738 (by decide +kernel) rfl, ok_L_fertility, (by simp), am_in 739 (by decide +kernel) rfl⟩
theorem st_RL_121 : am_SV RL 121 MX10_fertility := ⟨am_in 1014 (by decide +kernel) rfl, ok_X10_fertility, rfl, am_in 1015 (by decide +kernel) rfl, am_in 1016 (by decide +kernel) rfl⟩
theorem st_RL_122 : am_ST RL 122 ML_total := ⟨am_in 762 (by decide +kernel) rfl, ok_L_total, (by simp), am_in 763 (by decide +kernel) rfl⟩
theorem st_RL_124 : am_SV RL 124 MX10_total := ⟨am_in 1022 (by decide +kernel) rfl, ok_X10_total, rfl, am_in 1023 (by decide +kernel) rfl, am_in 1024 (by decide +kernel) rfl⟩
theorem st_RL_125 : am_ST RL 125 ML_totalAnew := ⟨am_in 797 (by decide +kernel) rfl, ok_L_totalAnew, (by simp), am_in 798 (by decide +kernel) rfl⟩
theorem st_RL_127 : am_SV RL 127 MX10_totalAnew := ⟨am_in 1026 (by decide +kernel) rfl, ok_X10_totalAnew, rfl, am_in 1027 (by decide +kernel) rfl, am_in 1028 (by decide +kernel) rfl⟩
theorem st_RX10_55 : am_SS RX10 55 MX10_in := ⟨am_in 881 (by decide +kernel) rfl, ok_X10_in, rfl, am_in 882 (by decide +kernel) rfl⟩
theorem st_RX10_59 : am_SV RX10 59 MX10_goes := ⟨am_in 884 (by decide +kernel) rfl, ok_X10_goes, rfl, am_in 886 (by decide +kernel) rfl, am_in 29 (by decide +kernel) rfl⟩
theorem st_RX10_63 : am_SV RX10 63 MX10_wipe := ⟨am_in 896 (by decide +kernel) rfl, ok_X10_wipe, rfl, am_in 889 (by decide +kernel) rfl, am_in 890 (by decide +kernel) rfl⟩
theorem st_RX10_67 : am_SV RX10 67 MX10_isThere := ⟨am_in 901 (by decide +kernel) rfl, ok_X10_isThere, rfl, am_in 903 (by decide +kernel) rfl, am_in 30 (by decide +kernel) rfl⟩
theorem st_RX10_71 : am_SV RX10 71 MX10_there := ⟨am_in 905 (by decide +kernel) rfl, ok_X10_there, rfl, am_in 907 (by decide +kernel) rfl, am_in 31 (by decide +kernel) rfl⟩
theorem st_RX10_74 : am_SV RX10 74 MX10_longOf := ⟨am_in 921 (by decide +kernel) rfl, ok_X10_longOf, rfl, am_in 923 (by decide +kernel) rfl, am_in 34 (by decide +kernel) rfl⟩
theorem st_RX10_77 : am_SV RX10 77 MX10_wordAt := ⟨am_in 925 (by decide +kernel) rfl, ok_X10_wordAt, rfl, am_in 927 (by decide +kernel) rfl, am_in 35 (by decide +kernel) rfl⟩
theorem st_RX10_81 : am_SS RX10 81 MX10_at := ⟨am_in 929 (by decide +kernel) rfl, ok_X10_at, rfl, am_in 930 (by decide +kernel) rfl⟩
theorem st_RX10_84 : am_SV RX10 84 MX10_clears := ⟨am_in 913 (by decide +kernel) rfl, ok_X10_clears, rfl, am_in 915 (by decide +kernel) rfl, am_in 32 (by decide +kernel) rfl⟩
theorem st_RX10_87 : am_SV RX10 87 MX10_marks := ⟨am_in 917 (by decide +kernel) rfl, ok_X10_marks, rfl, am_in 919 (by decide +kernel) rfl, am_in 33 (by decide +kernel) rfl⟩
theorem st_RX10_92 : am_SV RX10 92 MX10_allFor := ⟨am_in 941 (by decide +kernel) rfl, ok_X10_allFor, rfl, am_in 943 (by decide +kernel) rfl, am_in 37 (by decide +kernel) rfl⟩
theorem st_RX10_100 : am_SV RX10 100 MX10_adds := ⟨am_in 937 (by decide +kernel) rfl, ok_X10_adds, rfl, am_in 939 (by decide +kernel) rfl, am_in 36 (by decide +kernel) rfl⟩
theorem st_RX10_103 : am_SV RX10 103 MX10_renews := ⟨am_in 946 (by decide +kernel) rfl, ok_X10_renews, rfl, am_in 948 (by decide +kernel) rfl, am_in 38 (by decide +kernel) rfl⟩
theorem st_RX10_107 : am_SS RX10 107 MX10_between := ⟨am_in 979 (by decide +kernel) rfl, ok_X10_between, rfl, am_in 980 (by decide +kernel) rfl⟩
theorem st_RX10_110 : am_SV RX10 110 MX10_linkOf := ⟨am_in 975 (by decide +kernel) rfl, ok_X10_linkOf, rfl, am_in 977 (by decide +kernel) rfl, am_in 40 (by decide +kernel) rfl⟩
theorem st_RX10_113 : am_SV RX10 113 MX10_isBeside := ⟨am_in 990 (by decide +kernel) rfl, ok_X10_isBeside, rfl, am_in 992 (by decide +kernel) rfl, am_in 42 (by decide +kernel) rfl⟩
theorem st_RX10_116 : am_SV RX10 116 MX10_isFree := ⟨am_in 994 (by decide +kernel) rfl, ok_X10_isFree, rfl, am_in 996 (by decide +kernel) rfl, am_in 43 (by decide +kernel) rfl⟩
theorem st_RX10_119 : am_SV RX10 119 MX10_finds := ⟨am_in 986 (by decide +kernel) rfl, ok_X10_finds, rfl, am_in 988 (by decide +kernel) rfl, am_in 41 (by decide +kernel) rfl⟩
theorem st_RX10_122 : am_SV RX10 122 MX10_isPhrase := ⟨am_in 1006 (by decide +kernel) rfl, ok_X10_isPhrase, rfl, am_in 1008 (by decide +kernel) rfl, am_in 45 (by decide +kernel) rfl⟩
theorem st_RX10_138 : am_SV RX10 138 MX10_isPlace := ⟨am_in 971 (by decide +kernel) rfl, ok_X10_isPlace, rfl, am_in 973 (by decide +kernel) rfl, am_in 39 (by decide +kernel) rfl⟩
theorem st_RX10_141 : am_SV RX10 141 MX10_meets := ⟨am_in 1002 (by decide +kernel) rfl, ok_X10_meets, rfl, am_in 1004 (by decide +kernel) rfl, am_in 44 (by decide +kernel) rfl⟩
theorem st_RX10_144 : am_SV RX10 144 MX10_fertilityOf := ⟨am_in 1018 (by decide +kernel) rfl, ok_X10_fertilityOf, rfl, am_in 1020 (by decide +kernel) rfl, am_in 46 (by decide +kernel) rfl⟩
theorem st_RX10_148 : am_SV RX10 148 MX10_total := ⟨am_in 1030 (by decide +kernel) rfl, ok_X10_total, rfl, am_in 1023 (by decide +kernel) rfl, am_in 1024 (by decide +kernel) rfl⟩
theorem nw_RX9_9 : am_NW RX9 9 1 3 [.null, .int 0, .int 0] := ⟨_, rfl, rfl, am_in 76 (by decide +kernel) rfl, am_in 77 (by decide +kernel) rfl, am_in 49 (by decide +kernel) rfl, fun j hj ty ht => by
  have h9 := tyX1_ok j hj
  cases Option.some.inj (h9.symm.trans ht)
  rcases (show j = 0 ∨ j = 1 ∨ j = 2 by omega) with rfl | rfl | rfl <;> rfl, fun v hv => by
  simp only [List.mem_cons, List.not_mem_nil, or_false] at hv
  rcases hv with rfl | rfl | rfl <;> exact ⟨trivial, fun _ => rfl⟩⟩
theorem nw_RX9_16 : am_NW RX9 16 4 3 [.null, .null, .null] := ⟨_, rfl, rfl, am_in 94 (by decide +kernel) rfl, am_in 95 (by decide +kernel) rfl, am_in 50 (by decide +kernel) rfl, fun j hj ty ht => by
  have h9 := tyX4_ok j hj
  cases Option.some.inj (h9.symm.trans ht)
  rcases (show j = 0 ∨ j = 1 ∨ j = 2 by omega) with rfl | rfl | rfl <;> rfl, fun v hv => by
  simp only [List.mem_cons, List.not_mem_nil, or_false] at hv
  rcases hv with rfl | rfl | rfl <;> exact ⟨trivial, fun _ => rfl⟩⟩
theorem nw_RX9_23 : am_NW RX9 23 0 5 [.null, .null, .null, .int 0, .int 0] := ⟨_, rfl, rfl, am_in 153 (by decide +kernel) rfl, am_in 154 (by decide +kernel) rfl, am_in 53 (by decide +kernel) rfl, fun j hj ty ht => by
  have h9 := tyX0_ok j hj
  cases Option.some.inj (h9.symm.trans ht)
  rcases (show j = 0 ∨ j = 1 ∨ j = 2 ∨ j = 3 ∨ j = 4 by omega) with rfl | rfl | rfl | rfl | rfl <;> rfl, fun v hv => by
  simp only [List.mem_cons, List.not_mem_nil, or_false] at hv
  rcases hv with rfl | rfl | rfl | rfl | rfl <;> exact ⟨trivial, fun _ => rfl⟩⟩
theorem nw_RX9_30 : am_NW RX9 30 5 2 [.null, .int 0] := ⟨_, rfl, rfl, am_in 175 (by decide +kernel) rfl, am_in 176 (by decide +kernel) rfl, am_in 54 (by decide +kernel) rfl, fun j hj ty ht => by
  have h9 := tyX5_ok j hj
  cases Option.some.inj (h9.symm.trans ht)
  rcases (show j = 0 ∨ j = 1 by omega) with rfl | rfl <;> rfl, fun v hv => by
  simp only [List.mem_cons, List.not_mem_nil, or_false] at hv
  rcases hv with rfl | rfl <;> exact ⟨trivial, fun _ => rfl⟩⟩
theorem nw_RX9_37 : am_NW RX9 37 3 3 [.null, .int 0, .int 0] := ⟨_, rfl, rfl, am_in 188 (by decide +kernel) rfl, am_in 189 (by decide +kernel) rfl, am_in 55 (by decide +kernel) rfl, fun j hj ty ht => by
  have h9 := tyX3_ok j hj
  cases Option.some.inj (h9.symm.trans ht)
  rcases (show j = 0 ∨ j = 1 ∨ j = 2 by omega) with rfl | rfl | rfl <;> rfl, fun v hv => by
  simp only [List.mem_cons, List.not_mem_nil, or_false] at hv
  rcases hv with rfl | rfl | rfl <;> exact ⟨trivial, fun _ => rfl⟩⟩
theorem nw_RX9_44 : am_NW RX9 44 7 3 [.null, .null, .int 0] := ⟨_, rfl, rfl, am_in 204 (by decide +kernel) rfl, am_in 205 (by decide +kernel) rfl, am_in 56 (by decide +kernel) rfl, fun j hj ty ht => by
  have h9 := tyX7_ok j hj
  cases Option.some.inj (h9.symm.trans ht)
  rcases (show j = 0 ∨ j = 1 ∨ j = 2 by omega) with rfl | rfl | rfl <;> rfl, fun v hv => by
  simp only [List.mem_cons, List.not_mem_nil, or_false] at hv
  rcases hv with rfl | rfl | rfl <;> exact ⟨trivial, fun _ => rfl⟩⟩
theorem nw_RX4_9 : am_NW RX4 9 2 5 [.int 0, .null, .null, .null, .null] := ⟨_, rfl, rfl, am_in 100 (by decide +kernel) rfl, am_in 101 (by decide +kernel) rfl, am_in 51 (by decide +kernel) rfl, fun j hj ty ht => by
  have h9 := tyX2_ok j hj
  cases Option.some.inj (h9.symm.trans ht)
  rcases (show j = 0 ∨ j = 1 ∨ j = 2 ∨ j = 3 ∨ j = 4 by omega) with rfl | rfl | rfl | rfl | rfl <;> rfl, fun v hv => by
  simp only [List.mem_cons, List.not_mem_nil, or_false] at hv
  rcases hv with rfl | rfl | rfl | rfl | rfl <;> exact ⟨trivial, fun _ => rfl⟩⟩
theorem nw_RX4_23 : am_NW RX4 23 8 1 [.null] := ⟨_, rfl, rfl, am_in 124 (by decide +kernel) rfl, am_in 125 (by decide +kernel) rfl, am_in 52 (by decide +kernel) rfl, fun j hj ty ht => by
  have h9 := tyX8_ok j hj
  cases Option.some.inj (h9.symm.trans ht)
  rcases (show j = 0 by omega) with rfl <;> rfl, fun v hv => by
  simp only [List.mem_cons, List.not_mem_nil, or_false] at hv
  rcases hv with rfl <;> exact ⟨trivial, fun _ => rfl⟩⟩
theorem nw_RX7_7 : am_NW RX7 7 6 2 [.null, .int 0] := ⟨_, rfl, rfl, am_in 210 (by decide +kernel) rfl, am_in 211 (by decide +kernel) rfl, am_in 57 (by decide +kernel) rfl, fun j hj ty ht => by
  have h9 := tyX6_ok j hj
  cases Option.some.inj (h9.symm.trans ht)
  rcases (show j = 0 ∨ j = 1 by omega) with rfl | rfl <;> rfl, fun v hv => by
  simp only [List.mem_cons, List.not_mem_nil, or_false] at hv
  rcases hv with rfl | rfl <;> exact ⟨trivial, fun _ => rfl⟩⟩
theorem nw_RL_8 : am_NW RL 8 9 6 [.null, .null, .null, .null, .null, .null] := ⟨_, rfl, rfl, am_in 68 (by decide +kernel) rfl, am_in 69 (by decide +kernel) rfl, am_in 48 (by decide +kernel) rfl, fun j hj ty ht => by
  have h9 := tyX9_ok j hj
  cases Option.some.inj (h9.symm.trans ht)
  rcases (show j = 0 ∨ j = 1 ∨ j = 2 ∨ j = 3 ∨ j = 4 ∨ j = 5 by omega) with rfl | rfl | rfl | rfl | rfl | rfl <;> rfl, fun v hv => by
  simp only [List.mem_cons, List.not_mem_nil, or_false] at hv
  rcases hv with rfl | rfl | rfl | rfl | rfl | rfl <;> exact ⟨trivial, fun _ => rfl⟩⟩
theorem nw_RL_61 : am_NW RL 61 10 18 [.null, .null, .int 0, .null, .null, .null, .null, .null, .null, .null, .null, .null, .null, .int 0, .int 0, .int 0, .int 0, .int 0] := ⟨_, rfl, rfl, am_in 811 (by decide +kernel) rfl, am_in 812 (by decide +kernel) rfl, am_in 58 (by decide +kernel) rfl, fun j hj ty ht => by
  have h9 := tyX10_ok j hj
  cases Option.some.inj (h9.symm.trans ht)
  rcases (show j = 0 ∨ j = 1 ∨ j = 2 ∨ j = 3 ∨ j = 4 ∨ j = 5 ∨ j = 6 ∨ j = 7 ∨ j = 8 ∨ j = 9 ∨ j = 10 ∨ j = 11 ∨ j = 12 ∨ j = 13 ∨ j = 14 ∨ j = 15 ∨ j = 16 ∨ j = 17 by omega) with rfl | rfl | rfl | rfl | rfl | rfl | rfl | rfl | rfl | rfl | rfl | rfl | rfl | rfl | rfl | rfl | rfl | rfl <;> rfl, fun v hv => by
  simp only [List.mem_cons, List.not_mem_nil, or_false] at hv
  rcases hv with rfl | rfl | rfl | rfl | rfl | rfl | rfl | rfl | rfl | rfl | rfl | rfl | rfl | rfl | rfl | rfl | rfl | rfl <;> exact ⟨trivial, fun _ => rfl⟩⟩
theorem at_RX9_130 : ∀ w ∈ vx_atS RX9 130 "java/lang/IllegalArgumentException" ["java/lang/RuntimeException", "java/lang/Exception"], w ∈ am_ws ∨ w = .castable "java/lang/IllegalArgumentException" "java/lang/IllegalArgumentException" ∨ ∃ x ∈ am_decs, w = .declares x := by
  intro w hw
  by_cases g : goodWord w = true
  · exact Or.inl (List.mem_filter.mpr ⟨(goodIn_of (big := lw_tbl) ((vx_atS RX9 130 "java/lang/IllegalArgumentException" ["java/lang/RuntimeException", "java/lang/Exception"]).filter goodWord) (by decide +kernel) w (List.mem_filter.mpr ⟨hw, g⟩)).1, g⟩)
  · have h9 : ((vx_atS RX9 130 "java/lang/IllegalArgumentException" ["java/lang/RuntimeException", "java/lang/Exception"]).filter (fun w => !goodWord w)).all (fun w => decide (w = .castable "java/lang/IllegalArgumentException" "java/lang/IllegalArgumentException") || decide (w ∈ am_decs.map Cond.declares)) = true := by decide +kernel
    have h8 := (List.all_eq_true.mp h9 w (List.mem_filter.mpr ⟨hw, by simp only [Bool.not_eq_true] at g; rw [g]; rfl⟩))
    rcases (Bool.or_eq_true _ _ ▸ h8) with h7 | h7
    · exact Or.inr (Or.inl (of_decide_eq_true h7))
    · obtain ⟨x, hx, rfl⟩ := List.mem_map.mp (of_decide_eq_true h7)
      exact Or.inr (Or.inr ⟨x, hx, rfl⟩)
theorem ot_RX9_130_126 : ∀ w ∈ Cond.classLink RX9 126 "java/lang/IllegalArgumentException" :: Cond.initialized "java/lang/IllegalArgumentException" :: vx_atS RX9 130 "java/lang/IllegalArgumentException" ["java/lang/RuntimeException", "java/lang/Exception"], vx_ot w = true := fun w hw => List.all_eq_true.mp (show (Cond.classLink RX9 126 "java/lang/IllegalArgumentException" :: Cond.initialized "java/lang/IllegalArgumentException" :: vx_atS RX9 130 "java/lang/IllegalArgumentException" ["java/lang/RuntimeException", "java/lang/Exception"]).all vx_ot = true by decide +kernel) w hw
theorem at_RX9_62 : ∀ w ∈ vx_atS RX9 62 "java/lang/IndexOutOfBoundsException" ["java/lang/RuntimeException", "java/lang/Exception"], w ∈ am_ws ∨ w = .castable "java/lang/IndexOutOfBoundsException" "java/lang/IndexOutOfBoundsException" ∨ ∃ x ∈ am_decs, w = .declares x := by
  intro w hw
  by_cases g : goodWord w = true
  · exact Or.inl (List.mem_filter.mpr ⟨(goodIn_of (big := lw_tbl) ((vx_atS RX9 62 "java/lang/IndexOutOfBoundsException" ["java/lang/RuntimeException", "java/lang/Exception"]).filter goodWord) (by decide +kernel) w (List.mem_filter.mpr ⟨hw, g⟩)).1, g⟩)
  · have h9 : ((vx_atS RX9 62 "java/lang/IndexOutOfBoundsException" ["java/lang/RuntimeException", "java/lang/Exception"]).filter (fun w => !goodWord w)).all (fun w => decide (w = .castable "java/lang/IndexOutOfBoundsException" "java/lang/IndexOutOfBoundsException") || decide (w ∈ am_decs.map Cond.declares)) = true := by decide +kernel
    have h8 := (List.all_eq_true.mp h9 w (List.mem_filter.mpr ⟨hw, by simp only [Bool.not_eq_true] at g; rw [g]; rfl⟩))
    rcases (Bool.or_eq_true _ _ ▸ h8) with h7 | h7
    · exact Or.inr (Or.inl (of_decide_eq_true h7))
    · obtain ⟨x, hx, rfl⟩ := List.mem_map.mp (of_decide_eq_true h7)
      exact Or.inr (Or.inr ⟨x, hx, rfl⟩)
theorem ot_RX9_62_58 : ∀ w ∈ Cond.classLink RX9 58 "java/lang/IndexOutOfBoundsException" :: Cond.initialized "java/lang/IndexOutOfBoundsException" :: vx_atS RX9 62 "java/lang/IndexOutOfBoundsException" ["java/lang/RuntimeException", "java/lang/Exception"], vx_ot w = true := fun w hw => List.all_eq_true.mp (show (Cond.classLink RX9 58 "java/lang/IndexOutOfBoundsException" :: Cond.initialized "java/lang/IndexOutOfBoundsException" :: vx_atS RX9 62 "java/lang/IndexOutOfBoundsException" ["java/lang/RuntimeException", "java/lang/Exception"]).all vx_ot = true by decide +kernel) w hw
theorem at_RX9_79 : ∀ w ∈ vx_atS RX9 79 "java/lang/IllegalStateException" ["java/lang/RuntimeException", "java/lang/Exception"], w ∈ am_ws ∨ w = .castable "java/lang/IllegalStateException" "java/lang/IllegalStateException" ∨ ∃ x ∈ am_decs, w = .declares x := by
  intro w hw
  by_cases g : goodWord w = true
  · exact Or.inl (List.mem_filter.mpr ⟨(goodIn_of (big := lw_tbl) ((vx_atS RX9 79 "java/lang/IllegalStateException" ["java/lang/RuntimeException", "java/lang/Exception"]).filter goodWord) (by decide +kernel) w (List.mem_filter.mpr ⟨hw, g⟩)).1, g⟩)
  · have h9 : ((vx_atS RX9 79 "java/lang/IllegalStateException" ["java/lang/RuntimeException", "java/lang/Exception"]).filter (fun w => !goodWord w)).all (fun w => decide (w = .castable "java/lang/IllegalStateException" "java/lang/IllegalStateException") || decide (w ∈ am_decs.map Cond.declares)) = true := by decide +kernel
    have h8 := (List.all_eq_true.mp h9 w (List.mem_filter.mpr ⟨hw, by simp only [Bool.not_eq_true] at g; rw [g]; rfl⟩))
    rcases (Bool.or_eq_true _ _ ▸ h8) with h7 | h7
    · exact Or.inr (Or.inl (of_decide_eq_true h7))
    · obtain ⟨x, hx, rfl⟩ := List.mem_map.mp (of_decide_eq_true h7)
      exact Or.inr (Or.inr ⟨x, hx, rfl⟩)
theorem ot_RX9_79_75 : ∀ w ∈ Cond.classLink RX9 75 "java/lang/IllegalStateException" :: Cond.initialized "java/lang/IllegalStateException" :: vx_atS RX9 79 "java/lang/IllegalStateException" ["java/lang/RuntimeException", "java/lang/Exception"], vx_ot w = true := fun w hw => List.all_eq_true.mp (show (Cond.classLink RX9 75 "java/lang/IllegalStateException" :: Cond.initialized "java/lang/IllegalStateException" :: vx_atS RX9 79 "java/lang/IllegalStateException" ["java/lang/RuntimeException", "java/lang/Exception"]).all vx_ot = true by decide +kernel) w hw
theorem th_X9_put_14 : am_TH MX9_put 14 "java/lang/IndexOutOfBoundsException" := ⟨58, 60, 62, "no such side or word", ["java/lang/RuntimeException", "java/lang/Exception"], dX9_put_14, dX9_put_17, dX9_put_18, dX9_put_20, dX9_put_23, by decide +kernel, by decide +kernel, by decide, am_in 409 (by decide +kernel) rfl, am_in 62 (by decide +kernel) rfl, by decide +kernel, at_RX9_62, by decide +kernel, ot_RX9_62_58⟩
theorem th_X9_put_40 : am_TH MX9_put 40 "java/lang/IllegalStateException" := ⟨75, 77, 79, "the draft is full", ["java/lang/RuntimeException", "java/lang/Exception"], dX9_put_40, dX9_put_43, dX9_put_44, dX9_put_46, dX9_put_49, by decide +kernel, by decide +kernel, by decide, am_in 481 (by decide +kernel) rfl, am_in 63 (by decide +kernel) rfl, by decide +kernel, at_RX9_79, by decide +kernel, ot_RX9_79_75⟩
theorem th_X9_pair_28 : am_TH MX9_pair 28 "java/lang/IllegalStateException" := ⟨75, 91, 79, "a draft is empty", ["java/lang/RuntimeException", "java/lang/Exception"], dX9_pair_28, dX9_pair_31, dX9_pair_32, dX9_pair_34, dX9_pair_37, by decide +kernel, by decide +kernel, by decide, am_in 481 (by decide +kernel) rfl, am_in 63 (by decide +kernel) rfl, by decide +kernel, at_RX9_79, by decide +kernel, ot_RX9_79_75⟩
theorem th_X9_pair_48 : am_TH MX9_pair 48 "java/lang/IllegalStateException" := ⟨75, 94, 79, "there were as many pairs as can be", ["java/lang/RuntimeException", "java/lang/Exception"], dX9_pair_48, dX9_pair_51, dX9_pair_52, dX9_pair_54, dX9_pair_57, by decide +kernel, by decide +kernel, by decide, am_in 481 (by decide +kernel) rfl, am_in 63 (by decide +kernel) rfl, by decide +kernel, at_RX9_79, by decide +kernel, ot_RX9_79_75⟩
theorem th_X9_weight_9 : am_TH MX9_weight 9 "java/lang/IndexOutOfBoundsException" := ⟨58, 124, 62, "apart is out of range", ["java/lang/RuntimeException", "java/lang/Exception"], dX9_weight_9, dX9_weight_12, dX9_weight_13, dX9_weight_15, dX9_weight_18, by decide +kernel, by decide +kernel, by decide, am_in 409 (by decide +kernel) rfl, am_in 62 (by decide +kernel) rfl, by decide +kernel, at_RX9_62, by decide +kernel, ot_RX9_62_58⟩
theorem th_X9_weight_29 : am_TH MX9_weight 29 "java/lang/IllegalArgumentException" := ⟨126, 128, 130, "weight is out of range", ["java/lang/RuntimeException", "java/lang/Exception"], dX9_weight_29, dX9_weight_32, dX9_weight_33, dX9_weight_35, dX9_weight_38, by decide +kernel, by decide +kernel, by decide, am_in 548 (by decide +kernel) rfl, am_in 65 (by decide +kernel) rfl, by decide +kernel, at_RX9_130, by decide +kernel, ot_RX9_130_126⟩
theorem th_X9_word_18 : am_TH MX9_word 18 "java/lang/IndexOutOfBoundsException" := ⟨58, 135, 62, "no such side, or place is below 0", ["java/lang/RuntimeException", "java/lang/Exception"], dX9_word_18, dX9_word_21, dX9_word_22, dX9_word_24, dX9_word_27, by decide +kernel, by decide +kernel, by decide, am_in 409 (by decide +kernel) rfl, am_in 62 (by decide +kernel) rfl, by decide +kernel, at_RX9_62, by decide +kernel, ot_RX9_62_58⟩
theorem th_X9_share_27 : am_TH MX9_share 27 "java/lang/IndexOutOfBoundsException" := ⟨58, 141, 62, "no such direction or word", ["java/lang/RuntimeException", "java/lang/Exception"], dX9_share_27, dX9_share_30, dX9_share_31, dX9_share_33, dX9_share_36, by decide +kernel, by decide +kernel, by decide, am_in 409 (by decide +kernel) rfl, am_in 62 (by decide +kernel) rfl, by decide +kernel, at_RX9_62, by decide +kernel, ot_RX9_62_58⟩
theorem th_X9_link_29 : am_TH MX9_link 29 "java/lang/IndexOutOfBoundsException" := ⟨58, 149, 62, "no such direction or place", ["java/lang/RuntimeException", "java/lang/Exception"], dX9_link_29, dX9_link_32, dX9_link_33, dX9_link_35, dX9_link_38, by decide +kernel, by decide +kernel, by decide, am_in 409 (by decide +kernel) rfl, am_in 62 (by decide +kernel) rfl, by decide +kernel, at_RX9_62, by decide +kernel, ot_RX9_62_58⟩
theorem th_X9_isJoined_33 : am_TH MX9_isJoined 33 "java/lang/IndexOutOfBoundsException" := ⟨58, 155, 62, "no such place", ["java/lang/RuntimeException", "java/lang/Exception"], dX9_isJoined_33, dX9_isJoined_36, dX9_isJoined_37, dX9_isJoined_39, dX9_isJoined_42, by decide +kernel, by decide +kernel, by decide, am_in 409 (by decide +kernel) rfl, am_in 62 (by decide +kernel) rfl, by decide +kernel, at_RX9_62, by decide +kernel, ot_RX9_62_58⟩
theorem th_X9_phrase_47 : am_TH MX9_phrase 47 "java/lang/IndexOutOfBoundsException" := ⟨58, 172, 62, "no such phrase", ["java/lang/RuntimeException", "java/lang/Exception"], dX9_phrase_47, dX9_phrase_50, dX9_phrase_51, dX9_phrase_53, dX9_phrase_56, by decide +kernel, by decide +kernel, by decide, am_in 409 (by decide +kernel) rfl, am_in 62 (by decide +kernel) rfl, by decide +kernel, at_RX9_62, by decide +kernel, ot_RX9_62_58⟩
theorem th_X9_phrase_66 : am_TH MX9_phrase 66 "java/lang/IllegalArgumentException" := ⟨126, 174, 130, "what is out of range", ["java/lang/RuntimeException", "java/lang/Exception"], dX9_phrase_66, dX9_phrase_69, dX9_phrase_70, dX9_phrase_72, dX9_phrase_75, by decide +kernel, by decide +kernel, by decide, am_in 548 (by decide +kernel) rfl, am_in 65 (by decide +kernel) rfl, by decide +kernel, at_RX9_130, by decide +kernel, ot_RX9_130_126⟩
theorem th_X9_fertility_7 : am_TH MX9_fertility 7 "java/lang/IndexOutOfBoundsException" := ⟨58, 179, 62, "no such word", ["java/lang/RuntimeException", "java/lang/Exception"], dX9_fertility_7, dX9_fertility_10, dX9_fertility_11, dX9_fertility_13, dX9_fertility_16, by decide +kernel, by decide +kernel, by decide, am_in 409 (by decide +kernel) rfl, am_in 62 (by decide +kernel) rfl, by decide +kernel, at_RX9_62, by decide +kernel, ot_RX9_62_58⟩
theorem th_X9_fertility_27 : am_TH MX9_fertility 27 "java/lang/IllegalArgumentException" := ⟨126, 181, 130, "fertility is out of range", ["java/lang/RuntimeException", "java/lang/Exception"], dX9_fertility_27, dX9_fertility_30, dX9_fertility_31, dX9_fertility_33, dX9_fertility_36, by decide +kernel, by decide +kernel, by decide, am_in 548 (by decide +kernel) rfl, am_in 65 (by decide +kernel) rfl, by decide +kernel, at_RX9_130, by decide +kernel, ot_RX9_130_126⟩
theorem th_X9_pairThatIsThere_13 : am_TH MX9_pairThatIsThere 13 "java/lang/IndexOutOfBoundsException" := ⟨58, 207, 62, "no such pair, or it is not there any more", ["java/lang/RuntimeException", "java/lang/Exception"], dX9_pairThatIsThere_13, dX9_pairThatIsThere_16, dX9_pairThatIsThere_17, dX9_pairThatIsThere_19, dX9_pairThatIsThere_22, by decide +kernel, by decide +kernel, by decide, am_in 409 (by decide +kernel) rfl, am_in 62 (by decide +kernel) rfl, by decide +kernel, at_RX9_62, by decide +kernel, ot_RX9_62_58⟩
theorem th_X9_shortPair_18 : am_TH MX9_shortPair 18 "java/lang/IllegalStateException" := ⟨75, 209, 79, "the sentence of the side 1 is too long", ["java/lang/RuntimeException", "java/lang/Exception"], dX9_shortPair_18, dX9_shortPair_21, dX9_shortPair_22, dX9_shortPair_24, dX9_shortPair_27, by decide +kernel, by decide +kernel, by decide, am_in 481 (by decide +kernel) rfl, am_in 63 (by decide +kernel) rfl, by decide +kernel, at_RX9_79, by decide +kernel, ot_RX9_79_75⟩
end
section
/-! THE CLAIM OUT OF ONE WALK OF THE LAW'S BODY. Your part is whole_start (and what it stands on); all else here is the same for every law, but numbers. -/
def R_law : String := "GlosspairLaw"
def lw_P (b : Addr) (xs : List Int32) (args : Array Value) (s : State) : Prop := args = #[.ref b] ∧ s.IntsAt b xs ∧ xs.length ≤ 2048 ∧ (Jvm.Cond.and given_1 narrow_1).before args s = true
def lw_Q (_ : Array Value) (s : State) (o : Outcome) (t : State) : Prop := o = .returned (some (.int 1)) ∧ Framed s o t [] 601024 7293033
def lw_Z (below : List Frame) (a : Array Value) (s : State) : State → Prop := fun t => ∃ o, t.status = .running ∧ Ended t below o ∧ lw_Q a s o t
/-- the law's own end, with 1 on the stack, nothing written that was there before, its room as the claim has it -/
theorem lw_ret {p : Program} {l : Launch} {e : Env} {s : State} {m : MethodId} {below : List Frame} {meth : Method} {c : Code} {b : Nat} (hx : p.tables.exec = Jvm.exec) (hb : c.code = code) (hr : meth.sig.returnType = ret) (hlocks : meth.locks = false) {pc : Nat} {H : Heap} {ls : Array Slot} (hdg : decode code pc = .ok (.ireturn, 1)) : W p l e room_1 s m #[Value.ref b] below meth c H [] 601024 7293033 (lw_Z below #[Value.ref b] s) (F0 m pc ls [.int 1]) := by
  intro T hT X
  obtain ⟨fs, hret, hrun, hended, hW, hframe⟩ := X.leave (v := some (.int 1)) (hlocks := hlocks) (fun h => by rw [hr] at h; cases h)
  have hmeth' : T.vm.method? m = some meth := X.method'
  refine ⟨T.setFrames fs, ?_, .returned (some (.int 1)), hrun, hended, rfl, ⟨_, rfl⟩, hW, hframe⟩
  jvm_step X.here [X.here.top, hx, hb, hdg, hmeth', hr, ret, narrow_b1]
  (try refine ⟨rfl, ?_⟩); (try refine ⟨rfl, ?_⟩)
  first | (intro acts; rw [hret _ acts rfl rfl rfl]) | rw [hret _ _ rfl rfl rfl]
  exact Steps.refl _
/-- what holds at the law's entry: the machine, the code, the tables' words (any of lw_tbl by 'hts w (by decide +kernel)'), the script of L ints xs at the cell b, what the Statement gives of the start (any of its parts by flat_of_before) -/
def lw_At (p : Program) (s : State) (m : MethodId) (meth : Method) (c : Code) (b L : Nat) (xs : Nat → Int32) : Prop :=
  p.tables.exec = Jvm.exec ∧ c.code = code ∧ meth.sig.returnType = ret ∧ c.maxLocals = 8 ∧ s.vm.findClass R_law = some m.cls ∧ (∀ w ∈ lw_tbl, w.before #[Value.ref b] s = true) ∧ va_X b L xs s s.heap ∧ b < s.heap.size ∧ meth.locks = false ∧ (Jvm.Cond.and given_1 narrow_1).before #[Value.ref b] s = true ∧ c.exceptionTable.toList = []
theorem am_eqi {args : Array Value} {s : State} {t : Term} {z : Int32} (h : (Cond.eq t (.int z)).before args s = true) : t.eval args s none [] s = some (.int z) := by
  cases hv : t.eval args s none [] s with
  | none => simp [Cond.before, Cond.holds, Cond.value, hv] at h
  | some w =>
    have hz : (Term.int z).eval args s none [] s = some (.int z) := rfl
    simp only [Cond.before, Cond.holds, Cond.value, hv, hz] at h
    cases w <;> simp_all
theorem am_len {args : Array Value} {s : State} {t : Term} {z : Nat} (hz : z < 2 ^ 31) (h : (Term.length t).eval args s none [] s = some (.int (Int32.ofNat z))) : ∃ (a : Addr) (cell : Cell), t.eval args s none [] s = some (.ref a) ∧ s.arrayAt? a = some cell ∧ cell.slots.size = z := by
  obtain ⟨a, cell, ht, harr, hv⟩ := Term.length_spec h
  have hsz : cell.slots.size < 2 ^ 31 := by
    simp only [Term.eval, ht, harr, Option.bind_eq_bind, Option.bind_some] at h
    by_cases hlt : cell.slots.size < 2147483648
    · exact hlt
    · simp [hlt] at h
  refine ⟨a, cell, ht, harr, ?_⟩
  have h9 : Int32.ofNat z = cell.slots.size.toInt32 := Value.int.inj hv
  have h8 : (Int32.ofNat z).toInt = (Int32.ofNat cell.slots.size).toInt := congrArg Int32.toInt h9
  have e1 := nI_toInt hz
  have e2 := nI_toInt hsz
  unfold nI at e1 e2
  omega
theorem am_wAt {args : Array Value} {s : State} (hts : ∀ w ∈ lw_tbl, w.before args s = true) {w : Cond} (i : Nat) (h : lw_tbl[i]? = some w) : w.before args s = true := hts w (List.mem_of_getElem? h)
theorem am_allw {args : Array Value} {s : State} (hts : ∀ w ∈ lw_tbl, w.before args s = true) {ws : List Cond} (is : List Nat) (h : ws = is.filterMap (fun i => lw_tbl[i]?)) : ∀ w ∈ ws, w.before args s = true := by
  intro w hw
  rw [h] at hw
  obtain ⟨i, -, hi⟩ := List.mem_filterMap.mp hw
  exact hts w (List.mem_of_getElem? hi)
theorem am_start {args : Array Value} {s : State} {b L : Nat} {xs : Nat → Int32} (hts : ∀ w ∈ lw_tbl, w.before args s = true) (hgv : (Jvm.Cond.and given_1 narrow_1).before args s = true) (hX : va_X b L xs s s.heap) (hb : b < s.heap.size) : ∃ (D : va_G) (cy : Nat → ClassId) (fw : Nat), am_Env s.heap.size b fw L xs s ∧ va_K D vwCl (am_tys cy) s := by
  have hs := flat_of_before _ hgv
  have hA : ∀ a : Nat, a < s.heap.size → ¬ am_A s.heap.size a := fun a h => Nat.not_le.mpr h
  -- the classes
  have H : ∀ c : Nat, ∃ (x : ClassId × (Nat → Nat)), ∀ q : vw_C, vwCl[c]? = some q → u_Kn s q.1 q.2.1 q.2.2 x.1 x.2 := by
    intro c
    match c with
    | 0 =>
      obtain ⟨cC, iS, h⟩ := u_known (C := RX0) (T := TX0) (N := 5) (n := 5) (ws := am_ws) (fun w hw => hts w (List.mem_filter.mp hw).1) am_k0 (am_wAt hts 154 (by decide +kernel))
      exact ⟨(cC, iS), fun q hq => by cases hq; exact h⟩
    | 1 =>
      obtain ⟨cC, iS, h⟩ := u_known (C := RX1) (T := TX1) (N := 3) (n := 3) (ws := am_ws) (fun w hw => hts w (List.mem_filter.mp hw).1) am_k1 (am_wAt hts 77 (by decide +kernel))
      exact ⟨(cC, iS), fun q hq => by cases hq; exact h⟩
    | 2 =>
      obtain ⟨cC, iS, h⟩ := u_known (C := RX2) (T := TX2) (N := 5) (n := 5) (ws := am_ws) (fun w hw => hts w (List.mem_filter.mp hw).1) am_k2 (am_wAt hts 101 (by decide +kernel))
      exact ⟨(cC, iS), fun q hq => by cases hq; exact h⟩
    | 3 =>
      obtain ⟨cC, iS, h⟩ := u_known (C := RX3) (T := TX3) (N := 3) (n := 3) (ws := am_ws) (fun w hw => hts w (List.mem_filter.mp hw).1) am_k3 (am_wAt hts 189 (by decide +kernel))
      exact ⟨(cC, iS), fun q hq => by cases hq; exact h⟩
    | 4 =>
      obtain ⟨cC, iS, h⟩ := u_known (C := RX4) (T := TX4) (N := 3) (n := 3) (ws := am_ws) (fun w hw => hts w (List.mem_filter.mp hw).1) am_k4 (am_wAt hts 95 (by decide +kernel))
      exact ⟨(cC, iS), fun q hq => by cases hq; exact h⟩
    | 5 =>
      obtain ⟨cC, iS, h⟩ := u_known (C := RX5) (T := TX5) (N := 2) (n := 2) (ws := am_ws) (fun w hw => hts w (List.mem_filter.mp hw).1) am_k5 (am_wAt hts 176 (by decide +kernel))
      exact ⟨(cC, iS), fun q hq => by cases hq; exact h⟩
    | 6 =>
      obtain ⟨cC, iS, h⟩ := u_known (C := RX6) (T := TX6) (N := 2) (n := 2) (ws := am_ws) (fun w hw => hts w (List.mem_filter.mp hw).1) am_k6 (am_wAt hts 211 (by decide +kernel))
      exact ⟨(cC, iS), fun q hq => by cases hq; exact h⟩
    | 7 =>
      obtain ⟨cC, iS, h⟩ := u_known (C := RX7) (T := TX7) (N := 3) (n := 3) (ws := am_ws) (fun w hw => hts w (List.mem_filter.mp hw).1) am_k7 (am_wAt hts 205 (by decide +kernel))
      exact ⟨(cC, iS), fun q hq => by cases hq; exact h⟩
    | 8 =>
      obtain ⟨cC, iS, h⟩ := u_known (C := RX8) (T := TX8) (N := 1) (n := 1) (ws := am_ws) (fun w hw => hts w (List.mem_filter.mp hw).1) am_k8 (am_wAt hts 125 (by decide +kernel))
      exact ⟨(cC, iS), fun q hq => by cases hq; exact h⟩
    | 9 =>
      obtain ⟨cC, iS, h⟩ := u_known (C := RX9) (T := TX9) (N := 6) (n := 6) (ws := am_ws) (fun w hw => hts w (List.mem_filter.mp hw).1) am_k9 (am_wAt hts 69 (by decide +kernel))
      exact ⟨(cC, iS), fun q hq => by cases hq; exact h⟩
    | 10 =>
      obtain ⟨cC, iS, h⟩ := u_known (C := RX10) (T := TX10) (N := 18) (n := 18) (ws := am_ws) (fun w hw => hts w (List.mem_filter.mp hw).1) am_k10 (am_wAt hts 812 (by decide +kernel))
      exact ⟨(cC, iS), fun q hq => by cases hq; exact h⟩
    | k + 11 => exact ⟨(0, fun _ => 0), fun q hq => by simp [vwCl] at hq⟩
  -- the arrays' classes
  obtain ⟨c0, k0, m0, i0, i1, i2⟩ := Cond.arrayClass_spec (am_wAt hts 122 (w := .arrayClass .int) (by decide +kernel))
  obtain ⟨c1, k1, m1, j0, j1, j2⟩ := Cond.arrayClass_spec (am_wAt hts 123 (w := .arrayClass .long) (by decide +kernel))
  obtain ⟨c2, k2, m2, l0, l1, l2⟩ := Cond.arrayClass_spec (am_wAt hts 872 (w := .arrayClass .boolean) (by decide +kernel))
  have hover := am_wAt hts 83 (w := .arrayOver (.object "Glosspair$SentencePair")) (by decide +kernel)
  obtain ⟨m3, c3, k3, n0, n1, n2, n3, n4⟩ := Cond.arrayOver_spec hover
  -- the first weights
  have hlen := am_eqi (hs (.eq (.length (.static "Glosspair" "FIRST_WEIGHTS" "[I")) (.int 5)) (by decide +kernel))
  obtain ⟨fw, scr, f1, f2, f3⟩ := am_len (z := 5) (by omega) hlen
  obtain ⟨f4, f5, f6, -⟩ := State.arrayAt?_spec f2
  obtain ⟨f7, -⟩ := Cond.arrayOf_spec (hs (.arrayOf (.static "Glosspair" "FIRST_WEIGHTS" "[I") .int) (by decide +kernel)) f1 f4
  have hel : ∀ j : Nat, j < 5 → scr.slots[j]? = some (.int (am_fw j)) := by
    intro j hj
    have key : ∀ (z v : Int32), (Term.elem (.static "Glosspair" "FIRST_WEIGHTS" "[I") (.int z)).eval args s none [] s = some (.int v) → scr.slots[z.toNatClampNeg]? = some (.int v) := by
      intro z v hz
      obtain ⟨a, i, cell2, h1, h2, h3, h4, h5⟩ := Term.elem_spec hz
      cases f1.symm.trans h1
      cases f2.symm.trans h3
      cases h2
      exact h5
    rcases (show j = 0 ∨ j = 1 ∨ j = 2 ∨ j = 3 ∨ j = 4 by omega) with rfl | rfl | rfl | rfl | rfl
    · exact key 0 4 (am_eqi (hs _ (by decide +kernel)))
    · exact key 1 3 (am_eqi (hs _ (by decide +kernel)))
    · exact key 2 2 (am_eqi (hs _ (by decide +kernel)))
    · exact key 3 1 (am_eqi (hs _ (by decide +kernel)))
    · exact key 4 1 (am_eqi (hs _ (by decide +kernel)))
  have hfl : fw < s.heap.size := (Array.getElem?_eq_some_iff.mp f4).1
  have hZ := va_Zof (A := am_A s.heap.size) (am_wAt hts 131 (by decide +kernel)) (am_wAt hts 48 (by decide +kernel)) f1 hA
  have hcls : s.vm.findClass "[I" = some scr.cls := by
    obtain ⟨a9, c9, cell9, k9, g1, g2, g3, -, -, g4, -⟩ := Cond.exactly_spec (hs (.exactly (.static "Glosspair" "FIRST_WEIGHTS" "[I") "[I") (by decide +kernel))
    cases f1.symm.trans g1
    cases f4.symm.trans g3
    rw [g4]
    exact g2
  have hT1 := vx_Zqof (A := am_A s.heap.size) (C := Bundle.tN) (n := "UNASSIGNED_STACK") (d := Bundle.steD) (am_wAt hts 436 (by decide +kernel)) (am_wAt hts 59 (by decide +kernel)) (hs _ (by decide +kernel)) hA
  have hT2 := vx_Zqof (A := am_A s.heap.size) (C := Bundle.tN) (n := "SUPPRESSED_SENTINEL") (d := Bundle.listD) (am_wAt hts 438 (by decide +kernel)) (am_wAt hts 59 (by decide +kernel)) (hs _ (by decide +kernel)) hA
  have hstr : ∀ q ∈ am_strs, ∃ sa, vk_R q.1 q.2.1 q.2.2 sa s := by
    have h1 : ∀ w ∈ am_strs.map (fun q => Cond.stringRef q.1 q.2.1 q.2.2), w.before args s = true := am_allw hts [450, 490, 508, 513, 534, 547, 557, 583, 592, 602, 633, 732, 733, 745, 746, 773] (by decide +kernel)
    have h2 : (am_strs.map (fun q => Cond.exactly (.string q.1 q.2.1) "java/lang/String")).all (fun w => decide (w ∈ flatC (Jvm.Cond.and given_1 narrow_1))) = true := by decide +kernel
    intro q hq
    have h3 := hs _ (of_decide_eq_true (List.all_eq_true.mp h2 _ (List.mem_map.mpr ⟨q, hq, rfl⟩)))
    obtain ⟨a9, c9, cell9, k9, g1, -⟩ := Cond.exactly_spec h3
    exact ⟨a9, vk_R.of (h1 _ (List.mem_map.mpr ⟨q, hq, rfl⟩)) g1⟩
  have hnest : ∀ q ∈ am_nests, va_Nw (.methodLinkNest q.1 q.2.1 q.2.2.1 q.2.2.2) s := by
    have h1 : ∀ w ∈ am_nests.map (fun q => Cond.methodLinkNest q.1 q.2.1 q.2.2.1 q.2.2.2), w.before args s = true := am_allw hts [78, 96, 126, 155, 177, 190, 206, 212, 713] (by decide +kernel)
    exact fun q hq => va_Nw.of rfl (h1 _ (List.mem_map.mpr ⟨q, hq, rfl⟩))
  have hcas : ∀ q ∈ am_cas, va_Nw (.castable q.1 q.2) s := by
    have h1 : ∀ w ∈ am_cas.map (fun q => Cond.castable q.1 q.2), w.before args s = true := am_allw hts [411, 483, 550, 137] (by decide +kernel)
    exact fun q hq => va_Nw.of rfl (h1 _ (List.mem_map.mpr ⟨q, hq, rfl⟩))
  have hdec : ∀ x ∈ am_decs, va_Nw (.declares x) s := by
    have h1 : ∀ w ∈ am_decs.map Cond.declares, w.before args s = true := am_allw hts [412, 413, 414, 415, 416, 417] (by decide +kernel)
    exact fun x hx => va_Nw.of rfl (h1 _ (List.mem_map.mpr ⟨x, hx, rfl⟩))
  have hnc : ∀ q ∈ am_ncs, va_Nc q.1 q.2 s := by
    have h2 : (am_ncs.map (fun q => Cond.not (.castable q.1 q.2))).all (fun w => decide (w ∈ flatC (Jvm.Cond.and given_1 narrow_1))) = true := by decide +kernel
    exact fun q hq => va_Nc.of (hs _ (of_decide_eq_true (List.all_eq_true.mp h2 _ (List.mem_map.mpr ⟨q, hq, rfl⟩))))
  refine ⟨(fun c => (Classical.choose (H c)).1, fun c => (Classical.choose (H c)).2), fun t => if t = 0 then c0 else if t = 1 then c1 else if t = 2 then c2 else c3, fw, ⟨hX, hb, ⟨scr, f4, f7, f5, f3, hel⟩, hfl, hZ, hT1, hT2, hstr, hnest, va_Nw.of rfl (am_wAt hts 130 (by decide +kernel)), hcas, hnc, va_AO.of hover, hdec, ⟨scr, f4, hcls, fun k h => by rw [h] at f6; cases f6⟩, Nat.le_refl _⟩, fun c q hq => Classical.choose_spec (H c) q hq, fun k q hq => ?_⟩
  match k, hq with
  | 0, hq => cases hq; exact ⟨fun n z => ⟨fun k h => (by cases h), k0, i1, m0, i2⟩, i0⟩
  | 1, hq => cases hq; exact ⟨fun n z => ⟨fun k h => (by cases h), k1, j1, m1, j2⟩, j0⟩
  | 2, hq => cases hq; exact ⟨fun n z => ⟨fun k h => (by cases h), k2, l1, m2, l2⟩, l0⟩
  | 3, hq => cases hq; exact ⟨fun n z => ⟨fun k h => (by cases h), k3, n2, m3, n3⟩, k3, m3, n2, n3, n0, n4⟩
  | k + 4, hq => simp [am_tys] at hq
def am_h0 (L : Nat) (xs : Nat → Int32) : Hp := fun a => if a = 0 then .inl (0, L, .inl xs) else if a = 1 then .inl (0, 5, .inl am_fw) else .inr (0, [])
theorem am_noloc {s : State} {o : Outcome} {t : State} {LL : List Loc} {mc ms : Nat} (h : FrameEnd s o t LL mc ms) (hL : ∀ q ∈ LL, am_A s.heap.size q.base) : Framed s o t [] mc ms := by
  obtain ⟨h1, h2, e1, e2, e3, e4, e5, e6⟩ := h
  refine ⟨h1, h2, e1, e2, e3, e4, e5, fun a c hc => ?_⟩
  obtain ⟨c', g1, g2, g3, g4⟩ := e6 a c hc
  refine ⟨c', g1, g2, g3, fun i _ => g4 i (fun hm => ?_)⟩
  have := hL _ hm
  have h9 : a < s.heap.size := (Array.getElem?_eq_some_iff.mp hc).1
  exact absurd this (Nat.not_le.mpr h9)
end
section
theorem law_ev : ∀ (L : Nat) (xs : Nat → Int32), L ≤ 2048 → ∃ (n' : Nat) (h' : Hp) (k q : Nat), Ev 60 ML_law 0 [(0, .ref 0)] [] 2 (am_h0 L xs) (.inl (some (.int 1)), n', h', k, q) ∧ k ≤ 601024 ∧ q ≤ 7293033 := sorry
theorem whole_start {p : Program} {e : Env} {s : State} {m : MethodId} {below : List Frame} {meth : Method} {c : Code} (l : Launch) (hflags : l.flags = flags0) {b L : Nat} {xs : Nat → Int32} (hL : L ≤ 2048) (C0 : lw_At p s m meth c b L xs) : W p l e room_1 s m #[Value.ref b] below meth c s.heap [] 0 0 (lw_Z below #[Value.ref b] s) (entryFrame m ([Value.ref b] : List Value).toArray 8) := by
  obtain ⟨hx, hb, hr, hml, hown, hts, hX, hbl, hlocks, hgv, htab⟩ := C0
  obtain ⟨D, cy, fw, hE, hK⟩ := am_start hts hgv hX hbl
  have hlf : l.stackTraces = false := by unfold Launch.stackTraces; rw [hflags]; decide +kernel
  obtain ⟨n', h', k, q, ev, hk, hq⟩ := law_ev L xs hL
  have S := ev (Snd l D cy s.heap.size b fw L xs) (am_rules hlf)
  have hl := lv_entry ([.ref b]) (n := 8) (Nat.le_of_ble_eq_true rfl)
  rw [lg_entry_eq]
  generalize (lg_sl ([.ref b]) ++ List.replicate (8 - (lg_sl ([.ref b])).length) Slot.unset).toArray = la at hl ⊢
  have ab : am_Ab L xs 2 (am_h0 L xs) [(0, .ref 0)] [] := by
    refine ⟨Nat.le_refl _, fun k hk => ?_, fun q hq => ?_, fun v hv => (by cases hv), rfl, rfl⟩
    · rcases (show k = 0 ∨ k = 1 by omega) with rfl | rfl <;> trivial
    · rcases List.mem_cons.mp hq with rfl | hq
      · exact Nat.lt_of_lt_of_le Nat.zero_lt_one (Nat.le_succ 1)
      · cases hq
  have w0 : wl cy (fun k => if k = 0 then b else fw) (am_h0 L xs) 2 = [] := rfl
  have K := (S ab).2 p e room_1 s m #[Value.ref b] below meth c 2 (fun k => if k = 0 then b else fw) ⟨hx, hb, hr, hml, hown, fun w hw => hts w (List.mem_filter.mp hw).1, hlocks, fun h9 => absurd h9 (by decide), htab, by show 12 + 60 ≤ 2048; omega, by show 300 + 64 * 60 ≤ 84000; omega, hK, hE⟩ s.heap [] 0 0 la (fun k => if k = 0 then b else fw)
    ⟨by rw [w0]; exact fun k q h => by simp at h, by rw [w0]; exact ⟨fun i j p q h => by simp at h, fun k q h => by simp at h⟩, va_S.rf, ⟨rfl, rfl⟩, Nat.le_refl _, fun _ _ => rfl, hl⟩ (by show 0 + k ≤ 601024; omega) (by show 0 + q ≤ 7293033; omega)
  intro T hT X
  obtain ⟨t, st, o, r1, r2, ⟨⟨ad', -, ho, -⟩, -⟩, LL, r3, r4⟩ := K T hT X
  exact ⟨t, st, o, r1, r2, ho, am_noloc r3 r4⟩
set_option maxHeartbeats 4000000 in
theorem lw_walk (l : Launch) (hflags : l.flags = flags0) (b : Addr) (xs : List Int32) : MetFree l x (headSpec (Jvm.Cond.code x code maxLocals ret :: tables_1) room_1) (lw_P b xs) (fun _ _ _ _ _ => True) lw_Q := by
  refine MetFree.of_bodyS (code := code) (maxLocals := maxLocals) (ret := ret) (by decide) ?_ ?_
  · intro args s m h hn
    obtain ⟨meth, c, h1, h2, h3, h4, h5, h6, -, -⟩ := Cond.code_spec hn (atoms_spec (ws := Jvm.Cond.code x code maxLocals ret :: tables_1) h _ List.mem_cons_self)
    exact ⟨meth, c, h1, h2, h3, h4, h5, h6⟩
  · intro p e s m args below meth c s₁ B hml0 hP _
    obtain ⟨rfl, hx, hbd, hgv⟩ := hP
    obtain ⟨scr, harrAt, hlist, hof, hsmall⟩ := hx
    obtain ⟨hcb, hkn, -, -⟩ := State.arrayAt?_spec harrAt
    have hown : s.vm.findClass R_law = some m.cls := findClass_of_methodNamed B.named
    have hts0 : ∀ c ∈ (Jvm.Cond.code x code maxLocals ret :: tables_1), c.before #[Value.ref b] s = true := atoms_spec (ws := Jvm.Cond.code x code maxLocals ret :: tables_1) B.pre
    have hts : ∀ w ∈ lw_tbl, w.before #[Value.ref b] s = true := k2_hts_sels lw_privs (fun w hw => hts0 w (List.mem_cons_of_mem _ hw)) lw_privs_ok
    have hml : c.maxLocals = 8 := B.maxLocals_eq (hts0 _ List.mem_cons_self)
    have X₀ : Stand p l e room_1 s m #[Value.ref b] below meth c s₁ [] 0 0 := Stand.of_body B
    have hh0 : s₁.heap = s.heap := by rw [B.state]; rfl
    have hsz : scr.slots.size = xs.length := by rw [← Array.length_toList, hlist, List.length_map]
    have hval : ∀ j : Nat, j < xs.length → scr.slots[j]? = some (.int (xs.getD j 0)) := fun j hj => by
      rw [← Array.getElem?_toList, hlist]
      simp [hj]
    have hbl : b < s.heap.size := (Array.getElem?_eq_some_iff.mp hcb).1
    have hX : va_X b xs.length (fun j => xs.getD j 0) s s.heap := ⟨scr, hcb, hof, hkn, hsz, hval⟩
    have K : W p l e room_1 s m #[Value.ref b] below meth c s₁.heap [] 0 0 (lw_Z below #[Value.ref b] s) (entryFrame m ([Value.ref b] : List Value).toArray 8) := by
      rw [hh0]
      exact whole_start l hflags hbd ⟨B.exec, B.bytes, B.returns, hml, hown, hts, hX, hbl, B.notSynchronized, hgv, by
        obtain ⟨meth9, c9, e1, e2, -, -, -, -, e7, -⟩ := Cond.code_spec B.named (hts0 _ List.mem_cons_self)
        cases Option.some.inj (e1.symm.trans B.method)
        cases Option.some.inj (e2.symm.trans X₀.code)
        rw [Array.isEmpty_iff.mp e7]⟩
    obtain ⟨t, a1, o, b1, b2, b3⟩ := K s₁ rfl X₀
    exact ⟨t, o, a1, b1, b2, b3⟩
theorem lw_pre_spec {args : Array Value} {s : State} (h : (Jvm.Cond.and given_1 narrow_1).before args s = true) (hr : rest_1_c.before args s = true) : ∃ (b : Addr) (xs : List Int32), lw_P b xs args s := by
  have hs := flat_of_before _ h
  have hq := flat_of_before _ hr
  have hc : (Cond.count 1).before args s = true := hs _ (by decide +kernel)
  have harr : (Cond.arrayOf (.arg 0) .int).before args s = true := hs _ (by decide +kernel)
  have hle : (Cond.le (.length (.arg 0)) (.int 2048)).before args s = true := hs _ (by decide +kernel)
  have hlen : (Cond.isInt (.length (.arg 0))).before args s = true := hq _ (by decide +kernel)
  have hall : (Cond.all (.arg 0) (.isInt (.elem (.arg 0) (.index 0)))).before args s = true := hq _ (by decide +kernel)
  obtain ⟨b, xs, hb, hx⟩ := State.ints_of_pre rfl harr hlen hall
  have hsm : xs.length < 2 ^ 31 := hx.choose_spec.2.2.2
  have hev : (Term.length (.arg 0)).eval args s none [] s = some (.int xs.length.toInt32) := hx.length_eval hb
  have hv := Cond.le_ints hev (show (Term.int 2048).eval args s none [] s = some (.int 2048) from rfl)
  have hd : xs.length.toInt32 ≤ 2048 := by
    simpa [Cond.before, Cond.holds, hv] using hle
  have hN : xs.length ≤ 2048 := (Int32.ofNat_le_ofNat hsm (by decide)).mp (show Int32.ofNat xs.length ≤ Int32.ofNat 2048 from hd)
  exact ⟨b, xs, Cond.one_arg hc (show args[0]? = some (.ref b) from hb), hx, hN, h⟩
theorem lw_comes (l : Launch) (hflags : l.flags = flags0) : Comes l x (Jvm.Cond.code x code maxLocals ret :: tables_1) room_1 (fun tb e args s => Calls_1 tb e args s ∧ rest_1 tb e args s ∧ Pre_1 tb e args s)
    (fun _ _ args s o t => lw_Q args s o t) := by
  intro p e ha hc hk s m args below hf hfit hheap happ hpre
  obtain ⟨b, xs, hP⟩ := lw_pre_spec hpre.2.2 hpre.2.1
  obtain ⟨k, o, h1, h2, h3, hQ⟩ := lw_walk l hflags b xs p e ha hc hk s m args below hf ((Spec.applies_iff_loose hf).mp happ).1 hP trivial
  exact ⟨k, o, h1, h2, h3, hQ⟩
theorem lw_frame {s t : State} {o : Outcome} {args : Array Value} (h : Framed s o t [] 601024 7293033) :
    Framed s o t (fieldLocs frame_1_writes args s ++ arrayLocs frame_1_arrays args s ++ staticLocs frame_1_statics s) 601024 7293033 := h
theorem lw_limb (L : Cond) (hL : ∀ (args : Array Value) (s t : State), L.after args s (.returned (some (.int 1))) t = true) :
    ArmFor flags0 classFile x code maxLocals ret World_1 tables_1 room_1 Calls_1 rest_1 Pre_1
      (fun tb e a s o t => postC L tb e a s o t ∧ Framed s o t (fieldLocs frame_1_writes a s ++ arrayLocs frame_1_arrays a s ++ staticLocs frame_1_statics s) 601024 7293033) := by
  intro l hflags _ _ p e ha hc hk s m args below hf hfit hheap happ hpre
  obtain ⟨k, o, h1, h2, h3, rfl, hF⟩ := lw_comes l hflags p e ha hc hk s m args below hf hfit hheap happ hpre
  exact ⟨k, _, h1, h2, h3, hL args s _, lw_frame hF⟩
theorem i_vc : Claimed_1_1 ∧ Claimed_1_2 := ⟨lw_limb limb_1_1 (fun args s t => by simp [limb_1_1, Cond.after, Cond.holds, Cond.value]), lw_limb limb_1_2 (fun args s t => Cond.after_iff.mpr (by
  first | (rw [show limb_1_2 = Cond.eq .result (.int 1) from rfl, Cond.eq_ints (x := 1) (y := 1) rfl rfl]; simp; done) | (simp [limb_1_2, Cond.value, Term.eval]; done)))⟩
end
