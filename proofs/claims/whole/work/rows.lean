section
-- ===== PART A: goes FIRST, ahead of the names: the tables' words, and 'selects' of the private methods out of them =====
/-- a private method of a class that the tables say can be made, by its rows of tables_1 -/
def lw_okq (q : MethodName × Nat) : Prop := (q.1.cls ≠ "java/lang/invoke/MethodHandle" ∧ q.1.cls ≠ "java/lang/invoke/VarHandle") ∧ Cond.instantiable q.1.cls q.2 ∈ tables_1 ∧ Cond.privateMethod q.1 ∈ tables_1 ∧ Cond.instanceMethod q.1 ∈ tables_1
theorem lw_p0 : lw_okq (⟨"LabelLearner$Text", "append", "(JI)Z"⟩, 3) := ⟨⟨by decide +kernel, by decide +kernel⟩, List.mem_of_getElem? (i := 25) (by decide +kernel), List.mem_of_getElem? (i := 168) (by decide +kernel), List.mem_of_getElem? (i := 169) (by decide +kernel)⟩
theorem lw_p1 : lw_okq (⟨"LabelLearner$Text", "keep", "(I)Z"⟩, 3) := ⟨⟨by decide +kernel, by decide +kernel⟩, List.mem_of_getElem? (i := 25) (by decide +kernel), List.mem_of_getElem? (i := 179) (by decide +kernel), List.mem_of_getElem? (i := 180) (by decide +kernel)⟩
theorem lw_p2 : lw_okq (⟨"LabelLearner", "weightsOrTotals", "(Z)LLabelLearner$Weights;"⟩, 12) := ⟨⟨by decide +kernel, by decide +kernel⟩, List.mem_of_getElem? (i := 17) (by decide +kernel), List.mem_of_getElem? (i := 199) (by decide +kernel), List.mem_of_getElem? (i := 200) (by decide +kernel)⟩
theorem lw_p3 : lw_okq (⟨"LabelLearner$Decoder", "rank", "(LLabelLearner$Sentence;LLabelLearner$Weights;)LLabelLearner$Ranking;"⟩, 2) := ⟨⟨by decide +kernel, by decide +kernel⟩, List.mem_of_getElem? (i := 42) (by decide +kernel), List.mem_of_getElem? (i := 203) (by decide +kernel), List.mem_of_getElem? (i := 204) (by decide +kernel)⟩
theorem lw_p4 : lw_okq (⟨"LabelLearner$Decoder", "rankTails", "(LLabelLearner$Sentence;LLabelLearner$Weights;II)V"⟩, 2) := ⟨⟨by decide +kernel, by decide +kernel⟩, List.mem_of_getElem? (i := 42) (by decide +kernel), List.mem_of_getElem? (i := 207) (by decide +kernel), List.mem_of_getElem? (i := 208) (by decide +kernel)⟩
theorem lw_p5 : lw_okq (⟨"LabelLearner$Decoder", "tailsFrom", "(II)LLabelLearner$Ranking;"⟩, 2) := ⟨⟨by decide +kernel, by decide +kernel⟩, List.mem_of_getElem? (i := 42) (by decide +kernel), List.mem_of_getElem? (i := 211) (by decide +kernel), List.mem_of_getElem? (i := 212) (by decide +kernel)⟩
theorem lw_p6 : lw_okq (⟨"LabelLearner$Weights", "ofWord", "(LLabelLearner$Sentence;II)J"⟩, 1) := ⟨⟨by decide +kernel, by decide +kernel⟩, List.mem_of_getElem? (i := 76) (by decide +kernel), List.mem_of_getElem? (i := 215) (by decide +kernel), List.mem_of_getElem? (i := 216) (by decide +kernel)⟩
theorem lw_p7 : lw_okq (⟨"LabelLearner$Sentence", "bucketOf", "(II)I"⟩, 3) := ⟨⟨by decide +kernel, by decide +kernel⟩, List.mem_of_getElem? (i := 93) (by decide +kernel), List.mem_of_getElem? (i := 219) (by decide +kernel), List.mem_of_getElem? (i := 220) (by decide +kernel)⟩
theorem lw_p8 : lw_okq (⟨"LabelLearner$Weights", "at", "(II)J"⟩, 1) := ⟨⟨by decide +kernel, by decide +kernel⟩, List.mem_of_getElem? (i := 76) (by decide +kernel), List.mem_of_getElem? (i := 223) (by decide +kernel), List.mem_of_getElem? (i := 224) (by decide +kernel)⟩
theorem lw_p9 : lw_okq (⟨"LabelLearner$Ranking", "clear", "()V"⟩, 3) := ⟨⟨by decide +kernel, by decide +kernel⟩, List.mem_of_getElem? (i := 49) (by decide +kernel), List.mem_of_getElem? (i := 227) (by decide +kernel), List.mem_of_getElem? (i := 228) (by decide +kernel)⟩
theorem lw_p10 : lw_okq (⟨"LabelLearner$Ranking", "offer", "(JI)V"⟩, 3) := ⟨⟨by decide +kernel, by decide +kernel⟩, List.mem_of_getElem? (i := 49) (by decide +kernel), List.mem_of_getElem? (i := 231) (by decide +kernel), List.mem_of_getElem? (i := 232) (by decide +kernel)⟩
theorem lw_p11 : lw_okq (⟨"LabelLearner$Ranking", "offerLonger", "(LLabelLearner$Ranking;JI)V"⟩, 3) := ⟨⟨by decide +kernel, by decide +kernel⟩, List.mem_of_getElem? (i := 49) (by decide +kernel), List.mem_of_getElem? (i := 236) (by decide +kernel), List.mem_of_getElem? (i := 237) (by decide +kernel)⟩
theorem lw_p12 : lw_okq (⟨"LabelLearner$Text", "readCorpus", "(LLabelLearner$Corpus;)Z"⟩, 3) := ⟨⟨by decide +kernel, by decide +kernel⟩, List.mem_of_getElem? (i := 25) (by decide +kernel), List.mem_of_getElem? (i := 255) (by decide +kernel), List.mem_of_getElem? (i := 256) (by decide +kernel)⟩
theorem lw_p13 : lw_okq (⟨"LabelLearner$Text", "readSentence", "(LLabelLearner$Sentence;Z)Z"⟩, 3) := ⟨⟨by decide +kernel, by decide +kernel⟩, List.mem_of_getElem? (i := 25) (by decide +kernel), List.mem_of_getElem? (i := 259) (by decide +kernel), List.mem_of_getElem? (i := 260) (by decide +kernel)⟩
theorem lw_p14 : lw_okq (⟨"LabelLearner$Sentence", "clear", "()V"⟩, 3) := ⟨⟨by decide +kernel, by decide +kernel⟩, List.mem_of_getElem? (i := 93) (by decide +kernel), List.mem_of_getElem? (i := 263) (by decide +kernel), List.mem_of_getElem? (i := 264) (by decide +kernel)⟩
theorem lw_p15 : lw_okq (⟨"LabelLearner$Text", "skipSpaces", "()Z"⟩, 3) := ⟨⟨by decide +kernel, by decide +kernel⟩, List.mem_of_getElem? (i := 25) (by decide +kernel), List.mem_of_getElem? (i := 267) (by decide +kernel), List.mem_of_getElem? (i := 268) (by decide +kernel)⟩
def lw_privs_1 : List (MethodName × Nat) := [(⟨"LabelLearner$Text", "append", "(JI)Z"⟩, 3), (⟨"LabelLearner$Text", "keep", "(I)Z"⟩, 3), (⟨"LabelLearner", "weightsOrTotals", "(Z)LLabelLearner$Weights;"⟩, 12), (⟨"LabelLearner$Decoder", "rank", "(LLabelLearner$Sentence;LLabelLearner$Weights;)LLabelLearner$Ranking;"⟩, 2), (⟨"LabelLearner$Decoder", "rankTails", "(LLabelLearner$Sentence;LLabelLearner$Weights;II)V"⟩, 2), (⟨"LabelLearner$Decoder", "tailsFrom", "(II)LLabelLearner$Ranking;"⟩, 2), (⟨"LabelLearner$Weights", "ofWord", "(LLabelLearner$Sentence;II)J"⟩, 1), (⟨"LabelLearner$Sentence", "bucketOf", "(II)I"⟩, 3), (⟨"LabelLearner$Weights", "at", "(II)J"⟩, 1), (⟨"LabelLearner$Ranking", "clear", "()V"⟩, 3), (⟨"LabelLearner$Ranking", "offer", "(JI)V"⟩, 3), (⟨"LabelLearner$Ranking", "offerLonger", "(LLabelLearner$Ranking;JI)V"⟩, 3), (⟨"LabelLearner$Text", "readCorpus", "(LLabelLearner$Corpus;)Z"⟩, 3), (⟨"LabelLearner$Text", "readSentence", "(LLabelLearner$Sentence;Z)Z"⟩, 3), (⟨"LabelLearner$Sentence", "clear", "()V"⟩, 3), (⟨"LabelLearner$Text", "skipSpaces", "()Z"⟩, 3)]
theorem lw_r1 : ∀ q ∈ lw_privs_1, lw_okq q := List.forall_mem_cons.mpr ⟨lw_p0, List.forall_mem_cons.mpr ⟨lw_p1, List.forall_mem_cons.mpr ⟨lw_p2, List.forall_mem_cons.mpr ⟨lw_p3, List.forall_mem_cons.mpr ⟨lw_p4, List.forall_mem_cons.mpr ⟨lw_p5, List.forall_mem_cons.mpr ⟨lw_p6, List.forall_mem_cons.mpr ⟨lw_p7, List.forall_mem_cons.mpr ⟨lw_p8, List.forall_mem_cons.mpr ⟨lw_p9, List.forall_mem_cons.mpr ⟨lw_p10, List.forall_mem_cons.mpr ⟨lw_p11, List.forall_mem_cons.mpr ⟨lw_p12, List.forall_mem_cons.mpr ⟨lw_p13, List.forall_mem_cons.mpr ⟨lw_p14, List.forall_mem_cons.mpr ⟨lw_p15, fun _ h => absurd h List.not_mem_nil⟩⟩⟩⟩⟩⟩⟩⟩⟩⟩⟩⟩⟩⟩⟩⟩
theorem lw_p16 : lw_okq (⟨"LabelLearner$Text", "current", "()I"⟩, 3) := ⟨⟨by decide +kernel, by decide +kernel⟩, List.mem_of_getElem? (i := 25) (by decide +kernel), List.mem_of_getElem? (i := 271) (by decide +kernel), List.mem_of_getElem? (i := 272) (by decide +kernel)⟩
theorem lw_p17 : lw_okq (⟨"LabelLearner$Text", "skipLetters", "()V"⟩, 3) := ⟨⟨by decide +kernel, by decide +kernel⟩, List.mem_of_getElem? (i := 25) (by decide +kernel), List.mem_of_getElem? (i := 278) (by decide +kernel), List.mem_of_getElem? (i := 279) (by decide +kernel)⟩
theorem lw_p18 : lw_okq (⟨"LabelLearner$Text", "setFeatures", "(LLabelLearner$Sentence;III)V"⟩, 3) := ⟨⟨by decide +kernel, by decide +kernel⟩, List.mem_of_getElem? (i := 25) (by decide +kernel), List.mem_of_getElem? (i := 282) (by decide +kernel), List.mem_of_getElem? (i := 283) (by decide +kernel)⟩
theorem lw_p19 : lw_okq (⟨"LabelLearner$Text", "hash", "(III)I"⟩, 3) := ⟨⟨by decide +kernel, by decide +kernel⟩, List.mem_of_getElem? (i := 25) (by decide +kernel), List.mem_of_getElem? (i := 289) (by decide +kernel), List.mem_of_getElem? (i := 290) (by decide +kernel)⟩
theorem lw_p20 : lw_okq (⟨"LabelLearner$Sentence", "setBucket", "(III)V"⟩, 3) := ⟨⟨by decide +kernel, by decide +kernel⟩, List.mem_of_getElem? (i := 93) (by decide +kernel), List.mem_of_getElem? (i := 299) (by decide +kernel), List.mem_of_getElem? (i := 300) (by decide +kernel)⟩
theorem lw_p21 : lw_okq (⟨"LabelLearner$Text", "readLabel", "(LLabelLearner$Sentence;)Z"⟩, 3) := ⟨⟨by decide +kernel, by decide +kernel⟩, List.mem_of_getElem? (i := 25) (by decide +kernel), List.mem_of_getElem? (i := 303) (by decide +kernel), List.mem_of_getElem? (i := 304) (by decide +kernel)⟩
theorem lw_p22 : lw_okq (⟨"LabelLearner$Text", "take", "(C)Z"⟩, 3) := ⟨⟨by decide +kernel, by decide +kernel⟩, List.mem_of_getElem? (i := 25) (by decide +kernel), List.mem_of_getElem? (i := 307) (by decide +kernel), List.mem_of_getElem? (i := 308) (by decide +kernel)⟩
theorem lw_p23 : lw_okq (⟨"java/lang/Throwable", "fillInStackTrace", "(I)Ljava/lang/Throwable;"⟩, 6) := ⟨⟨by decide +kernel, by decide +kernel⟩, List.mem_of_getElem? (i := 349) (by decide +kernel), List.mem_of_getElem? (i := 347) (by decide +kernel), List.mem_of_getElem? (i := 348) (by decide +kernel)⟩
theorem lw_p24 : lw_okq (⟨"LabelLearner$Weights", "clear", "()V"⟩, 1) := ⟨⟨by decide +kernel, by decide +kernel⟩, List.mem_of_getElem? (i := 76) (by decide +kernel), List.mem_of_getElem? (i := 379) (by decide +kernel), List.mem_of_getElem? (i := 380) (by decide +kernel)⟩
theorem lw_p25 : lw_okq (⟨"LabelLearner", "forgetDecoding", "()V"⟩, 12) := ⟨⟨by decide +kernel, by decide +kernel⟩, List.mem_of_getElem? (i := 17) (by decide +kernel), List.mem_of_getElem? (i := 383) (by decide +kernel), List.mem_of_getElem? (i := 384) (by decide +kernel)⟩
theorem lw_p26 : lw_okq (⟨"LabelLearner$Text", "readSpeech", "(LLabelLearner$Sentence;)Z"⟩, 3) := ⟨⟨by decide +kernel, by decide +kernel⟩, List.mem_of_getElem? (i := 25) (by decide +kernel), List.mem_of_getElem? (i := 394) (by decide +kernel), List.mem_of_getElem? (i := 395) (by decide +kernel)⟩
theorem lw_p27 : lw_okq (⟨"LabelLearner", "sentenceNumbered", "(I)LLabelLearner$Sentence;"⟩, 12) := ⟨⟨by decide +kernel, by decide +kernel⟩, List.mem_of_getElem? (i := 17) (by decide +kernel), List.mem_of_getElem? (i := 407) (by decide +kernel), List.mem_of_getElem? (i := 408) (by decide +kernel)⟩
theorem lw_p28 : lw_okq (⟨"LabelLearner", "learnCorpus", "()I"⟩, 12) := ⟨⟨by decide +kernel, by decide +kernel⟩, List.mem_of_getElem? (i := 17) (by decide +kernel), List.mem_of_getElem? (i := 473) (by decide +kernel), List.mem_of_getElem? (i := 474) (by decide +kernel)⟩
theorem lw_p29 : lw_okq (⟨"LabelLearner", "learnSentence", "(LLabelLearner$Sentence;)Z"⟩, 12) := ⟨⟨by decide +kernel, by decide +kernel⟩, List.mem_of_getElem? (i := 17) (by decide +kernel), List.mem_of_getElem? (i := 477) (by decide +kernel), List.mem_of_getElem? (i := 478) (by decide +kernel)⟩
theorem lw_p30 : lw_okq (⟨"LabelLearner$Weights", "change", "(LLabelLearner$Sentence;IJ)V"⟩, 1) := ⟨⟨by decide +kernel, by decide +kernel⟩, List.mem_of_getElem? (i := 76) (by decide +kernel), List.mem_of_getElem? (i := 481) (by decide +kernel), List.mem_of_getElem? (i := 482) (by decide +kernel)⟩
theorem lw_p31 : lw_okq (⟨"LabelLearner$Weights", "add", "(IIJ)V"⟩, 1) := ⟨⟨by decide +kernel, by decide +kernel⟩, List.mem_of_getElem? (i := 76) (by decide +kernel), List.mem_of_getElem? (i := 486) (by decide +kernel), List.mem_of_getElem? (i := 487) (by decide +kernel)⟩
def lw_privs_2 : List (MethodName × Nat) := [(⟨"LabelLearner$Text", "current", "()I"⟩, 3), (⟨"LabelLearner$Text", "skipLetters", "()V"⟩, 3), (⟨"LabelLearner$Text", "setFeatures", "(LLabelLearner$Sentence;III)V"⟩, 3), (⟨"LabelLearner$Text", "hash", "(III)I"⟩, 3), (⟨"LabelLearner$Sentence", "setBucket", "(III)V"⟩, 3), (⟨"LabelLearner$Text", "readLabel", "(LLabelLearner$Sentence;)Z"⟩, 3), (⟨"LabelLearner$Text", "take", "(C)Z"⟩, 3), (⟨"java/lang/Throwable", "fillInStackTrace", "(I)Ljava/lang/Throwable;"⟩, 6), (⟨"LabelLearner$Weights", "clear", "()V"⟩, 1), (⟨"LabelLearner", "forgetDecoding", "()V"⟩, 12), (⟨"LabelLearner$Text", "readSpeech", "(LLabelLearner$Sentence;)Z"⟩, 3), (⟨"LabelLearner", "sentenceNumbered", "(I)LLabelLearner$Sentence;"⟩, 12), (⟨"LabelLearner", "learnCorpus", "()I"⟩, 12), (⟨"LabelLearner", "learnSentence", "(LLabelLearner$Sentence;)Z"⟩, 12), (⟨"LabelLearner$Weights", "change", "(LLabelLearner$Sentence;IJ)V"⟩, 1), (⟨"LabelLearner$Weights", "add", "(IIJ)V"⟩, 1)]
theorem lw_r2 : ∀ q ∈ lw_privs_2, lw_okq q := List.forall_mem_cons.mpr ⟨lw_p16, List.forall_mem_cons.mpr ⟨lw_p17, List.forall_mem_cons.mpr ⟨lw_p18, List.forall_mem_cons.mpr ⟨lw_p19, List.forall_mem_cons.mpr ⟨lw_p20, List.forall_mem_cons.mpr ⟨lw_p21, List.forall_mem_cons.mpr ⟨lw_p22, List.forall_mem_cons.mpr ⟨lw_p23, List.forall_mem_cons.mpr ⟨lw_p24, List.forall_mem_cons.mpr ⟨lw_p25, List.forall_mem_cons.mpr ⟨lw_p26, List.forall_mem_cons.mpr ⟨lw_p27, List.forall_mem_cons.mpr ⟨lw_p28, List.forall_mem_cons.mpr ⟨lw_p29, List.forall_mem_cons.mpr ⟨lw_p30, List.forall_mem_cons.mpr ⟨lw_p31, fun _ h => absurd h List.not_mem_nil⟩⟩⟩⟩⟩⟩⟩⟩⟩⟩⟩⟩⟩⟩⟩⟩
theorem lw_p32 : lw_okq (⟨"LabelLearner$Weights", "addAll", "(LLabelLearner$Weights;)V"⟩, 1) := ⟨⟨by decide +kernel, by decide +kernel⟩, List.mem_of_getElem? (i := 76) (by decide +kernel), List.mem_of_getElem? (i := 491) (by decide +kernel), List.mem_of_getElem? (i := 492) (by decide +kernel)⟩
theorem lw_p33 : lw_okq (⟨"LabelLearner$Weights", "sum", "(LLabelLearner$Sentence;I)J"⟩, 1) := ⟨⟨by decide +kernel, by decide +kernel⟩, List.mem_of_getElem? (i := 76) (by decide +kernel), List.mem_of_getElem? (i := 525) (by decide +kernel), List.mem_of_getElem? (i := 526) (by decide +kernel)⟩
theorem lw_p34 : lw_okq (⟨"LabelLearnerModel", "readSentence", "(IIZ)I"⟩, 24) := ⟨⟨by decide +kernel, by decide +kernel⟩, List.mem_of_getElem? (i := 530) (by decide +kernel), List.mem_of_getElem? (i := 629) (by decide +kernel), List.mem_of_getElem? (i := 630) (by decide +kernel)⟩
theorem lw_p35 : lw_okq (⟨"LabelLearnerModel", "skip", "(I)I"⟩, 24) := ⟨⟨by decide +kernel, by decide +kernel⟩, List.mem_of_getElem? (i := 530) (by decide +kernel), List.mem_of_getElem? (i := 633) (by decide +kernel), List.mem_of_getElem? (i := 634) (by decide +kernel)⟩
theorem lw_p36 : lw_okq (⟨"LabelLearnerModel", "is", "(II)Z"⟩, 24) := ⟨⟨by decide +kernel, by decide +kernel⟩, List.mem_of_getElem? (i := 530) (by decide +kernel), List.mem_of_getElem? (i := 637) (by decide +kernel), List.mem_of_getElem? (i := 638) (by decide +kernel)⟩
theorem lw_p37 : lw_okq (⟨"LabelLearnerModel", "isLetter", "(I)Z"⟩, 24) := ⟨⟨by decide +kernel, by decide +kernel⟩, List.mem_of_getElem? (i := 530) (by decide +kernel), List.mem_of_getElem? (i := 641) (by decide +kernel), List.mem_of_getElem? (i := 642) (by decide +kernel)⟩
theorem lw_p38 : lw_okq (⟨"LabelLearnerModel", "hash", "(III)I"⟩, 24) := ⟨⟨by decide +kernel, by decide +kernel⟩, List.mem_of_getElem? (i := 530) (by decide +kernel), List.mem_of_getElem? (i := 645) (by decide +kernel), List.mem_of_getElem? (i := 646) (by decide +kernel)⟩
theorem lw_p39 : lw_okq (⟨"LabelLearnerModel", "take", "(I)V"⟩, 24) := ⟨⟨by decide +kernel, by decide +kernel⟩, List.mem_of_getElem? (i := 530) (by decide +kernel), List.mem_of_getElem? (i := 652) (by decide +kernel), List.mem_of_getElem? (i := 653) (by decide +kernel)⟩
theorem lw_p40 : lw_okq (⟨"LabelLearnerModel", "place", "(I)I"⟩, 24) := ⟨⟨by decide +kernel, by decide +kernel⟩, List.mem_of_getElem? (i := 530) (by decide +kernel), List.mem_of_getElem? (i := 668) (by decide +kernel), List.mem_of_getElem? (i := 669) (by decide +kernel)⟩
theorem lw_p41 : lw_okq (⟨"LabelLearnerModel", "wordsOf", "(I)I"⟩, 24) := ⟨⟨by decide +kernel, by decide +kernel⟩, List.mem_of_getElem? (i := 530) (by decide +kernel), List.mem_of_getElem? (i := 672) (by decide +kernel), List.mem_of_getElem? (i := 673) (by decide +kernel)⟩
theorem lw_p42 : lw_okq (⟨"LabelLearnerModel", "onePass", "()I"⟩, 24) := ⟨⟨by decide +kernel, by decide +kernel⟩, List.mem_of_getElem? (i := 530) (by decide +kernel), List.mem_of_getElem? (i := 688) (by decide +kernel), List.mem_of_getElem? (i := 689) (by decide +kernel)⟩
theorem lw_p43 : lw_okq (⟨"LabelLearnerModel", "search", "(I[J)V"⟩, 24) := ⟨⟨by decide +kernel, by decide +kernel⟩, List.mem_of_getElem? (i := 530) (by decide +kernel), List.mem_of_getElem? (i := 692) (by decide +kernel), List.mem_of_getElem? (i := 693) (by decide +kernel)⟩
theorem lw_p44 : lw_okq (⟨"LabelLearnerModel", "prepare", "(I[J)V"⟩, 24) := ⟨⟨by decide +kernel, by decide +kernel⟩, List.mem_of_getElem? (i := 530) (by decide +kernel), List.mem_of_getElem? (i := 696) (by decide +kernel), List.mem_of_getElem? (i := 697) (by decide +kernel)⟩
theorem lw_p45 : lw_okq (⟨"LabelLearnerModel", "sumFrom", "(II[J)V"⟩, 24) := ⟨⟨by decide +kernel, by decide +kernel⟩, List.mem_of_getElem? (i := 530) (by decide +kernel), List.mem_of_getElem? (i := 703) (by decide +kernel), List.mem_of_getElem? (i := 704) (by decide +kernel)⟩
theorem lw_p46 : lw_okq (⟨"LabelLearnerModel", "packed", "(I)I"⟩, 24) := ⟨⟨by decide +kernel, by decide +kernel⟩, List.mem_of_getElem? (i := 530) (by decide +kernel), List.mem_of_getElem? (i := 707) (by decide +kernel), List.mem_of_getElem? (i := 708) (by decide +kernel)⟩
theorem lw_p47 : lw_okq (⟨"LabelLearnerModel", "givenRow", "(I)I"⟩, 24) := ⟨⟨by decide +kernel, by decide +kernel⟩, List.mem_of_getElem? (i := 530) (by decide +kernel), List.mem_of_getElem? (i := 711) (by decide +kernel), List.mem_of_getElem? (i := 712) (by decide +kernel)⟩
def lw_privs_3 : List (MethodName × Nat) := [(⟨"LabelLearner$Weights", "addAll", "(LLabelLearner$Weights;)V"⟩, 1), (⟨"LabelLearner$Weights", "sum", "(LLabelLearner$Sentence;I)J"⟩, 1), (⟨"LabelLearnerModel", "readSentence", "(IIZ)I"⟩, 24), (⟨"LabelLearnerModel", "skip", "(I)I"⟩, 24), (⟨"LabelLearnerModel", "is", "(II)Z"⟩, 24), (⟨"LabelLearnerModel", "isLetter", "(I)Z"⟩, 24), (⟨"LabelLearnerModel", "hash", "(III)I"⟩, 24), (⟨"LabelLearnerModel", "take", "(I)V"⟩, 24), (⟨"LabelLearnerModel", "place", "(I)I"⟩, 24), (⟨"LabelLearnerModel", "wordsOf", "(I)I"⟩, 24), (⟨"LabelLearnerModel", "onePass", "()I"⟩, 24), (⟨"LabelLearnerModel", "search", "(I[J)V"⟩, 24), (⟨"LabelLearnerModel", "prepare", "(I[J)V"⟩, 24), (⟨"LabelLearnerModel", "sumFrom", "(II[J)V"⟩, 24), (⟨"LabelLearnerModel", "packed", "(I)I"⟩, 24), (⟨"LabelLearnerModel", "givenRow", "(I)I"⟩, 24)]
theorem lw_r3 : ∀ q ∈ lw_privs_3, lw_okq q := List.forall_mem_cons.mpr ⟨lw_p32, List.forall_mem_cons.mpr ⟨lw_p33, List.forall_mem_cons.mpr ⟨lw_p34, List.forall_mem_cons.mpr ⟨lw_p35, List.forall_mem_cons.mpr ⟨lw_p36, List.forall_mem_cons.mpr ⟨lw_p37, List.forall_mem_cons.mpr ⟨lw_p38, List.forall_mem_cons.mpr ⟨lw_p39, List.forall_mem_cons.mpr ⟨lw_p40, List.forall_mem_cons.mpr ⟨lw_p41, List.forall_mem_cons.mpr ⟨lw_p42, List.forall_mem_cons.mpr ⟨lw_p43, List.forall_mem_cons.mpr ⟨lw_p44, List.forall_mem_cons.mpr ⟨lw_p45, List.forall_mem_cons.mpr ⟨lw_p46, List.forall_mem_cons.mpr ⟨lw_p47, fun _ h => absurd h List.not_mem_nil⟩⟩⟩⟩⟩⟩⟩⟩⟩⟩⟩⟩⟩⟩⟩⟩
theorem lw_p48 : lw_okq (⟨"LabelLearnerModel", "mend", "(III)V"⟩, 24) := ⟨⟨by decide +kernel, by decide +kernel⟩, List.mem_of_getElem? (i := 530) (by decide +kernel), List.mem_of_getElem? (i := 715) (by decide +kernel), List.mem_of_getElem? (i := 716) (by decide +kernel)⟩
theorem lw_p49 : lw_okq (⟨"LabelLearnerModel", "searchBy", "(IZ)V"⟩, 24) := ⟨⟨by decide +kernel, by decide +kernel⟩, List.mem_of_getElem? (i := 530) (by decide +kernel), List.mem_of_getElem? (i := 735) (by decide +kernel), List.mem_of_getElem? (i := 736) (by decide +kernel)⟩
def lw_privs_4 : List (MethodName × Nat) := [(⟨"LabelLearnerModel", "mend", "(III)V"⟩, 24), (⟨"LabelLearnerModel", "searchBy", "(IZ)V"⟩, 24)]
theorem lw_r4 : ∀ q ∈ lw_privs_4, lw_okq q := List.forall_mem_cons.mpr ⟨lw_p48, List.forall_mem_cons.mpr ⟨lw_p49, fun _ h => absurd h List.not_mem_nil⟩⟩
def lw_privs : List (MethodName × Nat) := lw_privs_1 ++ (lw_privs_2 ++ (lw_privs_3 ++ (lw_privs_4)))
def lw_tbl : List Cond := k2_sels lw_privs ++ tables_1
theorem lw_privs_ok : ∀ q ∈ lw_privs, lw_okq q := by
  show ∀ q ∈ lw_privs_1 ++ (lw_privs_2 ++ (lw_privs_3 ++ (lw_privs_4))), lw_okq q
  exact List.forall_mem_append.mpr ⟨lw_r1, List.forall_mem_append.mpr ⟨lw_r2, List.forall_mem_append.mpr ⟨lw_r3, lw_r4⟩⟩⟩
-- ===== end of PART A; then your names; then what follows =====
end
section
def nR_LL : String := "LabelLearner"
def nF_LL : u_T := fun k => match k with
  | 0 => ("LabelLearner", "text", "LLabelLearner$Text;", true)
  | 1 => ("LabelLearner", "decoder", "LLabelLearner$Decoder;", true)
  | 2 => ("LabelLearner", "weights", "LLabelLearner$Weights;", true)
  | 3 => ("LabelLearner", "totals", "LLabelLearner$Weights;", true)
  | 4 => ("LabelLearner", "corpus", "LLabelLearner$Corpus;", false)
  | 5 => ("LabelLearner", "corpusDraft", "LLabelLearner$Corpus;", false)
  | 6 => ("LabelLearner", "speech", "LLabelLearner$Sentence;", false)
  | 7 => ("LabelLearner", "speechDraft", "LLabelLearner$Sentence;", false)
  | 8 => ("LabelLearner", "mistakeCount", "I", false)
  | 9 => ("LabelLearner", "passCount", "I", false)
  | 10 => ("LabelLearner", "keptWords", "I", false)
  | _ => ("LabelLearner", "keptLabelling", "I", false)
def nT_LL : Nat → FieldType := fun k => match k with
  | 0 => .object "LabelLearner$Text"
  | 1 => .object "LabelLearner$Decoder"
  | 2 => .object "LabelLearner$Weights"
  | 3 => .object "LabelLearner$Weights"
  | 4 => .object "LabelLearner$Corpus"
  | 5 => .object "LabelLearner$Corpus"
  | 6 => .object "LabelLearner$Sentence"
  | 7 => .object "LabelLearner$Sentence"
  | 8 => .int
  | 9 => .int
  | 10 => .int
  | _ => .int
theorem nN_LL : ∀ a, a < 12 → ∀ b, b < 12 → a ≠ b → (nF_LL a).2.1 ≠ (nF_LL b).2.1 := by decide +kernel
theorem nO_LL : ∀ k, k < 12 → parseFieldDescriptor (nF_LL k).2.2.1 = some (nT_LL k) := by decide +kernel
def nR_Mo : String := "LabelLearnerModel"
def nF_Mo : u_T := fun k => match k with
  | 0 => ("LabelLearnerModel", "thrown", "I", false)
  | 1 => ("LabelLearnerModel", "size", "I", false)
  | 2 => ("LabelLearnerModel", "text", "[I", true)
  | 3 => ("LabelLearnerModel", "sentences", "I", false)
  | 4 => ("LabelLearnerModel", "many", "[I", true)
  | 5 => ("LabelLearnerModel", "buckets", "[I", true)
  | 6 => ("LabelLearnerModel", "labels", "[I", true)
  | 7 => ("LabelLearnerModel", "readSentences", "I", false)
  | 8 => ("LabelLearnerModel", "readMany", "[I", true)
  | 9 => ("LabelLearnerModel", "readBuckets", "[I", true)
  | 10 => ("LabelLearnerModel", "readLabels", "[I", true)
  | 11 => ("LabelLearnerModel", "weights", "[J", true)
  | 12 => ("LabelLearnerModel", "totals", "[J", true)
  | 13 => ("LabelLearnerModel", "mistakes", "I", false)
  | 14 => ("LabelLearnerModel", "passes", "I", false)
  | 15 => ("LabelLearnerModel", "scores", "[J", true)
  | 16 => ("LabelLearnerModel", "now", "[I", true)
  | 17 => ("LabelLearnerModel", "sums", "[J", true)
  | 18 => ("LabelLearnerModel", "bestScore", "J", false)
  | 19 => ("LabelLearnerModel", "secondScore", "J", false)
  | 20 => ("LabelLearnerModel", "best", "I", false)
  | 21 => ("LabelLearnerModel", "second", "I", false)
  | 22 => ("LabelLearnerModel", "kept", "I", false)
  | _ => ("LabelLearnerModel", "keptWords", "I", false)
def nT_Mo : Nat → FieldType := fun k => match k with
  | 0 => .int
  | 1 => .int
  | 2 => .array .int
  | 3 => .int
  | 4 => .array .int
  | 5 => .array .int
  | 6 => .array .int
  | 7 => .int
  | 8 => .array .int
  | 9 => .array .int
  | 10 => .array .int
  | 11 => .array .long
  | 12 => .array .long
  | 13 => .int
  | 14 => .int
  | 15 => .array .long
  | 16 => .array .int
  | 17 => .array .long
  | 18 => .long
  | 19 => .long
  | 20 => .int
  | 21 => .int
  | 22 => .int
  | _ => .int
theorem nN_Mo : ∀ a, a < 24 → ∀ b, b < 24 → a ≠ b → (nF_Mo a).2.1 ≠ (nF_Mo b).2.1 := by decide +kernel
theorem nO_Mo : ∀ k, k < 24 → parseFieldDescriptor (nF_Mo k).2.2.1 = some (nT_Mo k) := by decide +kernel
def nR_Co : String := "LabelLearner$Corpus"
def nF_Co : u_T := fun k => match k with
  | 0 => ("LabelLearner$Corpus", "members", "[LLabelLearner$Sentence;", true)
  | _ => ("LabelLearner$Corpus", "size", "I", false)
def nT_Co : Nat → FieldType := fun k => match k with
  | 0 => .array (.object "LabelLearner$Sentence")
  | _ => .int
theorem nN_Co : ∀ a, a < 2 → ∀ b, b < 2 → a ≠ b → (nF_Co a).2.1 ≠ (nF_Co b).2.1 := by decide +kernel
theorem nO_Co : ∀ k, k < 2 → parseFieldDescriptor (nF_Co k).2.2.1 = some (nT_Co k) := by decide +kernel
def nR_De : String := "LabelLearner$Decoder"
def nF_De : u_T := fun k => match k with
  | 0 => ("LabelLearner$Decoder", "tails", "[LLabelLearner$Ranking;", true)
  | _ => ("LabelLearner$Decoder", "whole", "LLabelLearner$Ranking;", true)
def nT_De : Nat → FieldType := fun k => match k with
  | 0 => .array (.object "LabelLearner$Ranking")
  | _ => .object "LabelLearner$Ranking"
theorem nN_De : ∀ a, a < 2 → ∀ b, b < 2 → a ≠ b → (nF_De a).2.1 ≠ (nF_De b).2.1 := by decide +kernel
theorem nO_De : ∀ k, k < 2 → parseFieldDescriptor (nF_De k).2.2.1 = some (nT_De k) := by decide +kernel
def nR_Ra : String := "LabelLearner$Ranking"
def nF_Ra : u_T := fun k => match k with
  | 0 => ("LabelLearner$Ranking", "scores", "[J", true)
  | 1 => ("LabelLearner$Ranking", "labellings", "[I", true)
  | _ => ("LabelLearner$Ranking", "size", "I", false)
def nT_Ra : Nat → FieldType := fun k => match k with
  | 0 => .array .long
  | 1 => .array .int
  | _ => .int
theorem nN_Ra : ∀ a, a < 3 → ∀ b, b < 3 → a ≠ b → (nF_Ra a).2.1 ≠ (nF_Ra b).2.1 := by decide +kernel
theorem nO_Ra : ∀ k, k < 3 → parseFieldDescriptor (nF_Ra k).2.2.1 = some (nT_Ra k) := by decide +kernel
def nR_Se : String := "LabelLearner$Sentence"
def nF_Se : u_T := fun k => match k with
  | 0 => ("LabelLearner$Sentence", "buckets", "[I", true)
  | 1 => ("LabelLearner$Sentence", "labelling", "I", false)
  | _ => ("LabelLearner$Sentence", "size", "I", false)
def nT_Se : Nat → FieldType := fun k => match k with
  | 0 => .array .int
  | 1 => .int
  | _ => .int
theorem nN_Se : ∀ a, a < 3 → ∀ b, b < 3 → a ≠ b → (nF_Se a).2.1 ≠ (nF_Se b).2.1 := by decide +kernel
theorem nO_Se : ∀ k, k < 3 → parseFieldDescriptor (nF_Se k).2.2.1 = some (nT_Se k) := by decide +kernel
def nR_Te : String := "LabelLearner$Text"
def nF_Te : u_T := fun k => match k with
  | 0 => ("LabelLearner$Text", "characters", "[C", true)
  | 1 => ("LabelLearner$Text", "length", "I", false)
  | _ => ("LabelLearner$Text", "at", "I", false)
def nT_Te : Nat → FieldType := fun k => match k with
  | 0 => .array .char
  | 1 => .int
  | _ => .int
theorem nN_Te : ∀ a, a < 3 → ∀ b, b < 3 → a ≠ b → (nF_Te a).2.1 ≠ (nF_Te b).2.1 := by decide +kernel
theorem nO_Te : ∀ k, k < 3 → parseFieldDescriptor (nF_Te k).2.2.1 = some (nT_Te k) := by decide +kernel
def nR_We : String := "LabelLearner$Weights"
def nF_We : u_T := fun k => match k with
  | _ => ("LabelLearner$Weights", "values", "[J", true)
def nT_We : Nat → FieldType := fun k => match k with
  | _ => .array .long
theorem nN_We : ∀ a, a < 1 → ∀ b, b < 1 → a ≠ b → (nF_We a).2.1 ≠ (nF_We b).2.1 := by decide +kernel
theorem nO_We : ∀ k, k < 1 → parseFieldDescriptor (nF_We k).2.2.1 = some (nT_We k) := by decide +kernel
def nR_La : String := "LabelLearnerLaw"
abbrev nv_cl : List vw_C := [(nR_LL, nF_LL, 12), (nR_Mo, nF_Mo, 24), (nR_Co, nF_Co, 2), (nR_De, nF_De, 2), (nR_Ra, nF_Ra, 3), (nR_Se, nF_Se, 3), (nR_Te, nF_Te, 3), (nR_We, nF_We, 1)]
abbrev nc_LL_init : ByteArray := prog_1_method_1_code
def ny_LL_init : MethodName := ⟨"LabelLearner", "<init>", "()V"⟩
abbrev nc_LL_type : ByteArray := prog_1_method_2_code
def ny_LL_type : MethodName := ⟨"LabelLearner", "type", "(JI)Z"⟩
abbrev nc_LL_cut : ByteArray := prog_1_method_3_code
def ny_LL_cut : MethodName := ⟨"LabelLearner", "cut", "(I)Z"⟩
abbrev nc_LL_load : ByteArray := prog_1_method_4_code
def ny_LL_load : MethodName := ⟨"LabelLearner", "load", "()I"⟩
abbrev nc_LL_speak : ByteArray := prog_1_method_5_code
def ny_LL_speak : MethodName := ⟨"LabelLearner", "speak", "()I"⟩
abbrev nc_LL_sentences : ByteArray := prog_1_method_6_code
def ny_LL_sentences : MethodName := ⟨"LabelLearner", "sentences", "()I"⟩
abbrev nc_LL_words : ByteArray := prog_1_method_7_code
def ny_LL_words : MethodName := ⟨"LabelLearner", "words", "(I)I"⟩
abbrev nc_LL_given : ByteArray := prog_1_method_8_code
def ny_LL_given : MethodName := ⟨"LabelLearner", "given", "(II)I"⟩
abbrev nc_LL_feature : ByteArray := prog_1_method_9_code
def ny_LL_feature : MethodName := ⟨"LabelLearner", "feature", "(III)I"⟩
abbrev nc_LL_learn : ByteArray := prog_1_method_10_code
def ny_LL_learn : MethodName := ⟨"LabelLearner", "learn", "(I)I"⟩
abbrev nc_LL_mistakes : ByteArray := prog_1_method_11_code
def ny_LL_mistakes : MethodName := ⟨"LabelLearner", "mistakes", "()I"⟩
abbrev nc_LL_passes : ByteArray := prog_1_method_12_code
def ny_LL_passes : MethodName := ⟨"LabelLearner", "passes", "()I"⟩
abbrev nc_LL_weight : ByteArray := prog_1_method_13_code
def ny_LL_weight : MethodName := ⟨"LabelLearner", "weight", "(IIZ)J"⟩
abbrev nc_LL_decode : ByteArray := prog_1_method_14_code
def ny_LL_decode : MethodName := ⟨"LabelLearner", "decode", "(IZZ)J"⟩
abbrev nc_LL_label : ByteArray := prog_1_method_15_code
def ny_LL_label : MethodName := ⟨"LabelLearner", "label", "(I)I"⟩
abbrev nc_LL_score : ByteArray := prog_1_method_16_code
def ny_LL_score : MethodName := ⟨"LabelLearner", "score", "(IIZ)J"⟩
abbrev nc_LL_errors : ByteArray := prog_1_method_17_code
def ny_LL_errors : MethodName := ⟨"LabelLearner", "errors", "(Z)I"⟩
abbrev nc_LL_sentenceNumbered : ByteArray := prog_1_method_18_code
def ny_LL_sentenceNumbered : MethodName := ⟨"LabelLearner", "sentenceNumbered", "(I)LLabelLearner$Sentence;"⟩
abbrev nc_LL_forgetDecoding : ByteArray := prog_1_method_19_code
def ny_LL_forgetDecoding : MethodName := ⟨"LabelLearner", "forgetDecoding", "()V"⟩
abbrev nc_LL_weightsOrTotals : ByteArray := prog_1_method_20_code
def ny_LL_weightsOrTotals : MethodName := ⟨"LabelLearner", "weightsOrTotals", "(Z)LLabelLearner$Weights;"⟩
abbrev nc_LL_learnCorpus : ByteArray := prog_1_method_21_code
def ny_LL_learnCorpus : MethodName := ⟨"LabelLearner", "learnCorpus", "()I"⟩
abbrev nc_LL_learnSentence : ByteArray := prog_1_method_22_code
def ny_LL_learnSentence : MethodName := ⟨"LabelLearner", "learnSentence", "(LLabelLearner$Sentence;)Z"⟩
abbrev nc_LL_requireWord : ByteArray := prog_1_method_23_code
def ny_LL_requireWord : MethodName := ⟨"LabelLearner", "requireWord", "(II)V"⟩
abbrev nc_LL_labelIn : ByteArray := prog_1_method_24_code
def ny_LL_labelIn : MethodName := ⟨"LabelLearner", "labelIn", "(II)I"⟩
abbrev nc_LL_differences : ByteArray := prog_1_method_25_code
def ny_LL_differences : MethodName := ⟨"LabelLearner", "differences", "(III)I"⟩
abbrev nc_Mo_init : ByteArray := prog_9_method_1_code
def ny_Mo_init : MethodName := ⟨"LabelLearnerModel", "<init>", "()V"⟩
abbrev nc_Mo_thrown : ByteArray := prog_9_method_2_code
def ny_Mo_thrown : MethodName := ⟨"LabelLearnerModel", "thrown", "()I"⟩
abbrev nc_Mo_letter : ByteArray := prog_9_method_4_code
def ny_Mo_letter : MethodName := ⟨"LabelLearnerModel", "letter", "(JI)I"⟩
abbrev nc_Mo_type : ByteArray := prog_9_method_5_code
def ny_Mo_type : MethodName := ⟨"LabelLearnerModel", "type", "(JI)Z"⟩
abbrev nc_Mo_cut : ByteArray := prog_9_method_6_code
def ny_Mo_cut : MethodName := ⟨"LabelLearnerModel", "cut", "(I)Z"⟩
abbrev nc_Mo_isLetter : ByteArray := prog_9_method_7_code
def ny_Mo_isLetter : MethodName := ⟨"LabelLearnerModel", "isLetter", "(I)Z"⟩
abbrev nc_Mo_is : ByteArray := prog_9_method_8_code
def ny_Mo_is : MethodName := ⟨"LabelLearnerModel", "is", "(II)Z"⟩
abbrev nc_Mo_skip : ByteArray := prog_9_method_9_code
def ny_Mo_skip : MethodName := ⟨"LabelLearnerModel", "skip", "(I)I"⟩
abbrev nc_Mo_bucketOf : ByteArray := prog_9_method_10_code
def ny_Mo_bucketOf : MethodName := ⟨"LabelLearnerModel", "bucketOf", "(I)I"⟩
abbrev nc_Mo_hash : ByteArray := prog_9_method_11_code
def ny_Mo_hash : MethodName := ⟨"LabelLearnerModel", "hash", "(III)I"⟩
abbrev nc_Mo_readSentence : ByteArray := prog_9_method_12_code
def ny_Mo_readSentence : MethodName := ⟨"LabelLearnerModel", "readSentence", "(IIZ)I"⟩
abbrev nc_Mo_take : ByteArray := prog_9_method_13_code
def ny_Mo_take : MethodName := ⟨"LabelLearnerModel", "take", "(I)V"⟩
abbrev nc_Mo_load : ByteArray := prog_9_method_14_code
def ny_Mo_load : MethodName := ⟨"LabelLearnerModel", "load", "()I"⟩
abbrev nc_Mo_speak : ByteArray := prog_9_method_15_code
def ny_Mo_speak : MethodName := ⟨"LabelLearnerModel", "speak", "()I"⟩
abbrev nc_Mo_sentences : ByteArray := prog_9_method_16_code
def ny_Mo_sentences : MethodName := ⟨"LabelLearnerModel", "sentences", "()I"⟩
abbrev nc_Mo_place : ByteArray := prog_9_method_17_code
def ny_Mo_place : MethodName := ⟨"LabelLearnerModel", "place", "(I)I"⟩
abbrev nc_Mo_wordsOf : ByteArray := prog_9_method_18_code
def ny_Mo_wordsOf : MethodName := ⟨"LabelLearnerModel", "wordsOf", "(I)I"⟩
abbrev nc_Mo_words : ByteArray := prog_9_method_19_code
def ny_Mo_words : MethodName := ⟨"LabelLearnerModel", "words", "(I)I"⟩
abbrev nc_Mo_given : ByteArray := prog_9_method_20_code
def ny_Mo_given : MethodName := ⟨"LabelLearnerModel", "given", "(II)I"⟩
abbrev nc_Mo_feature : ByteArray := prog_9_method_21_code
def ny_Mo_feature : MethodName := ⟨"LabelLearnerModel", "feature", "(III)I"⟩
abbrev nc_Mo_of : ByteArray := prog_9_method_22_code
def ny_Mo_of : MethodName := ⟨"LabelLearnerModel", "of", "([JII)J"⟩
abbrev nc_Mo_prepare : ByteArray := prog_9_method_23_code
def ny_Mo_prepare : MethodName := ⟨"LabelLearnerModel", "prepare", "(I[J)V"⟩
abbrev nc_Mo_packed : ByteArray := prog_9_method_24_code
def ny_Mo_packed : MethodName := ⟨"LabelLearnerModel", "packed", "(I)I"⟩
abbrev nc_Mo_sumFrom : ByteArray := prog_9_method_25_code
def ny_Mo_sumFrom : MethodName := ⟨"LabelLearnerModel", "sumFrom", "(II[J)V"⟩
abbrev nc_Mo_search : ByteArray := prog_9_method_26_code
def ny_Mo_search : MethodName := ⟨"LabelLearnerModel", "search", "(I[J)V"⟩
abbrev nc_Mo_mend : ByteArray := prog_9_method_27_code
def ny_Mo_mend : MethodName := ⟨"LabelLearnerModel", "mend", "(III)V"⟩
abbrev nc_Mo_givenRow : ByteArray := prog_9_method_28_code
def ny_Mo_givenRow : MethodName := ⟨"LabelLearnerModel", "givenRow", "(I)I"⟩
abbrev nc_Mo_onePass : ByteArray := prog_9_method_29_code
def ny_Mo_onePass : MethodName := ⟨"LabelLearnerModel", "onePass", "()I"⟩
abbrev nc_Mo_learn : ByteArray := prog_9_method_30_code
def ny_Mo_learn : MethodName := ⟨"LabelLearnerModel", "learn", "(I)I"⟩
abbrev nc_Mo_mistakes : ByteArray := prog_9_method_31_code
def ny_Mo_mistakes : MethodName := ⟨"LabelLearnerModel", "mistakes", "()I"⟩
abbrev nc_Mo_passes : ByteArray := prog_9_method_32_code
def ny_Mo_passes : MethodName := ⟨"LabelLearnerModel", "passes", "()I"⟩
abbrev nc_Mo_weight : ByteArray := prog_9_method_33_code
def ny_Mo_weight : MethodName := ⟨"LabelLearnerModel", "weight", "(IIZ)J"⟩
abbrev nc_Mo_searchBy : ByteArray := prog_9_method_34_code
def ny_Mo_searchBy : MethodName := ⟨"LabelLearnerModel", "searchBy", "(IZ)V"⟩
abbrev nc_Mo_decode : ByteArray := prog_9_method_35_code
def ny_Mo_decode : MethodName := ⟨"LabelLearnerModel", "decode", "(IZZ)J"⟩
abbrev nc_Mo_label : ByteArray := prog_9_method_36_code
def ny_Mo_label : MethodName := ⟨"LabelLearnerModel", "label", "(I)I"⟩
abbrev nc_Mo_score : ByteArray := prog_9_method_37_code
def ny_Mo_score : MethodName := ⟨"LabelLearnerModel", "score", "(IIZ)J"⟩
abbrev nc_Mo_errors : ByteArray := prog_9_method_38_code
def ny_Mo_errors : MethodName := ⟨"LabelLearnerModel", "errors", "(Z)I"⟩
abbrev nc_Co_init : ByteArray := prog_2_method_1_code
def ny_Co_init : MethodName := ⟨"LabelLearner$Corpus", "<init>", "()V"⟩
abbrev nc_De_init : ByteArray := prog_3_method_1_code
def ny_De_init : MethodName := ⟨"LabelLearner$Decoder", "<init>", "()V"⟩
abbrev nc_De_rank : ByteArray := prog_3_method_2_code
def ny_De_rank : MethodName := ⟨"LabelLearner$Decoder", "rank", "(LLabelLearner$Sentence;LLabelLearner$Weights;)LLabelLearner$Ranking;"⟩
abbrev nc_De_rankTails : ByteArray := prog_3_method_3_code
def ny_De_rankTails : MethodName := ⟨"LabelLearner$Decoder", "rankTails", "(LLabelLearner$Sentence;LLabelLearner$Weights;II)V"⟩
abbrev nc_De_tailsFrom : ByteArray := prog_3_method_4_code
def ny_De_tailsFrom : MethodName := ⟨"LabelLearner$Decoder", "tailsFrom", "(II)LLabelLearner$Ranking;"⟩
abbrev nc_Ra_init : ByteArray := prog_4_method_1_code
def ny_Ra_init : MethodName := ⟨"LabelLearner$Ranking", "<init>", "()V"⟩
abbrev nc_Ra_clear : ByteArray := prog_4_method_2_code
def ny_Ra_clear : MethodName := ⟨"LabelLearner$Ranking", "clear", "()V"⟩
abbrev nc_Ra_offer : ByteArray := prog_4_method_3_code
def ny_Ra_offer : MethodName := ⟨"LabelLearner$Ranking", "offer", "(JI)V"⟩
abbrev nc_Ra_offerLonger : ByteArray := prog_4_method_4_code
def ny_Ra_offerLonger : MethodName := ⟨"LabelLearner$Ranking", "offerLonger", "(LLabelLearner$Ranking;JI)V"⟩
abbrev nc_Se_init : ByteArray := prog_5_method_1_code
def ny_Se_init : MethodName := ⟨"LabelLearner$Sentence", "<init>", "()V"⟩
abbrev nc_Se_clear : ByteArray := prog_5_method_2_code
def ny_Se_clear : MethodName := ⟨"LabelLearner$Sentence", "clear", "()V"⟩
abbrev nc_Se_bucketOf : ByteArray := prog_5_method_3_code
def ny_Se_bucketOf : MethodName := ⟨"LabelLearner$Sentence", "bucketOf", "(II)I"⟩
abbrev nc_Se_setBucket : ByteArray := prog_5_method_4_code
def ny_Se_setBucket : MethodName := ⟨"LabelLearner$Sentence", "setBucket", "(III)V"⟩
abbrev nc_Te_init : ByteArray := prog_6_method_1_code
def ny_Te_init : MethodName := ⟨"LabelLearner$Text", "<init>", "()V"⟩
abbrev nc_Te_append : ByteArray := prog_6_method_2_code
def ny_Te_append : MethodName := ⟨"LabelLearner$Text", "append", "(JI)Z"⟩
abbrev nc_Te_keep : ByteArray := prog_6_method_3_code
def ny_Te_keep : MethodName := ⟨"LabelLearner$Text", "keep", "(I)Z"⟩
abbrev nc_Te_byteOf : ByteArray := prog_6_method_4_code
def ny_Te_byteOf : MethodName := ⟨"LabelLearner$Text", "byteOf", "(JI)I"⟩
abbrev nc_Te_readCorpus : ByteArray := prog_6_method_5_code
def ny_Te_readCorpus : MethodName := ⟨"LabelLearner$Text", "readCorpus", "(LLabelLearner$Corpus;)Z"⟩
abbrev nc_Te_readSpeech : ByteArray := prog_6_method_6_code
def ny_Te_readSpeech : MethodName := ⟨"LabelLearner$Text", "readSpeech", "(LLabelLearner$Sentence;)Z"⟩
abbrev nc_Te_readSentence : ByteArray := prog_6_method_7_code
def ny_Te_readSentence : MethodName := ⟨"LabelLearner$Text", "readSentence", "(LLabelLearner$Sentence;Z)Z"⟩
abbrev nc_Te_setFeatures : ByteArray := prog_6_method_8_code
def ny_Te_setFeatures : MethodName := ⟨"LabelLearner$Text", "setFeatures", "(LLabelLearner$Sentence;III)V"⟩
abbrev nc_Te_readLabel : ByteArray := prog_6_method_9_code
def ny_Te_readLabel : MethodName := ⟨"LabelLearner$Text", "readLabel", "(LLabelLearner$Sentence;)Z"⟩
abbrev nc_Te_take : ByteArray := prog_6_method_10_code
def ny_Te_take : MethodName := ⟨"LabelLearner$Text", "take", "(C)Z"⟩
abbrev nc_Te_skipSpaces : ByteArray := prog_6_method_11_code
def ny_Te_skipSpaces : MethodName := ⟨"LabelLearner$Text", "skipSpaces", "()Z"⟩
abbrev nc_Te_skipLetters : ByteArray := prog_6_method_12_code
def ny_Te_skipLetters : MethodName := ⟨"LabelLearner$Text", "skipLetters", "()V"⟩
abbrev nc_Te_current : ByteArray := prog_6_method_13_code
def ny_Te_current : MethodName := ⟨"LabelLearner$Text", "current", "()I"⟩
abbrev nc_Te_hash : ByteArray := prog_6_method_14_code
def ny_Te_hash : MethodName := ⟨"LabelLearner$Text", "hash", "(III)I"⟩
abbrev nc_Te_mix : ByteArray := prog_6_method_15_code
def ny_Te_mix : MethodName := ⟨"LabelLearner$Text", "mix", "(IC)I"⟩
abbrev nc_Te_bucket : ByteArray := prog_6_method_16_code
def ny_Te_bucket : MethodName := ⟨"LabelLearner$Text", "bucket", "(I)I"⟩
abbrev nc_Te_isLetter : ByteArray := prog_6_method_17_code
def ny_Te_isLetter : MethodName := ⟨"LabelLearner$Text", "isLetter", "(I)Z"⟩
abbrev nc_We_init : ByteArray := prog_7_method_1_code
def ny_We_init : MethodName := ⟨"LabelLearner$Weights", "<init>", "()V"⟩
abbrev nc_We_at : ByteArray := prog_7_method_2_code
def ny_We_at : MethodName := ⟨"LabelLearner$Weights", "at", "(II)J"⟩
abbrev nc_We_add : ByteArray := prog_7_method_3_code
def ny_We_add : MethodName := ⟨"LabelLearner$Weights", "add", "(IIJ)V"⟩
abbrev nc_We_clear : ByteArray := prog_7_method_4_code
def ny_We_clear : MethodName := ⟨"LabelLearner$Weights", "clear", "()V"⟩
abbrev nc_We_addAll : ByteArray := prog_7_method_5_code
def ny_We_addAll : MethodName := ⟨"LabelLearner$Weights", "addAll", "(LLabelLearner$Weights;)V"⟩
abbrev nc_We_ofWord : ByteArray := prog_7_method_6_code
def ny_We_ofWord : MethodName := ⟨"LabelLearner$Weights", "ofWord", "(LLabelLearner$Sentence;II)J"⟩
abbrev nc_We_sum : ByteArray := prog_7_method_7_code
def ny_We_sum : MethodName := ⟨"LabelLearner$Weights", "sum", "(LLabelLearner$Sentence;I)J"⟩
abbrev nc_We_change : ByteArray := prog_7_method_8_code
def ny_We_change : MethodName := ⟨"LabelLearner$Weights", "change", "(LLabelLearner$Sentence;IJ)V"⟩
abbrev nc_La_load : ByteArray := method_3_code
def ny_La_load : MethodName := ⟨"LabelLearnerLaw", "load", "(LLabelLearner;[J)I"⟩
abbrev nc_La_speak : ByteArray := method_4_code
def ny_La_speak : MethodName := ⟨"LabelLearnerLaw", "speak", "(LLabelLearner;[J)I"⟩
abbrev nc_La_words : ByteArray := method_5_code
def ny_La_words : MethodName := ⟨"LabelLearnerLaw", "words", "(LLabelLearner;I[J)I"⟩
abbrev nc_La_given : ByteArray := method_6_code
def ny_La_given : MethodName := ⟨"LabelLearnerLaw", "given", "(LLabelLearner;II[J)I"⟩
abbrev nc_La_feature : ByteArray := method_7_code
def ny_La_feature : MethodName := ⟨"LabelLearnerLaw", "feature", "(LLabelLearner;III[J)I"⟩
abbrev nc_La_learn : ByteArray := method_8_code
def ny_La_learn : MethodName := ⟨"LabelLearnerLaw", "learn", "(LLabelLearner;I[J)I"⟩
abbrev nc_La_weight : ByteArray := method_9_code
def ny_La_weight : MethodName := ⟨"LabelLearnerLaw", "weight", "(LLabelLearner;IIZ[J)I"⟩
abbrev nc_La_decode : ByteArray := method_10_code
def ny_La_decode : MethodName := ⟨"LabelLearnerLaw", "decode", "(LLabelLearner;IZZ[J)I"⟩
abbrev nc_La_label : ByteArray := method_11_code
def ny_La_label : MethodName := ⟨"LabelLearnerLaw", "label", "(LLabelLearner;I[J)I"⟩
abbrev nc_La_score : ByteArray := method_12_code
def ny_La_score : MethodName := ⟨"LabelLearnerLaw", "score", "(LLabelLearner;IIZ[J)I"⟩
abbrev nc_La_law : ByteArray := code
def ny_La_law : MethodName := ⟨"LabelLearnerLaw", "law", "([I)Z"⟩
end
section
theorem nd_LL_init_0 : decode nc_LL_init 0 = .ok (.aload_n 0, 1) := by decide +kernel
theorem nd_LL_init_1 : decode nc_LL_init 1 = .ok (.invokespecial 1, 3) := by decide +kernel
theorem nd_LL_init_4 : decode nc_LL_init 4 = .ok (.aload_n 0, 1) := by decide +kernel
theorem nd_LL_init_5 : decode nc_LL_init 5 = .ok (.new 7, 3) := by decide +kernel
theorem nd_LL_init_8 : decode nc_LL_init 8 = .ok (.dup, 1) := by decide +kernel
theorem nd_LL_init_9 : decode nc_LL_init 9 = .ok (.invokespecial 9, 3) := by decide +kernel
theorem nd_LL_init_12 : decode nc_LL_init 12 = .ok (.putfield 10, 3) := by decide +kernel
theorem nd_LL_init_15 : decode nc_LL_init 15 = .ok (.aload_n 0, 1) := by decide +kernel
theorem nd_LL_init_16 : decode nc_LL_init 16 = .ok (.new 16, 3) := by decide +kernel
theorem nd_LL_init_19 : decode nc_LL_init 19 = .ok (.dup, 1) := by decide +kernel
theorem nd_LL_init_20 : decode nc_LL_init 20 = .ok (.invokespecial 18, 3) := by decide +kernel
theorem nd_LL_init_23 : decode nc_LL_init 23 = .ok (.putfield 19, 3) := by decide +kernel
theorem nd_LL_init_26 : decode nc_LL_init 26 = .ok (.aload_n 0, 1) := by decide +kernel
theorem nd_LL_init_27 : decode nc_LL_init 27 = .ok (.new 23, 3) := by decide +kernel
theorem nd_LL_init_30 : decode nc_LL_init 30 = .ok (.dup, 1) := by decide +kernel
theorem nd_LL_init_31 : decode nc_LL_init 31 = .ok (.invokespecial 25, 3) := by decide +kernel
theorem nd_LL_init_34 : decode nc_LL_init 34 = .ok (.putfield 26, 3) := by decide +kernel
theorem nd_LL_init_37 : decode nc_LL_init 37 = .ok (.aload_n 0, 1) := by decide +kernel
theorem nd_LL_init_38 : decode nc_LL_init 38 = .ok (.new 23, 3) := by decide +kernel
theorem nd_LL_init_41 : decode nc_LL_init 41 = .ok (.dup, 1) := by decide +kernel
theorem nd_LL_init_42 : decode nc_LL_init 42 = .ok (.invokespecial 25, 3) := by decide +kernel
theorem nd_LL_init_45 : decode nc_LL_init 45 = .ok (.putfield 30, 3) := by decide +kernel
theorem nd_LL_init_48 : decode nc_LL_init 48 = .ok (.aload_n 0, 1) := by decide +kernel
theorem nd_LL_init_49 : decode nc_LL_init 49 = .ok (.new 33, 3) := by decide +kernel
theorem nd_LL_init_52 : decode nc_LL_init 52 = .ok (.dup, 1) := by decide +kernel
theorem nd_LL_init_53 : decode nc_LL_init 53 = .ok (.invokespecial 35, 3) := by decide +kernel
theorem nd_LL_init_56 : decode nc_LL_init 56 = .ok (.putfield 36, 3) := by decide +kernel
theorem nd_LL_init_59 : decode nc_LL_init 59 = .ok (.aload_n 0, 1) := by decide +kernel
theorem nd_LL_init_60 : decode nc_LL_init 60 = .ok (.new 33, 3) := by decide +kernel
theorem nd_LL_init_63 : decode nc_LL_init 63 = .ok (.dup, 1) := by decide +kernel
theorem nd_LL_init_64 : decode nc_LL_init 64 = .ok (.invokespecial 35, 3) := by decide +kernel
theorem nd_LL_init_67 : decode nc_LL_init 67 = .ok (.putfield 40, 3) := by decide +kernel
theorem nd_LL_init_70 : decode nc_LL_init 70 = .ok (.aload_n 0, 1) := by decide +kernel
theorem nd_LL_init_71 : decode nc_LL_init 71 = .ok (.new 43, 3) := by decide +kernel
theorem nd_LL_init_74 : decode nc_LL_init 74 = .ok (.dup, 1) := by decide +kernel
theorem nd_LL_init_75 : decode nc_LL_init 75 = .ok (.invokespecial 45, 3) := by decide +kernel
theorem nd_LL_init_78 : decode nc_LL_init 78 = .ok (.putfield 46, 3) := by decide +kernel
theorem nd_LL_init_81 : decode nc_LL_init 81 = .ok (.aload_n 0, 1) := by decide +kernel
theorem nd_LL_init_82 : decode nc_LL_init 82 = .ok (.new 43, 3) := by decide +kernel
theorem nd_LL_init_85 : decode nc_LL_init 85 = .ok (.dup, 1) := by decide +kernel
theorem nd_LL_init_86 : decode nc_LL_init 86 = .ok (.invokespecial 45, 3) := by decide +kernel
theorem nd_LL_init_89 : decode nc_LL_init 89 = .ok (.putfield 50, 3) := by decide +kernel
theorem nd_LL_init_92 : decode nc_LL_init 92 = .ok (.return_, 1) := by decide +kernel
theorem nd_LL_type_0 : decode nc_LL_type 0 = .ok (.aload_n 0, 1) := by decide +kernel
theorem nd_LL_type_1 : decode nc_LL_type 1 = .ok (.getfield 10, 3) := by decide +kernel
theorem nd_LL_type_4 : decode nc_LL_type 4 = .ok (.lload_n 1, 1) := by decide +kernel
theorem nd_LL_type_5 : decode nc_LL_type 5 = .ok (.iload_n 3, 1) := by decide +kernel
theorem nd_LL_type_6 : decode nc_LL_type 6 = .ok (.invokevirtual 53, 3) := by decide +kernel
theorem nd_LL_type_9 : decode nc_LL_type 9 = .ok (.ireturn, 1) := by decide +kernel
theorem nd_LL_cut_0 : decode nc_LL_cut 0 = .ok (.aload_n 0, 1) := by decide +kernel
theorem nd_LL_cut_1 : decode nc_LL_cut 1 = .ok (.getfield 10, 3) := by decide +kernel
theorem nd_LL_cut_4 : decode nc_LL_cut 4 = .ok (.iload_n 1, 1) := by decide +kernel
theorem nd_LL_cut_5 : decode nc_LL_cut 5 = .ok (.invokevirtual 57, 3) := by decide +kernel
theorem nd_LL_cut_8 : decode nc_LL_cut 8 = .ok (.ireturn, 1) := by decide +kernel
theorem nd_LL_load_0 : decode nc_LL_load 0 = .ok (.aload_n 0, 1) := by decide +kernel
theorem nd_LL_load_1 : decode nc_LL_load 1 = .ok (.getfield 10, 3) := by decide +kernel
theorem nd_LL_load_4 : decode nc_LL_load 4 = .ok (.aload_n 0, 1) := by decide +kernel
theorem nd_LL_load_5 : decode nc_LL_load 5 = .ok (.getfield 40, 3) := by decide +kernel
theorem nd_LL_load_8 : decode nc_LL_load 8 = .ok (.invokevirtual 61, 3) := by decide +kernel
theorem nd_LL_load_11 : decode nc_LL_load 11 = .ok (.ifCond .ne 13, 3) := by decide +kernel
theorem nd_LL_load_14 : decode nc_LL_load 14 = .ok (.new 65, 3) := by decide +kernel
theorem nd_LL_load_17 : decode nc_LL_load 17 = .ok (.dup, 1) := by decide +kernel
theorem nd_LL_load_18 : decode nc_LL_load 18 = .ok (.ldc 67, 2) := by decide +kernel
theorem nd_LL_load_20 : decode nc_LL_load 20 = .ok (.invokespecial 69, 3) := by decide +kernel
theorem nd_LL_load_23 : decode nc_LL_load 23 = .ok (.athrow, 1) := by decide +kernel
theorem nd_LL_load_24 : decode nc_LL_load 24 = .ok (.aload_n 0, 1) := by decide +kernel
theorem nd_LL_load_25 : decode nc_LL_load 25 = .ok (.getfield 36, 3) := by decide +kernel
theorem nd_LL_load_28 : decode nc_LL_load 28 = .ok (.astore_n 1, 1) := by decide +kernel
theorem nd_LL_load_29 : decode nc_LL_load 29 = .ok (.aload_n 0, 1) := by decide +kernel
theorem nd_LL_load_30 : decode nc_LL_load 30 = .ok (.aload_n 0, 1) := by decide +kernel
theorem nd_LL_load_31 : decode nc_LL_load 31 = .ok (.getfield 40, 3) := by decide +kernel
theorem nd_LL_load_34 : decode nc_LL_load 34 = .ok (.putfield 36, 3) := by decide +kernel
theorem nd_LL_load_37 : decode nc_LL_load 37 = .ok (.aload_n 0, 1) := by decide +kernel
theorem nd_LL_load_38 : decode nc_LL_load 38 = .ok (.aload_n 1, 1) := by decide +kernel
theorem nd_LL_load_39 : decode nc_LL_load 39 = .ok (.putfield 40, 3) := by decide +kernel
theorem nd_LL_load_42 : decode nc_LL_load 42 = .ok (.aload_n 0, 1) := by decide +kernel
theorem nd_LL_load_43 : decode nc_LL_load 43 = .ok (.getfield 10, 3) := by decide +kernel
theorem nd_LL_load_46 : decode nc_LL_load 46 = .ok (.iconst 0, 1) := by decide +kernel
theorem nd_LL_load_47 : decode nc_LL_load 47 = .ok (.invokevirtual 57, 3) := by decide +kernel
theorem nd_LL_load_50 : decode nc_LL_load 50 = .ok (.pop, 1) := by decide +kernel
theorem nd_LL_load_51 : decode nc_LL_load 51 = .ok (.aload_n 0, 1) := by decide +kernel
theorem nd_LL_load_52 : decode nc_LL_load 52 = .ok (.getfield 26, 3) := by decide +kernel
theorem nd_LL_load_55 : decode nc_LL_load 55 = .ok (.invokevirtual 72, 3) := by decide +kernel
theorem nd_LL_load_58 : decode nc_LL_load 58 = .ok (.aload_n 0, 1) := by decide +kernel
theorem nd_LL_load_59 : decode nc_LL_load 59 = .ok (.getfield 30, 3) := by decide +kernel
theorem nd_LL_load_62 : decode nc_LL_load 62 = .ok (.invokevirtual 72, 3) := by decide +kernel
theorem nd_LL_load_65 : decode nc_LL_load 65 = .ok (.aload_n 0, 1) := by decide +kernel
theorem nd_LL_load_66 : decode nc_LL_load 66 = .ok (.iconst 0, 1) := by decide +kernel
theorem nd_LL_load_67 : decode nc_LL_load 67 = .ok (.putfield 75, 3) := by decide +kernel
theorem nd_LL_load_70 : decode nc_LL_load 70 = .ok (.aload_n 0, 1) := by decide +kernel
theorem nd_LL_load_71 : decode nc_LL_load 71 = .ok (.iconst 0, 1) := by decide +kernel
theorem nd_LL_load_72 : decode nc_LL_load 72 = .ok (.putfield 79, 3) := by decide +kernel
theorem nd_LL_load_75 : decode nc_LL_load 75 = .ok (.aload_n 0, 1) := by decide +kernel
theorem nd_LL_load_76 : decode nc_LL_load 76 = .ok (.invokevirtual 82, 3) := by decide +kernel
theorem nd_LL_load_79 : decode nc_LL_load 79 = .ok (.aload_n 0, 1) := by decide +kernel
theorem nd_LL_load_80 : decode nc_LL_load 80 = .ok (.getfield 36, 3) := by decide +kernel
theorem nd_LL_load_83 : decode nc_LL_load 83 = .ok (.getfield 85, 3) := by decide +kernel
theorem nd_LL_load_86 : decode nc_LL_load 86 = .ok (.ireturn, 1) := by decide +kernel
theorem nd_LL_speak_0 : decode nc_LL_speak 0 = .ok (.aload_n 0, 1) := by decide +kernel
theorem nd_LL_speak_1 : decode nc_LL_speak 1 = .ok (.getfield 10, 3) := by decide +kernel
theorem nd_LL_speak_4 : decode nc_LL_speak 4 = .ok (.aload_n 0, 1) := by decide +kernel
theorem nd_LL_speak_5 : decode nc_LL_speak 5 = .ok (.getfield 50, 3) := by decide +kernel
theorem nd_LL_speak_8 : decode nc_LL_speak 8 = .ok (.invokevirtual 88, 3) := by decide +kernel
theorem nd_LL_speak_11 : decode nc_LL_speak 11 = .ok (.ifCond .ne 13, 3) := by decide +kernel
theorem nd_LL_speak_14 : decode nc_LL_speak 14 = .ok (.new 65, 3) := by decide +kernel
theorem nd_LL_speak_17 : decode nc_LL_speak 17 = .ok (.dup, 1) := by decide +kernel
theorem nd_LL_speak_18 : decode nc_LL_speak 18 = .ok (.ldc 92, 2) := by decide +kernel
theorem nd_LL_speak_20 : decode nc_LL_speak 20 = .ok (.invokespecial 69, 3) := by decide +kernel
theorem nd_LL_speak_23 : decode nc_LL_speak 23 = .ok (.athrow, 1) := by decide +kernel
theorem nd_LL_speak_24 : decode nc_LL_speak 24 = .ok (.aload_n 0, 1) := by decide +kernel
theorem nd_LL_speak_25 : decode nc_LL_speak 25 = .ok (.getfield 46, 3) := by decide +kernel
theorem nd_LL_speak_28 : decode nc_LL_speak 28 = .ok (.astore_n 1, 1) := by decide +kernel
theorem nd_LL_speak_29 : decode nc_LL_speak 29 = .ok (.aload_n 0, 1) := by decide +kernel
theorem nd_LL_speak_30 : decode nc_LL_speak 30 = .ok (.aload_n 0, 1) := by decide +kernel
theorem nd_LL_speak_31 : decode nc_LL_speak 31 = .ok (.getfield 50, 3) := by decide +kernel
theorem nd_LL_speak_34 : decode nc_LL_speak 34 = .ok (.putfield 46, 3) := by decide +kernel
theorem nd_LL_speak_37 : decode nc_LL_speak 37 = .ok (.aload_n 0, 1) := by decide +kernel
theorem nd_LL_speak_38 : decode nc_LL_speak 38 = .ok (.aload_n 1, 1) := by decide +kernel
theorem nd_LL_speak_39 : decode nc_LL_speak 39 = .ok (.putfield 50, 3) := by decide +kernel
theorem nd_LL_speak_42 : decode nc_LL_speak 42 = .ok (.aload_n 0, 1) := by decide +kernel
theorem nd_LL_speak_43 : decode nc_LL_speak 43 = .ok (.getfield 10, 3) := by decide +kernel
theorem nd_LL_speak_46 : decode nc_LL_speak 46 = .ok (.iconst 0, 1) := by decide +kernel
theorem nd_LL_speak_47 : decode nc_LL_speak 47 = .ok (.invokevirtual 57, 3) := by decide +kernel
theorem nd_LL_speak_50 : decode nc_LL_speak 50 = .ok (.pop, 1) := by decide +kernel
theorem nd_LL_speak_51 : decode nc_LL_speak 51 = .ok (.aload_n 0, 1) := by decide +kernel
theorem nd_LL_speak_52 : decode nc_LL_speak 52 = .ok (.invokevirtual 82, 3) := by decide +kernel
theorem nd_LL_speak_55 : decode nc_LL_speak 55 = .ok (.aload_n 0, 1) := by decide +kernel
theorem nd_LL_speak_56 : decode nc_LL_speak 56 = .ok (.getfield 46, 3) := by decide +kernel
theorem nd_LL_speak_59 : decode nc_LL_speak 59 = .ok (.getfield 94, 3) := by decide +kernel
theorem nd_LL_speak_62 : decode nc_LL_speak 62 = .ok (.ireturn, 1) := by decide +kernel
theorem nd_LL_sentences_0 : decode nc_LL_sentences 0 = .ok (.aload_n 0, 1) := by decide +kernel
theorem nd_LL_sentences_1 : decode nc_LL_sentences 1 = .ok (.getfield 36, 3) := by decide +kernel
theorem nd_LL_sentences_4 : decode nc_LL_sentences 4 = .ok (.getfield 85, 3) := by decide +kernel
theorem nd_LL_sentences_7 : decode nc_LL_sentences 7 = .ok (.ireturn, 1) := by decide +kernel
theorem nd_LL_words_0 : decode nc_LL_words 0 = .ok (.aload_n 0, 1) := by decide +kernel
theorem nd_LL_words_1 : decode nc_LL_words 1 = .ok (.iload_n 1, 1) := by decide +kernel
theorem nd_LL_words_2 : decode nc_LL_words 2 = .ok (.invokevirtual 95, 3) := by decide +kernel
theorem nd_LL_words_5 : decode nc_LL_words 5 = .ok (.getfield 94, 3) := by decide +kernel
theorem nd_LL_words_8 : decode nc_LL_words 8 = .ok (.ireturn, 1) := by decide +kernel
theorem nd_LL_given_0 : decode nc_LL_given 0 = .ok (.iload_n 1, 1) := by decide +kernel
theorem nd_LL_given_1 : decode nc_LL_given 1 = .ok (.iconst (-1), 1) := by decide +kernel
theorem nd_LL_given_2 : decode nc_LL_given 2 = .ok (.if_icmp .ne 13, 3) := by decide +kernel
theorem nd_LL_given_5 : decode nc_LL_given 5 = .ok (.new 99, 3) := by decide +kernel
theorem nd_LL_given_8 : decode nc_LL_given 8 = .ok (.dup, 1) := by decide +kernel
theorem nd_LL_given_9 : decode nc_LL_given 9 = .ok (.ldc 101, 2) := by decide +kernel
theorem nd_LL_given_11 : decode nc_LL_given 11 = .ok (.invokespecial 103, 3) := by decide +kernel
theorem nd_LL_given_14 : decode nc_LL_given 14 = .ok (.athrow, 1) := by decide +kernel
theorem nd_LL_given_15 : decode nc_LL_given 15 = .ok (.aload_n 0, 1) := by decide +kernel
theorem nd_LL_given_16 : decode nc_LL_given 16 = .ok (.iload_n 1, 1) := by decide +kernel
theorem nd_LL_given_17 : decode nc_LL_given 17 = .ok (.invokevirtual 95, 3) := by decide +kernel
theorem nd_LL_given_20 : decode nc_LL_given 20 = .ok (.astore_n 3, 1) := by decide +kernel
theorem nd_LL_given_21 : decode nc_LL_given 21 = .ok (.iload_n 2, 1) := by decide +kernel
theorem nd_LL_given_22 : decode nc_LL_given 22 = .ok (.aload_n 3, 1) := by decide +kernel
theorem nd_LL_given_23 : decode nc_LL_given 23 = .ok (.getfield 94, 3) := by decide +kernel
theorem nd_LL_given_26 : decode nc_LL_given 26 = .ok (.invokestatic 104, 3) := by decide +kernel
theorem nd_LL_given_29 : decode nc_LL_given 29 = .ok (.aload_n 3, 1) := by decide +kernel
theorem nd_LL_given_30 : decode nc_LL_given 30 = .ok (.getfield 108, 3) := by decide +kernel
theorem nd_LL_given_33 : decode nc_LL_given 33 = .ok (.iload_n 2, 1) := by decide +kernel
theorem nd_LL_given_34 : decode nc_LL_given 34 = .ok (.invokestatic 111, 3) := by decide +kernel
theorem nd_LL_given_37 : decode nc_LL_given 37 = .ok (.ireturn, 1) := by decide +kernel
theorem nd_LL_feature_0 : decode nc_LL_feature 0 = .ok (.aload_n 0, 1) := by decide +kernel
theorem nd_LL_feature_1 : decode nc_LL_feature 1 = .ok (.iload_n 1, 1) := by decide +kernel
theorem nd_LL_feature_2 : decode nc_LL_feature 2 = .ok (.invokevirtual 95, 3) := by decide +kernel
theorem nd_LL_feature_5 : decode nc_LL_feature 5 = .ok (.astore 4, 2) := by decide +kernel
theorem nd_LL_feature_7 : decode nc_LL_feature 7 = .ok (.iload_n 2, 1) := by decide +kernel
theorem nd_LL_feature_8 : decode nc_LL_feature 8 = .ok (.aload 4, 2) := by decide +kernel
theorem nd_LL_feature_10 : decode nc_LL_feature 10 = .ok (.getfield 94, 3) := by decide +kernel
theorem nd_LL_feature_13 : decode nc_LL_feature 13 = .ok (.invokestatic 104, 3) := by decide +kernel
theorem nd_LL_feature_16 : decode nc_LL_feature 16 = .ok (.iload_n 3, 1) := by decide +kernel
theorem nd_LL_feature_17 : decode nc_LL_feature 17 = .ok (.ifCond .lt 8, 3) := by decide +kernel
theorem nd_LL_feature_20 : decode nc_LL_feature 20 = .ok (.iload_n 3, 1) := by decide +kernel
theorem nd_LL_feature_21 : decode nc_LL_feature 21 = .ok (.iconst 3, 1) := by decide +kernel
theorem nd_LL_feature_22 : decode nc_LL_feature 22 = .ok (.if_icmp .lt 13, 3) := by decide +kernel
theorem nd_LL_feature_25 : decode nc_LL_feature 25 = .ok (.new 99, 3) := by decide +kernel
theorem nd_LL_feature_28 : decode nc_LL_feature 28 = .ok (.dup, 1) := by decide +kernel
theorem nd_LL_feature_29 : decode nc_LL_feature 29 = .ok (.ldc 115, 2) := by decide +kernel
theorem nd_LL_feature_31 : decode nc_LL_feature 31 = .ok (.invokespecial 103, 3) := by decide +kernel
theorem nd_LL_feature_34 : decode nc_LL_feature 34 = .ok (.athrow, 1) := by decide +kernel
theorem nd_LL_feature_35 : decode nc_LL_feature 35 = .ok (.aload 4, 2) := by decide +kernel
theorem nd_LL_feature_37 : decode nc_LL_feature 37 = .ok (.iload_n 2, 1) := by decide +kernel
theorem nd_LL_feature_38 : decode nc_LL_feature 38 = .ok (.iload_n 3, 1) := by decide +kernel
theorem nd_LL_feature_39 : decode nc_LL_feature 39 = .ok (.invokevirtual 117, 3) := by decide +kernel
theorem nd_LL_feature_42 : decode nc_LL_feature 42 = .ok (.ireturn, 1) := by decide +kernel
theorem nd_LL_learn_0 : decode nc_LL_learn 0 = .ok (.iload_n 1, 1) := by decide +kernel
theorem nd_LL_learn_1 : decode nc_LL_learn 1 = .ok (.iconst 1, 1) := by decide +kernel
theorem nd_LL_learn_2 : decode nc_LL_learn 2 = .ok (.if_icmp .lt 9, 3) := by decide +kernel
theorem nd_LL_learn_5 : decode nc_LL_learn 5 = .ok (.iload_n 1, 1) := by decide +kernel
theorem nd_LL_learn_6 : decode nc_LL_learn 6 = .ok (.bipush 6, 2) := by decide +kernel
theorem nd_LL_learn_8 : decode nc_LL_learn 8 = .ok (.if_icmp .le 13, 3) := by decide +kernel
theorem nd_LL_learn_11 : decode nc_LL_learn 11 = .ok (.new 65, 3) := by decide +kernel
theorem nd_LL_learn_14 : decode nc_LL_learn 14 = .ok (.dup, 1) := by decide +kernel
theorem nd_LL_learn_15 : decode nc_LL_learn 15 = .ok (.ldc 120, 2) := by decide +kernel
theorem nd_LL_learn_17 : decode nc_LL_learn 17 = .ok (.invokespecial 69, 3) := by decide +kernel
theorem nd_LL_learn_20 : decode nc_LL_learn 20 = .ok (.athrow, 1) := by decide +kernel
theorem nd_LL_learn_21 : decode nc_LL_learn 21 = .ok (.aload_n 0, 1) := by decide +kernel
theorem nd_LL_learn_22 : decode nc_LL_learn 22 = .ok (.getfield 36, 3) := by decide +kernel
theorem nd_LL_learn_25 : decode nc_LL_learn 25 = .ok (.getfield 85, 3) := by decide +kernel
theorem nd_LL_learn_28 : decode nc_LL_learn 28 = .ok (.ifCond .ne 13, 3) := by decide +kernel
theorem nd_LL_learn_31 : decode nc_LL_learn 31 = .ok (.new 122, 3) := by decide +kernel
theorem nd_LL_learn_34 : decode nc_LL_learn 34 = .ok (.dup, 1) := by decide +kernel
theorem nd_LL_learn_35 : decode nc_LL_learn 35 = .ok (.ldc 124, 2) := by decide +kernel
theorem nd_LL_learn_37 : decode nc_LL_learn 37 = .ok (.invokespecial 126, 3) := by decide +kernel
theorem nd_LL_learn_40 : decode nc_LL_learn 40 = .ok (.athrow, 1) := by decide +kernel
theorem nd_LL_learn_41 : decode nc_LL_learn 41 = .ok (.aload_n 0, 1) := by decide +kernel
theorem nd_LL_learn_42 : decode nc_LL_learn 42 = .ok (.invokevirtual 127, 3) := by decide +kernel
theorem nd_LL_learn_45 : decode nc_LL_learn 45 = .ok (.istore_n 2, 1) := by decide +kernel
theorem nd_LL_learn_46 : decode nc_LL_learn 46 = .ok (.iconst 1, 1) := by decide +kernel
theorem nd_LL_learn_47 : decode nc_LL_learn 47 = .ok (.istore_n 3, 1) := by decide +kernel
theorem nd_LL_learn_48 : decode nc_LL_learn 48 = .ok (.iload_n 3, 1) := by decide +kernel
theorem nd_LL_learn_49 : decode nc_LL_learn 49 = .ok (.iload_n 1, 1) := by decide +kernel
theorem nd_LL_learn_50 : decode nc_LL_learn 50 = .ok (.if_icmp .ge 18, 3) := by decide +kernel
theorem nd_LL_learn_53 : decode nc_LL_learn 53 = .ok (.iload_n 2, 1) := by decide +kernel
theorem nd_LL_learn_54 : decode nc_LL_learn 54 = .ok (.ifCond .le 14, 3) := by decide +kernel
theorem nd_LL_learn_57 : decode nc_LL_learn 57 = .ok (.aload_n 0, 1) := by decide +kernel
theorem nd_LL_learn_58 : decode nc_LL_learn 58 = .ok (.invokevirtual 127, 3) := by decide +kernel
theorem nd_LL_learn_61 : decode nc_LL_learn 61 = .ok (.istore_n 2, 1) := by decide +kernel
theorem nd_LL_learn_62 : decode nc_LL_learn 62 = .ok (.iinc 3 1, 3) := by decide +kernel
theorem nd_LL_learn_65 : decode nc_LL_learn 65 = .ok (.goto (-17), 3) := by decide +kernel
theorem nd_LL_learn_68 : decode nc_LL_learn 68 = .ok (.iload_n 2, 1) := by decide +kernel
theorem nd_LL_learn_69 : decode nc_LL_learn 69 = .ok (.ireturn, 1) := by decide +kernel
theorem nd_LL_mistakes_0 : decode nc_LL_mistakes 0 = .ok (.aload_n 0, 1) := by decide +kernel
theorem nd_LL_mistakes_1 : decode nc_LL_mistakes 1 = .ok (.getfield 75, 3) := by decide +kernel
theorem nd_LL_mistakes_4 : decode nc_LL_mistakes 4 = .ok (.ireturn, 1) := by decide +kernel
theorem nd_LL_passes_0 : decode nc_LL_passes 0 = .ok (.aload_n 0, 1) := by decide +kernel
theorem nd_LL_passes_1 : decode nc_LL_passes 1 = .ok (.getfield 79, 3) := by decide +kernel
theorem nd_LL_passes_4 : decode nc_LL_passes 4 = .ok (.ireturn, 1) := by decide +kernel
theorem nd_LL_weight_0 : decode nc_LL_weight 0 = .ok (.iload_n 1, 1) := by decide +kernel
theorem nd_LL_weight_1 : decode nc_LL_weight 1 = .ok (.ifCond .lt 18, 3) := by decide +kernel
theorem nd_LL_weight_4 : decode nc_LL_weight 4 = .ok (.iload_n 1, 1) := by decide +kernel
theorem nd_LL_weight_5 : decode nc_LL_weight 5 = .ok (.bipush 37, 2) := by decide +kernel
theorem nd_LL_weight_7 : decode nc_LL_weight 7 = .ok (.if_icmp .ge 12, 3) := by decide +kernel
theorem nd_LL_weight_10 : decode nc_LL_weight 10 = .ok (.iload_n 2, 1) := by decide +kernel
theorem nd_LL_weight_11 : decode nc_LL_weight 11 = .ok (.ifCond .lt 8, 3) := by decide +kernel
theorem nd_LL_weight_14 : decode nc_LL_weight 14 = .ok (.iload_n 2, 1) := by decide +kernel
theorem nd_LL_weight_15 : decode nc_LL_weight 15 = .ok (.iconst 4, 1) := by decide +kernel
theorem nd_LL_weight_16 : decode nc_LL_weight 16 = .ok (.if_icmp .lt 13, 3) := by decide +kernel
theorem nd_LL_weight_19 : decode nc_LL_weight 19 = .ok (.new 99, 3) := by decide +kernel
theorem nd_LL_weight_22 : decode nc_LL_weight 22 = .ok (.dup, 1) := by decide +kernel
theorem nd_LL_weight_23 : decode nc_LL_weight 23 = .ok (.ldc 131, 2) := by decide +kernel
theorem nd_LL_weight_25 : decode nc_LL_weight 25 = .ok (.invokespecial 103, 3) := by decide +kernel
theorem nd_LL_weight_28 : decode nc_LL_weight 28 = .ok (.athrow, 1) := by decide +kernel
theorem nd_LL_weight_29 : decode nc_LL_weight 29 = .ok (.aload_n 0, 1) := by decide +kernel
theorem nd_LL_weight_30 : decode nc_LL_weight 30 = .ok (.iload_n 3, 1) := by decide +kernel
theorem nd_LL_weight_31 : decode nc_LL_weight 31 = .ok (.invokevirtual 133, 3) := by decide +kernel
theorem nd_LL_weight_34 : decode nc_LL_weight 34 = .ok (.iload_n 1, 1) := by decide +kernel
theorem nd_LL_weight_35 : decode nc_LL_weight 35 = .ok (.iload_n 2, 1) := by decide +kernel
theorem nd_LL_weight_36 : decode nc_LL_weight 36 = .ok (.invokevirtual 137, 3) := by decide +kernel
theorem nd_LL_weight_39 : decode nc_LL_weight 39 = .ok (.lreturn, 1) := by decide +kernel
theorem nd_LL_decode_0 : decode nc_LL_decode 0 = .ok (.aload_n 0, 1) := by decide +kernel
theorem nd_LL_decode_1 : decode nc_LL_decode 1 = .ok (.iload_n 1, 1) := by decide +kernel
theorem nd_LL_decode_2 : decode nc_LL_decode 2 = .ok (.invokevirtual 95, 3) := by decide +kernel
theorem nd_LL_decode_5 : decode nc_LL_decode 5 = .ok (.astore 4, 2) := by decide +kernel
theorem nd_LL_decode_7 : decode nc_LL_decode 7 = .ok (.aload_n 0, 1) := by decide +kernel
theorem nd_LL_decode_8 : decode nc_LL_decode 8 = .ok (.getfield 19, 3) := by decide +kernel
theorem nd_LL_decode_11 : decode nc_LL_decode 11 = .ok (.aload 4, 2) := by decide +kernel
theorem nd_LL_decode_13 : decode nc_LL_decode 13 = .ok (.aload_n 0, 1) := by decide +kernel
theorem nd_LL_decode_14 : decode nc_LL_decode 14 = .ok (.iload_n 2, 1) := by decide +kernel
theorem nd_LL_decode_15 : decode nc_LL_decode 15 = .ok (.invokevirtual 133, 3) := by decide +kernel
theorem nd_LL_decode_18 : decode nc_LL_decode 18 = .ok (.invokevirtual 141, 3) := by decide +kernel
theorem nd_LL_decode_21 : decode nc_LL_decode 21 = .ok (.astore 5, 2) := by decide +kernel
theorem nd_LL_decode_23 : decode nc_LL_decode 23 = .ok (.iload_n 3, 1) := by decide +kernel
theorem nd_LL_decode_24 : decode nc_LL_decode 24 = .ok (.ifCond .eq 7, 3) := by decide +kernel
theorem nd_LL_decode_27 : decode nc_LL_decode 27 = .ok (.iconst 1, 1) := by decide +kernel
theorem nd_LL_decode_28 : decode nc_LL_decode 28 = .ok (.goto 4, 3) := by decide +kernel
theorem nd_LL_decode_31 : decode nc_LL_decode 31 = .ok (.iconst 0, 1) := by decide +kernel
theorem nd_LL_decode_32 : decode nc_LL_decode 32 = .ok (.istore 6, 2) := by decide +kernel
theorem nd_LL_decode_34 : decode nc_LL_decode 34 = .ok (.aload_n 0, 1) := by decide +kernel
theorem nd_LL_decode_35 : decode nc_LL_decode 35 = .ok (.aload 4, 2) := by decide +kernel
theorem nd_LL_decode_37 : decode nc_LL_decode 37 = .ok (.getfield 94, 3) := by decide +kernel
theorem nd_LL_decode_40 : decode nc_LL_decode 40 = .ok (.putfield 145, 3) := by decide +kernel
theorem nd_LL_decode_43 : decode nc_LL_decode 43 = .ok (.aload_n 0, 1) := by decide +kernel
theorem nd_LL_decode_44 : decode nc_LL_decode 44 = .ok (.aload 5, 2) := by decide +kernel
theorem nd_LL_decode_46 : decode nc_LL_decode 46 = .ok (.getfield 148, 3) := by decide +kernel
theorem nd_LL_decode_49 : decode nc_LL_decode 49 = .ok (.iload 6, 2) := by decide +kernel
theorem nd_LL_decode_51 : decode nc_LL_decode 51 = .ok (.iaload, 1) := by decide +kernel
theorem nd_LL_decode_52 : decode nc_LL_decode 52 = .ok (.putfield 154, 3) := by decide +kernel
theorem nd_LL_decode_55 : decode nc_LL_decode 55 = .ok (.aload 5, 2) := by decide +kernel
theorem nd_LL_decode_57 : decode nc_LL_decode 57 = .ok (.getfield 157, 3) := by decide +kernel
theorem nd_LL_decode_60 : decode nc_LL_decode 60 = .ok (.iload 6, 2) := by decide +kernel
theorem nd_LL_decode_62 : decode nc_LL_decode 62 = .ok (.laload, 1) := by decide +kernel
theorem nd_LL_decode_63 : decode nc_LL_decode 63 = .ok (.lreturn, 1) := by decide +kernel
theorem nd_LL_label_0 : decode nc_LL_label 0 = .ok (.iload_n 1, 1) := by decide +kernel
theorem nd_LL_label_1 : decode nc_LL_label 1 = .ok (.aload_n 0, 1) := by decide +kernel
theorem nd_LL_label_2 : decode nc_LL_label 2 = .ok (.getfield 145, 3) := by decide +kernel
theorem nd_LL_label_5 : decode nc_LL_label 5 = .ok (.invokestatic 104, 3) := by decide +kernel
theorem nd_LL_label_8 : decode nc_LL_label 8 = .ok (.aload_n 0, 1) := by decide +kernel
theorem nd_LL_label_9 : decode nc_LL_label 9 = .ok (.getfield 154, 3) := by decide +kernel
theorem nd_LL_label_12 : decode nc_LL_label 12 = .ok (.iload_n 1, 1) := by decide +kernel
theorem nd_LL_label_13 : decode nc_LL_label 13 = .ok (.invokestatic 111, 3) := by decide +kernel
theorem nd_LL_label_16 : decode nc_LL_label 16 = .ok (.ireturn, 1) := by decide +kernel
theorem nd_LL_score_0 : decode nc_LL_score 0 = .ok (.aload_n 0, 1) := by decide +kernel
theorem nd_LL_score_1 : decode nc_LL_score 1 = .ok (.iload_n 3, 1) := by decide +kernel
theorem nd_LL_score_2 : decode nc_LL_score 2 = .ok (.invokevirtual 133, 3) := by decide +kernel
theorem nd_LL_score_5 : decode nc_LL_score 5 = .ok (.aload_n 0, 1) := by decide +kernel
theorem nd_LL_score_6 : decode nc_LL_score 6 = .ok (.iload_n 1, 1) := by decide +kernel
theorem nd_LL_score_7 : decode nc_LL_score 7 = .ok (.invokevirtual 95, 3) := by decide +kernel
theorem nd_LL_score_10 : decode nc_LL_score 10 = .ok (.iload_n 2, 1) := by decide +kernel
theorem nd_LL_score_11 : decode nc_LL_score 11 = .ok (.invokevirtual 161, 3) := by decide +kernel
theorem nd_LL_score_14 : decode nc_LL_score 14 = .ok (.lreturn, 1) := by decide +kernel
theorem nd_LL_errors_0 : decode nc_LL_errors 0 = .ok (.iconst 0, 1) := by decide +kernel
theorem nd_LL_errors_1 : decode nc_LL_errors 1 = .ok (.istore_n 2, 1) := by decide +kernel
theorem nd_LL_errors_2 : decode nc_LL_errors 2 = .ok (.iconst 0, 1) := by decide +kernel
theorem nd_LL_errors_3 : decode nc_LL_errors 3 = .ok (.istore_n 3, 1) := by decide +kernel
theorem nd_LL_errors_4 : decode nc_LL_errors 4 = .ok (.iload_n 3, 1) := by decide +kernel
theorem nd_LL_errors_5 : decode nc_LL_errors 5 = .ok (.aload_n 0, 1) := by decide +kernel
theorem nd_LL_errors_6 : decode nc_LL_errors 6 = .ok (.getfield 36, 3) := by decide +kernel
theorem nd_LL_errors_9 : decode nc_LL_errors 9 = .ok (.getfield 85, 3) := by decide +kernel
theorem nd_LL_errors_12 : decode nc_LL_errors 12 = .ok (.if_icmp .ge 59, 3) := by decide +kernel
theorem nd_LL_errors_15 : decode nc_LL_errors 15 = .ok (.aload_n 0, 1) := by decide +kernel
theorem nd_LL_errors_16 : decode nc_LL_errors 16 = .ok (.getfield 36, 3) := by decide +kernel
theorem nd_LL_errors_19 : decode nc_LL_errors 19 = .ok (.getfield 165, 3) := by decide +kernel
theorem nd_LL_errors_22 : decode nc_LL_errors 22 = .ok (.iload_n 3, 1) := by decide +kernel
theorem nd_LL_errors_23 : decode nc_LL_errors 23 = .ok (.aaload, 1) := by decide +kernel
theorem nd_LL_errors_24 : decode nc_LL_errors 24 = .ok (.astore 4, 2) := by decide +kernel
theorem nd_LL_errors_26 : decode nc_LL_errors 26 = .ok (.aload_n 0, 1) := by decide +kernel
theorem nd_LL_errors_27 : decode nc_LL_errors 27 = .ok (.getfield 19, 3) := by decide +kernel
theorem nd_LL_errors_30 : decode nc_LL_errors 30 = .ok (.aload 4, 2) := by decide +kernel
theorem nd_LL_errors_32 : decode nc_LL_errors 32 = .ok (.aload_n 0, 1) := by decide +kernel
theorem nd_LL_errors_33 : decode nc_LL_errors 33 = .ok (.iload_n 1, 1) := by decide +kernel
theorem nd_LL_errors_34 : decode nc_LL_errors 34 = .ok (.invokevirtual 133, 3) := by decide +kernel
theorem nd_LL_errors_37 : decode nc_LL_errors 37 = .ok (.invokevirtual 141, 3) := by decide +kernel
theorem nd_LL_errors_40 : decode nc_LL_errors 40 = .ok (.getfield 148, 3) := by decide +kernel
theorem nd_LL_errors_43 : decode nc_LL_errors 43 = .ok (.iconst 0, 1) := by decide +kernel
theorem nd_LL_errors_44 : decode nc_LL_errors 44 = .ok (.iaload, 1) := by decide +kernel
theorem nd_LL_errors_45 : decode nc_LL_errors 45 = .ok (.istore 5, 2) := by decide +kernel
theorem nd_LL_errors_47 : decode nc_LL_errors 47 = .ok (.iload_n 2, 1) := by decide +kernel
theorem nd_LL_errors_48 : decode nc_LL_errors 48 = .ok (.aload 4, 2) := by decide +kernel
theorem nd_LL_errors_50 : decode nc_LL_errors 50 = .ok (.getfield 94, 3) := by decide +kernel
theorem nd_LL_errors_53 : decode nc_LL_errors 53 = .ok (.iload 5, 2) := by decide +kernel
theorem nd_LL_errors_55 : decode nc_LL_errors 55 = .ok (.aload 4, 2) := by decide +kernel
theorem nd_LL_errors_57 : decode nc_LL_errors 57 = .ok (.getfield 108, 3) := by decide +kernel
theorem nd_LL_errors_60 : decode nc_LL_errors 60 = .ok (.invokestatic 169, 3) := by decide +kernel
theorem nd_LL_errors_63 : decode nc_LL_errors 63 = .ok (.iadd, 1) := by decide +kernel
theorem nd_LL_errors_64 : decode nc_LL_errors 64 = .ok (.istore_n 2, 1) := by decide +kernel
theorem nd_LL_errors_65 : decode nc_LL_errors 65 = .ok (.iinc 3 1, 3) := by decide +kernel
theorem nd_LL_errors_68 : decode nc_LL_errors 68 = .ok (.goto (-64), 3) := by decide +kernel
theorem nd_LL_errors_71 : decode nc_LL_errors 71 = .ok (.iload_n 2, 1) := by decide +kernel
theorem nd_LL_errors_72 : decode nc_LL_errors 72 = .ok (.ireturn, 1) := by decide +kernel
theorem nd_LL_sentenceNumbered_0 : decode nc_LL_sentenceNumbered 0 = .ok (.iload_n 1, 1) := by decide +kernel
theorem nd_LL_sentenceNumbered_1 : decode nc_LL_sentenceNumbered 1 = .ok (.iconst (-1), 1) := by decide +kernel
theorem nd_LL_sentenceNumbered_2 : decode nc_LL_sentenceNumbered 2 = .ok (.if_icmp .ne 18, 3) := by decide +kernel
theorem nd_LL_sentenceNumbered_5 : decode nc_LL_sentenceNumbered 5 = .ok (.aload_n 0, 1) := by decide +kernel
theorem nd_LL_sentenceNumbered_6 : decode nc_LL_sentenceNumbered 6 = .ok (.getfield 46, 3) := by decide +kernel
theorem nd_LL_sentenceNumbered_9 : decode nc_LL_sentenceNumbered 9 = .ok (.getfield 94, 3) := by decide +kernel
theorem nd_LL_sentenceNumbered_12 : decode nc_LL_sentenceNumbered 12 = .ok (.ifCond .le 8, 3) := by decide +kernel
theorem nd_LL_sentenceNumbered_15 : decode nc_LL_sentenceNumbered 15 = .ok (.aload_n 0, 1) := by decide +kernel
theorem nd_LL_sentenceNumbered_16 : decode nc_LL_sentenceNumbered 16 = .ok (.getfield 46, 3) := by decide +kernel
theorem nd_LL_sentenceNumbered_19 : decode nc_LL_sentenceNumbered 19 = .ok (.areturn, 1) := by decide +kernel
theorem nd_LL_sentenceNumbered_20 : decode nc_LL_sentenceNumbered 20 = .ok (.iload_n 1, 1) := by decide +kernel
theorem nd_LL_sentenceNumbered_21 : decode nc_LL_sentenceNumbered 21 = .ok (.ifCond .lt 14, 3) := by decide +kernel
theorem nd_LL_sentenceNumbered_24 : decode nc_LL_sentenceNumbered 24 = .ok (.iload_n 1, 1) := by decide +kernel
theorem nd_LL_sentenceNumbered_25 : decode nc_LL_sentenceNumbered 25 = .ok (.aload_n 0, 1) := by decide +kernel
theorem nd_LL_sentenceNumbered_26 : decode nc_LL_sentenceNumbered 26 = .ok (.getfield 36, 3) := by decide +kernel
theorem nd_LL_sentenceNumbered_29 : decode nc_LL_sentenceNumbered 29 = .ok (.getfield 85, 3) := by decide +kernel
theorem nd_LL_sentenceNumbered_32 : decode nc_LL_sentenceNumbered 32 = .ok (.if_icmp .lt 13, 3) := by decide +kernel
theorem nd_LL_sentenceNumbered_35 : decode nc_LL_sentenceNumbered 35 = .ok (.new 99, 3) := by decide +kernel
theorem nd_LL_sentenceNumbered_38 : decode nc_LL_sentenceNumbered 38 = .ok (.dup, 1) := by decide +kernel
theorem nd_LL_sentenceNumbered_39 : decode nc_LL_sentenceNumbered 39 = .ok (.ldc 173, 2) := by decide +kernel
theorem nd_LL_sentenceNumbered_41 : decode nc_LL_sentenceNumbered 41 = .ok (.invokespecial 103, 3) := by decide +kernel
theorem nd_LL_sentenceNumbered_44 : decode nc_LL_sentenceNumbered 44 = .ok (.athrow, 1) := by decide +kernel
theorem nd_LL_sentenceNumbered_45 : decode nc_LL_sentenceNumbered 45 = .ok (.aload_n 0, 1) := by decide +kernel
theorem nd_LL_sentenceNumbered_46 : decode nc_LL_sentenceNumbered 46 = .ok (.getfield 36, 3) := by decide +kernel
theorem nd_LL_sentenceNumbered_49 : decode nc_LL_sentenceNumbered 49 = .ok (.getfield 165, 3) := by decide +kernel
theorem nd_LL_sentenceNumbered_52 : decode nc_LL_sentenceNumbered 52 = .ok (.iload_n 1, 1) := by decide +kernel
theorem nd_LL_sentenceNumbered_53 : decode nc_LL_sentenceNumbered 53 = .ok (.aaload, 1) := by decide +kernel
theorem nd_LL_sentenceNumbered_54 : decode nc_LL_sentenceNumbered 54 = .ok (.areturn, 1) := by decide +kernel
theorem nd_LL_forgetDecoding_0 : decode nc_LL_forgetDecoding 0 = .ok (.aload_n 0, 1) := by decide +kernel
theorem nd_LL_forgetDecoding_1 : decode nc_LL_forgetDecoding 1 = .ok (.iconst 0, 1) := by decide +kernel
theorem nd_LL_forgetDecoding_2 : decode nc_LL_forgetDecoding 2 = .ok (.putfield 145, 3) := by decide +kernel
theorem nd_LL_forgetDecoding_5 : decode nc_LL_forgetDecoding 5 = .ok (.aload_n 0, 1) := by decide +kernel
theorem nd_LL_forgetDecoding_6 : decode nc_LL_forgetDecoding 6 = .ok (.iconst 0, 1) := by decide +kernel
theorem nd_LL_forgetDecoding_7 : decode nc_LL_forgetDecoding 7 = .ok (.putfield 154, 3) := by decide +kernel
theorem nd_LL_forgetDecoding_10 : decode nc_LL_forgetDecoding 10 = .ok (.return_, 1) := by decide +kernel
theorem nd_LL_weightsOrTotals_0 : decode nc_LL_weightsOrTotals 0 = .ok (.iload_n 1, 1) := by decide +kernel
theorem nd_LL_weightsOrTotals_1 : decode nc_LL_weightsOrTotals 1 = .ok (.ifCond .eq 10, 3) := by decide +kernel
theorem nd_LL_weightsOrTotals_4 : decode nc_LL_weightsOrTotals 4 = .ok (.aload_n 0, 1) := by decide +kernel
theorem nd_LL_weightsOrTotals_5 : decode nc_LL_weightsOrTotals 5 = .ok (.getfield 30, 3) := by decide +kernel
theorem nd_LL_weightsOrTotals_8 : decode nc_LL_weightsOrTotals 8 = .ok (.goto 7, 3) := by decide +kernel
theorem nd_LL_weightsOrTotals_11 : decode nc_LL_weightsOrTotals 11 = .ok (.aload_n 0, 1) := by decide +kernel
theorem nd_LL_weightsOrTotals_12 : decode nc_LL_weightsOrTotals 12 = .ok (.getfield 26, 3) := by decide +kernel
theorem nd_LL_weightsOrTotals_15 : decode nc_LL_weightsOrTotals 15 = .ok (.areturn, 1) := by decide +kernel
theorem nd_LL_learnCorpus_0 : decode nc_LL_learnCorpus 0 = .ok (.iconst 0, 1) := by decide +kernel
theorem nd_LL_learnCorpus_1 : decode nc_LL_learnCorpus 1 = .ok (.istore_n 1, 1) := by decide +kernel
theorem nd_LL_learnCorpus_2 : decode nc_LL_learnCorpus 2 = .ok (.iconst 0, 1) := by decide +kernel
theorem nd_LL_learnCorpus_3 : decode nc_LL_learnCorpus 3 = .ok (.istore_n 2, 1) := by decide +kernel
theorem nd_LL_learnCorpus_4 : decode nc_LL_learnCorpus 4 = .ok (.iload_n 2, 1) := by decide +kernel
theorem nd_LL_learnCorpus_5 : decode nc_LL_learnCorpus 5 = .ok (.aload_n 0, 1) := by decide +kernel
theorem nd_LL_learnCorpus_6 : decode nc_LL_learnCorpus 6 = .ok (.getfield 36, 3) := by decide +kernel
theorem nd_LL_learnCorpus_9 : decode nc_LL_learnCorpus 9 = .ok (.getfield 85, 3) := by decide +kernel
theorem nd_LL_learnCorpus_12 : decode nc_LL_learnCorpus 12 = .ok (.if_icmp .ge 28, 3) := by decide +kernel
theorem nd_LL_learnCorpus_15 : decode nc_LL_learnCorpus 15 = .ok (.aload_n 0, 1) := by decide +kernel
theorem nd_LL_learnCorpus_16 : decode nc_LL_learnCorpus 16 = .ok (.aload_n 0, 1) := by decide +kernel
theorem nd_LL_learnCorpus_17 : decode nc_LL_learnCorpus 17 = .ok (.getfield 36, 3) := by decide +kernel
theorem nd_LL_learnCorpus_20 : decode nc_LL_learnCorpus 20 = .ok (.getfield 165, 3) := by decide +kernel
theorem nd_LL_learnCorpus_23 : decode nc_LL_learnCorpus 23 = .ok (.iload_n 2, 1) := by decide +kernel
theorem nd_LL_learnCorpus_24 : decode nc_LL_learnCorpus 24 = .ok (.aaload, 1) := by decide +kernel
theorem nd_LL_learnCorpus_25 : decode nc_LL_learnCorpus 25 = .ok (.invokevirtual 175, 3) := by decide +kernel
theorem nd_LL_learnCorpus_28 : decode nc_LL_learnCorpus 28 = .ok (.ifCond .eq 6, 3) := by decide +kernel
theorem nd_LL_learnCorpus_31 : decode nc_LL_learnCorpus 31 = .ok (.iinc 1 1, 3) := by decide +kernel
theorem nd_LL_learnCorpus_34 : decode nc_LL_learnCorpus 34 = .ok (.iinc 2 1, 3) := by decide +kernel
theorem nd_LL_learnCorpus_37 : decode nc_LL_learnCorpus 37 = .ok (.goto (-33), 3) := by decide +kernel
theorem nd_LL_learnCorpus_40 : decode nc_LL_learnCorpus 40 = .ok (.aload_n 0, 1) := by decide +kernel
theorem nd_LL_learnCorpus_41 : decode nc_LL_learnCorpus 41 = .ok (.dup, 1) := by decide +kernel
theorem nd_LL_learnCorpus_42 : decode nc_LL_learnCorpus 42 = .ok (.getfield 75, 3) := by decide +kernel
theorem nd_LL_learnCorpus_45 : decode nc_LL_learnCorpus 45 = .ok (.iload_n 1, 1) := by decide +kernel
theorem nd_LL_learnCorpus_46 : decode nc_LL_learnCorpus 46 = .ok (.iadd, 1) := by decide +kernel
theorem nd_LL_learnCorpus_47 : decode nc_LL_learnCorpus 47 = .ok (.putfield 75, 3) := by decide +kernel
theorem nd_LL_learnCorpus_50 : decode nc_LL_learnCorpus 50 = .ok (.aload_n 0, 1) := by decide +kernel
theorem nd_LL_learnCorpus_51 : decode nc_LL_learnCorpus 51 = .ok (.dup, 1) := by decide +kernel
theorem nd_LL_learnCorpus_52 : decode nc_LL_learnCorpus 52 = .ok (.getfield 79, 3) := by decide +kernel
theorem nd_LL_learnCorpus_55 : decode nc_LL_learnCorpus 55 = .ok (.iconst 1, 1) := by decide +kernel
theorem nd_LL_learnCorpus_56 : decode nc_LL_learnCorpus 56 = .ok (.iadd, 1) := by decide +kernel
theorem nd_LL_learnCorpus_57 : decode nc_LL_learnCorpus 57 = .ok (.putfield 79, 3) := by decide +kernel
theorem nd_LL_learnCorpus_60 : decode nc_LL_learnCorpus 60 = .ok (.iload_n 1, 1) := by decide +kernel
theorem nd_LL_learnCorpus_61 : decode nc_LL_learnCorpus 61 = .ok (.ireturn, 1) := by decide +kernel
theorem nd_LL_learnSentence_0 : decode nc_LL_learnSentence 0 = .ok (.aload_n 0, 1) := by decide +kernel
theorem nd_LL_learnSentence_1 : decode nc_LL_learnSentence 1 = .ok (.getfield 19, 3) := by decide +kernel
theorem nd_LL_learnSentence_4 : decode nc_LL_learnSentence 4 = .ok (.aload_n 1, 1) := by decide +kernel
theorem nd_LL_learnSentence_5 : decode nc_LL_learnSentence 5 = .ok (.aload_n 0, 1) := by decide +kernel
theorem nd_LL_learnSentence_6 : decode nc_LL_learnSentence 6 = .ok (.getfield 26, 3) := by decide +kernel
theorem nd_LL_learnSentence_9 : decode nc_LL_learnSentence 9 = .ok (.invokevirtual 141, 3) := by decide +kernel
theorem nd_LL_learnSentence_12 : decode nc_LL_learnSentence 12 = .ok (.getfield 148, 3) := by decide +kernel
theorem nd_LL_learnSentence_15 : decode nc_LL_learnSentence 15 = .ok (.iconst 0, 1) := by decide +kernel
theorem nd_LL_learnSentence_16 : decode nc_LL_learnSentence 16 = .ok (.iaload, 1) := by decide +kernel
theorem nd_LL_learnSentence_17 : decode nc_LL_learnSentence 17 = .ok (.istore_n 2, 1) := by decide +kernel
theorem nd_LL_learnSentence_18 : decode nc_LL_learnSentence 18 = .ok (.iload_n 2, 1) := by decide +kernel
theorem nd_LL_learnSentence_19 : decode nc_LL_learnSentence 19 = .ok (.aload_n 1, 1) := by decide +kernel
theorem nd_LL_learnSentence_20 : decode nc_LL_learnSentence 20 = .ok (.getfield 108, 3) := by decide +kernel
theorem nd_LL_learnSentence_23 : decode nc_LL_learnSentence 23 = .ok (.if_icmp .eq 7, 3) := by decide +kernel
theorem nd_LL_learnSentence_26 : decode nc_LL_learnSentence 26 = .ok (.iconst 1, 1) := by decide +kernel
theorem nd_LL_learnSentence_27 : decode nc_LL_learnSentence 27 = .ok (.goto 4, 3) := by decide +kernel
theorem nd_LL_learnSentence_30 : decode nc_LL_learnSentence 30 = .ok (.iconst 0, 1) := by decide +kernel
theorem nd_LL_learnSentence_31 : decode nc_LL_learnSentence 31 = .ok (.istore_n 3, 1) := by decide +kernel
theorem nd_LL_learnSentence_32 : decode nc_LL_learnSentence 32 = .ok (.iload_n 3, 1) := by decide +kernel
theorem nd_LL_learnSentence_33 : decode nc_LL_learnSentence 33 = .ok (.ifCond .eq 28, 3) := by decide +kernel
theorem nd_LL_learnSentence_36 : decode nc_LL_learnSentence 36 = .ok (.aload_n 0, 1) := by decide +kernel
theorem nd_LL_learnSentence_37 : decode nc_LL_learnSentence 37 = .ok (.getfield 26, 3) := by decide +kernel
theorem nd_LL_learnSentence_40 : decode nc_LL_learnSentence 40 = .ok (.aload_n 1, 1) := by decide +kernel
theorem nd_LL_learnSentence_41 : decode nc_LL_learnSentence 41 = .ok (.aload_n 1, 1) := by decide +kernel
theorem nd_LL_learnSentence_42 : decode nc_LL_learnSentence 42 = .ok (.getfield 108, 3) := by decide +kernel
theorem nd_LL_learnSentence_45 : decode nc_LL_learnSentence 45 = .ok (.lconst 1, 1) := by decide +kernel
theorem nd_LL_learnSentence_46 : decode nc_LL_learnSentence 46 = .ok (.invokevirtual 178, 3) := by decide +kernel
theorem nd_LL_learnSentence_49 : decode nc_LL_learnSentence 49 = .ok (.aload_n 0, 1) := by decide +kernel
theorem nd_LL_learnSentence_50 : decode nc_LL_learnSentence 50 = .ok (.getfield 26, 3) := by decide +kernel
theorem nd_LL_learnSentence_53 : decode nc_LL_learnSentence 53 = .ok (.aload_n 1, 1) := by decide +kernel
theorem nd_LL_learnSentence_54 : decode nc_LL_learnSentence 54 = .ok (.iload_n 2, 1) := by decide +kernel
theorem nd_LL_learnSentence_55 : decode nc_LL_learnSentence 55 = .ok (.ldc2_w 182, 3) := by decide +kernel
theorem nd_LL_learnSentence_58 : decode nc_LL_learnSentence 58 = .ok (.invokevirtual 178, 3) := by decide +kernel
theorem nd_LL_learnSentence_61 : decode nc_LL_learnSentence 61 = .ok (.aload_n 0, 1) := by decide +kernel
theorem nd_LL_learnSentence_62 : decode nc_LL_learnSentence 62 = .ok (.getfield 30, 3) := by decide +kernel
end
section
theorem nd_LL_learnSentence_65 : decode nc_LL_learnSentence 65 = .ok (.aload_n 0, 1) := by decide +kernel
theorem nd_LL_learnSentence_66 : decode nc_LL_learnSentence 66 = .ok (.getfield 26, 3) := by decide +kernel
theorem nd_LL_learnSentence_69 : decode nc_LL_learnSentence 69 = .ok (.invokevirtual 184, 3) := by decide +kernel
theorem nd_LL_learnSentence_72 : decode nc_LL_learnSentence 72 = .ok (.iload_n 3, 1) := by decide +kernel
theorem nd_LL_learnSentence_73 : decode nc_LL_learnSentence 73 = .ok (.ireturn, 1) := by decide +kernel
theorem nd_LL_requireWord_0 : decode nc_LL_requireWord 0 = .ok (.iload_n 0, 1) := by decide +kernel
theorem nd_LL_requireWord_1 : decode nc_LL_requireWord 1 = .ok (.ifCond .lt 8, 3) := by decide +kernel
theorem nd_LL_requireWord_4 : decode nc_LL_requireWord 4 = .ok (.iload_n 0, 1) := by decide +kernel
theorem nd_LL_requireWord_5 : decode nc_LL_requireWord 5 = .ok (.iload_n 1, 1) := by decide +kernel
theorem nd_LL_requireWord_6 : decode nc_LL_requireWord 6 = .ok (.if_icmp .lt 13, 3) := by decide +kernel
theorem nd_LL_requireWord_9 : decode nc_LL_requireWord 9 = .ok (.new 99, 3) := by decide +kernel
theorem nd_LL_requireWord_12 : decode nc_LL_requireWord 12 = .ok (.dup, 1) := by decide +kernel
theorem nd_LL_requireWord_13 : decode nc_LL_requireWord 13 = .ok (.ldc 188, 2) := by decide +kernel
theorem nd_LL_requireWord_15 : decode nc_LL_requireWord 15 = .ok (.invokespecial 103, 3) := by decide +kernel
theorem nd_LL_requireWord_18 : decode nc_LL_requireWord 18 = .ok (.athrow, 1) := by decide +kernel
theorem nd_LL_requireWord_19 : decode nc_LL_requireWord 19 = .ok (.return_, 1) := by decide +kernel
theorem nd_LL_labelIn_0 : decode nc_LL_labelIn 0 = .ok (.iload_n 0, 1) := by decide +kernel
theorem nd_LL_labelIn_1 : decode nc_LL_labelIn 1 = .ok (.iconst 2, 1) := by decide +kernel
theorem nd_LL_labelIn_2 : decode nc_LL_labelIn 2 = .ok (.iload_n 1, 1) := by decide +kernel
theorem nd_LL_labelIn_3 : decode nc_LL_labelIn 3 = .ok (.imul, 1) := by decide +kernel
theorem nd_LL_labelIn_4 : decode nc_LL_labelIn 4 = .ok (.iushr, 1) := by decide +kernel
theorem nd_LL_labelIn_5 : decode nc_LL_labelIn 5 = .ok (.iconst 3, 1) := by decide +kernel
theorem nd_LL_labelIn_6 : decode nc_LL_labelIn 6 = .ok (.iand, 1) := by decide +kernel
theorem nd_LL_labelIn_7 : decode nc_LL_labelIn 7 = .ok (.ireturn, 1) := by decide +kernel
theorem nd_LL_differences_0 : decode nc_LL_differences 0 = .ok (.iconst 0, 1) := by decide +kernel
theorem nd_LL_differences_1 : decode nc_LL_differences 1 = .ok (.istore_n 3, 1) := by decide +kernel
theorem nd_LL_differences_2 : decode nc_LL_differences 2 = .ok (.iconst 0, 1) := by decide +kernel
theorem nd_LL_differences_3 : decode nc_LL_differences 3 = .ok (.istore 4, 2) := by decide +kernel
theorem nd_LL_differences_5 : decode nc_LL_differences 5 = .ok (.iload 4, 2) := by decide +kernel
theorem nd_LL_differences_7 : decode nc_LL_differences 7 = .ok (.iload_n 0, 1) := by decide +kernel
theorem nd_LL_differences_8 : decode nc_LL_differences 8 = .ok (.if_icmp .ge 27, 3) := by decide +kernel
theorem nd_LL_differences_11 : decode nc_LL_differences 11 = .ok (.iload_n 1, 1) := by decide +kernel
theorem nd_LL_differences_12 : decode nc_LL_differences 12 = .ok (.iload 4, 2) := by decide +kernel
theorem nd_LL_differences_14 : decode nc_LL_differences 14 = .ok (.invokestatic 111, 3) := by decide +kernel
theorem nd_LL_differences_17 : decode nc_LL_differences 17 = .ok (.iload_n 2, 1) := by decide +kernel
theorem nd_LL_differences_18 : decode nc_LL_differences 18 = .ok (.iload 4, 2) := by decide +kernel
theorem nd_LL_differences_20 : decode nc_LL_differences 20 = .ok (.invokestatic 111, 3) := by decide +kernel
theorem nd_LL_differences_23 : decode nc_LL_differences 23 = .ok (.if_icmp .eq 6, 3) := by decide +kernel
theorem nd_LL_differences_26 : decode nc_LL_differences 26 = .ok (.iinc 3 1, 3) := by decide +kernel
theorem nd_LL_differences_29 : decode nc_LL_differences 29 = .ok (.iinc 4 1, 3) := by decide +kernel
theorem nd_LL_differences_32 : decode nc_LL_differences 32 = .ok (.goto (-27), 3) := by decide +kernel
theorem nd_LL_differences_35 : decode nc_LL_differences 35 = .ok (.iload_n 3, 1) := by decide +kernel
theorem nd_LL_differences_36 : decode nc_LL_differences 36 = .ok (.ireturn, 1) := by decide +kernel
theorem nd_Mo_init_0 : decode nc_Mo_init 0 = .ok (.aload_n 0, 1) := by decide +kernel
theorem nd_Mo_init_1 : decode nc_Mo_init 1 = .ok (.invokespecial 1, 3) := by decide +kernel
theorem nd_Mo_init_4 : decode nc_Mo_init 4 = .ok (.aload_n 0, 1) := by decide +kernel
theorem nd_Mo_init_5 : decode nc_Mo_init 5 = .ok (.sipush 240, 3) := by decide +kernel
theorem nd_Mo_init_8 : decode nc_Mo_init 8 = .ok (.newarray .int, 2) := by decide +kernel
theorem nd_Mo_init_10 : decode nc_Mo_init 10 = .ok (.putfield 7, 3) := by decide +kernel
theorem nd_Mo_init_13 : decode nc_Mo_init 13 = .ok (.aload_n 0, 1) := by decide +kernel
theorem nd_Mo_init_14 : decode nc_Mo_init 14 = .ok (.bipush 9, 2) := by decide +kernel
theorem nd_Mo_init_16 : decode nc_Mo_init 16 = .ok (.newarray .int, 2) := by decide +kernel
theorem nd_Mo_init_18 : decode nc_Mo_init 18 = .ok (.putfield 13, 3) := by decide +kernel
theorem nd_Mo_init_21 : decode nc_Mo_init 21 = .ok (.aload_n 0, 1) := by decide +kernel
theorem nd_Mo_init_22 : decode nc_Mo_init 22 = .ok (.sipush 162, 3) := by decide +kernel
theorem nd_Mo_init_25 : decode nc_Mo_init 25 = .ok (.newarray .int, 2) := by decide +kernel
theorem nd_Mo_init_27 : decode nc_Mo_init 27 = .ok (.putfield 16, 3) := by decide +kernel
theorem nd_Mo_init_30 : decode nc_Mo_init 30 = .ok (.aload_n 0, 1) := by decide +kernel
theorem nd_Mo_init_31 : decode nc_Mo_init 31 = .ok (.bipush 54, 2) := by decide +kernel
theorem nd_Mo_init_33 : decode nc_Mo_init 33 = .ok (.newarray .int, 2) := by decide +kernel
theorem nd_Mo_init_35 : decode nc_Mo_init 35 = .ok (.putfield 19, 3) := by decide +kernel
theorem nd_Mo_init_38 : decode nc_Mo_init 38 = .ok (.aload_n 0, 1) := by decide +kernel
theorem nd_Mo_init_39 : decode nc_Mo_init 39 = .ok (.bipush 9, 2) := by decide +kernel
theorem nd_Mo_init_41 : decode nc_Mo_init 41 = .ok (.newarray .int, 2) := by decide +kernel
theorem nd_Mo_init_43 : decode nc_Mo_init 43 = .ok (.putfield 22, 3) := by decide +kernel
theorem nd_Mo_init_46 : decode nc_Mo_init 46 = .ok (.aload_n 0, 1) := by decide +kernel
theorem nd_Mo_init_47 : decode nc_Mo_init 47 = .ok (.sipush 162, 3) := by decide +kernel
theorem nd_Mo_init_50 : decode nc_Mo_init 50 = .ok (.newarray .int, 2) := by decide +kernel
theorem nd_Mo_init_52 : decode nc_Mo_init 52 = .ok (.putfield 25, 3) := by decide +kernel
theorem nd_Mo_init_55 : decode nc_Mo_init 55 = .ok (.aload_n 0, 1) := by decide +kernel
theorem nd_Mo_init_56 : decode nc_Mo_init 56 = .ok (.bipush 54, 2) := by decide +kernel
theorem nd_Mo_init_58 : decode nc_Mo_init 58 = .ok (.newarray .int, 2) := by decide +kernel
theorem nd_Mo_init_60 : decode nc_Mo_init 60 = .ok (.putfield 28, 3) := by decide +kernel
theorem nd_Mo_init_63 : decode nc_Mo_init 63 = .ok (.aload_n 0, 1) := by decide +kernel
theorem nd_Mo_init_64 : decode nc_Mo_init 64 = .ok (.sipush 148, 3) := by decide +kernel
theorem nd_Mo_init_67 : decode nc_Mo_init 67 = .ok (.newarray .long, 2) := by decide +kernel
theorem nd_Mo_init_69 : decode nc_Mo_init 69 = .ok (.putfield 31, 3) := by decide +kernel
theorem nd_Mo_init_72 : decode nc_Mo_init 72 = .ok (.aload_n 0, 1) := by decide +kernel
theorem nd_Mo_init_73 : decode nc_Mo_init 73 = .ok (.sipush 148, 3) := by decide +kernel
theorem nd_Mo_init_76 : decode nc_Mo_init 76 = .ok (.newarray .long, 2) := by decide +kernel
theorem nd_Mo_init_78 : decode nc_Mo_init 78 = .ok (.putfield 35, 3) := by decide +kernel
theorem nd_Mo_init_81 : decode nc_Mo_init 81 = .ok (.aload_n 0, 1) := by decide +kernel
theorem nd_Mo_init_82 : decode nc_Mo_init 82 = .ok (.bipush 24, 2) := by decide +kernel
theorem nd_Mo_init_84 : decode nc_Mo_init 84 = .ok (.newarray .long, 2) := by decide +kernel
theorem nd_Mo_init_86 : decode nc_Mo_init 86 = .ok (.putfield 38, 3) := by decide +kernel
theorem nd_Mo_init_89 : decode nc_Mo_init 89 = .ok (.aload_n 0, 1) := by decide +kernel
theorem nd_Mo_init_90 : decode nc_Mo_init 90 = .ok (.bipush 6, 2) := by decide +kernel
theorem nd_Mo_init_92 : decode nc_Mo_init 92 = .ok (.newarray .int, 2) := by decide +kernel
theorem nd_Mo_init_94 : decode nc_Mo_init 94 = .ok (.putfield 41, 3) := by decide +kernel
theorem nd_Mo_init_97 : decode nc_Mo_init 97 = .ok (.aload_n 0, 1) := by decide +kernel
theorem nd_Mo_init_98 : decode nc_Mo_init 98 = .ok (.bipush 7, 2) := by decide +kernel
theorem nd_Mo_init_100 : decode nc_Mo_init 100 = .ok (.newarray .long, 2) := by decide +kernel
theorem nd_Mo_init_102 : decode nc_Mo_init 102 = .ok (.putfield 44, 3) := by decide +kernel
theorem nd_Mo_init_105 : decode nc_Mo_init 105 = .ok (.aload_n 0, 1) := by decide +kernel
theorem nd_Mo_init_106 : decode nc_Mo_init 106 = .ok (.iconst (-1), 1) := by decide +kernel
theorem nd_Mo_init_107 : decode nc_Mo_init 107 = .ok (.putfield 47, 3) := by decide +kernel
theorem nd_Mo_init_110 : decode nc_Mo_init 110 = .ok (.return_, 1) := by decide +kernel
theorem nd_Mo_thrown_0 : decode nc_Mo_thrown 0 = .ok (.aload_n 0, 1) := by decide +kernel
theorem nd_Mo_thrown_1 : decode nc_Mo_thrown 1 = .ok (.getfield 51, 3) := by decide +kernel
theorem nd_Mo_thrown_4 : decode nc_Mo_thrown 4 = .ok (.ireturn, 1) := by decide +kernel
theorem nd_Mo_letter_0 : decode nc_Mo_letter 0 = .ok (.lload_n 0, 1) := by decide +kernel
theorem nd_Mo_letter_1 : decode nc_Mo_letter 1 = .ok (.bipush 8, 2) := by decide +kernel
theorem nd_Mo_letter_3 : decode nc_Mo_letter 3 = .ok (.iload_n 2, 1) := by decide +kernel
theorem nd_Mo_letter_4 : decode nc_Mo_letter 4 = .ok (.imul, 1) := by decide +kernel
theorem nd_Mo_letter_5 : decode nc_Mo_letter 5 = .ok (.lshr, 1) := by decide +kernel
theorem nd_Mo_letter_6 : decode nc_Mo_letter 6 = .ok (.ldc2_w 54, 3) := by decide +kernel
theorem nd_Mo_letter_9 : decode nc_Mo_letter 9 = .ok (.land, 1) := by decide +kernel
theorem nd_Mo_letter_10 : decode nc_Mo_letter 10 = .ok (.l2i, 1) := by decide +kernel
theorem nd_Mo_letter_11 : decode nc_Mo_letter 11 = .ok (.ireturn, 1) := by decide +kernel
theorem nd_Mo_type_0 : decode nc_Mo_type 0 = .ok (.aload_n 0, 1) := by decide +kernel
theorem nd_Mo_type_1 : decode nc_Mo_type 1 = .ok (.iconst 0, 1) := by decide +kernel
theorem nd_Mo_type_2 : decode nc_Mo_type 2 = .ok (.putfield 51, 3) := by decide +kernel
theorem nd_Mo_type_5 : decode nc_Mo_type 5 = .ok (.iload_n 3, 1) := by decide +kernel
theorem nd_Mo_type_6 : decode nc_Mo_type 6 = .ok (.ifCond .le 25, 3) := by decide +kernel
theorem nd_Mo_type_9 : decode nc_Mo_type 9 = .ok (.iload_n 3, 1) := by decide +kernel
theorem nd_Mo_type_10 : decode nc_Mo_type 10 = .ok (.bipush 9, 2) := by decide +kernel
theorem nd_Mo_type_12 : decode nc_Mo_type 12 = .ok (.if_icmp .ge 19, 3) := by decide +kernel
theorem nd_Mo_type_15 : decode nc_Mo_type 15 = .ok (.aload_n 0, 1) := by decide +kernel
theorem nd_Mo_type_16 : decode nc_Mo_type 16 = .ok (.getfield 56, 3) := by decide +kernel
theorem nd_Mo_type_19 : decode nc_Mo_type 19 = .ok (.iload_n 3, 1) := by decide +kernel
theorem nd_Mo_type_20 : decode nc_Mo_type 20 = .ok (.iadd, 1) := by decide +kernel
theorem nd_Mo_type_21 : decode nc_Mo_type 21 = .ok (.sipush 240, 3) := by decide +kernel
theorem nd_Mo_type_24 : decode nc_Mo_type 24 = .ok (.if_icmp .gt 7, 3) := by decide +kernel
theorem nd_Mo_type_27 : decode nc_Mo_type 27 = .ok (.iconst 1, 1) := by decide +kernel
theorem nd_Mo_type_28 : decode nc_Mo_type 28 = .ok (.goto 4, 3) := by decide +kernel
theorem nd_Mo_type_31 : decode nc_Mo_type 31 = .ok (.iconst 0, 1) := by decide +kernel
theorem nd_Mo_type_32 : decode nc_Mo_type 32 = .ok (.istore 4, 2) := by decide +kernel
theorem nd_Mo_type_34 : decode nc_Mo_type 34 = .ok (.iconst 0, 1) := by decide +kernel
theorem nd_Mo_type_35 : decode nc_Mo_type 35 = .ok (.istore 5, 2) := by decide +kernel
theorem nd_Mo_type_37 : decode nc_Mo_type 37 = .ok (.iload 5, 2) := by decide +kernel
theorem nd_Mo_type_39 : decode nc_Mo_type 39 = .ok (.iload_n 3, 1) := by decide +kernel
theorem nd_Mo_type_40 : decode nc_Mo_type 40 = .ok (.if_icmp .ge 43, 3) := by decide +kernel
theorem nd_Mo_type_43 : decode nc_Mo_type 43 = .ok (.iload 4, 2) := by decide +kernel
theorem nd_Mo_type_45 : decode nc_Mo_type 45 = .ok (.ifCond .eq 38, 3) := by decide +kernel
theorem nd_Mo_type_48 : decode nc_Mo_type 48 = .ok (.lload_n 1, 1) := by decide +kernel
theorem nd_Mo_type_49 : decode nc_Mo_type 49 = .ok (.iload 5, 2) := by decide +kernel
theorem nd_Mo_type_51 : decode nc_Mo_type 51 = .ok (.invokestatic 59, 3) := by decide +kernel
theorem nd_Mo_type_54 : decode nc_Mo_type 54 = .ok (.bipush 31, 2) := by decide +kernel
theorem nd_Mo_type_56 : decode nc_Mo_type 56 = .ok (.if_icmp .le 18, 3) := by decide +kernel
theorem nd_Mo_type_59 : decode nc_Mo_type 59 = .ok (.lload_n 1, 1) := by decide +kernel
theorem nd_Mo_type_60 : decode nc_Mo_type 60 = .ok (.iload 5, 2) := by decide +kernel
theorem nd_Mo_type_62 : decode nc_Mo_type 62 = .ok (.invokestatic 59, 3) := by decide +kernel
theorem nd_Mo_type_65 : decode nc_Mo_type 65 = .ok (.bipush 127, 2) := by decide +kernel
theorem nd_Mo_type_67 : decode nc_Mo_type 67 = .ok (.if_icmp .ge 7, 3) := by decide +kernel
theorem nd_Mo_type_70 : decode nc_Mo_type 70 = .ok (.iconst 1, 1) := by decide +kernel
theorem nd_Mo_type_71 : decode nc_Mo_type 71 = .ok (.goto 4, 3) := by decide +kernel
theorem nd_Mo_type_74 : decode nc_Mo_type 74 = .ok (.iconst 0, 1) := by decide +kernel
theorem nd_Mo_type_75 : decode nc_Mo_type 75 = .ok (.istore 4, 2) := by decide +kernel
theorem nd_Mo_type_77 : decode nc_Mo_type 77 = .ok (.iinc 5 1, 3) := by decide +kernel
theorem nd_Mo_type_80 : decode nc_Mo_type 80 = .ok (.goto (-43), 3) := by decide +kernel
theorem nd_Mo_type_83 : decode nc_Mo_type 83 = .ok (.iconst 0, 1) := by decide +kernel
theorem nd_Mo_type_84 : decode nc_Mo_type 84 = .ok (.istore 5, 2) := by decide +kernel
theorem nd_Mo_type_86 : decode nc_Mo_type 86 = .ok (.iload 5, 2) := by decide +kernel
theorem nd_Mo_type_88 : decode nc_Mo_type 88 = .ok (.iload_n 3, 1) := by decide +kernel
theorem nd_Mo_type_89 : decode nc_Mo_type 89 = .ok (.if_icmp .ge 39, 3) := by decide +kernel
theorem nd_Mo_type_92 : decode nc_Mo_type 92 = .ok (.iload 4, 2) := by decide +kernel
theorem nd_Mo_type_94 : decode nc_Mo_type 94 = .ok (.ifCond .eq 34, 3) := by decide +kernel
theorem nd_Mo_type_97 : decode nc_Mo_type 97 = .ok (.aload_n 0, 1) := by decide +kernel
theorem nd_Mo_type_98 : decode nc_Mo_type 98 = .ok (.getfield 7, 3) := by decide +kernel
theorem nd_Mo_type_101 : decode nc_Mo_type 101 = .ok (.aload_n 0, 1) := by decide +kernel
theorem nd_Mo_type_102 : decode nc_Mo_type 102 = .ok (.getfield 56, 3) := by decide +kernel
theorem nd_Mo_type_105 : decode nc_Mo_type 105 = .ok (.lload_n 1, 1) := by decide +kernel
theorem nd_Mo_type_106 : decode nc_Mo_type 106 = .ok (.iload 5, 2) := by decide +kernel
theorem nd_Mo_type_108 : decode nc_Mo_type 108 = .ok (.invokestatic 59, 3) := by decide +kernel
theorem nd_Mo_type_111 : decode nc_Mo_type 111 = .ok (.iastore, 1) := by decide +kernel
theorem nd_Mo_type_112 : decode nc_Mo_type 112 = .ok (.aload_n 0, 1) := by decide +kernel
theorem nd_Mo_type_113 : decode nc_Mo_type 113 = .ok (.dup, 1) := by decide +kernel
theorem nd_Mo_type_114 : decode nc_Mo_type 114 = .ok (.getfield 56, 3) := by decide +kernel
theorem nd_Mo_type_117 : decode nc_Mo_type 117 = .ok (.iconst 1, 1) := by decide +kernel
theorem nd_Mo_type_118 : decode nc_Mo_type 118 = .ok (.iadd, 1) := by decide +kernel
theorem nd_Mo_type_119 : decode nc_Mo_type 119 = .ok (.putfield 56, 3) := by decide +kernel
theorem nd_Mo_type_122 : decode nc_Mo_type 122 = .ok (.iinc 5 1, 3) := by decide +kernel
theorem nd_Mo_type_125 : decode nc_Mo_type 125 = .ok (.goto (-39), 3) := by decide +kernel
theorem nd_Mo_type_128 : decode nc_Mo_type 128 = .ok (.iload 4, 2) := by decide +kernel
theorem nd_Mo_type_130 : decode nc_Mo_type 130 = .ok (.ireturn, 1) := by decide +kernel
theorem nd_Mo_cut_0 : decode nc_Mo_cut 0 = .ok (.aload_n 0, 1) := by decide +kernel
theorem nd_Mo_cut_1 : decode nc_Mo_cut 1 = .ok (.iconst 0, 1) := by decide +kernel
theorem nd_Mo_cut_2 : decode nc_Mo_cut 2 = .ok (.putfield 51, 3) := by decide +kernel
theorem nd_Mo_cut_5 : decode nc_Mo_cut 5 = .ok (.iload_n 1, 1) := by decide +kernel
theorem nd_Mo_cut_6 : decode nc_Mo_cut 6 = .ok (.ifCond .lt 11, 3) := by decide +kernel
theorem nd_Mo_cut_9 : decode nc_Mo_cut 9 = .ok (.iload_n 1, 1) := by decide +kernel
theorem nd_Mo_cut_10 : decode nc_Mo_cut 10 = .ok (.aload_n 0, 1) := by decide +kernel
theorem nd_Mo_cut_11 : decode nc_Mo_cut 11 = .ok (.getfield 56, 3) := by decide +kernel
theorem nd_Mo_cut_14 : decode nc_Mo_cut 14 = .ok (.if_icmp .le 5, 3) := by decide +kernel
theorem nd_Mo_cut_17 : decode nc_Mo_cut 17 = .ok (.iconst 0, 1) := by decide +kernel
theorem nd_Mo_cut_18 : decode nc_Mo_cut 18 = .ok (.ireturn, 1) := by decide +kernel
theorem nd_Mo_cut_19 : decode nc_Mo_cut 19 = .ok (.aload_n 0, 1) := by decide +kernel
theorem nd_Mo_cut_20 : decode nc_Mo_cut 20 = .ok (.iload_n 1, 1) := by decide +kernel
theorem nd_Mo_cut_21 : decode nc_Mo_cut 21 = .ok (.putfield 56, 3) := by decide +kernel
theorem nd_Mo_cut_24 : decode nc_Mo_cut 24 = .ok (.iconst 1, 1) := by decide +kernel
theorem nd_Mo_cut_25 : decode nc_Mo_cut 25 = .ok (.ireturn, 1) := by decide +kernel
theorem nd_Mo_isLetter_0 : decode nc_Mo_isLetter 0 = .ok (.iload_n 1, 1) := by decide +kernel
theorem nd_Mo_isLetter_1 : decode nc_Mo_isLetter 1 = .ok (.aload_n 0, 1) := by decide +kernel
theorem nd_Mo_isLetter_2 : decode nc_Mo_isLetter 2 = .ok (.getfield 56, 3) := by decide +kernel
theorem nd_Mo_isLetter_5 : decode nc_Mo_isLetter 5 = .ok (.if_icmp .ge 29, 3) := by decide +kernel
theorem nd_Mo_isLetter_8 : decode nc_Mo_isLetter 8 = .ok (.aload_n 0, 1) := by decide +kernel
theorem nd_Mo_isLetter_9 : decode nc_Mo_isLetter 9 = .ok (.getfield 7, 3) := by decide +kernel
theorem nd_Mo_isLetter_12 : decode nc_Mo_isLetter 12 = .ok (.iload_n 1, 1) := by decide +kernel
theorem nd_Mo_isLetter_13 : decode nc_Mo_isLetter 13 = .ok (.iaload, 1) := by decide +kernel
theorem nd_Mo_isLetter_14 : decode nc_Mo_isLetter 14 = .ok (.bipush 97, 2) := by decide +kernel
theorem nd_Mo_isLetter_16 : decode nc_Mo_isLetter 16 = .ok (.if_icmp .lt 18, 3) := by decide +kernel
theorem nd_Mo_isLetter_19 : decode nc_Mo_isLetter 19 = .ok (.aload_n 0, 1) := by decide +kernel
theorem nd_Mo_isLetter_20 : decode nc_Mo_isLetter 20 = .ok (.getfield 7, 3) := by decide +kernel
theorem nd_Mo_isLetter_23 : decode nc_Mo_isLetter 23 = .ok (.iload_n 1, 1) := by decide +kernel
theorem nd_Mo_isLetter_24 : decode nc_Mo_isLetter 24 = .ok (.iaload, 1) := by decide +kernel
theorem nd_Mo_isLetter_25 : decode nc_Mo_isLetter 25 = .ok (.bipush 122, 2) := by decide +kernel
theorem nd_Mo_isLetter_27 : decode nc_Mo_isLetter 27 = .ok (.if_icmp .gt 7, 3) := by decide +kernel
theorem nd_Mo_isLetter_30 : decode nc_Mo_isLetter 30 = .ok (.iconst 1, 1) := by decide +kernel
theorem nd_Mo_isLetter_31 : decode nc_Mo_isLetter 31 = .ok (.goto 4, 3) := by decide +kernel
theorem nd_Mo_isLetter_34 : decode nc_Mo_isLetter 34 = .ok (.iconst 0, 1) := by decide +kernel
theorem nd_Mo_isLetter_35 : decode nc_Mo_isLetter 35 = .ok (.ireturn, 1) := by decide +kernel
theorem nd_Mo_is_0 : decode nc_Mo_is 0 = .ok (.iload_n 1, 1) := by decide +kernel
theorem nd_Mo_is_1 : decode nc_Mo_is 1 = .ok (.aload_n 0, 1) := by decide +kernel
theorem nd_Mo_is_2 : decode nc_Mo_is 2 = .ok (.getfield 56, 3) := by decide +kernel
theorem nd_Mo_is_5 : decode nc_Mo_is 5 = .ok (.if_icmp .ge 17, 3) := by decide +kernel
theorem nd_Mo_is_8 : decode nc_Mo_is 8 = .ok (.aload_n 0, 1) := by decide +kernel
theorem nd_Mo_is_9 : decode nc_Mo_is 9 = .ok (.getfield 7, 3) := by decide +kernel
theorem nd_Mo_is_12 : decode nc_Mo_is 12 = .ok (.iload_n 1, 1) := by decide +kernel
theorem nd_Mo_is_13 : decode nc_Mo_is 13 = .ok (.iaload, 1) := by decide +kernel
theorem nd_Mo_is_14 : decode nc_Mo_is 14 = .ok (.iload_n 2, 1) := by decide +kernel
theorem nd_Mo_is_15 : decode nc_Mo_is 15 = .ok (.if_icmp .ne 7, 3) := by decide +kernel
theorem nd_Mo_is_18 : decode nc_Mo_is 18 = .ok (.iconst 1, 1) := by decide +kernel
theorem nd_Mo_is_19 : decode nc_Mo_is 19 = .ok (.goto 4, 3) := by decide +kernel
theorem nd_Mo_is_22 : decode nc_Mo_is 22 = .ok (.iconst 0, 1) := by decide +kernel
theorem nd_Mo_is_23 : decode nc_Mo_is 23 = .ok (.ireturn, 1) := by decide +kernel
theorem nd_Mo_skip_0 : decode nc_Mo_skip 0 = .ok (.iload_n 1, 1) := by decide +kernel
theorem nd_Mo_skip_1 : decode nc_Mo_skip 1 = .ok (.istore_n 2, 1) := by decide +kernel
theorem nd_Mo_skip_2 : decode nc_Mo_skip 2 = .ok (.aload_n 0, 1) := by decide +kernel
theorem nd_Mo_skip_3 : decode nc_Mo_skip 3 = .ok (.iload_n 2, 1) := by decide +kernel
theorem nd_Mo_skip_4 : decode nc_Mo_skip 4 = .ok (.bipush 32, 2) := by decide +kernel
theorem nd_Mo_skip_6 : decode nc_Mo_skip 6 = .ok (.invokevirtual 63, 3) := by decide +kernel
theorem nd_Mo_skip_9 : decode nc_Mo_skip 9 = .ok (.ifCond .eq 9, 3) := by decide +kernel
theorem nd_Mo_skip_12 : decode nc_Mo_skip 12 = .ok (.iinc 2 1, 3) := by decide +kernel
theorem nd_Mo_skip_15 : decode nc_Mo_skip 15 = .ok (.goto (-13), 3) := by decide +kernel
theorem nd_Mo_skip_18 : decode nc_Mo_skip 18 = .ok (.iload_n 2, 1) := by decide +kernel
theorem nd_Mo_skip_19 : decode nc_Mo_skip 19 = .ok (.ireturn, 1) := by decide +kernel
theorem nd_Mo_bucketOf_0 : decode nc_Mo_bucketOf 0 = .ok (.iload_n 0, 1) := by decide +kernel
theorem nd_Mo_bucketOf_1 : decode nc_Mo_bucketOf 1 = .ok (.iload_n 0, 1) := by decide +kernel
theorem nd_Mo_bucketOf_2 : decode nc_Mo_bucketOf 2 = .ok (.bipush 15, 2) := by decide +kernel
theorem nd_Mo_bucketOf_4 : decode nc_Mo_bucketOf 4 = .ok (.iushr, 1) := by decide +kernel
theorem nd_Mo_bucketOf_5 : decode nc_Mo_bucketOf 5 = .ok (.ixor, 1) := by decide +kernel
theorem nd_Mo_bucketOf_6 : decode nc_Mo_bucketOf 6 = .ok (.bipush 31, 2) := by decide +kernel
theorem nd_Mo_bucketOf_8 : decode nc_Mo_bucketOf 8 = .ok (.iand, 1) := by decide +kernel
theorem nd_Mo_bucketOf_9 : decode nc_Mo_bucketOf 9 = .ok (.ireturn, 1) := by decide +kernel
theorem nd_Mo_hash_0 : decode nc_Mo_hash 0 = .ok (.iload_n 1, 1) := by decide +kernel
theorem nd_Mo_hash_1 : decode nc_Mo_hash 1 = .ok (.ifCond .ne 8, 3) := by decide +kernel
theorem nd_Mo_hash_4 : decode nc_Mo_hash 4 = .ok (.bipush 7, 2) := by decide +kernel
theorem nd_Mo_hash_6 : decode nc_Mo_hash 6 = .ok (.goto 8, 3) := by decide +kernel
theorem nd_Mo_hash_9 : decode nc_Mo_hash 9 = .ok (.sipush 217, 3) := by decide +kernel
theorem nd_Mo_hash_12 : decode nc_Mo_hash 12 = .ok (.iload_n 1, 1) := by decide +kernel
theorem nd_Mo_hash_13 : decode nc_Mo_hash 13 = .ok (.iadd, 1) := by decide +kernel
theorem nd_Mo_hash_14 : decode nc_Mo_hash 14 = .ok (.istore 4, 2) := by decide +kernel
theorem nd_Mo_hash_16 : decode nc_Mo_hash 16 = .ok (.iload_n 2, 1) := by decide +kernel
theorem nd_Mo_hash_17 : decode nc_Mo_hash 17 = .ok (.istore 5, 2) := by decide +kernel
theorem nd_Mo_hash_19 : decode nc_Mo_hash 19 = .ok (.iload 5, 2) := by decide +kernel
theorem nd_Mo_hash_21 : decode nc_Mo_hash 21 = .ok (.iload_n 3, 1) := by decide +kernel
theorem nd_Mo_hash_22 : decode nc_Mo_hash 22 = .ok (.if_icmp .ge 24, 3) := by decide +kernel
theorem nd_Mo_hash_25 : decode nc_Mo_hash 25 = .ok (.bipush 31, 2) := by decide +kernel
theorem nd_Mo_hash_27 : decode nc_Mo_hash 27 = .ok (.iload 4, 2) := by decide +kernel
theorem nd_Mo_hash_29 : decode nc_Mo_hash 29 = .ok (.imul, 1) := by decide +kernel
theorem nd_Mo_hash_30 : decode nc_Mo_hash 30 = .ok (.aload_n 0, 1) := by decide +kernel
theorem nd_Mo_hash_31 : decode nc_Mo_hash 31 = .ok (.getfield 7, 3) := by decide +kernel
theorem nd_Mo_hash_34 : decode nc_Mo_hash 34 = .ok (.iload 5, 2) := by decide +kernel
theorem nd_Mo_hash_36 : decode nc_Mo_hash 36 = .ok (.iaload, 1) := by decide +kernel
theorem nd_Mo_hash_37 : decode nc_Mo_hash 37 = .ok (.iadd, 1) := by decide +kernel
theorem nd_Mo_hash_38 : decode nc_Mo_hash 38 = .ok (.istore 4, 2) := by decide +kernel
theorem nd_Mo_hash_40 : decode nc_Mo_hash 40 = .ok (.iinc 5 1, 3) := by decide +kernel
theorem nd_Mo_hash_43 : decode nc_Mo_hash 43 = .ok (.goto (-24), 3) := by decide +kernel
theorem nd_Mo_hash_46 : decode nc_Mo_hash 46 = .ok (.iload 4, 2) := by decide +kernel
theorem nd_Mo_hash_48 : decode nc_Mo_hash 48 = .ok (.invokestatic 67, 3) := by decide +kernel
theorem nd_Mo_hash_51 : decode nc_Mo_hash 51 = .ok (.ireturn, 1) := by decide +kernel
theorem nd_Mo_readSentence_0 : decode nc_Mo_readSentence 0 = .ok (.iconst 0, 1) := by decide +kernel
theorem nd_Mo_readSentence_1 : decode nc_Mo_readSentence 1 = .ok (.istore 4, 2) := by decide +kernel
theorem nd_Mo_readSentence_3 : decode nc_Mo_readSentence 3 = .ok (.aload_n 0, 1) := by decide +kernel
theorem nd_Mo_readSentence_4 : decode nc_Mo_readSentence 4 = .ok (.iload_n 2, 1) := by decide +kernel
theorem nd_Mo_readSentence_5 : decode nc_Mo_readSentence 5 = .ok (.invokevirtual 71, 3) := by decide +kernel
theorem nd_Mo_readSentence_8 : decode nc_Mo_readSentence 8 = .ok (.istore 5, 2) := by decide +kernel
theorem nd_Mo_readSentence_10 : decode nc_Mo_readSentence 10 = .ok (.iload 5, 2) := by decide +kernel
theorem nd_Mo_readSentence_12 : decode nc_Mo_readSentence 12 = .ok (.istore 6, 2) := by decide +kernel
theorem nd_Mo_readSentence_14 : decode nc_Mo_readSentence 14 = .ok (.iload 5, 2) := by decide +kernel
theorem nd_Mo_readSentence_16 : decode nc_Mo_readSentence 16 = .ok (.istore 7, 2) := by decide +kernel
theorem nd_Mo_readSentence_18 : decode nc_Mo_readSentence 18 = .ok (.aload_n 0, 1) := by decide +kernel
theorem nd_Mo_readSentence_19 : decode nc_Mo_readSentence 19 = .ok (.iload 5, 2) := by decide +kernel
theorem nd_Mo_readSentence_21 : decode nc_Mo_readSentence 21 = .ok (.invokevirtual 74, 3) := by decide +kernel
theorem nd_Mo_readSentence_24 : decode nc_Mo_readSentence 24 = .ok (.ifCond .eq 256, 3) := by decide +kernel
theorem nd_Mo_readSentence_27 : decode nc_Mo_readSentence 27 = .ok (.iload 5, 2) := by decide +kernel
theorem nd_Mo_readSentence_29 : decode nc_Mo_readSentence 29 = .ok (.istore 8, 2) := by decide +kernel
theorem nd_Mo_readSentence_31 : decode nc_Mo_readSentence 31 = .ok (.aload_n 0, 1) := by decide +kernel
theorem nd_Mo_readSentence_32 : decode nc_Mo_readSentence 32 = .ok (.iload 8, 2) := by decide +kernel
theorem nd_Mo_readSentence_34 : decode nc_Mo_readSentence 34 = .ok (.invokevirtual 74, 3) := by decide +kernel
theorem nd_Mo_readSentence_37 : decode nc_Mo_readSentence 37 = .ok (.ifCond .eq 9, 3) := by decide +kernel
theorem nd_Mo_readSentence_40 : decode nc_Mo_readSentence 40 = .ok (.iinc 8 1, 3) := by decide +kernel
theorem nd_Mo_readSentence_43 : decode nc_Mo_readSentence 43 = .ok (.goto (-12), 3) := by decide +kernel
theorem nd_Mo_readSentence_46 : decode nc_Mo_readSentence 46 = .ok (.iload 8, 2) := by decide +kernel
theorem nd_Mo_readSentence_48 : decode nc_Mo_readSentence 48 = .ok (.iload 5, 2) := by decide +kernel
theorem nd_Mo_readSentence_50 : decode nc_Mo_readSentence 50 = .ok (.isub, 1) := by decide +kernel
theorem nd_Mo_readSentence_51 : decode nc_Mo_readSentence 51 = .ok (.bipush 6, 2) := by decide +kernel
theorem nd_Mo_readSentence_53 : decode nc_Mo_readSentence 53 = .ok (.if_icmp .gt 10, 3) := by decide +kernel
theorem nd_Mo_readSentence_56 : decode nc_Mo_readSentence 56 = .ok (.iload 4, 2) := by decide +kernel
theorem nd_Mo_readSentence_58 : decode nc_Mo_readSentence 58 = .ok (.bipush 6, 2) := by decide +kernel
theorem nd_Mo_readSentence_60 : decode nc_Mo_readSentence 60 = .ok (.if_icmp .ne 5, 3) := by decide +kernel
theorem nd_Mo_readSentence_63 : decode nc_Mo_readSentence 63 = .ok (.iconst (-1), 1) := by decide +kernel
theorem nd_Mo_readSentence_64 : decode nc_Mo_readSentence 64 = .ok (.ireturn, 1) := by decide +kernel
theorem nd_Mo_readSentence_65 : decode nc_Mo_readSentence 65 = .ok (.iconst 3, 1) := by decide +kernel
theorem nd_Mo_readSentence_66 : decode nc_Mo_readSentence 66 = .ok (.bipush 6, 2) := by decide +kernel
theorem nd_Mo_readSentence_68 : decode nc_Mo_readSentence 68 = .ok (.iload_n 1, 1) := by decide +kernel
theorem nd_Mo_readSentence_69 : decode nc_Mo_readSentence 69 = .ok (.imul, 1) := by decide +kernel
theorem nd_Mo_readSentence_70 : decode nc_Mo_readSentence 70 = .ok (.iload 4, 2) := by decide +kernel
theorem nd_Mo_readSentence_72 : decode nc_Mo_readSentence 72 = .ok (.iadd, 1) := by decide +kernel
theorem nd_Mo_readSentence_73 : decode nc_Mo_readSentence 73 = .ok (.imul, 1) := by decide +kernel
theorem nd_Mo_readSentence_74 : decode nc_Mo_readSentence 74 = .ok (.istore 9, 2) := by decide +kernel
theorem nd_Mo_readSentence_76 : decode nc_Mo_readSentence 76 = .ok (.aload_n 0, 1) := by decide +kernel
theorem nd_Mo_readSentence_77 : decode nc_Mo_readSentence 77 = .ok (.getfield 25, 3) := by decide +kernel
theorem nd_Mo_readSentence_80 : decode nc_Mo_readSentence 80 = .ok (.iload 9, 2) := by decide +kernel
theorem nd_Mo_readSentence_82 : decode nc_Mo_readSentence 82 = .ok (.aload_n 0, 1) := by decide +kernel
theorem nd_Mo_readSentence_83 : decode nc_Mo_readSentence 83 = .ok (.iconst 0, 1) := by decide +kernel
theorem nd_Mo_readSentence_84 : decode nc_Mo_readSentence 84 = .ok (.iload 5, 2) := by decide +kernel
theorem nd_Mo_readSentence_86 : decode nc_Mo_readSentence 86 = .ok (.iload 8, 2) := by decide +kernel
theorem nd_Mo_readSentence_88 : decode nc_Mo_readSentence 88 = .ok (.invokevirtual 78, 3) := by decide +kernel
theorem nd_Mo_readSentence_91 : decode nc_Mo_readSentence 91 = .ok (.iastore, 1) := by decide +kernel
theorem nd_Mo_readSentence_92 : decode nc_Mo_readSentence 92 = .ok (.aload_n 0, 1) := by decide +kernel
theorem nd_Mo_readSentence_93 : decode nc_Mo_readSentence 93 = .ok (.getfield 25, 3) := by decide +kernel
theorem nd_Mo_readSentence_96 : decode nc_Mo_readSentence 96 = .ok (.iload 9, 2) := by decide +kernel
theorem nd_Mo_readSentence_98 : decode nc_Mo_readSentence 98 = .ok (.iconst 1, 1) := by decide +kernel
theorem nd_Mo_readSentence_99 : decode nc_Mo_readSentence 99 = .ok (.iadd, 1) := by decide +kernel
theorem nd_Mo_readSentence_100 : decode nc_Mo_readSentence 100 = .ok (.aload_n 0, 1) := by decide +kernel
theorem nd_Mo_readSentence_101 : decode nc_Mo_readSentence 101 = .ok (.bipush 45, 2) := by decide +kernel
theorem nd_Mo_readSentence_103 : decode nc_Mo_readSentence 103 = .ok (.iload 8, 2) := by decide +kernel
theorem nd_Mo_readSentence_105 : decode nc_Mo_readSentence 105 = .ok (.iload 5, 2) := by decide +kernel
theorem nd_Mo_readSentence_107 : decode nc_Mo_readSentence 107 = .ok (.isub, 1) := by decide +kernel
theorem nd_Mo_readSentence_108 : decode nc_Mo_readSentence 108 = .ok (.iconst 1, 1) := by decide +kernel
theorem nd_Mo_readSentence_109 : decode nc_Mo_readSentence 109 = .ok (.if_icmp .le 10, 3) := by decide +kernel
theorem nd_Mo_readSentence_112 : decode nc_Mo_readSentence 112 = .ok (.iload 8, 2) := by decide +kernel
theorem nd_Mo_readSentence_114 : decode nc_Mo_readSentence 114 = .ok (.iconst 2, 1) := by decide +kernel
theorem nd_Mo_readSentence_115 : decode nc_Mo_readSentence 115 = .ok (.isub, 1) := by decide +kernel
theorem nd_Mo_readSentence_116 : decode nc_Mo_readSentence 116 = .ok (.goto 5, 3) := by decide +kernel
theorem nd_Mo_readSentence_119 : decode nc_Mo_readSentence 119 = .ok (.iload 5, 2) := by decide +kernel
theorem nd_Mo_readSentence_121 : decode nc_Mo_readSentence 121 = .ok (.iload 8, 2) := by decide +kernel
theorem nd_Mo_readSentence_123 : decode nc_Mo_readSentence 123 = .ok (.invokevirtual 78, 3) := by decide +kernel
theorem nd_Mo_readSentence_126 : decode nc_Mo_readSentence 126 = .ok (.iastore, 1) := by decide +kernel
theorem nd_Mo_readSentence_127 : decode nc_Mo_readSentence 127 = .ok (.aload_n 0, 1) := by decide +kernel
theorem nd_Mo_readSentence_128 : decode nc_Mo_readSentence 128 = .ok (.getfield 25, 3) := by decide +kernel
theorem nd_Mo_readSentence_131 : decode nc_Mo_readSentence 131 = .ok (.iload 9, 2) := by decide +kernel
theorem nd_Mo_readSentence_133 : decode nc_Mo_readSentence 133 = .ok (.iconst 2, 1) := by decide +kernel
theorem nd_Mo_readSentence_134 : decode nc_Mo_readSentence 134 = .ok (.iadd, 1) := by decide +kernel
theorem nd_Mo_readSentence_135 : decode nc_Mo_readSentence 135 = .ok (.aload_n 0, 1) := by decide +kernel
theorem nd_Mo_readSentence_136 : decode nc_Mo_readSentence 136 = .ok (.bipush 60, 2) := by decide +kernel
theorem nd_Mo_readSentence_138 : decode nc_Mo_readSentence 138 = .ok (.iload 6, 2) := by decide +kernel
theorem nd_Mo_readSentence_140 : decode nc_Mo_readSentence 140 = .ok (.iload 7, 2) := by decide +kernel
theorem nd_Mo_readSentence_142 : decode nc_Mo_readSentence 142 = .ok (.invokevirtual 78, 3) := by decide +kernel
theorem nd_Mo_readSentence_145 : decode nc_Mo_readSentence 145 = .ok (.iastore, 1) := by decide +kernel
theorem nd_Mo_readSentence_146 : decode nc_Mo_readSentence 146 = .ok (.iload 5, 2) := by decide +kernel
theorem nd_Mo_readSentence_148 : decode nc_Mo_readSentence 148 = .ok (.istore 6, 2) := by decide +kernel
theorem nd_Mo_readSentence_150 : decode nc_Mo_readSentence 150 = .ok (.iload 8, 2) := by decide +kernel
theorem nd_Mo_readSentence_152 : decode nc_Mo_readSentence 152 = .ok (.istore 7, 2) := by decide +kernel
theorem nd_Mo_readSentence_154 : decode nc_Mo_readSentence 154 = .ok (.iload 8, 2) := by decide +kernel
theorem nd_Mo_readSentence_156 : decode nc_Mo_readSentence 156 = .ok (.istore 5, 2) := by decide +kernel
theorem nd_Mo_readSentence_158 : decode nc_Mo_readSentence 158 = .ok (.iload_n 3, 1) := by decide +kernel
theorem nd_Mo_readSentence_159 : decode nc_Mo_readSentence 159 = .ok (.ifCond .eq 85, 3) := by decide +kernel
theorem nd_Mo_readSentence_162 : decode nc_Mo_readSentence 162 = .ok (.aload_n 0, 1) := by decide +kernel
theorem nd_Mo_readSentence_163 : decode nc_Mo_readSentence 163 = .ok (.iload 5, 2) := by decide +kernel
theorem nd_Mo_readSentence_165 : decode nc_Mo_readSentence 165 = .ok (.bipush 47, 2) := by decide +kernel
theorem nd_Mo_readSentence_167 : decode nc_Mo_readSentence 167 = .ok (.invokevirtual 63, 3) := by decide +kernel
theorem nd_Mo_readSentence_170 : decode nc_Mo_readSentence 170 = .ok (.ifCond .eq 42, 3) := by decide +kernel
theorem nd_Mo_readSentence_173 : decode nc_Mo_readSentence 173 = .ok (.iload 5, 2) := by decide +kernel
theorem nd_Mo_readSentence_175 : decode nc_Mo_readSentence 175 = .ok (.iconst 1, 1) := by decide +kernel
theorem nd_Mo_readSentence_176 : decode nc_Mo_readSentence 176 = .ok (.iadd, 1) := by decide +kernel
theorem nd_Mo_readSentence_177 : decode nc_Mo_readSentence 177 = .ok (.aload_n 0, 1) := by decide +kernel
theorem nd_Mo_readSentence_178 : decode nc_Mo_readSentence 178 = .ok (.getfield 56, 3) := by decide +kernel
theorem nd_Mo_readSentence_181 : decode nc_Mo_readSentence 181 = .ok (.if_icmp .ge 31, 3) := by decide +kernel
theorem nd_Mo_readSentence_184 : decode nc_Mo_readSentence 184 = .ok (.aload_n 0, 1) := by decide +kernel
theorem nd_Mo_readSentence_185 : decode nc_Mo_readSentence 185 = .ok (.getfield 7, 3) := by decide +kernel
theorem nd_Mo_readSentence_188 : decode nc_Mo_readSentence 188 = .ok (.iload 5, 2) := by decide +kernel
theorem nd_Mo_readSentence_190 : decode nc_Mo_readSentence 190 = .ok (.iconst 1, 1) := by decide +kernel
theorem nd_Mo_readSentence_191 : decode nc_Mo_readSentence 191 = .ok (.iadd, 1) := by decide +kernel
theorem nd_Mo_readSentence_192 : decode nc_Mo_readSentence 192 = .ok (.iaload, 1) := by decide +kernel
theorem nd_Mo_readSentence_193 : decode nc_Mo_readSentence 193 = .ok (.bipush 65, 2) := by decide +kernel
theorem nd_Mo_readSentence_195 : decode nc_Mo_readSentence 195 = .ok (.if_icmp .lt 17, 3) := by decide +kernel
theorem nd_Mo_readSentence_198 : decode nc_Mo_readSentence 198 = .ok (.aload_n 0, 1) := by decide +kernel
theorem nd_Mo_readSentence_199 : decode nc_Mo_readSentence 199 = .ok (.getfield 7, 3) := by decide +kernel
theorem nd_Mo_readSentence_202 : decode nc_Mo_readSentence 202 = .ok (.iload 5, 2) := by decide +kernel
theorem nd_Mo_readSentence_204 : decode nc_Mo_readSentence 204 = .ok (.iconst 1, 1) := by decide +kernel
theorem nd_Mo_readSentence_205 : decode nc_Mo_readSentence 205 = .ok (.iadd, 1) := by decide +kernel
theorem nd_Mo_readSentence_206 : decode nc_Mo_readSentence 206 = .ok (.iaload, 1) := by decide +kernel
theorem nd_Mo_readSentence_207 : decode nc_Mo_readSentence 207 = .ok (.bipush 68, 2) := by decide +kernel
theorem nd_Mo_readSentence_209 : decode nc_Mo_readSentence 209 = .ok (.if_icmp .le 5, 3) := by decide +kernel
theorem nd_Mo_readSentence_212 : decode nc_Mo_readSentence 212 = .ok (.iconst (-1), 1) := by decide +kernel
theorem nd_Mo_readSentence_213 : decode nc_Mo_readSentence 213 = .ok (.ireturn, 1) := by decide +kernel
theorem nd_Mo_readSentence_214 : decode nc_Mo_readSentence 214 = .ok (.aload_n 0, 1) := by decide +kernel
theorem nd_Mo_readSentence_215 : decode nc_Mo_readSentence 215 = .ok (.getfield 28, 3) := by decide +kernel
theorem nd_Mo_readSentence_218 : decode nc_Mo_readSentence 218 = .ok (.bipush 6, 2) := by decide +kernel
theorem nd_Mo_readSentence_220 : decode nc_Mo_readSentence 220 = .ok (.iload_n 1, 1) := by decide +kernel
theorem nd_Mo_readSentence_221 : decode nc_Mo_readSentence 221 = .ok (.imul, 1) := by decide +kernel
theorem nd_Mo_readSentence_222 : decode nc_Mo_readSentence 222 = .ok (.iload 4, 2) := by decide +kernel
theorem nd_Mo_readSentence_224 : decode nc_Mo_readSentence 224 = .ok (.iadd, 1) := by decide +kernel
theorem nd_Mo_readSentence_225 : decode nc_Mo_readSentence 225 = .ok (.aload_n 0, 1) := by decide +kernel
theorem nd_Mo_readSentence_226 : decode nc_Mo_readSentence 226 = .ok (.getfield 7, 3) := by decide +kernel
theorem nd_Mo_readSentence_229 : decode nc_Mo_readSentence 229 = .ok (.iload 5, 2) := by decide +kernel
theorem nd_Mo_readSentence_231 : decode nc_Mo_readSentence 231 = .ok (.iconst 1, 1) := by decide +kernel
theorem nd_Mo_readSentence_232 : decode nc_Mo_readSentence 232 = .ok (.iadd, 1) := by decide +kernel
theorem nd_Mo_readSentence_233 : decode nc_Mo_readSentence 233 = .ok (.iaload, 1) := by decide +kernel
theorem nd_Mo_readSentence_234 : decode nc_Mo_readSentence 234 = .ok (.bipush 65, 2) := by decide +kernel
theorem nd_Mo_readSentence_236 : decode nc_Mo_readSentence 236 = .ok (.isub, 1) := by decide +kernel
theorem nd_Mo_readSentence_237 : decode nc_Mo_readSentence 237 = .ok (.iastore, 1) := by decide +kernel
theorem nd_Mo_readSentence_238 : decode nc_Mo_readSentence 238 = .ok (.iload 5, 2) := by decide +kernel
theorem nd_Mo_readSentence_240 : decode nc_Mo_readSentence 240 = .ok (.iconst 2, 1) := by decide +kernel
theorem nd_Mo_readSentence_241 : decode nc_Mo_readSentence 241 = .ok (.iadd, 1) := by decide +kernel
theorem nd_Mo_readSentence_242 : decode nc_Mo_readSentence 242 = .ok (.istore 5, 2) := by decide +kernel
theorem nd_Mo_readSentence_244 : decode nc_Mo_readSentence 244 = .ok (.iinc 4 1, 3) := by decide +kernel
theorem nd_Mo_readSentence_247 : decode nc_Mo_readSentence 247 = .ok (.aload_n 0, 1) := by decide +kernel
theorem nd_Mo_readSentence_248 : decode nc_Mo_readSentence 248 = .ok (.iload 5, 2) := by decide +kernel
theorem nd_Mo_readSentence_250 : decode nc_Mo_readSentence 250 = .ok (.invokevirtual 71, 3) := by decide +kernel
theorem nd_Mo_readSentence_253 : decode nc_Mo_readSentence 253 = .ok (.istore 10, 2) := by decide +kernel
theorem nd_Mo_readSentence_255 : decode nc_Mo_readSentence 255 = .ok (.iload 10, 2) := by decide +kernel
theorem nd_Mo_readSentence_257 : decode nc_Mo_readSentence 257 = .ok (.iload 5, 2) := by decide +kernel
theorem nd_Mo_readSentence_259 : decode nc_Mo_readSentence 259 = .ok (.if_icmp .ne 14, 3) := by decide +kernel
theorem nd_Mo_readSentence_262 : decode nc_Mo_readSentence 262 = .ok (.aload_n 0, 1) := by decide +kernel
theorem nd_Mo_readSentence_263 : decode nc_Mo_readSentence 263 = .ok (.iload 5, 2) := by decide +kernel
theorem nd_Mo_readSentence_265 : decode nc_Mo_readSentence 265 = .ok (.invokevirtual 74, 3) := by decide +kernel
theorem nd_Mo_readSentence_268 : decode nc_Mo_readSentence 268 = .ok (.ifCond .eq 5, 3) := by decide +kernel
theorem nd_Mo_readSentence_271 : decode nc_Mo_readSentence 271 = .ok (.iconst (-1), 1) := by decide +kernel
theorem nd_Mo_readSentence_272 : decode nc_Mo_readSentence 272 = .ok (.ireturn, 1) := by decide +kernel
theorem nd_Mo_readSentence_273 : decode nc_Mo_readSentence 273 = .ok (.iload 10, 2) := by decide +kernel
theorem nd_Mo_readSentence_275 : decode nc_Mo_readSentence 275 = .ok (.istore 5, 2) := by decide +kernel
theorem nd_Mo_readSentence_277 : decode nc_Mo_readSentence 277 = .ok (.goto (-259), 3) := by decide +kernel
theorem nd_Mo_readSentence_280 : decode nc_Mo_readSentence 280 = .ok (.aload_n 0, 1) := by decide +kernel
theorem nd_Mo_readSentence_281 : decode nc_Mo_readSentence 281 = .ok (.getfield 22, 3) := by decide +kernel
theorem nd_Mo_readSentence_284 : decode nc_Mo_readSentence 284 = .ok (.iload_n 1, 1) := by decide +kernel
theorem nd_Mo_readSentence_285 : decode nc_Mo_readSentence 285 = .ok (.iload 4, 2) := by decide +kernel
theorem nd_Mo_readSentence_287 : decode nc_Mo_readSentence 287 = .ok (.iastore, 1) := by decide +kernel
theorem nd_Mo_readSentence_288 : decode nc_Mo_readSentence 288 = .ok (.iload 4, 2) := by decide +kernel
theorem nd_Mo_readSentence_290 : decode nc_Mo_readSentence 290 = .ok (.ifCond .ne 7, 3) := by decide +kernel
theorem nd_Mo_readSentence_293 : decode nc_Mo_readSentence 293 = .ok (.iconst (-1), 1) := by decide +kernel
theorem nd_Mo_readSentence_294 : decode nc_Mo_readSentence 294 = .ok (.goto 5, 3) := by decide +kernel
theorem nd_Mo_readSentence_297 : decode nc_Mo_readSentence 297 = .ok (.iload 5, 2) := by decide +kernel
theorem nd_Mo_readSentence_299 : decode nc_Mo_readSentence 299 = .ok (.ireturn, 1) := by decide +kernel
theorem nd_Mo_take_0 : decode nc_Mo_take 0 = .ok (.aload_n 0, 1) := by decide +kernel
theorem nd_Mo_take_1 : decode nc_Mo_take 1 = .ok (.getfield 13, 3) := by decide +kernel
theorem nd_Mo_take_4 : decode nc_Mo_take 4 = .ok (.iload_n 1, 1) := by decide +kernel
theorem nd_Mo_take_5 : decode nc_Mo_take 5 = .ok (.aload_n 0, 1) := by decide +kernel
theorem nd_Mo_take_6 : decode nc_Mo_take 6 = .ok (.getfield 22, 3) := by decide +kernel
theorem nd_Mo_take_9 : decode nc_Mo_take 9 = .ok (.iload_n 1, 1) := by decide +kernel
theorem nd_Mo_take_10 : decode nc_Mo_take 10 = .ok (.iaload, 1) := by decide +kernel
theorem nd_Mo_take_11 : decode nc_Mo_take 11 = .ok (.iastore, 1) := by decide +kernel
theorem nd_Mo_take_12 : decode nc_Mo_take 12 = .ok (.iconst 0, 1) := by decide +kernel
theorem nd_Mo_take_13 : decode nc_Mo_take 13 = .ok (.istore_n 2, 1) := by decide +kernel
theorem nd_Mo_take_14 : decode nc_Mo_take 14 = .ok (.iload_n 2, 1) := by decide +kernel
theorem nd_Mo_take_15 : decode nc_Mo_take 15 = .ok (.bipush 18, 2) := by decide +kernel
theorem nd_Mo_take_17 : decode nc_Mo_take 17 = .ok (.if_icmp .ge 31, 3) := by decide +kernel
theorem nd_Mo_take_20 : decode nc_Mo_take 20 = .ok (.aload_n 0, 1) := by decide +kernel
end
section
theorem nd_Mo_take_21 : decode nc_Mo_take 21 = .ok (.getfield 16, 3) := by decide +kernel
theorem nd_Mo_take_24 : decode nc_Mo_take 24 = .ok (.bipush 18, 2) := by decide +kernel
theorem nd_Mo_take_26 : decode nc_Mo_take 26 = .ok (.iload_n 1, 1) := by decide +kernel
theorem nd_Mo_take_27 : decode nc_Mo_take 27 = .ok (.imul, 1) := by decide +kernel
theorem nd_Mo_take_28 : decode nc_Mo_take 28 = .ok (.iload_n 2, 1) := by decide +kernel
theorem nd_Mo_take_29 : decode nc_Mo_take 29 = .ok (.iadd, 1) := by decide +kernel
theorem nd_Mo_take_30 : decode nc_Mo_take 30 = .ok (.aload_n 0, 1) := by decide +kernel
theorem nd_Mo_take_31 : decode nc_Mo_take 31 = .ok (.getfield 25, 3) := by decide +kernel
theorem nd_Mo_take_34 : decode nc_Mo_take 34 = .ok (.bipush 18, 2) := by decide +kernel
theorem nd_Mo_take_36 : decode nc_Mo_take 36 = .ok (.iload_n 1, 1) := by decide +kernel
theorem nd_Mo_take_37 : decode nc_Mo_take 37 = .ok (.imul, 1) := by decide +kernel
theorem nd_Mo_take_38 : decode nc_Mo_take 38 = .ok (.iload_n 2, 1) := by decide +kernel
theorem nd_Mo_take_39 : decode nc_Mo_take 39 = .ok (.iadd, 1) := by decide +kernel
theorem nd_Mo_take_40 : decode nc_Mo_take 40 = .ok (.iaload, 1) := by decide +kernel
theorem nd_Mo_take_41 : decode nc_Mo_take 41 = .ok (.iastore, 1) := by decide +kernel
theorem nd_Mo_take_42 : decode nc_Mo_take 42 = .ok (.iinc 2 1, 3) := by decide +kernel
theorem nd_Mo_take_45 : decode nc_Mo_take 45 = .ok (.goto (-31), 3) := by decide +kernel
theorem nd_Mo_take_48 : decode nc_Mo_take 48 = .ok (.iconst 0, 1) := by decide +kernel
theorem nd_Mo_take_49 : decode nc_Mo_take 49 = .ok (.istore_n 2, 1) := by decide +kernel
theorem nd_Mo_take_50 : decode nc_Mo_take 50 = .ok (.iload_n 2, 1) := by decide +kernel
theorem nd_Mo_take_51 : decode nc_Mo_take 51 = .ok (.bipush 6, 2) := by decide +kernel
theorem nd_Mo_take_53 : decode nc_Mo_take 53 = .ok (.if_icmp .ge 31, 3) := by decide +kernel
theorem nd_Mo_take_56 : decode nc_Mo_take 56 = .ok (.aload_n 0, 1) := by decide +kernel
theorem nd_Mo_take_57 : decode nc_Mo_take 57 = .ok (.getfield 19, 3) := by decide +kernel
theorem nd_Mo_take_60 : decode nc_Mo_take 60 = .ok (.bipush 6, 2) := by decide +kernel
theorem nd_Mo_take_62 : decode nc_Mo_take 62 = .ok (.iload_n 1, 1) := by decide +kernel
theorem nd_Mo_take_63 : decode nc_Mo_take 63 = .ok (.imul, 1) := by decide +kernel
theorem nd_Mo_take_64 : decode nc_Mo_take 64 = .ok (.iload_n 2, 1) := by decide +kernel
theorem nd_Mo_take_65 : decode nc_Mo_take 65 = .ok (.iadd, 1) := by decide +kernel
theorem nd_Mo_take_66 : decode nc_Mo_take 66 = .ok (.aload_n 0, 1) := by decide +kernel
theorem nd_Mo_take_67 : decode nc_Mo_take 67 = .ok (.getfield 28, 3) := by decide +kernel
theorem nd_Mo_take_70 : decode nc_Mo_take 70 = .ok (.bipush 6, 2) := by decide +kernel
theorem nd_Mo_take_72 : decode nc_Mo_take 72 = .ok (.iload_n 1, 1) := by decide +kernel
theorem nd_Mo_take_73 : decode nc_Mo_take 73 = .ok (.imul, 1) := by decide +kernel
theorem nd_Mo_take_74 : decode nc_Mo_take 74 = .ok (.iload_n 2, 1) := by decide +kernel
theorem nd_Mo_take_75 : decode nc_Mo_take 75 = .ok (.iadd, 1) := by decide +kernel
theorem nd_Mo_take_76 : decode nc_Mo_take 76 = .ok (.iaload, 1) := by decide +kernel
theorem nd_Mo_take_77 : decode nc_Mo_take 77 = .ok (.iastore, 1) := by decide +kernel
theorem nd_Mo_take_78 : decode nc_Mo_take 78 = .ok (.iinc 2 1, 3) := by decide +kernel
theorem nd_Mo_take_81 : decode nc_Mo_take 81 = .ok (.goto (-31), 3) := by decide +kernel
theorem nd_Mo_take_84 : decode nc_Mo_take 84 = .ok (.return_, 1) := by decide +kernel
theorem nd_Mo_load_0 : decode nc_Mo_load 0 = .ok (.aload_n 0, 1) := by decide +kernel
theorem nd_Mo_load_1 : decode nc_Mo_load 1 = .ok (.iconst 0, 1) := by decide +kernel
theorem nd_Mo_load_2 : decode nc_Mo_load 2 = .ok (.putfield 82, 3) := by decide +kernel
theorem nd_Mo_load_5 : decode nc_Mo_load 5 = .ok (.iconst 0, 1) := by decide +kernel
theorem nd_Mo_load_6 : decode nc_Mo_load 6 = .ok (.istore_n 1, 1) := by decide +kernel
theorem nd_Mo_load_7 : decode nc_Mo_load 7 = .ok (.iconst 1, 1) := by decide +kernel
theorem nd_Mo_load_8 : decode nc_Mo_load 8 = .ok (.istore_n 2, 1) := by decide +kernel
theorem nd_Mo_load_9 : decode nc_Mo_load 9 = .ok (.iload_n 2, 1) := by decide +kernel
theorem nd_Mo_load_10 : decode nc_Mo_load 10 = .ok (.ifCond .eq 72, 3) := by decide +kernel
theorem nd_Mo_load_13 : decode nc_Mo_load 13 = .ok (.aload_n 0, 1) := by decide +kernel
theorem nd_Mo_load_14 : decode nc_Mo_load 14 = .ok (.getfield 82, 3) := by decide +kernel
theorem nd_Mo_load_17 : decode nc_Mo_load 17 = .ok (.bipush 8, 2) := by decide +kernel
theorem nd_Mo_load_19 : decode nc_Mo_load 19 = .ok (.if_icmp .ne 7, 3) := by decide +kernel
theorem nd_Mo_load_22 : decode nc_Mo_load 22 = .ok (.iconst (-1), 1) := by decide +kernel
theorem nd_Mo_load_23 : decode nc_Mo_load 23 = .ok (.goto 13, 3) := by decide +kernel
theorem nd_Mo_load_26 : decode nc_Mo_load 26 = .ok (.aload_n 0, 1) := by decide +kernel
theorem nd_Mo_load_27 : decode nc_Mo_load 27 = .ok (.aload_n 0, 1) := by decide +kernel
theorem nd_Mo_load_28 : decode nc_Mo_load 28 = .ok (.getfield 82, 3) := by decide +kernel
theorem nd_Mo_load_31 : decode nc_Mo_load 31 = .ok (.iload_n 1, 1) := by decide +kernel
theorem nd_Mo_load_32 : decode nc_Mo_load 32 = .ok (.iconst 1, 1) := by decide +kernel
theorem nd_Mo_load_33 : decode nc_Mo_load 33 = .ok (.invokevirtual 85, 3) := by decide +kernel
theorem nd_Mo_load_36 : decode nc_Mo_load 36 = .ok (.istore_n 1, 1) := by decide +kernel
theorem nd_Mo_load_37 : decode nc_Mo_load 37 = .ok (.aload_n 0, 1) := by decide +kernel
theorem nd_Mo_load_38 : decode nc_Mo_load 38 = .ok (.dup, 1) := by decide +kernel
theorem nd_Mo_load_39 : decode nc_Mo_load 39 = .ok (.getfield 82, 3) := by decide +kernel
theorem nd_Mo_load_42 : decode nc_Mo_load 42 = .ok (.iconst 1, 1) := by decide +kernel
theorem nd_Mo_load_43 : decode nc_Mo_load 43 = .ok (.iadd, 1) := by decide +kernel
theorem nd_Mo_load_44 : decode nc_Mo_load 44 = .ok (.putfield 82, 3) := by decide +kernel
theorem nd_Mo_load_47 : decode nc_Mo_load 47 = .ok (.iload_n 1, 1) := by decide +kernel
theorem nd_Mo_load_48 : decode nc_Mo_load 48 = .ok (.ifCond .lt 17, 3) := by decide +kernel
theorem nd_Mo_load_51 : decode nc_Mo_load 51 = .ok (.aload_n 0, 1) := by decide +kernel
theorem nd_Mo_load_52 : decode nc_Mo_load 52 = .ok (.iload_n 1, 1) := by decide +kernel
theorem nd_Mo_load_53 : decode nc_Mo_load 53 = .ok (.bipush 59, 2) := by decide +kernel
theorem nd_Mo_load_55 : decode nc_Mo_load 55 = .ok (.invokevirtual 63, 3) := by decide +kernel
theorem nd_Mo_load_58 : decode nc_Mo_load 58 = .ok (.ifCond .eq 7, 3) := by decide +kernel
theorem nd_Mo_load_61 : decode nc_Mo_load 61 = .ok (.iconst 1, 1) := by decide +kernel
theorem nd_Mo_load_62 : decode nc_Mo_load 62 = .ok (.goto 4, 3) := by decide +kernel
theorem nd_Mo_load_65 : decode nc_Mo_load 65 = .ok (.iconst 0, 1) := by decide +kernel
theorem nd_Mo_load_66 : decode nc_Mo_load 66 = .ok (.istore_n 2, 1) := by decide +kernel
theorem nd_Mo_load_67 : decode nc_Mo_load 67 = .ok (.iload_n 2, 1) := by decide +kernel
theorem nd_Mo_load_68 : decode nc_Mo_load 68 = .ok (.ifCond .eq 9, 3) := by decide +kernel
theorem nd_Mo_load_71 : decode nc_Mo_load 71 = .ok (.iload_n 1, 1) := by decide +kernel
theorem nd_Mo_load_72 : decode nc_Mo_load 72 = .ok (.iconst 1, 1) := by decide +kernel
theorem nd_Mo_load_73 : decode nc_Mo_load 73 = .ok (.iadd, 1) := by decide +kernel
theorem nd_Mo_load_74 : decode nc_Mo_load 74 = .ok (.goto 4, 3) := by decide +kernel
theorem nd_Mo_load_77 : decode nc_Mo_load 77 = .ok (.iload_n 1, 1) := by decide +kernel
theorem nd_Mo_load_78 : decode nc_Mo_load 78 = .ok (.istore_n 1, 1) := by decide +kernel
theorem nd_Mo_load_79 : decode nc_Mo_load 79 = .ok (.goto (-70), 3) := by decide +kernel
theorem nd_Mo_load_82 : decode nc_Mo_load 82 = .ok (.aload_n 0, 1) := by decide +kernel
theorem nd_Mo_load_83 : decode nc_Mo_load 83 = .ok (.iload_n 1, 1) := by decide +kernel
theorem nd_Mo_load_84 : decode nc_Mo_load 84 = .ok (.aload_n 0, 1) := by decide +kernel
theorem nd_Mo_load_85 : decode nc_Mo_load 85 = .ok (.getfield 56, 3) := by decide +kernel
theorem nd_Mo_load_88 : decode nc_Mo_load 88 = .ok (.if_icmp .ne 7, 3) := by decide +kernel
theorem nd_Mo_load_91 : decode nc_Mo_load 91 = .ok (.iconst 0, 1) := by decide +kernel
theorem nd_Mo_load_92 : decode nc_Mo_load 92 = .ok (.goto 4, 3) := by decide +kernel
theorem nd_Mo_load_95 : decode nc_Mo_load 95 = .ok (.iconst 1, 1) := by decide +kernel
theorem nd_Mo_load_96 : decode nc_Mo_load 96 = .ok (.putfield 51, 3) := by decide +kernel
theorem nd_Mo_load_99 : decode nc_Mo_load 99 = .ok (.aload_n 0, 1) := by decide +kernel
theorem nd_Mo_load_100 : decode nc_Mo_load 100 = .ok (.getfield 51, 3) := by decide +kernel
theorem nd_Mo_load_103 : decode nc_Mo_load 103 = .ok (.ifCond .le 5, 3) := by decide +kernel
theorem nd_Mo_load_106 : decode nc_Mo_load 106 = .ok (.iconst 0, 1) := by decide +kernel
theorem nd_Mo_load_107 : decode nc_Mo_load 107 = .ok (.ireturn, 1) := by decide +kernel
theorem nd_Mo_load_108 : decode nc_Mo_load 108 = .ok (.aload_n 0, 1) := by decide +kernel
theorem nd_Mo_load_109 : decode nc_Mo_load 109 = .ok (.aload_n 0, 1) := by decide +kernel
theorem nd_Mo_load_110 : decode nc_Mo_load 110 = .ok (.getfield 82, 3) := by decide +kernel
theorem nd_Mo_load_113 : decode nc_Mo_load 113 = .ok (.putfield 89, 3) := by decide +kernel
theorem nd_Mo_load_116 : decode nc_Mo_load 116 = .ok (.iconst 0, 1) := by decide +kernel
theorem nd_Mo_load_117 : decode nc_Mo_load 117 = .ok (.istore_n 3, 1) := by decide +kernel
theorem nd_Mo_load_118 : decode nc_Mo_load 118 = .ok (.iload_n 3, 1) := by decide +kernel
theorem nd_Mo_load_119 : decode nc_Mo_load 119 = .ok (.aload_n 0, 1) := by decide +kernel
theorem nd_Mo_load_120 : decode nc_Mo_load 120 = .ok (.getfield 89, 3) := by decide +kernel
theorem nd_Mo_load_123 : decode nc_Mo_load 123 = .ok (.if_icmp .ge 14, 3) := by decide +kernel
theorem nd_Mo_load_126 : decode nc_Mo_load 126 = .ok (.aload_n 0, 1) := by decide +kernel
theorem nd_Mo_load_127 : decode nc_Mo_load 127 = .ok (.iload_n 3, 1) := by decide +kernel
theorem nd_Mo_load_128 : decode nc_Mo_load 128 = .ok (.invokevirtual 92, 3) := by decide +kernel
theorem nd_Mo_load_131 : decode nc_Mo_load 131 = .ok (.iinc 3 1, 3) := by decide +kernel
theorem nd_Mo_load_134 : decode nc_Mo_load 134 = .ok (.goto (-16), 3) := by decide +kernel
theorem nd_Mo_load_137 : decode nc_Mo_load 137 = .ok (.aload_n 0, 1) := by decide +kernel
theorem nd_Mo_load_138 : decode nc_Mo_load 138 = .ok (.iconst 0, 1) := by decide +kernel
theorem nd_Mo_load_139 : decode nc_Mo_load 139 = .ok (.putfield 56, 3) := by decide +kernel
theorem nd_Mo_load_142 : decode nc_Mo_load 142 = .ok (.iconst 0, 1) := by decide +kernel
theorem nd_Mo_load_143 : decode nc_Mo_load 143 = .ok (.istore_n 3, 1) := by decide +kernel
theorem nd_Mo_load_144 : decode nc_Mo_load 144 = .ok (.iload_n 3, 1) := by decide +kernel
theorem nd_Mo_load_145 : decode nc_Mo_load 145 = .ok (.sipush 148, 3) := by decide +kernel
theorem nd_Mo_load_148 : decode nc_Mo_load 148 = .ok (.if_icmp .ge 23, 3) := by decide +kernel
theorem nd_Mo_load_151 : decode nc_Mo_load 151 = .ok (.aload_n 0, 1) := by decide +kernel
theorem nd_Mo_load_152 : decode nc_Mo_load 152 = .ok (.getfield 31, 3) := by decide +kernel
theorem nd_Mo_load_155 : decode nc_Mo_load 155 = .ok (.iload_n 3, 1) := by decide +kernel
theorem nd_Mo_load_156 : decode nc_Mo_load 156 = .ok (.lconst 0, 1) := by decide +kernel
theorem nd_Mo_load_157 : decode nc_Mo_load 157 = .ok (.lastore, 1) := by decide +kernel
theorem nd_Mo_load_158 : decode nc_Mo_load 158 = .ok (.aload_n 0, 1) := by decide +kernel
theorem nd_Mo_load_159 : decode nc_Mo_load 159 = .ok (.getfield 35, 3) := by decide +kernel
theorem nd_Mo_load_162 : decode nc_Mo_load 162 = .ok (.iload_n 3, 1) := by decide +kernel
theorem nd_Mo_load_163 : decode nc_Mo_load 163 = .ok (.lconst 0, 1) := by decide +kernel
theorem nd_Mo_load_164 : decode nc_Mo_load 164 = .ok (.lastore, 1) := by decide +kernel
theorem nd_Mo_load_165 : decode nc_Mo_load 165 = .ok (.iinc 3 1, 3) := by decide +kernel
theorem nd_Mo_load_168 : decode nc_Mo_load 168 = .ok (.goto (-24), 3) := by decide +kernel
theorem nd_Mo_load_171 : decode nc_Mo_load 171 = .ok (.aload_n 0, 1) := by decide +kernel
theorem nd_Mo_load_172 : decode nc_Mo_load 172 = .ok (.iconst 0, 1) := by decide +kernel
theorem nd_Mo_load_173 : decode nc_Mo_load 173 = .ok (.putfield 96, 3) := by decide +kernel
theorem nd_Mo_load_176 : decode nc_Mo_load 176 = .ok (.aload_n 0, 1) := by decide +kernel
theorem nd_Mo_load_177 : decode nc_Mo_load 177 = .ok (.iconst 0, 1) := by decide +kernel
theorem nd_Mo_load_178 : decode nc_Mo_load 178 = .ok (.putfield 99, 3) := by decide +kernel
theorem nd_Mo_load_181 : decode nc_Mo_load 181 = .ok (.aload_n 0, 1) := by decide +kernel
theorem nd_Mo_load_182 : decode nc_Mo_load 182 = .ok (.iconst (-1), 1) := by decide +kernel
theorem nd_Mo_load_183 : decode nc_Mo_load 183 = .ok (.putfield 47, 3) := by decide +kernel
theorem nd_Mo_load_186 : decode nc_Mo_load 186 = .ok (.aload_n 0, 1) := by decide +kernel
theorem nd_Mo_load_187 : decode nc_Mo_load 187 = .ok (.getfield 89, 3) := by decide +kernel
theorem nd_Mo_load_190 : decode nc_Mo_load 190 = .ok (.ireturn, 1) := by decide +kernel
theorem nd_Mo_speak_0 : decode nc_Mo_speak 0 = .ok (.aload_n 0, 1) := by decide +kernel
theorem nd_Mo_speak_1 : decode nc_Mo_speak 1 = .ok (.bipush 8, 2) := by decide +kernel
theorem nd_Mo_speak_3 : decode nc_Mo_speak 3 = .ok (.iconst 0, 1) := by decide +kernel
theorem nd_Mo_speak_4 : decode nc_Mo_speak 4 = .ok (.iconst 0, 1) := by decide +kernel
theorem nd_Mo_speak_5 : decode nc_Mo_speak 5 = .ok (.invokevirtual 85, 3) := by decide +kernel
theorem nd_Mo_speak_8 : decode nc_Mo_speak 8 = .ok (.istore_n 1, 1) := by decide +kernel
theorem nd_Mo_speak_9 : decode nc_Mo_speak 9 = .ok (.aload_n 0, 1) := by decide +kernel
theorem nd_Mo_speak_10 : decode nc_Mo_speak 10 = .ok (.iload_n 1, 1) := by decide +kernel
theorem nd_Mo_speak_11 : decode nc_Mo_speak 11 = .ok (.aload_n 0, 1) := by decide +kernel
theorem nd_Mo_speak_12 : decode nc_Mo_speak 12 = .ok (.getfield 56, 3) := by decide +kernel
theorem nd_Mo_speak_15 : decode nc_Mo_speak 15 = .ok (.if_icmp .ne 11, 3) := by decide +kernel
theorem nd_Mo_speak_18 : decode nc_Mo_speak 18 = .ok (.iload_n 1, 1) := by decide +kernel
theorem nd_Mo_speak_19 : decode nc_Mo_speak 19 = .ok (.ifCond .lt 7, 3) := by decide +kernel
theorem nd_Mo_speak_22 : decode nc_Mo_speak 22 = .ok (.iconst 0, 1) := by decide +kernel
theorem nd_Mo_speak_23 : decode nc_Mo_speak 23 = .ok (.goto 4, 3) := by decide +kernel
theorem nd_Mo_speak_26 : decode nc_Mo_speak 26 = .ok (.iconst 1, 1) := by decide +kernel
theorem nd_Mo_speak_27 : decode nc_Mo_speak 27 = .ok (.putfield 51, 3) := by decide +kernel
theorem nd_Mo_speak_30 : decode nc_Mo_speak 30 = .ok (.aload_n 0, 1) := by decide +kernel
theorem nd_Mo_speak_31 : decode nc_Mo_speak 31 = .ok (.getfield 51, 3) := by decide +kernel
theorem nd_Mo_speak_34 : decode nc_Mo_speak 34 = .ok (.ifCond .le 5, 3) := by decide +kernel
theorem nd_Mo_speak_37 : decode nc_Mo_speak 37 = .ok (.iconst 0, 1) := by decide +kernel
theorem nd_Mo_speak_38 : decode nc_Mo_speak 38 = .ok (.ireturn, 1) := by decide +kernel
theorem nd_Mo_speak_39 : decode nc_Mo_speak 39 = .ok (.aload_n 0, 1) := by decide +kernel
theorem nd_Mo_speak_40 : decode nc_Mo_speak 40 = .ok (.bipush 8, 2) := by decide +kernel
theorem nd_Mo_speak_42 : decode nc_Mo_speak 42 = .ok (.invokevirtual 92, 3) := by decide +kernel
theorem nd_Mo_speak_45 : decode nc_Mo_speak 45 = .ok (.aload_n 0, 1) := by decide +kernel
theorem nd_Mo_speak_46 : decode nc_Mo_speak 46 = .ok (.iconst 0, 1) := by decide +kernel
theorem nd_Mo_speak_47 : decode nc_Mo_speak 47 = .ok (.putfield 56, 3) := by decide +kernel
theorem nd_Mo_speak_50 : decode nc_Mo_speak 50 = .ok (.aload_n 0, 1) := by decide +kernel
theorem nd_Mo_speak_51 : decode nc_Mo_speak 51 = .ok (.iconst (-1), 1) := by decide +kernel
theorem nd_Mo_speak_52 : decode nc_Mo_speak 52 = .ok (.putfield 47, 3) := by decide +kernel
theorem nd_Mo_speak_55 : decode nc_Mo_speak 55 = .ok (.aload_n 0, 1) := by decide +kernel
theorem nd_Mo_speak_56 : decode nc_Mo_speak 56 = .ok (.getfield 13, 3) := by decide +kernel
theorem nd_Mo_speak_59 : decode nc_Mo_speak 59 = .ok (.bipush 8, 2) := by decide +kernel
theorem nd_Mo_speak_61 : decode nc_Mo_speak 61 = .ok (.iaload, 1) := by decide +kernel
theorem nd_Mo_speak_62 : decode nc_Mo_speak 62 = .ok (.ireturn, 1) := by decide +kernel
theorem nd_Mo_sentences_0 : decode nc_Mo_sentences 0 = .ok (.aload_n 0, 1) := by decide +kernel
theorem nd_Mo_sentences_1 : decode nc_Mo_sentences 1 = .ok (.iconst 0, 1) := by decide +kernel
theorem nd_Mo_sentences_2 : decode nc_Mo_sentences 2 = .ok (.putfield 51, 3) := by decide +kernel
theorem nd_Mo_sentences_5 : decode nc_Mo_sentences 5 = .ok (.aload_n 0, 1) := by decide +kernel
theorem nd_Mo_sentences_6 : decode nc_Mo_sentences 6 = .ok (.getfield 89, 3) := by decide +kernel
theorem nd_Mo_sentences_9 : decode nc_Mo_sentences 9 = .ok (.ireturn, 1) := by decide +kernel
theorem nd_Mo_place_0 : decode nc_Mo_place 0 = .ok (.iload_n 1, 1) := by decide +kernel
theorem nd_Mo_place_1 : decode nc_Mo_place 1 = .ok (.iconst (-1), 1) := by decide +kernel
theorem nd_Mo_place_2 : decode nc_Mo_place 2 = .ok (.if_icmp .ne 22, 3) := by decide +kernel
theorem nd_Mo_place_5 : decode nc_Mo_place 5 = .ok (.aload_n 0, 1) := by decide +kernel
theorem nd_Mo_place_6 : decode nc_Mo_place 6 = .ok (.getfield 13, 3) := by decide +kernel
theorem nd_Mo_place_9 : decode nc_Mo_place 9 = .ok (.bipush 8, 2) := by decide +kernel
theorem nd_Mo_place_11 : decode nc_Mo_place 11 = .ok (.iaload, 1) := by decide +kernel
theorem nd_Mo_place_12 : decode nc_Mo_place 12 = .ok (.ifCond .le 8, 3) := by decide +kernel
theorem nd_Mo_place_15 : decode nc_Mo_place 15 = .ok (.bipush 8, 2) := by decide +kernel
theorem nd_Mo_place_17 : decode nc_Mo_place 17 = .ok (.goto 24, 3) := by decide +kernel
theorem nd_Mo_place_20 : decode nc_Mo_place 20 = .ok (.iconst (-1), 1) := by decide +kernel
theorem nd_Mo_place_21 : decode nc_Mo_place 21 = .ok (.goto 20, 3) := by decide +kernel
theorem nd_Mo_place_24 : decode nc_Mo_place 24 = .ok (.iload_n 1, 1) := by decide +kernel
theorem nd_Mo_place_25 : decode nc_Mo_place 25 = .ok (.ifCond .lt 15, 3) := by decide +kernel
theorem nd_Mo_place_28 : decode nc_Mo_place 28 = .ok (.iload_n 1, 1) := by decide +kernel
theorem nd_Mo_place_29 : decode nc_Mo_place 29 = .ok (.aload_n 0, 1) := by decide +kernel
theorem nd_Mo_place_30 : decode nc_Mo_place 30 = .ok (.getfield 89, 3) := by decide +kernel
theorem nd_Mo_place_33 : decode nc_Mo_place 33 = .ok (.if_icmp .ge 7, 3) := by decide +kernel
theorem nd_Mo_place_36 : decode nc_Mo_place 36 = .ok (.iload_n 1, 1) := by decide +kernel
theorem nd_Mo_place_37 : decode nc_Mo_place 37 = .ok (.goto 4, 3) := by decide +kernel
theorem nd_Mo_place_40 : decode nc_Mo_place 40 = .ok (.iconst (-1), 1) := by decide +kernel
theorem nd_Mo_place_41 : decode nc_Mo_place 41 = .ok (.ireturn, 1) := by decide +kernel
theorem nd_Mo_wordsOf_0 : decode nc_Mo_wordsOf 0 = .ok (.aload_n 0, 1) := by decide +kernel
theorem nd_Mo_wordsOf_1 : decode nc_Mo_wordsOf 1 = .ok (.iload_n 1, 1) := by decide +kernel
theorem nd_Mo_wordsOf_2 : decode nc_Mo_wordsOf 2 = .ok (.invokevirtual 102, 3) := by decide +kernel
theorem nd_Mo_wordsOf_5 : decode nc_Mo_wordsOf 5 = .ok (.ifCond .ge 7, 3) := by decide +kernel
theorem nd_Mo_wordsOf_8 : decode nc_Mo_wordsOf 8 = .ok (.iconst 0, 1) := by decide +kernel
theorem nd_Mo_wordsOf_9 : decode nc_Mo_wordsOf 9 = .ok (.goto 13, 3) := by decide +kernel
theorem nd_Mo_wordsOf_12 : decode nc_Mo_wordsOf 12 = .ok (.aload_n 0, 1) := by decide +kernel
theorem nd_Mo_wordsOf_13 : decode nc_Mo_wordsOf 13 = .ok (.getfield 13, 3) := by decide +kernel
theorem nd_Mo_wordsOf_16 : decode nc_Mo_wordsOf 16 = .ok (.aload_n 0, 1) := by decide +kernel
theorem nd_Mo_wordsOf_17 : decode nc_Mo_wordsOf 17 = .ok (.iload_n 1, 1) := by decide +kernel
theorem nd_Mo_wordsOf_18 : decode nc_Mo_wordsOf 18 = .ok (.invokevirtual 102, 3) := by decide +kernel
theorem nd_Mo_wordsOf_21 : decode nc_Mo_wordsOf 21 = .ok (.iaload, 1) := by decide +kernel
theorem nd_Mo_wordsOf_22 : decode nc_Mo_wordsOf 22 = .ok (.ireturn, 1) := by decide +kernel
theorem nd_Mo_words_0 : decode nc_Mo_words 0 = .ok (.aload_n 0, 1) := by decide +kernel
theorem nd_Mo_words_1 : decode nc_Mo_words 1 = .ok (.aload_n 0, 1) := by decide +kernel
theorem nd_Mo_words_2 : decode nc_Mo_words 2 = .ok (.iload_n 1, 1) := by decide +kernel
theorem nd_Mo_words_3 : decode nc_Mo_words 3 = .ok (.invokevirtual 102, 3) := by decide +kernel
theorem nd_Mo_words_6 : decode nc_Mo_words 6 = .ok (.ifCond .ge 7, 3) := by decide +kernel
theorem nd_Mo_words_9 : decode nc_Mo_words 9 = .ok (.iconst 1, 1) := by decide +kernel
theorem nd_Mo_words_10 : decode nc_Mo_words 10 = .ok (.goto 4, 3) := by decide +kernel
theorem nd_Mo_words_13 : decode nc_Mo_words 13 = .ok (.iconst 0, 1) := by decide +kernel
theorem nd_Mo_words_14 : decode nc_Mo_words 14 = .ok (.putfield 51, 3) := by decide +kernel
theorem nd_Mo_words_17 : decode nc_Mo_words 17 = .ok (.aload_n 0, 1) := by decide +kernel
theorem nd_Mo_words_18 : decode nc_Mo_words 18 = .ok (.iload_n 1, 1) := by decide +kernel
theorem nd_Mo_words_19 : decode nc_Mo_words 19 = .ok (.invokevirtual 105, 3) := by decide +kernel
theorem nd_Mo_words_22 : decode nc_Mo_words 22 = .ok (.ireturn, 1) := by decide +kernel
theorem nd_Mo_given_0 : decode nc_Mo_given 0 = .ok (.aload_n 0, 1) := by decide +kernel
theorem nd_Mo_given_1 : decode nc_Mo_given 1 = .ok (.iload_n 1, 1) := by decide +kernel
theorem nd_Mo_given_2 : decode nc_Mo_given 2 = .ok (.ifCond .lt 16, 3) := by decide +kernel
theorem nd_Mo_given_5 : decode nc_Mo_given 5 = .ok (.iload_n 2, 1) := by decide +kernel
theorem nd_Mo_given_6 : decode nc_Mo_given 6 = .ok (.ifCond .lt 12, 3) := by decide +kernel
theorem nd_Mo_given_9 : decode nc_Mo_given 9 = .ok (.iload_n 2, 1) := by decide +kernel
theorem nd_Mo_given_10 : decode nc_Mo_given 10 = .ok (.aload_n 0, 1) := by decide +kernel
theorem nd_Mo_given_11 : decode nc_Mo_given 11 = .ok (.iload_n 1, 1) := by decide +kernel
theorem nd_Mo_given_12 : decode nc_Mo_given 12 = .ok (.invokevirtual 105, 3) := by decide +kernel
theorem nd_Mo_given_15 : decode nc_Mo_given 15 = .ok (.if_icmp .lt 7, 3) := by decide +kernel
theorem nd_Mo_given_18 : decode nc_Mo_given 18 = .ok (.iconst 1, 1) := by decide +kernel
theorem nd_Mo_given_19 : decode nc_Mo_given 19 = .ok (.goto 4, 3) := by decide +kernel
theorem nd_Mo_given_22 : decode nc_Mo_given 22 = .ok (.iconst 0, 1) := by decide +kernel
theorem nd_Mo_given_23 : decode nc_Mo_given 23 = .ok (.putfield 51, 3) := by decide +kernel
theorem nd_Mo_given_26 : decode nc_Mo_given 26 = .ok (.aload_n 0, 1) := by decide +kernel
theorem nd_Mo_given_27 : decode nc_Mo_given 27 = .ok (.getfield 51, 3) := by decide +kernel
theorem nd_Mo_given_30 : decode nc_Mo_given 30 = .ok (.ifCond .le 7, 3) := by decide +kernel
theorem nd_Mo_given_33 : decode nc_Mo_given 33 = .ok (.iconst 0, 1) := by decide +kernel
theorem nd_Mo_given_34 : decode nc_Mo_given 34 = .ok (.goto 14, 3) := by decide +kernel
theorem nd_Mo_given_37 : decode nc_Mo_given 37 = .ok (.aload_n 0, 1) := by decide +kernel
theorem nd_Mo_given_38 : decode nc_Mo_given 38 = .ok (.getfield 19, 3) := by decide +kernel
theorem nd_Mo_given_41 : decode nc_Mo_given 41 = .ok (.bipush 6, 2) := by decide +kernel
theorem nd_Mo_given_43 : decode nc_Mo_given 43 = .ok (.iload_n 1, 1) := by decide +kernel
theorem nd_Mo_given_44 : decode nc_Mo_given 44 = .ok (.imul, 1) := by decide +kernel
theorem nd_Mo_given_45 : decode nc_Mo_given 45 = .ok (.iload_n 2, 1) := by decide +kernel
theorem nd_Mo_given_46 : decode nc_Mo_given 46 = .ok (.iadd, 1) := by decide +kernel
theorem nd_Mo_given_47 : decode nc_Mo_given 47 = .ok (.iaload, 1) := by decide +kernel
theorem nd_Mo_given_48 : decode nc_Mo_given 48 = .ok (.ireturn, 1) := by decide +kernel
theorem nd_Mo_feature_0 : decode nc_Mo_feature 0 = .ok (.aload_n 0, 1) := by decide +kernel
theorem nd_Mo_feature_1 : decode nc_Mo_feature 1 = .ok (.iload_n 2, 1) := by decide +kernel
theorem nd_Mo_feature_2 : decode nc_Mo_feature 2 = .ok (.ifCond .lt 21, 3) := by decide +kernel
theorem nd_Mo_feature_5 : decode nc_Mo_feature 5 = .ok (.iload_n 2, 1) := by decide +kernel
theorem nd_Mo_feature_6 : decode nc_Mo_feature 6 = .ok (.aload_n 0, 1) := by decide +kernel
theorem nd_Mo_feature_7 : decode nc_Mo_feature 7 = .ok (.iload_n 1, 1) := by decide +kernel
theorem nd_Mo_feature_8 : decode nc_Mo_feature 8 = .ok (.invokevirtual 105, 3) := by decide +kernel
theorem nd_Mo_feature_11 : decode nc_Mo_feature 11 = .ok (.if_icmp .ge 12, 3) := by decide +kernel
theorem nd_Mo_feature_14 : decode nc_Mo_feature 14 = .ok (.iload_n 3, 1) := by decide +kernel
theorem nd_Mo_feature_15 : decode nc_Mo_feature 15 = .ok (.ifCond .lt 8, 3) := by decide +kernel
theorem nd_Mo_feature_18 : decode nc_Mo_feature 18 = .ok (.iload_n 3, 1) := by decide +kernel
theorem nd_Mo_feature_19 : decode nc_Mo_feature 19 = .ok (.iconst 2, 1) := by decide +kernel
theorem nd_Mo_feature_20 : decode nc_Mo_feature 20 = .ok (.if_icmp .le 7, 3) := by decide +kernel
theorem nd_Mo_feature_23 : decode nc_Mo_feature 23 = .ok (.iconst 1, 1) := by decide +kernel
theorem nd_Mo_feature_24 : decode nc_Mo_feature 24 = .ok (.goto 4, 3) := by decide +kernel
theorem nd_Mo_feature_27 : decode nc_Mo_feature 27 = .ok (.iconst 0, 1) := by decide +kernel
theorem nd_Mo_feature_28 : decode nc_Mo_feature 28 = .ok (.putfield 51, 3) := by decide +kernel
theorem nd_Mo_feature_31 : decode nc_Mo_feature 31 = .ok (.aload_n 0, 1) := by decide +kernel
theorem nd_Mo_feature_32 : decode nc_Mo_feature 32 = .ok (.getfield 51, 3) := by decide +kernel
theorem nd_Mo_feature_35 : decode nc_Mo_feature 35 = .ok (.ifCond .le 7, 3) := by decide +kernel
theorem nd_Mo_feature_38 : decode nc_Mo_feature 38 = .ok (.iconst 0, 1) := by decide +kernel
theorem nd_Mo_feature_39 : decode nc_Mo_feature 39 = .ok (.goto 22, 3) := by decide +kernel
theorem nd_Mo_feature_42 : decode nc_Mo_feature 42 = .ok (.aload_n 0, 1) := by decide +kernel
theorem nd_Mo_feature_43 : decode nc_Mo_feature 43 = .ok (.getfield 16, 3) := by decide +kernel
theorem nd_Mo_feature_46 : decode nc_Mo_feature 46 = .ok (.iconst 3, 1) := by decide +kernel
theorem nd_Mo_feature_47 : decode nc_Mo_feature 47 = .ok (.bipush 6, 2) := by decide +kernel
theorem nd_Mo_feature_49 : decode nc_Mo_feature 49 = .ok (.aload_n 0, 1) := by decide +kernel
theorem nd_Mo_feature_50 : decode nc_Mo_feature 50 = .ok (.iload_n 1, 1) := by decide +kernel
theorem nd_Mo_feature_51 : decode nc_Mo_feature 51 = .ok (.invokevirtual 102, 3) := by decide +kernel
theorem nd_Mo_feature_54 : decode nc_Mo_feature 54 = .ok (.imul, 1) := by decide +kernel
theorem nd_Mo_feature_55 : decode nc_Mo_feature 55 = .ok (.iload_n 2, 1) := by decide +kernel
theorem nd_Mo_feature_56 : decode nc_Mo_feature 56 = .ok (.iadd, 1) := by decide +kernel
theorem nd_Mo_feature_57 : decode nc_Mo_feature 57 = .ok (.imul, 1) := by decide +kernel
theorem nd_Mo_feature_58 : decode nc_Mo_feature 58 = .ok (.iload_n 3, 1) := by decide +kernel
theorem nd_Mo_feature_59 : decode nc_Mo_feature 59 = .ok (.iadd, 1) := by decide +kernel
theorem nd_Mo_feature_60 : decode nc_Mo_feature 60 = .ok (.iaload, 1) := by decide +kernel
theorem nd_Mo_feature_61 : decode nc_Mo_feature 61 = .ok (.ireturn, 1) := by decide +kernel
theorem nd_Mo_of_0 : decode nc_Mo_of 0 = .ok (.aload_n 0, 1) := by decide +kernel
theorem nd_Mo_of_1 : decode nc_Mo_of 1 = .ok (.iconst 4, 1) := by decide +kernel
theorem nd_Mo_of_2 : decode nc_Mo_of 2 = .ok (.iload_n 1, 1) := by decide +kernel
theorem nd_Mo_of_3 : decode nc_Mo_of 3 = .ok (.imul, 1) := by decide +kernel
theorem nd_Mo_of_4 : decode nc_Mo_of 4 = .ok (.iload_n 2, 1) := by decide +kernel
theorem nd_Mo_of_5 : decode nc_Mo_of 5 = .ok (.iadd, 1) := by decide +kernel
theorem nd_Mo_of_6 : decode nc_Mo_of 6 = .ok (.laload, 1) := by decide +kernel
theorem nd_Mo_of_7 : decode nc_Mo_of 7 = .ok (.lreturn, 1) := by decide +kernel
theorem nd_Mo_prepare_0 : decode nc_Mo_prepare 0 = .ok (.iconst 0, 1) := by decide +kernel
theorem nd_Mo_prepare_1 : decode nc_Mo_prepare 1 = .ok (.istore_n 3, 1) := by decide +kernel
theorem nd_Mo_prepare_2 : decode nc_Mo_prepare 2 = .ok (.iload_n 3, 1) := by decide +kernel
theorem nd_Mo_prepare_3 : decode nc_Mo_prepare 3 = .ok (.aload_n 0, 1) := by decide +kernel
theorem nd_Mo_prepare_4 : decode nc_Mo_prepare 4 = .ok (.getfield 13, 3) := by decide +kernel
theorem nd_Mo_prepare_7 : decode nc_Mo_prepare 7 = .ok (.iload_n 1, 1) := by decide +kernel
theorem nd_Mo_prepare_8 : decode nc_Mo_prepare 8 = .ok (.iaload, 1) := by decide +kernel
theorem nd_Mo_prepare_9 : decode nc_Mo_prepare 9 = .ok (.if_icmp .ge 97, 3) := by decide +kernel
theorem nd_Mo_prepare_12 : decode nc_Mo_prepare 12 = .ok (.iconst 0, 1) := by decide +kernel
theorem nd_Mo_prepare_13 : decode nc_Mo_prepare 13 = .ok (.istore 4, 2) := by decide +kernel
theorem nd_Mo_prepare_15 : decode nc_Mo_prepare 15 = .ok (.iload 4, 2) := by decide +kernel
theorem nd_Mo_prepare_17 : decode nc_Mo_prepare 17 = .ok (.iconst 4, 1) := by decide +kernel
theorem nd_Mo_prepare_18 : decode nc_Mo_prepare 18 = .ok (.if_icmp .ge 82, 3) := by decide +kernel
theorem nd_Mo_prepare_21 : decode nc_Mo_prepare 21 = .ok (.iload_n 3, 1) := by decide +kernel
theorem nd_Mo_prepare_22 : decode nc_Mo_prepare 22 = .ok (.ifCond .ne 14, 3) := by decide +kernel
theorem nd_Mo_prepare_25 : decode nc_Mo_prepare 25 = .ok (.aload_n 2, 1) := by decide +kernel
theorem nd_Mo_prepare_26 : decode nc_Mo_prepare 26 = .ok (.bipush 32, 2) := by decide +kernel
theorem nd_Mo_prepare_28 : decode nc_Mo_prepare 28 = .ok (.iload 4, 2) := by decide +kernel
theorem nd_Mo_prepare_30 : decode nc_Mo_prepare 30 = .ok (.invokestatic 108, 3) := by decide +kernel
theorem nd_Mo_prepare_33 : decode nc_Mo_prepare 33 = .ok (.goto 4, 3) := by decide +kernel
theorem nd_Mo_prepare_36 : decode nc_Mo_prepare 36 = .ok (.lconst 0, 1) := by decide +kernel
theorem nd_Mo_prepare_37 : decode nc_Mo_prepare 37 = .ok (.lstore 5, 2) := by decide +kernel
theorem nd_Mo_prepare_39 : decode nc_Mo_prepare 39 = .ok (.iconst 0, 1) := by decide +kernel
theorem nd_Mo_prepare_40 : decode nc_Mo_prepare 40 = .ok (.istore 7, 2) := by decide +kernel
theorem nd_Mo_prepare_42 : decode nc_Mo_prepare 42 = .ok (.iload 7, 2) := by decide +kernel
theorem nd_Mo_prepare_44 : decode nc_Mo_prepare 44 = .ok (.iconst 3, 1) := by decide +kernel
theorem nd_Mo_prepare_45 : decode nc_Mo_prepare 45 = .ok (.if_icmp .ge 36, 3) := by decide +kernel
theorem nd_Mo_prepare_48 : decode nc_Mo_prepare 48 = .ok (.lload 5, 2) := by decide +kernel
theorem nd_Mo_prepare_50 : decode nc_Mo_prepare 50 = .ok (.aload_n 2, 1) := by decide +kernel
theorem nd_Mo_prepare_51 : decode nc_Mo_prepare 51 = .ok (.aload_n 0, 1) := by decide +kernel
theorem nd_Mo_prepare_52 : decode nc_Mo_prepare 52 = .ok (.getfield 16, 3) := by decide +kernel
theorem nd_Mo_prepare_55 : decode nc_Mo_prepare 55 = .ok (.iconst 3, 1) := by decide +kernel
theorem nd_Mo_prepare_56 : decode nc_Mo_prepare 56 = .ok (.bipush 6, 2) := by decide +kernel
theorem nd_Mo_prepare_58 : decode nc_Mo_prepare 58 = .ok (.iload_n 1, 1) := by decide +kernel
theorem nd_Mo_prepare_59 : decode nc_Mo_prepare 59 = .ok (.imul, 1) := by decide +kernel
theorem nd_Mo_prepare_60 : decode nc_Mo_prepare 60 = .ok (.iload_n 3, 1) := by decide +kernel
theorem nd_Mo_prepare_61 : decode nc_Mo_prepare 61 = .ok (.iadd, 1) := by decide +kernel
theorem nd_Mo_prepare_62 : decode nc_Mo_prepare 62 = .ok (.imul, 1) := by decide +kernel
theorem nd_Mo_prepare_63 : decode nc_Mo_prepare 63 = .ok (.iload 7, 2) := by decide +kernel
theorem nd_Mo_prepare_65 : decode nc_Mo_prepare 65 = .ok (.iadd, 1) := by decide +kernel
theorem nd_Mo_prepare_66 : decode nc_Mo_prepare 66 = .ok (.iaload, 1) := by decide +kernel
theorem nd_Mo_prepare_67 : decode nc_Mo_prepare 67 = .ok (.iload 4, 2) := by decide +kernel
theorem nd_Mo_prepare_69 : decode nc_Mo_prepare 69 = .ok (.invokestatic 108, 3) := by decide +kernel
theorem nd_Mo_prepare_72 : decode nc_Mo_prepare 72 = .ok (.ladd, 1) := by decide +kernel
theorem nd_Mo_prepare_73 : decode nc_Mo_prepare 73 = .ok (.lstore 5, 2) := by decide +kernel
theorem nd_Mo_prepare_75 : decode nc_Mo_prepare 75 = .ok (.iinc 7 1, 3) := by decide +kernel
theorem nd_Mo_prepare_78 : decode nc_Mo_prepare 78 = .ok (.goto (-36), 3) := by decide +kernel
theorem nd_Mo_prepare_81 : decode nc_Mo_prepare 81 = .ok (.aload_n 0, 1) := by decide +kernel
theorem nd_Mo_prepare_82 : decode nc_Mo_prepare 82 = .ok (.getfield 38, 3) := by decide +kernel
theorem nd_Mo_prepare_85 : decode nc_Mo_prepare 85 = .ok (.iconst 4, 1) := by decide +kernel
theorem nd_Mo_prepare_86 : decode nc_Mo_prepare 86 = .ok (.iload_n 3, 1) := by decide +kernel
theorem nd_Mo_prepare_87 : decode nc_Mo_prepare 87 = .ok (.imul, 1) := by decide +kernel
theorem nd_Mo_prepare_88 : decode nc_Mo_prepare 88 = .ok (.iload 4, 2) := by decide +kernel
theorem nd_Mo_prepare_90 : decode nc_Mo_prepare 90 = .ok (.iadd, 1) := by decide +kernel
theorem nd_Mo_prepare_91 : decode nc_Mo_prepare 91 = .ok (.lload 5, 2) := by decide +kernel
theorem nd_Mo_prepare_93 : decode nc_Mo_prepare 93 = .ok (.lastore, 1) := by decide +kernel
theorem nd_Mo_prepare_94 : decode nc_Mo_prepare 94 = .ok (.iinc 4 1, 3) := by decide +kernel
theorem nd_Mo_prepare_97 : decode nc_Mo_prepare 97 = .ok (.goto (-82), 3) := by decide +kernel
theorem nd_Mo_prepare_100 : decode nc_Mo_prepare 100 = .ok (.iinc 3 1, 3) := by decide +kernel
theorem nd_Mo_prepare_103 : decode nc_Mo_prepare 103 = .ok (.goto (-101), 3) := by decide +kernel
theorem nd_Mo_prepare_106 : decode nc_Mo_prepare 106 = .ok (.return_, 1) := by decide +kernel
theorem nd_Mo_packed_0 : decode nc_Mo_packed 0 = .ok (.iconst 0, 1) := by decide +kernel
theorem nd_Mo_packed_1 : decode nc_Mo_packed 1 = .ok (.istore_n 2, 1) := by decide +kernel
theorem nd_Mo_packed_2 : decode nc_Mo_packed 2 = .ok (.iconst 0, 1) := by decide +kernel
theorem nd_Mo_packed_3 : decode nc_Mo_packed 3 = .ok (.istore_n 3, 1) := by decide +kernel
theorem nd_Mo_packed_4 : decode nc_Mo_packed 4 = .ok (.iload_n 3, 1) := by decide +kernel
theorem nd_Mo_packed_5 : decode nc_Mo_packed 5 = .ok (.iload_n 1, 1) := by decide +kernel
theorem nd_Mo_packed_6 : decode nc_Mo_packed 6 = .ok (.if_icmp .ge 22, 3) := by decide +kernel
theorem nd_Mo_packed_9 : decode nc_Mo_packed 9 = .ok (.iload_n 2, 1) := by decide +kernel
theorem nd_Mo_packed_10 : decode nc_Mo_packed 10 = .ok (.aload_n 0, 1) := by decide +kernel
theorem nd_Mo_packed_11 : decode nc_Mo_packed 11 = .ok (.getfield 41, 3) := by decide +kernel
theorem nd_Mo_packed_14 : decode nc_Mo_packed 14 = .ok (.iload_n 3, 1) := by decide +kernel
theorem nd_Mo_packed_15 : decode nc_Mo_packed 15 = .ok (.iaload, 1) := by decide +kernel
theorem nd_Mo_packed_16 : decode nc_Mo_packed 16 = .ok (.iconst 2, 1) := by decide +kernel
theorem nd_Mo_packed_17 : decode nc_Mo_packed 17 = .ok (.iload_n 3, 1) := by decide +kernel
theorem nd_Mo_packed_18 : decode nc_Mo_packed 18 = .ok (.imul, 1) := by decide +kernel
theorem nd_Mo_packed_19 : decode nc_Mo_packed 19 = .ok (.ishl, 1) := by decide +kernel
theorem nd_Mo_packed_20 : decode nc_Mo_packed 20 = .ok (.ior, 1) := by decide +kernel
theorem nd_Mo_packed_21 : decode nc_Mo_packed 21 = .ok (.istore_n 2, 1) := by decide +kernel
theorem nd_Mo_packed_22 : decode nc_Mo_packed 22 = .ok (.iinc 3 1, 3) := by decide +kernel
theorem nd_Mo_packed_25 : decode nc_Mo_packed 25 = .ok (.goto (-21), 3) := by decide +kernel
theorem nd_Mo_packed_28 : decode nc_Mo_packed 28 = .ok (.iload_n 2, 1) := by decide +kernel
theorem nd_Mo_packed_29 : decode nc_Mo_packed 29 = .ok (.ireturn, 1) := by decide +kernel
theorem nd_Mo_sumFrom_0 : decode nc_Mo_sumFrom 0 = .ok (.iload_n 1, 1) := by decide +kernel
theorem nd_Mo_sumFrom_1 : decode nc_Mo_sumFrom 1 = .ok (.istore 4, 2) := by decide +kernel
theorem nd_Mo_sumFrom_3 : decode nc_Mo_sumFrom 3 = .ok (.iload 4, 2) := by decide +kernel
theorem nd_Mo_sumFrom_5 : decode nc_Mo_sumFrom 5 = .ok (.iload_n 2, 1) := by decide +kernel
theorem nd_Mo_sumFrom_6 : decode nc_Mo_sumFrom 6 = .ok (.if_icmp .ge 76, 3) := by decide +kernel
theorem nd_Mo_sumFrom_9 : decode nc_Mo_sumFrom 9 = .ok (.aload_n 0, 1) := by decide +kernel
theorem nd_Mo_sumFrom_10 : decode nc_Mo_sumFrom 10 = .ok (.getfield 44, 3) := by decide +kernel
theorem nd_Mo_sumFrom_13 : decode nc_Mo_sumFrom 13 = .ok (.iload 4, 2) := by decide +kernel
theorem nd_Mo_sumFrom_15 : decode nc_Mo_sumFrom 15 = .ok (.iconst 1, 1) := by decide +kernel
theorem nd_Mo_sumFrom_16 : decode nc_Mo_sumFrom 16 = .ok (.iadd, 1) := by decide +kernel
theorem nd_Mo_sumFrom_17 : decode nc_Mo_sumFrom 17 = .ok (.aload_n 0, 1) := by decide +kernel
theorem nd_Mo_sumFrom_18 : decode nc_Mo_sumFrom 18 = .ok (.getfield 44, 3) := by decide +kernel
theorem nd_Mo_sumFrom_21 : decode nc_Mo_sumFrom 21 = .ok (.iload 4, 2) := by decide +kernel
theorem nd_Mo_sumFrom_23 : decode nc_Mo_sumFrom 23 = .ok (.laload, 1) := by decide +kernel
theorem nd_Mo_sumFrom_24 : decode nc_Mo_sumFrom 24 = .ok (.aload_n 0, 1) := by decide +kernel
theorem nd_Mo_sumFrom_25 : decode nc_Mo_sumFrom 25 = .ok (.getfield 38, 3) := by decide +kernel
theorem nd_Mo_sumFrom_28 : decode nc_Mo_sumFrom 28 = .ok (.iconst 4, 1) := by decide +kernel
theorem nd_Mo_sumFrom_29 : decode nc_Mo_sumFrom 29 = .ok (.iload 4, 2) := by decide +kernel
theorem nd_Mo_sumFrom_31 : decode nc_Mo_sumFrom 31 = .ok (.imul, 1) := by decide +kernel
theorem nd_Mo_sumFrom_32 : decode nc_Mo_sumFrom 32 = .ok (.aload_n 0, 1) := by decide +kernel
theorem nd_Mo_sumFrom_33 : decode nc_Mo_sumFrom 33 = .ok (.getfield 41, 3) := by decide +kernel
theorem nd_Mo_sumFrom_36 : decode nc_Mo_sumFrom 36 = .ok (.iload 4, 2) := by decide +kernel
theorem nd_Mo_sumFrom_38 : decode nc_Mo_sumFrom 38 = .ok (.iaload, 1) := by decide +kernel
theorem nd_Mo_sumFrom_39 : decode nc_Mo_sumFrom 39 = .ok (.iadd, 1) := by decide +kernel
theorem nd_Mo_sumFrom_40 : decode nc_Mo_sumFrom 40 = .ok (.laload, 1) := by decide +kernel
theorem nd_Mo_sumFrom_41 : decode nc_Mo_sumFrom 41 = .ok (.ladd, 1) := by decide +kernel
theorem nd_Mo_sumFrom_42 : decode nc_Mo_sumFrom 42 = .ok (.iload 4, 2) := by decide +kernel
theorem nd_Mo_sumFrom_44 : decode nc_Mo_sumFrom 44 = .ok (.ifCond .ne 7, 3) := by decide +kernel
theorem nd_Mo_sumFrom_47 : decode nc_Mo_sumFrom 47 = .ok (.lconst 0, 1) := by decide +kernel
theorem nd_Mo_sumFrom_48 : decode nc_Mo_sumFrom 48 = .ok (.goto 26, 3) := by decide +kernel
theorem nd_Mo_sumFrom_51 : decode nc_Mo_sumFrom 51 = .ok (.aload_n 3, 1) := by decide +kernel
theorem nd_Mo_sumFrom_52 : decode nc_Mo_sumFrom 52 = .ok (.bipush 33, 2) := by decide +kernel
theorem nd_Mo_sumFrom_54 : decode nc_Mo_sumFrom 54 = .ok (.aload_n 0, 1) := by decide +kernel
theorem nd_Mo_sumFrom_55 : decode nc_Mo_sumFrom 55 = .ok (.getfield 41, 3) := by decide +kernel
theorem nd_Mo_sumFrom_58 : decode nc_Mo_sumFrom 58 = .ok (.iload 4, 2) := by decide +kernel
theorem nd_Mo_sumFrom_60 : decode nc_Mo_sumFrom 60 = .ok (.iconst 1, 1) := by decide +kernel
theorem nd_Mo_sumFrom_61 : decode nc_Mo_sumFrom 61 = .ok (.isub, 1) := by decide +kernel
theorem nd_Mo_sumFrom_62 : decode nc_Mo_sumFrom 62 = .ok (.iaload, 1) := by decide +kernel
theorem nd_Mo_sumFrom_63 : decode nc_Mo_sumFrom 63 = .ok (.iadd, 1) := by decide +kernel
theorem nd_Mo_sumFrom_64 : decode nc_Mo_sumFrom 64 = .ok (.aload_n 0, 1) := by decide +kernel
theorem nd_Mo_sumFrom_65 : decode nc_Mo_sumFrom 65 = .ok (.getfield 41, 3) := by decide +kernel
theorem nd_Mo_sumFrom_68 : decode nc_Mo_sumFrom 68 = .ok (.iload 4, 2) := by decide +kernel
theorem nd_Mo_sumFrom_70 : decode nc_Mo_sumFrom 70 = .ok (.iaload, 1) := by decide +kernel
theorem nd_Mo_sumFrom_71 : decode nc_Mo_sumFrom 71 = .ok (.invokestatic 108, 3) := by decide +kernel
theorem nd_Mo_sumFrom_74 : decode nc_Mo_sumFrom 74 = .ok (.ladd, 1) := by decide +kernel
theorem nd_Mo_sumFrom_75 : decode nc_Mo_sumFrom 75 = .ok (.lastore, 1) := by decide +kernel
theorem nd_Mo_sumFrom_76 : decode nc_Mo_sumFrom 76 = .ok (.iinc 4 1, 3) := by decide +kernel
theorem nd_Mo_sumFrom_79 : decode nc_Mo_sumFrom 79 = .ok (.goto (-76), 3) := by decide +kernel
theorem nd_Mo_sumFrom_82 : decode nc_Mo_sumFrom 82 = .ok (.return_, 1) := by decide +kernel
theorem nd_Mo_search_0 : decode nc_Mo_search 0 = .ok (.aload_n 0, 1) := by decide +kernel
theorem nd_Mo_search_1 : decode nc_Mo_search 1 = .ok (.getfield 13, 3) := by decide +kernel
theorem nd_Mo_search_4 : decode nc_Mo_search 4 = .ok (.iload_n 1, 1) := by decide +kernel
theorem nd_Mo_search_5 : decode nc_Mo_search 5 = .ok (.iaload, 1) := by decide +kernel
theorem nd_Mo_search_6 : decode nc_Mo_search 6 = .ok (.istore_n 3, 1) := by decide +kernel
end
section
theorem nd_Mo_search_7 : decode nc_Mo_search 7 = .ok (.aload_n 0, 1) := by decide +kernel
theorem nd_Mo_search_8 : decode nc_Mo_search 8 = .ok (.iload_n 1, 1) := by decide +kernel
theorem nd_Mo_search_9 : decode nc_Mo_search 9 = .ok (.aload_n 2, 1) := by decide +kernel
theorem nd_Mo_search_10 : decode nc_Mo_search 10 = .ok (.invokevirtual 112, 3) := by decide +kernel
theorem nd_Mo_search_13 : decode nc_Mo_search 13 = .ok (.iconst 0, 1) := by decide +kernel
theorem nd_Mo_search_14 : decode nc_Mo_search 14 = .ok (.istore 4, 2) := by decide +kernel
theorem nd_Mo_search_16 : decode nc_Mo_search 16 = .ok (.iload 4, 2) := by decide +kernel
theorem nd_Mo_search_18 : decode nc_Mo_search 18 = .ok (.bipush 6, 2) := by decide +kernel
theorem nd_Mo_search_20 : decode nc_Mo_search 20 = .ok (.if_icmp .ge 17, 3) := by decide +kernel
theorem nd_Mo_search_23 : decode nc_Mo_search 23 = .ok (.aload_n 0, 1) := by decide +kernel
theorem nd_Mo_search_24 : decode nc_Mo_search 24 = .ok (.getfield 41, 3) := by decide +kernel
theorem nd_Mo_search_27 : decode nc_Mo_search 27 = .ok (.iload 4, 2) := by decide +kernel
theorem nd_Mo_search_29 : decode nc_Mo_search 29 = .ok (.iconst 0, 1) := by decide +kernel
theorem nd_Mo_search_30 : decode nc_Mo_search 30 = .ok (.iastore, 1) := by decide +kernel
theorem nd_Mo_search_31 : decode nc_Mo_search 31 = .ok (.iinc 4 1, 3) := by decide +kernel
theorem nd_Mo_search_34 : decode nc_Mo_search 34 = .ok (.goto (-18), 3) := by decide +kernel
theorem nd_Mo_search_37 : decode nc_Mo_search 37 = .ok (.iconst 0, 1) := by decide +kernel
theorem nd_Mo_search_38 : decode nc_Mo_search 38 = .ok (.istore 4, 2) := by decide +kernel
theorem nd_Mo_search_40 : decode nc_Mo_search 40 = .ok (.iconst 0, 1) := by decide +kernel
theorem nd_Mo_search_41 : decode nc_Mo_search 41 = .ok (.istore 5, 2) := by decide +kernel
theorem nd_Mo_search_43 : decode nc_Mo_search 43 = .ok (.iconst 0, 1) := by decide +kernel
theorem nd_Mo_search_44 : decode nc_Mo_search 44 = .ok (.istore 6, 2) := by decide +kernel
theorem nd_Mo_search_46 : decode nc_Mo_search 46 = .ok (.iload 4, 2) := by decide +kernel
theorem nd_Mo_search_48 : decode nc_Mo_search 48 = .ok (.ifCond .lt 162, 3) := by decide +kernel
theorem nd_Mo_search_51 : decode nc_Mo_search 51 = .ok (.aload_n 0, 1) := by decide +kernel
theorem nd_Mo_search_52 : decode nc_Mo_search 52 = .ok (.iload 4, 2) := by decide +kernel
theorem nd_Mo_search_54 : decode nc_Mo_search 54 = .ok (.iload_n 3, 1) := by decide +kernel
theorem nd_Mo_search_55 : decode nc_Mo_search 55 = .ok (.aload_n 2, 1) := by decide +kernel
theorem nd_Mo_search_56 : decode nc_Mo_search 56 = .ok (.invokevirtual 116, 3) := by decide +kernel
theorem nd_Mo_search_59 : decode nc_Mo_search 59 = .ok (.aload_n 0, 1) := by decide +kernel
theorem nd_Mo_search_60 : decode nc_Mo_search 60 = .ok (.getfield 44, 3) := by decide +kernel
theorem nd_Mo_search_63 : decode nc_Mo_search 63 = .ok (.iload_n 3, 1) := by decide +kernel
theorem nd_Mo_search_64 : decode nc_Mo_search 64 = .ok (.laload, 1) := by decide +kernel
theorem nd_Mo_search_65 : decode nc_Mo_search 65 = .ok (.lstore 7, 2) := by decide +kernel
theorem nd_Mo_search_67 : decode nc_Mo_search 67 = .ok (.iload 5, 2) := by decide +kernel
theorem nd_Mo_search_69 : decode nc_Mo_search 69 = .ok (.ifCond .eq 13, 3) := by decide +kernel
theorem nd_Mo_search_72 : decode nc_Mo_search 72 = .ok (.lload 7, 2) := by decide +kernel
theorem nd_Mo_search_74 : decode nc_Mo_search 74 = .ok (.aload_n 0, 1) := by decide +kernel
theorem nd_Mo_search_75 : decode nc_Mo_search 75 = .ok (.getfield 120, 3) := by decide +kernel
theorem nd_Mo_search_78 : decode nc_Mo_search 78 = .ok (.lcmp, 1) := by decide +kernel
theorem nd_Mo_search_79 : decode nc_Mo_search 79 = .ok (.ifCond .le 44, 3) := by decide +kernel
theorem nd_Mo_search_82 : decode nc_Mo_search 82 = .ok (.iload 5, 2) := by decide +kernel
theorem nd_Mo_search_84 : decode nc_Mo_search 84 = .ok (.istore 6, 2) := by decide +kernel
theorem nd_Mo_search_86 : decode nc_Mo_search 86 = .ok (.aload_n 0, 1) := by decide +kernel
theorem nd_Mo_search_87 : decode nc_Mo_search 87 = .ok (.aload_n 0, 1) := by decide +kernel
theorem nd_Mo_search_88 : decode nc_Mo_search 88 = .ok (.getfield 124, 3) := by decide +kernel
theorem nd_Mo_search_91 : decode nc_Mo_search 91 = .ok (.putfield 127, 3) := by decide +kernel
theorem nd_Mo_search_94 : decode nc_Mo_search 94 = .ok (.aload_n 0, 1) := by decide +kernel
theorem nd_Mo_search_95 : decode nc_Mo_search 95 = .ok (.aload_n 0, 1) := by decide +kernel
theorem nd_Mo_search_96 : decode nc_Mo_search 96 = .ok (.getfield 120, 3) := by decide +kernel
theorem nd_Mo_search_99 : decode nc_Mo_search 99 = .ok (.putfield 130, 3) := by decide +kernel
theorem nd_Mo_search_102 : decode nc_Mo_search 102 = .ok (.aload_n 0, 1) := by decide +kernel
theorem nd_Mo_search_103 : decode nc_Mo_search 103 = .ok (.aload_n 0, 1) := by decide +kernel
theorem nd_Mo_search_104 : decode nc_Mo_search 104 = .ok (.iload_n 3, 1) := by decide +kernel
theorem nd_Mo_search_105 : decode nc_Mo_search 105 = .ok (.invokevirtual 133, 3) := by decide +kernel
theorem nd_Mo_search_108 : decode nc_Mo_search 108 = .ok (.putfield 124, 3) := by decide +kernel
theorem nd_Mo_search_111 : decode nc_Mo_search 111 = .ok (.aload_n 0, 1) := by decide +kernel
theorem nd_Mo_search_112 : decode nc_Mo_search 112 = .ok (.lload 7, 2) := by decide +kernel
theorem nd_Mo_search_114 : decode nc_Mo_search 114 = .ok (.putfield 120, 3) := by decide +kernel
theorem nd_Mo_search_117 : decode nc_Mo_search 117 = .ok (.iconst 1, 1) := by decide +kernel
theorem nd_Mo_search_118 : decode nc_Mo_search 118 = .ok (.istore 5, 2) := by decide +kernel
theorem nd_Mo_search_120 : decode nc_Mo_search 120 = .ok (.goto 36, 3) := by decide +kernel
theorem nd_Mo_search_123 : decode nc_Mo_search 123 = .ok (.iload 6, 2) := by decide +kernel
theorem nd_Mo_search_125 : decode nc_Mo_search 125 = .ok (.ifCond .eq 13, 3) := by decide +kernel
theorem nd_Mo_search_128 : decode nc_Mo_search 128 = .ok (.lload 7, 2) := by decide +kernel
theorem nd_Mo_search_130 : decode nc_Mo_search 130 = .ok (.aload_n 0, 1) := by decide +kernel
theorem nd_Mo_search_131 : decode nc_Mo_search 131 = .ok (.getfield 130, 3) := by decide +kernel
theorem nd_Mo_search_134 : decode nc_Mo_search 134 = .ok (.lcmp, 1) := by decide +kernel
theorem nd_Mo_search_135 : decode nc_Mo_search 135 = .ok (.ifCond .le 21, 3) := by decide +kernel
theorem nd_Mo_search_138 : decode nc_Mo_search 138 = .ok (.aload_n 0, 1) := by decide +kernel
theorem nd_Mo_search_139 : decode nc_Mo_search 139 = .ok (.aload_n 0, 1) := by decide +kernel
theorem nd_Mo_search_140 : decode nc_Mo_search 140 = .ok (.iload_n 3, 1) := by decide +kernel
theorem nd_Mo_search_141 : decode nc_Mo_search 141 = .ok (.invokevirtual 133, 3) := by decide +kernel
theorem nd_Mo_search_144 : decode nc_Mo_search 144 = .ok (.putfield 127, 3) := by decide +kernel
theorem nd_Mo_search_147 : decode nc_Mo_search 147 = .ok (.aload_n 0, 1) := by decide +kernel
theorem nd_Mo_search_148 : decode nc_Mo_search 148 = .ok (.lload 7, 2) := by decide +kernel
theorem nd_Mo_search_150 : decode nc_Mo_search 150 = .ok (.putfield 130, 3) := by decide +kernel
theorem nd_Mo_search_153 : decode nc_Mo_search 153 = .ok (.iconst 1, 1) := by decide +kernel
theorem nd_Mo_search_154 : decode nc_Mo_search 154 = .ok (.istore 6, 2) := by decide +kernel
theorem nd_Mo_search_156 : decode nc_Mo_search 156 = .ok (.iload_n 3, 1) := by decide +kernel
theorem nd_Mo_search_157 : decode nc_Mo_search 157 = .ok (.iconst 1, 1) := by decide +kernel
theorem nd_Mo_search_158 : decode nc_Mo_search 158 = .ok (.isub, 1) := by decide +kernel
theorem nd_Mo_search_159 : decode nc_Mo_search 159 = .ok (.istore 4, 2) := by decide +kernel
theorem nd_Mo_search_161 : decode nc_Mo_search 161 = .ok (.iload 4, 2) := by decide +kernel
theorem nd_Mo_search_163 : decode nc_Mo_search 163 = .ok (.ifCond .lt 28, 3) := by decide +kernel
theorem nd_Mo_search_166 : decode nc_Mo_search 166 = .ok (.aload_n 0, 1) := by decide +kernel
theorem nd_Mo_search_167 : decode nc_Mo_search 167 = .ok (.getfield 41, 3) := by decide +kernel
theorem nd_Mo_search_170 : decode nc_Mo_search 170 = .ok (.iload 4, 2) := by decide +kernel
theorem nd_Mo_search_172 : decode nc_Mo_search 172 = .ok (.iaload, 1) := by decide +kernel
theorem nd_Mo_search_173 : decode nc_Mo_search 173 = .ok (.iconst 3, 1) := by decide +kernel
theorem nd_Mo_search_174 : decode nc_Mo_search 174 = .ok (.if_icmp .ne 17, 3) := by decide +kernel
theorem nd_Mo_search_177 : decode nc_Mo_search 177 = .ok (.aload_n 0, 1) := by decide +kernel
theorem nd_Mo_search_178 : decode nc_Mo_search 178 = .ok (.getfield 41, 3) := by decide +kernel
theorem nd_Mo_search_181 : decode nc_Mo_search 181 = .ok (.iload 4, 2) := by decide +kernel
theorem nd_Mo_search_183 : decode nc_Mo_search 183 = .ok (.iconst 0, 1) := by decide +kernel
theorem nd_Mo_search_184 : decode nc_Mo_search 184 = .ok (.iastore, 1) := by decide +kernel
theorem nd_Mo_search_185 : decode nc_Mo_search 185 = .ok (.iinc 4 (-1), 3) := by decide +kernel
theorem nd_Mo_search_188 : decode nc_Mo_search 188 = .ok (.goto (-27), 3) := by decide +kernel
theorem nd_Mo_search_191 : decode nc_Mo_search 191 = .ok (.iload 4, 2) := by decide +kernel
theorem nd_Mo_search_193 : decode nc_Mo_search 193 = .ok (.ifCond .lt 14, 3) := by decide +kernel
theorem nd_Mo_search_196 : decode nc_Mo_search 196 = .ok (.aload_n 0, 1) := by decide +kernel
theorem nd_Mo_search_197 : decode nc_Mo_search 197 = .ok (.getfield 41, 3) := by decide +kernel
theorem nd_Mo_search_200 : decode nc_Mo_search 200 = .ok (.iload 4, 2) := by decide +kernel
theorem nd_Mo_search_202 : decode nc_Mo_search 202 = .ok (.dup2, 1) := by decide +kernel
theorem nd_Mo_search_203 : decode nc_Mo_search 203 = .ok (.iaload, 1) := by decide +kernel
theorem nd_Mo_search_204 : decode nc_Mo_search 204 = .ok (.iconst 1, 1) := by decide +kernel
theorem nd_Mo_search_205 : decode nc_Mo_search 205 = .ok (.iadd, 1) := by decide +kernel
theorem nd_Mo_search_206 : decode nc_Mo_search 206 = .ok (.iastore, 1) := by decide +kernel
theorem nd_Mo_search_207 : decode nc_Mo_search 207 = .ok (.goto (-161), 3) := by decide +kernel
theorem nd_Mo_search_210 : decode nc_Mo_search 210 = .ok (.return_, 1) := by decide +kernel
theorem nd_Mo_mend_0 : decode nc_Mo_mend 0 = .ok (.iconst 0, 1) := by decide +kernel
theorem nd_Mo_mend_1 : decode nc_Mo_mend 1 = .ok (.istore 4, 2) := by decide +kernel
theorem nd_Mo_mend_3 : decode nc_Mo_mend 3 = .ok (.iload 4, 2) := by decide +kernel
theorem nd_Mo_mend_5 : decode nc_Mo_mend 5 = .ok (.aload_n 0, 1) := by decide +kernel
theorem nd_Mo_mend_6 : decode nc_Mo_mend 6 = .ok (.getfield 13, 3) := by decide +kernel
theorem nd_Mo_mend_9 : decode nc_Mo_mend 9 = .ok (.iload_n 1, 1) := by decide +kernel
theorem nd_Mo_mend_10 : decode nc_Mo_mend 10 = .ok (.iaload, 1) := by decide +kernel
theorem nd_Mo_mend_11 : decode nc_Mo_mend 11 = .ok (.if_icmp .ge 126, 3) := by decide +kernel
theorem nd_Mo_mend_14 : decode nc_Mo_mend 14 = .ok (.iload_n 2, 1) := by decide +kernel
theorem nd_Mo_mend_15 : decode nc_Mo_mend 15 = .ok (.iconst 2, 1) := by decide +kernel
theorem nd_Mo_mend_16 : decode nc_Mo_mend 16 = .ok (.iload 4, 2) := by decide +kernel
theorem nd_Mo_mend_18 : decode nc_Mo_mend 18 = .ok (.imul, 1) := by decide +kernel
theorem nd_Mo_mend_19 : decode nc_Mo_mend 19 = .ok (.ishr, 1) := by decide +kernel
theorem nd_Mo_mend_20 : decode nc_Mo_mend 20 = .ok (.iconst 3, 1) := by decide +kernel
theorem nd_Mo_mend_21 : decode nc_Mo_mend 21 = .ok (.iand, 1) := by decide +kernel
theorem nd_Mo_mend_22 : decode nc_Mo_mend 22 = .ok (.istore 5, 2) := by decide +kernel
theorem nd_Mo_mend_24 : decode nc_Mo_mend 24 = .ok (.iconst 0, 1) := by decide +kernel
theorem nd_Mo_mend_25 : decode nc_Mo_mend 25 = .ok (.istore 6, 2) := by decide +kernel
theorem nd_Mo_mend_27 : decode nc_Mo_mend 27 = .ok (.iload 6, 2) := by decide +kernel
theorem nd_Mo_mend_29 : decode nc_Mo_mend 29 = .ok (.iconst 3, 1) := by decide +kernel
theorem nd_Mo_mend_30 : decode nc_Mo_mend 30 = .ok (.if_icmp .ge 50, 3) := by decide +kernel
theorem nd_Mo_mend_33 : decode nc_Mo_mend 33 = .ok (.iconst 4, 1) := by decide +kernel
theorem nd_Mo_mend_34 : decode nc_Mo_mend 34 = .ok (.aload_n 0, 1) := by decide +kernel
theorem nd_Mo_mend_35 : decode nc_Mo_mend 35 = .ok (.getfield 16, 3) := by decide +kernel
theorem nd_Mo_mend_38 : decode nc_Mo_mend 38 = .ok (.iconst 3, 1) := by decide +kernel
theorem nd_Mo_mend_39 : decode nc_Mo_mend 39 = .ok (.bipush 6, 2) := by decide +kernel
theorem nd_Mo_mend_41 : decode nc_Mo_mend 41 = .ok (.iload_n 1, 1) := by decide +kernel
theorem nd_Mo_mend_42 : decode nc_Mo_mend 42 = .ok (.imul, 1) := by decide +kernel
theorem nd_Mo_mend_43 : decode nc_Mo_mend 43 = .ok (.iload 4, 2) := by decide +kernel
theorem nd_Mo_mend_45 : decode nc_Mo_mend 45 = .ok (.iadd, 1) := by decide +kernel
theorem nd_Mo_mend_46 : decode nc_Mo_mend 46 = .ok (.imul, 1) := by decide +kernel
theorem nd_Mo_mend_47 : decode nc_Mo_mend 47 = .ok (.iload 6, 2) := by decide +kernel
theorem nd_Mo_mend_49 : decode nc_Mo_mend 49 = .ok (.iadd, 1) := by decide +kernel
theorem nd_Mo_mend_50 : decode nc_Mo_mend 50 = .ok (.iaload, 1) := by decide +kernel
theorem nd_Mo_mend_51 : decode nc_Mo_mend 51 = .ok (.imul, 1) := by decide +kernel
theorem nd_Mo_mend_52 : decode nc_Mo_mend 52 = .ok (.iload 5, 2) := by decide +kernel
theorem nd_Mo_mend_54 : decode nc_Mo_mend 54 = .ok (.iadd, 1) := by decide +kernel
theorem nd_Mo_mend_55 : decode nc_Mo_mend 55 = .ok (.istore 7, 2) := by decide +kernel
theorem nd_Mo_mend_57 : decode nc_Mo_mend 57 = .ok (.aload_n 0, 1) := by decide +kernel
theorem nd_Mo_mend_58 : decode nc_Mo_mend 58 = .ok (.getfield 31, 3) := by decide +kernel
theorem nd_Mo_mend_61 : decode nc_Mo_mend 61 = .ok (.iload 7, 2) := by decide +kernel
theorem nd_Mo_mend_63 : decode nc_Mo_mend 63 = .ok (.aload_n 0, 1) := by decide +kernel
theorem nd_Mo_mend_64 : decode nc_Mo_mend 64 = .ok (.getfield 31, 3) := by decide +kernel
theorem nd_Mo_mend_67 : decode nc_Mo_mend 67 = .ok (.iload 7, 2) := by decide +kernel
theorem nd_Mo_mend_69 : decode nc_Mo_mend 69 = .ok (.laload, 1) := by decide +kernel
theorem nd_Mo_mend_70 : decode nc_Mo_mend 70 = .ok (.iload_n 3, 1) := by decide +kernel
theorem nd_Mo_mend_71 : decode nc_Mo_mend 71 = .ok (.i2l, 1) := by decide +kernel
theorem nd_Mo_mend_72 : decode nc_Mo_mend 72 = .ok (.ladd, 1) := by decide +kernel
theorem nd_Mo_mend_73 : decode nc_Mo_mend 73 = .ok (.lastore, 1) := by decide +kernel
theorem nd_Mo_mend_74 : decode nc_Mo_mend 74 = .ok (.iinc 6 1, 3) := by decide +kernel
theorem nd_Mo_mend_77 : decode nc_Mo_mend 77 = .ok (.goto (-50), 3) := by decide +kernel
theorem nd_Mo_mend_80 : decode nc_Mo_mend 80 = .ok (.iload 4, 2) := by decide +kernel
theorem nd_Mo_mend_82 : decode nc_Mo_mend 82 = .ok (.ifCond .ne 12, 3) := by decide +kernel
theorem nd_Mo_mend_85 : decode nc_Mo_mend 85 = .ok (.sipush 128, 3) := by decide +kernel
theorem nd_Mo_mend_88 : decode nc_Mo_mend 88 = .ok (.iload 5, 2) := by decide +kernel
theorem nd_Mo_mend_90 : decode nc_Mo_mend 90 = .ok (.iadd, 1) := by decide +kernel
theorem nd_Mo_mend_91 : decode nc_Mo_mend 91 = .ok (.goto 21, 3) := by decide +kernel
theorem nd_Mo_mend_94 : decode nc_Mo_mend 94 = .ok (.iconst 4, 1) := by decide +kernel
theorem nd_Mo_mend_95 : decode nc_Mo_mend 95 = .ok (.bipush 33, 2) := by decide +kernel
theorem nd_Mo_mend_97 : decode nc_Mo_mend 97 = .ok (.iload_n 2, 1) := by decide +kernel
theorem nd_Mo_mend_98 : decode nc_Mo_mend 98 = .ok (.iconst 2, 1) := by decide +kernel
theorem nd_Mo_mend_99 : decode nc_Mo_mend 99 = .ok (.iload 4, 2) := by decide +kernel
theorem nd_Mo_mend_101 : decode nc_Mo_mend 101 = .ok (.imul, 1) := by decide +kernel
theorem nd_Mo_mend_102 : decode nc_Mo_mend 102 = .ok (.iconst 2, 1) := by decide +kernel
theorem nd_Mo_mend_103 : decode nc_Mo_mend 103 = .ok (.isub, 1) := by decide +kernel
theorem nd_Mo_mend_104 : decode nc_Mo_mend 104 = .ok (.ishr, 1) := by decide +kernel
theorem nd_Mo_mend_105 : decode nc_Mo_mend 105 = .ok (.iconst 3, 1) := by decide +kernel
theorem nd_Mo_mend_106 : decode nc_Mo_mend 106 = .ok (.iand, 1) := by decide +kernel
theorem nd_Mo_mend_107 : decode nc_Mo_mend 107 = .ok (.iadd, 1) := by decide +kernel
theorem nd_Mo_mend_108 : decode nc_Mo_mend 108 = .ok (.imul, 1) := by decide +kernel
theorem nd_Mo_mend_109 : decode nc_Mo_mend 109 = .ok (.iload 5, 2) := by decide +kernel
theorem nd_Mo_mend_111 : decode nc_Mo_mend 111 = .ok (.iadd, 1) := by decide +kernel
theorem nd_Mo_mend_112 : decode nc_Mo_mend 112 = .ok (.istore 6, 2) := by decide +kernel
theorem nd_Mo_mend_114 : decode nc_Mo_mend 114 = .ok (.aload_n 0, 1) := by decide +kernel
theorem nd_Mo_mend_115 : decode nc_Mo_mend 115 = .ok (.getfield 31, 3) := by decide +kernel
theorem nd_Mo_mend_118 : decode nc_Mo_mend 118 = .ok (.iload 6, 2) := by decide +kernel
theorem nd_Mo_mend_120 : decode nc_Mo_mend 120 = .ok (.aload_n 0, 1) := by decide +kernel
theorem nd_Mo_mend_121 : decode nc_Mo_mend 121 = .ok (.getfield 31, 3) := by decide +kernel
theorem nd_Mo_mend_124 : decode nc_Mo_mend 124 = .ok (.iload 6, 2) := by decide +kernel
theorem nd_Mo_mend_126 : decode nc_Mo_mend 126 = .ok (.laload, 1) := by decide +kernel
theorem nd_Mo_mend_127 : decode nc_Mo_mend 127 = .ok (.iload_n 3, 1) := by decide +kernel
theorem nd_Mo_mend_128 : decode nc_Mo_mend 128 = .ok (.i2l, 1) := by decide +kernel
theorem nd_Mo_mend_129 : decode nc_Mo_mend 129 = .ok (.ladd, 1) := by decide +kernel
theorem nd_Mo_mend_130 : decode nc_Mo_mend 130 = .ok (.lastore, 1) := by decide +kernel
theorem nd_Mo_mend_131 : decode nc_Mo_mend 131 = .ok (.iinc 4 1, 3) := by decide +kernel
theorem nd_Mo_mend_134 : decode nc_Mo_mend 134 = .ok (.goto (-131), 3) := by decide +kernel
theorem nd_Mo_mend_137 : decode nc_Mo_mend 137 = .ok (.return_, 1) := by decide +kernel
theorem nd_Mo_givenRow_0 : decode nc_Mo_givenRow 0 = .ok (.iconst 0, 1) := by decide +kernel
theorem nd_Mo_givenRow_1 : decode nc_Mo_givenRow 1 = .ok (.istore_n 2, 1) := by decide +kernel
theorem nd_Mo_givenRow_2 : decode nc_Mo_givenRow 2 = .ok (.iconst 0, 1) := by decide +kernel
theorem nd_Mo_givenRow_3 : decode nc_Mo_givenRow 3 = .ok (.istore_n 3, 1) := by decide +kernel
theorem nd_Mo_givenRow_4 : decode nc_Mo_givenRow 4 = .ok (.iload_n 3, 1) := by decide +kernel
theorem nd_Mo_givenRow_5 : decode nc_Mo_givenRow 5 = .ok (.aload_n 0, 1) := by decide +kernel
theorem nd_Mo_givenRow_6 : decode nc_Mo_givenRow 6 = .ok (.getfield 13, 3) := by decide +kernel
theorem nd_Mo_givenRow_9 : decode nc_Mo_givenRow 9 = .ok (.iload_n 1, 1) := by decide +kernel
theorem nd_Mo_givenRow_10 : decode nc_Mo_givenRow 10 = .ok (.iaload, 1) := by decide +kernel
theorem nd_Mo_givenRow_11 : decode nc_Mo_givenRow 11 = .ok (.if_icmp .ge 27, 3) := by decide +kernel
theorem nd_Mo_givenRow_14 : decode nc_Mo_givenRow 14 = .ok (.iload_n 2, 1) := by decide +kernel
theorem nd_Mo_givenRow_15 : decode nc_Mo_givenRow 15 = .ok (.aload_n 0, 1) := by decide +kernel
theorem nd_Mo_givenRow_16 : decode nc_Mo_givenRow 16 = .ok (.getfield 19, 3) := by decide +kernel
theorem nd_Mo_givenRow_19 : decode nc_Mo_givenRow 19 = .ok (.bipush 6, 2) := by decide +kernel
theorem nd_Mo_givenRow_21 : decode nc_Mo_givenRow 21 = .ok (.iload_n 1, 1) := by decide +kernel
theorem nd_Mo_givenRow_22 : decode nc_Mo_givenRow 22 = .ok (.imul, 1) := by decide +kernel
theorem nd_Mo_givenRow_23 : decode nc_Mo_givenRow 23 = .ok (.iload_n 3, 1) := by decide +kernel
theorem nd_Mo_givenRow_24 : decode nc_Mo_givenRow 24 = .ok (.iadd, 1) := by decide +kernel
theorem nd_Mo_givenRow_25 : decode nc_Mo_givenRow 25 = .ok (.iaload, 1) := by decide +kernel
theorem nd_Mo_givenRow_26 : decode nc_Mo_givenRow 26 = .ok (.iconst 2, 1) := by decide +kernel
theorem nd_Mo_givenRow_27 : decode nc_Mo_givenRow 27 = .ok (.iload_n 3, 1) := by decide +kernel
theorem nd_Mo_givenRow_28 : decode nc_Mo_givenRow 28 = .ok (.imul, 1) := by decide +kernel
theorem nd_Mo_givenRow_29 : decode nc_Mo_givenRow 29 = .ok (.ishl, 1) := by decide +kernel
theorem nd_Mo_givenRow_30 : decode nc_Mo_givenRow 30 = .ok (.ior, 1) := by decide +kernel
theorem nd_Mo_givenRow_31 : decode nc_Mo_givenRow 31 = .ok (.istore_n 2, 1) := by decide +kernel
theorem nd_Mo_givenRow_32 : decode nc_Mo_givenRow 32 = .ok (.iinc 3 1, 3) := by decide +kernel
theorem nd_Mo_givenRow_35 : decode nc_Mo_givenRow 35 = .ok (.goto (-31), 3) := by decide +kernel
theorem nd_Mo_givenRow_38 : decode nc_Mo_givenRow 38 = .ok (.iload_n 2, 1) := by decide +kernel
theorem nd_Mo_givenRow_39 : decode nc_Mo_givenRow 39 = .ok (.ireturn, 1) := by decide +kernel
theorem nd_Mo_onePass_0 : decode nc_Mo_onePass 0 = .ok (.iconst 0, 1) := by decide +kernel
theorem nd_Mo_onePass_1 : decode nc_Mo_onePass 1 = .ok (.istore_n 1, 1) := by decide +kernel
theorem nd_Mo_onePass_2 : decode nc_Mo_onePass 2 = .ok (.iconst 0, 1) := by decide +kernel
theorem nd_Mo_onePass_3 : decode nc_Mo_onePass 3 = .ok (.istore_n 2, 1) := by decide +kernel
theorem nd_Mo_onePass_4 : decode nc_Mo_onePass 4 = .ok (.iload_n 2, 1) := by decide +kernel
theorem nd_Mo_onePass_5 : decode nc_Mo_onePass 5 = .ok (.aload_n 0, 1) := by decide +kernel
theorem nd_Mo_onePass_6 : decode nc_Mo_onePass 6 = .ok (.getfield 89, 3) := by decide +kernel
theorem nd_Mo_onePass_9 : decode nc_Mo_onePass 9 = .ok (.if_icmp .ge 91, 3) := by decide +kernel
theorem nd_Mo_onePass_12 : decode nc_Mo_onePass 12 = .ok (.aload_n 0, 1) := by decide +kernel
theorem nd_Mo_onePass_13 : decode nc_Mo_onePass 13 = .ok (.iload_n 2, 1) := by decide +kernel
theorem nd_Mo_onePass_14 : decode nc_Mo_onePass 14 = .ok (.aload_n 0, 1) := by decide +kernel
theorem nd_Mo_onePass_15 : decode nc_Mo_onePass 15 = .ok (.getfield 31, 3) := by decide +kernel
theorem nd_Mo_onePass_18 : decode nc_Mo_onePass 18 = .ok (.invokevirtual 136, 3) := by decide +kernel
theorem nd_Mo_onePass_21 : decode nc_Mo_onePass 21 = .ok (.aload_n 0, 1) := by decide +kernel
theorem nd_Mo_onePass_22 : decode nc_Mo_onePass 22 = .ok (.iload_n 2, 1) := by decide +kernel
theorem nd_Mo_onePass_23 : decode nc_Mo_onePass 23 = .ok (.invokevirtual 139, 3) := by decide +kernel
theorem nd_Mo_onePass_26 : decode nc_Mo_onePass 26 = .ok (.istore_n 3, 1) := by decide +kernel
theorem nd_Mo_onePass_27 : decode nc_Mo_onePass 27 = .ok (.aload_n 0, 1) := by decide +kernel
theorem nd_Mo_onePass_28 : decode nc_Mo_onePass 28 = .ok (.getfield 124, 3) := by decide +kernel
theorem nd_Mo_onePass_31 : decode nc_Mo_onePass 31 = .ok (.iload_n 3, 1) := by decide +kernel
theorem nd_Mo_onePass_32 : decode nc_Mo_onePass 32 = .ok (.if_icmp .eq 23, 3) := by decide +kernel
theorem nd_Mo_onePass_35 : decode nc_Mo_onePass 35 = .ok (.iinc 1 1, 3) := by decide +kernel
theorem nd_Mo_onePass_38 : decode nc_Mo_onePass 38 = .ok (.aload_n 0, 1) := by decide +kernel
theorem nd_Mo_onePass_39 : decode nc_Mo_onePass 39 = .ok (.iload_n 2, 1) := by decide +kernel
theorem nd_Mo_onePass_40 : decode nc_Mo_onePass 40 = .ok (.iload_n 3, 1) := by decide +kernel
theorem nd_Mo_onePass_41 : decode nc_Mo_onePass 41 = .ok (.iconst 1, 1) := by decide +kernel
theorem nd_Mo_onePass_42 : decode nc_Mo_onePass 42 = .ok (.invokevirtual 142, 3) := by decide +kernel
theorem nd_Mo_onePass_45 : decode nc_Mo_onePass 45 = .ok (.aload_n 0, 1) := by decide +kernel
theorem nd_Mo_onePass_46 : decode nc_Mo_onePass 46 = .ok (.iload_n 2, 1) := by decide +kernel
theorem nd_Mo_onePass_47 : decode nc_Mo_onePass 47 = .ok (.aload_n 0, 1) := by decide +kernel
theorem nd_Mo_onePass_48 : decode nc_Mo_onePass 48 = .ok (.getfield 124, 3) := by decide +kernel
theorem nd_Mo_onePass_51 : decode nc_Mo_onePass 51 = .ok (.iconst (-1), 1) := by decide +kernel
theorem nd_Mo_onePass_52 : decode nc_Mo_onePass 52 = .ok (.invokevirtual 142, 3) := by decide +kernel
theorem nd_Mo_onePass_55 : decode nc_Mo_onePass 55 = .ok (.iconst 0, 1) := by decide +kernel
theorem nd_Mo_onePass_56 : decode nc_Mo_onePass 56 = .ok (.istore 4, 2) := by decide +kernel
theorem nd_Mo_onePass_58 : decode nc_Mo_onePass 58 = .ok (.iload 4, 2) := by decide +kernel
theorem nd_Mo_onePass_60 : decode nc_Mo_onePass 60 = .ok (.sipush 148, 3) := by decide +kernel
theorem nd_Mo_onePass_63 : decode nc_Mo_onePass 63 = .ok (.if_icmp .ge 31, 3) := by decide +kernel
theorem nd_Mo_onePass_66 : decode nc_Mo_onePass 66 = .ok (.aload_n 0, 1) := by decide +kernel
theorem nd_Mo_onePass_67 : decode nc_Mo_onePass 67 = .ok (.getfield 35, 3) := by decide +kernel
theorem nd_Mo_onePass_70 : decode nc_Mo_onePass 70 = .ok (.iload 4, 2) := by decide +kernel
theorem nd_Mo_onePass_72 : decode nc_Mo_onePass 72 = .ok (.aload_n 0, 1) := by decide +kernel
theorem nd_Mo_onePass_73 : decode nc_Mo_onePass 73 = .ok (.getfield 35, 3) := by decide +kernel
theorem nd_Mo_onePass_76 : decode nc_Mo_onePass 76 = .ok (.iload 4, 2) := by decide +kernel
theorem nd_Mo_onePass_78 : decode nc_Mo_onePass 78 = .ok (.laload, 1) := by decide +kernel
theorem nd_Mo_onePass_79 : decode nc_Mo_onePass 79 = .ok (.aload_n 0, 1) := by decide +kernel
theorem nd_Mo_onePass_80 : decode nc_Mo_onePass 80 = .ok (.getfield 31, 3) := by decide +kernel
theorem nd_Mo_onePass_83 : decode nc_Mo_onePass 83 = .ok (.iload 4, 2) := by decide +kernel
theorem nd_Mo_onePass_85 : decode nc_Mo_onePass 85 = .ok (.laload, 1) := by decide +kernel
theorem nd_Mo_onePass_86 : decode nc_Mo_onePass 86 = .ok (.ladd, 1) := by decide +kernel
theorem nd_Mo_onePass_87 : decode nc_Mo_onePass 87 = .ok (.lastore, 1) := by decide +kernel
theorem nd_Mo_onePass_88 : decode nc_Mo_onePass 88 = .ok (.iinc 4 1, 3) := by decide +kernel
theorem nd_Mo_onePass_91 : decode nc_Mo_onePass 91 = .ok (.goto (-33), 3) := by decide +kernel
theorem nd_Mo_onePass_94 : decode nc_Mo_onePass 94 = .ok (.iinc 2 1, 3) := by decide +kernel
theorem nd_Mo_onePass_97 : decode nc_Mo_onePass 97 = .ok (.goto (-93), 3) := by decide +kernel
theorem nd_Mo_onePass_100 : decode nc_Mo_onePass 100 = .ok (.aload_n 0, 1) := by decide +kernel
theorem nd_Mo_onePass_101 : decode nc_Mo_onePass 101 = .ok (.dup, 1) := by decide +kernel
theorem nd_Mo_onePass_102 : decode nc_Mo_onePass 102 = .ok (.getfield 99, 3) := by decide +kernel
theorem nd_Mo_onePass_105 : decode nc_Mo_onePass 105 = .ok (.iconst 1, 1) := by decide +kernel
theorem nd_Mo_onePass_106 : decode nc_Mo_onePass 106 = .ok (.iadd, 1) := by decide +kernel
theorem nd_Mo_onePass_107 : decode nc_Mo_onePass 107 = .ok (.putfield 99, 3) := by decide +kernel
theorem nd_Mo_onePass_110 : decode nc_Mo_onePass 110 = .ok (.aload_n 0, 1) := by decide +kernel
theorem nd_Mo_onePass_111 : decode nc_Mo_onePass 111 = .ok (.aload_n 0, 1) := by decide +kernel
theorem nd_Mo_onePass_112 : decode nc_Mo_onePass 112 = .ok (.getfield 96, 3) := by decide +kernel
theorem nd_Mo_onePass_115 : decode nc_Mo_onePass 115 = .ok (.iload_n 1, 1) := by decide +kernel
theorem nd_Mo_onePass_116 : decode nc_Mo_onePass 116 = .ok (.iadd, 1) := by decide +kernel
theorem nd_Mo_onePass_117 : decode nc_Mo_onePass 117 = .ok (.putfield 96, 3) := by decide +kernel
theorem nd_Mo_onePass_120 : decode nc_Mo_onePass 120 = .ok (.iload_n 1, 1) := by decide +kernel
theorem nd_Mo_onePass_121 : decode nc_Mo_onePass 121 = .ok (.ireturn, 1) := by decide +kernel
theorem nd_Mo_learn_0 : decode nc_Mo_learn 0 = .ok (.aload_n 0, 1) := by decide +kernel
theorem nd_Mo_learn_1 : decode nc_Mo_learn 1 = .ok (.iload_n 1, 1) := by decide +kernel
theorem nd_Mo_learn_2 : decode nc_Mo_learn 2 = .ok (.iconst 1, 1) := by decide +kernel
theorem nd_Mo_learn_3 : decode nc_Mo_learn 3 = .ok (.if_icmp .lt 9, 3) := by decide +kernel
theorem nd_Mo_learn_6 : decode nc_Mo_learn 6 = .ok (.iload_n 1, 1) := by decide +kernel
theorem nd_Mo_learn_7 : decode nc_Mo_learn 7 = .ok (.bipush 6, 2) := by decide +kernel
theorem nd_Mo_learn_9 : decode nc_Mo_learn 9 = .ok (.if_icmp .le 7, 3) := by decide +kernel
theorem nd_Mo_learn_12 : decode nc_Mo_learn 12 = .ok (.iconst 1, 1) := by decide +kernel
theorem nd_Mo_learn_13 : decode nc_Mo_learn 13 = .ok (.goto 15, 3) := by decide +kernel
theorem nd_Mo_learn_16 : decode nc_Mo_learn 16 = .ok (.aload_n 0, 1) := by decide +kernel
theorem nd_Mo_learn_17 : decode nc_Mo_learn 17 = .ok (.getfield 89, 3) := by decide +kernel
theorem nd_Mo_learn_20 : decode nc_Mo_learn 20 = .ok (.ifCond .ne 7, 3) := by decide +kernel
theorem nd_Mo_learn_23 : decode nc_Mo_learn 23 = .ok (.iconst 2, 1) := by decide +kernel
theorem nd_Mo_learn_24 : decode nc_Mo_learn 24 = .ok (.goto 4, 3) := by decide +kernel
theorem nd_Mo_learn_27 : decode nc_Mo_learn 27 = .ok (.iconst 0, 1) := by decide +kernel
theorem nd_Mo_learn_28 : decode nc_Mo_learn 28 = .ok (.putfield 51, 3) := by decide +kernel
theorem nd_Mo_learn_31 : decode nc_Mo_learn 31 = .ok (.aload_n 0, 1) := by decide +kernel
theorem nd_Mo_learn_32 : decode nc_Mo_learn 32 = .ok (.getfield 51, 3) := by decide +kernel
theorem nd_Mo_learn_35 : decode nc_Mo_learn 35 = .ok (.ifCond .le 5, 3) := by decide +kernel
theorem nd_Mo_learn_38 : decode nc_Mo_learn 38 = .ok (.iconst 0, 1) := by decide +kernel
theorem nd_Mo_learn_39 : decode nc_Mo_learn 39 = .ok (.ireturn, 1) := by decide +kernel
theorem nd_Mo_learn_40 : decode nc_Mo_learn 40 = .ok (.iconst 1, 1) := by decide +kernel
theorem nd_Mo_learn_41 : decode nc_Mo_learn 41 = .ok (.istore_n 2, 1) := by decide +kernel
theorem nd_Mo_learn_42 : decode nc_Mo_learn 42 = .ok (.iconst 0, 1) := by decide +kernel
theorem nd_Mo_learn_43 : decode nc_Mo_learn 43 = .ok (.istore_n 3, 1) := by decide +kernel
theorem nd_Mo_learn_44 : decode nc_Mo_learn 44 = .ok (.iload_n 3, 1) := by decide +kernel
theorem nd_Mo_learn_45 : decode nc_Mo_learn 45 = .ok (.iload_n 1, 1) := by decide +kernel
theorem nd_Mo_learn_46 : decode nc_Mo_learn 46 = .ok (.if_icmp .ge 18, 3) := by decide +kernel
theorem nd_Mo_learn_49 : decode nc_Mo_learn 49 = .ok (.iload_n 2, 1) := by decide +kernel
theorem nd_Mo_learn_50 : decode nc_Mo_learn 50 = .ok (.ifCond .le 14, 3) := by decide +kernel
theorem nd_Mo_learn_53 : decode nc_Mo_learn 53 = .ok (.aload_n 0, 1) := by decide +kernel
theorem nd_Mo_learn_54 : decode nc_Mo_learn 54 = .ok (.invokevirtual 146, 3) := by decide +kernel
theorem nd_Mo_learn_57 : decode nc_Mo_learn 57 = .ok (.istore_n 2, 1) := by decide +kernel
theorem nd_Mo_learn_58 : decode nc_Mo_learn 58 = .ok (.iinc 3 1, 3) := by decide +kernel
theorem nd_Mo_learn_61 : decode nc_Mo_learn 61 = .ok (.goto (-17), 3) := by decide +kernel
theorem nd_Mo_learn_64 : decode nc_Mo_learn 64 = .ok (.iload_n 2, 1) := by decide +kernel
theorem nd_Mo_learn_65 : decode nc_Mo_learn 65 = .ok (.ireturn, 1) := by decide +kernel
theorem nd_Mo_mistakes_0 : decode nc_Mo_mistakes 0 = .ok (.aload_n 0, 1) := by decide +kernel
theorem nd_Mo_mistakes_1 : decode nc_Mo_mistakes 1 = .ok (.iconst 0, 1) := by decide +kernel
theorem nd_Mo_mistakes_2 : decode nc_Mo_mistakes 2 = .ok (.putfield 51, 3) := by decide +kernel
theorem nd_Mo_mistakes_5 : decode nc_Mo_mistakes 5 = .ok (.aload_n 0, 1) := by decide +kernel
theorem nd_Mo_mistakes_6 : decode nc_Mo_mistakes 6 = .ok (.getfield 96, 3) := by decide +kernel
theorem nd_Mo_mistakes_9 : decode nc_Mo_mistakes 9 = .ok (.ireturn, 1) := by decide +kernel
theorem nd_Mo_passes_0 : decode nc_Mo_passes 0 = .ok (.aload_n 0, 1) := by decide +kernel
theorem nd_Mo_passes_1 : decode nc_Mo_passes 1 = .ok (.iconst 0, 1) := by decide +kernel
theorem nd_Mo_passes_2 : decode nc_Mo_passes 2 = .ok (.putfield 51, 3) := by decide +kernel
theorem nd_Mo_passes_5 : decode nc_Mo_passes 5 = .ok (.aload_n 0, 1) := by decide +kernel
theorem nd_Mo_passes_6 : decode nc_Mo_passes 6 = .ok (.getfield 99, 3) := by decide +kernel
theorem nd_Mo_passes_9 : decode nc_Mo_passes 9 = .ok (.ireturn, 1) := by decide +kernel
theorem nd_Mo_weight_0 : decode nc_Mo_weight 0 = .ok (.aload_n 0, 1) := by decide +kernel
theorem nd_Mo_weight_1 : decode nc_Mo_weight 1 = .ok (.iload_n 1, 1) := by decide +kernel
theorem nd_Mo_weight_2 : decode nc_Mo_weight 2 = .ok (.ifCond .lt 18, 3) := by decide +kernel
theorem nd_Mo_weight_5 : decode nc_Mo_weight 5 = .ok (.iload_n 1, 1) := by decide +kernel
theorem nd_Mo_weight_6 : decode nc_Mo_weight 6 = .ok (.bipush 36, 2) := by decide +kernel
theorem nd_Mo_weight_8 : decode nc_Mo_weight 8 = .ok (.if_icmp .gt 12, 3) := by decide +kernel
theorem nd_Mo_weight_11 : decode nc_Mo_weight 11 = .ok (.iload_n 2, 1) := by decide +kernel
theorem nd_Mo_weight_12 : decode nc_Mo_weight 12 = .ok (.ifCond .lt 8, 3) := by decide +kernel
theorem nd_Mo_weight_15 : decode nc_Mo_weight 15 = .ok (.iload_n 2, 1) := by decide +kernel
theorem nd_Mo_weight_16 : decode nc_Mo_weight 16 = .ok (.iconst 3, 1) := by decide +kernel
theorem nd_Mo_weight_17 : decode nc_Mo_weight 17 = .ok (.if_icmp .le 7, 3) := by decide +kernel
theorem nd_Mo_weight_20 : decode nc_Mo_weight 20 = .ok (.iconst 1, 1) := by decide +kernel
theorem nd_Mo_weight_21 : decode nc_Mo_weight 21 = .ok (.goto 4, 3) := by decide +kernel
theorem nd_Mo_weight_24 : decode nc_Mo_weight 24 = .ok (.iconst 0, 1) := by decide +kernel
theorem nd_Mo_weight_25 : decode nc_Mo_weight 25 = .ok (.putfield 51, 3) := by decide +kernel
theorem nd_Mo_weight_28 : decode nc_Mo_weight 28 = .ok (.aload_n 0, 1) := by decide +kernel
theorem nd_Mo_weight_29 : decode nc_Mo_weight 29 = .ok (.getfield 51, 3) := by decide +kernel
theorem nd_Mo_weight_32 : decode nc_Mo_weight 32 = .ok (.ifCond .le 7, 3) := by decide +kernel
theorem nd_Mo_weight_35 : decode nc_Mo_weight 35 = .ok (.lconst 0, 1) := by decide +kernel
theorem nd_Mo_weight_36 : decode nc_Mo_weight 36 = .ok (.goto 30, 3) := by decide +kernel
theorem nd_Mo_weight_39 : decode nc_Mo_weight 39 = .ok (.iload_n 3, 1) := by decide +kernel
theorem nd_Mo_weight_40 : decode nc_Mo_weight 40 = .ok (.ifCond .eq 16, 3) := by decide +kernel
theorem nd_Mo_weight_43 : decode nc_Mo_weight 43 = .ok (.aload_n 0, 1) := by decide +kernel
theorem nd_Mo_weight_44 : decode nc_Mo_weight 44 = .ok (.getfield 35, 3) := by decide +kernel
theorem nd_Mo_weight_47 : decode nc_Mo_weight 47 = .ok (.iconst 4, 1) := by decide +kernel
theorem nd_Mo_weight_48 : decode nc_Mo_weight 48 = .ok (.iload_n 1, 1) := by decide +kernel
theorem nd_Mo_weight_49 : decode nc_Mo_weight 49 = .ok (.imul, 1) := by decide +kernel
theorem nd_Mo_weight_50 : decode nc_Mo_weight 50 = .ok (.iload_n 2, 1) := by decide +kernel
theorem nd_Mo_weight_51 : decode nc_Mo_weight 51 = .ok (.iadd, 1) := by decide +kernel
theorem nd_Mo_weight_52 : decode nc_Mo_weight 52 = .ok (.laload, 1) := by decide +kernel
theorem nd_Mo_weight_53 : decode nc_Mo_weight 53 = .ok (.goto 13, 3) := by decide +kernel
theorem nd_Mo_weight_56 : decode nc_Mo_weight 56 = .ok (.aload_n 0, 1) := by decide +kernel
theorem nd_Mo_weight_57 : decode nc_Mo_weight 57 = .ok (.getfield 31, 3) := by decide +kernel
theorem nd_Mo_weight_60 : decode nc_Mo_weight 60 = .ok (.iconst 4, 1) := by decide +kernel
theorem nd_Mo_weight_61 : decode nc_Mo_weight 61 = .ok (.iload_n 1, 1) := by decide +kernel
theorem nd_Mo_weight_62 : decode nc_Mo_weight 62 = .ok (.imul, 1) := by decide +kernel
theorem nd_Mo_weight_63 : decode nc_Mo_weight 63 = .ok (.iload_n 2, 1) := by decide +kernel
theorem nd_Mo_weight_64 : decode nc_Mo_weight 64 = .ok (.iadd, 1) := by decide +kernel
theorem nd_Mo_weight_65 : decode nc_Mo_weight 65 = .ok (.laload, 1) := by decide +kernel
theorem nd_Mo_weight_66 : decode nc_Mo_weight 66 = .ok (.lreturn, 1) := by decide +kernel
theorem nd_Mo_searchBy_0 : decode nc_Mo_searchBy 0 = .ok (.iload_n 2, 1) := by decide +kernel
theorem nd_Mo_searchBy_1 : decode nc_Mo_searchBy 1 = .ok (.ifCond .eq 15, 3) := by decide +kernel
theorem nd_Mo_searchBy_4 : decode nc_Mo_searchBy 4 = .ok (.aload_n 0, 1) := by decide +kernel
theorem nd_Mo_searchBy_5 : decode nc_Mo_searchBy 5 = .ok (.iload_n 1, 1) := by decide +kernel
theorem nd_Mo_searchBy_6 : decode nc_Mo_searchBy 6 = .ok (.aload_n 0, 1) := by decide +kernel
theorem nd_Mo_searchBy_7 : decode nc_Mo_searchBy 7 = .ok (.getfield 35, 3) := by decide +kernel
theorem nd_Mo_searchBy_10 : decode nc_Mo_searchBy 10 = .ok (.invokevirtual 136, 3) := by decide +kernel
theorem nd_Mo_searchBy_13 : decode nc_Mo_searchBy 13 = .ok (.goto 12, 3) := by decide +kernel
theorem nd_Mo_searchBy_16 : decode nc_Mo_searchBy 16 = .ok (.aload_n 0, 1) := by decide +kernel
theorem nd_Mo_searchBy_17 : decode nc_Mo_searchBy 17 = .ok (.iload_n 1, 1) := by decide +kernel
theorem nd_Mo_searchBy_18 : decode nc_Mo_searchBy 18 = .ok (.aload_n 0, 1) := by decide +kernel
theorem nd_Mo_searchBy_19 : decode nc_Mo_searchBy 19 = .ok (.getfield 31, 3) := by decide +kernel
theorem nd_Mo_searchBy_22 : decode nc_Mo_searchBy 22 = .ok (.invokevirtual 136, 3) := by decide +kernel
theorem nd_Mo_searchBy_25 : decode nc_Mo_searchBy 25 = .ok (.return_, 1) := by decide +kernel
theorem nd_Mo_decode_0 : decode nc_Mo_decode 0 = .ok (.aload_n 0, 1) := by decide +kernel
theorem nd_Mo_decode_1 : decode nc_Mo_decode 1 = .ok (.iload_n 1, 1) := by decide +kernel
theorem nd_Mo_decode_2 : decode nc_Mo_decode 2 = .ok (.invokevirtual 102, 3) := by decide +kernel
theorem nd_Mo_decode_5 : decode nc_Mo_decode 5 = .ok (.istore 4, 2) := by decide +kernel
theorem nd_Mo_decode_7 : decode nc_Mo_decode 7 = .ok (.aload_n 0, 1) := by decide +kernel
theorem nd_Mo_decode_8 : decode nc_Mo_decode 8 = .ok (.iload 4, 2) := by decide +kernel
theorem nd_Mo_decode_10 : decode nc_Mo_decode 10 = .ok (.ifCond .ge 7, 3) := by decide +kernel
theorem nd_Mo_decode_13 : decode nc_Mo_decode 13 = .ok (.iconst 1, 1) := by decide +kernel
theorem nd_Mo_decode_14 : decode nc_Mo_decode 14 = .ok (.goto 4, 3) := by decide +kernel
theorem nd_Mo_decode_17 : decode nc_Mo_decode 17 = .ok (.iconst 0, 1) := by decide +kernel
theorem nd_Mo_decode_18 : decode nc_Mo_decode 18 = .ok (.putfield 51, 3) := by decide +kernel
theorem nd_Mo_decode_21 : decode nc_Mo_decode 21 = .ok (.aload_n 0, 1) := by decide +kernel
theorem nd_Mo_decode_22 : decode nc_Mo_decode 22 = .ok (.getfield 51, 3) := by decide +kernel
theorem nd_Mo_decode_25 : decode nc_Mo_decode 25 = .ok (.ifCond .le 5, 3) := by decide +kernel
theorem nd_Mo_decode_28 : decode nc_Mo_decode 28 = .ok (.lconst 0, 1) := by decide +kernel
theorem nd_Mo_decode_29 : decode nc_Mo_decode 29 = .ok (.lreturn, 1) := by decide +kernel
theorem nd_Mo_decode_30 : decode nc_Mo_decode 30 = .ok (.aload_n 0, 1) := by decide +kernel
theorem nd_Mo_decode_31 : decode nc_Mo_decode 31 = .ok (.iload 4, 2) := by decide +kernel
theorem nd_Mo_decode_33 : decode nc_Mo_decode 33 = .ok (.iload_n 2, 1) := by decide +kernel
theorem nd_Mo_decode_34 : decode nc_Mo_decode 34 = .ok (.invokevirtual 150, 3) := by decide +kernel
theorem nd_Mo_decode_37 : decode nc_Mo_decode 37 = .ok (.aload_n 0, 1) := by decide +kernel
theorem nd_Mo_decode_38 : decode nc_Mo_decode 38 = .ok (.iload_n 3, 1) := by decide +kernel
theorem nd_Mo_decode_39 : decode nc_Mo_decode 39 = .ok (.ifCond .eq 10, 3) := by decide +kernel
theorem nd_Mo_decode_42 : decode nc_Mo_decode 42 = .ok (.aload_n 0, 1) := by decide +kernel
theorem nd_Mo_decode_43 : decode nc_Mo_decode 43 = .ok (.getfield 127, 3) := by decide +kernel
theorem nd_Mo_decode_46 : decode nc_Mo_decode 46 = .ok (.goto 7, 3) := by decide +kernel
theorem nd_Mo_decode_49 : decode nc_Mo_decode 49 = .ok (.aload_n 0, 1) := by decide +kernel
theorem nd_Mo_decode_50 : decode nc_Mo_decode 50 = .ok (.getfield 124, 3) := by decide +kernel
theorem nd_Mo_decode_53 : decode nc_Mo_decode 53 = .ok (.putfield 47, 3) := by decide +kernel
theorem nd_Mo_decode_56 : decode nc_Mo_decode 56 = .ok (.aload_n 0, 1) := by decide +kernel
theorem nd_Mo_decode_57 : decode nc_Mo_decode 57 = .ok (.aload_n 0, 1) := by decide +kernel
theorem nd_Mo_decode_58 : decode nc_Mo_decode 58 = .ok (.getfield 13, 3) := by decide +kernel
theorem nd_Mo_decode_61 : decode nc_Mo_decode 61 = .ok (.iload 4, 2) := by decide +kernel
theorem nd_Mo_decode_63 : decode nc_Mo_decode 63 = .ok (.iaload, 1) := by decide +kernel
theorem nd_Mo_decode_64 : decode nc_Mo_decode 64 = .ok (.putfield 154, 3) := by decide +kernel
theorem nd_Mo_decode_67 : decode nc_Mo_decode 67 = .ok (.iload_n 3, 1) := by decide +kernel
theorem nd_Mo_decode_68 : decode nc_Mo_decode 68 = .ok (.ifCond .eq 10, 3) := by decide +kernel
theorem nd_Mo_decode_71 : decode nc_Mo_decode 71 = .ok (.aload_n 0, 1) := by decide +kernel
theorem nd_Mo_decode_72 : decode nc_Mo_decode 72 = .ok (.getfield 130, 3) := by decide +kernel
theorem nd_Mo_decode_75 : decode nc_Mo_decode 75 = .ok (.goto 7, 3) := by decide +kernel
theorem nd_Mo_decode_78 : decode nc_Mo_decode 78 = .ok (.aload_n 0, 1) := by decide +kernel
theorem nd_Mo_decode_79 : decode nc_Mo_decode 79 = .ok (.getfield 120, 3) := by decide +kernel
theorem nd_Mo_decode_82 : decode nc_Mo_decode 82 = .ok (.lreturn, 1) := by decide +kernel
theorem nd_Mo_label_0 : decode nc_Mo_label 0 = .ok (.aload_n 0, 1) := by decide +kernel
theorem nd_Mo_label_1 : decode nc_Mo_label 1 = .ok (.aload_n 0, 1) := by decide +kernel
theorem nd_Mo_label_2 : decode nc_Mo_label 2 = .ok (.getfield 47, 3) := by decide +kernel
theorem nd_Mo_label_5 : decode nc_Mo_label 5 = .ok (.ifCond .lt 15, 3) := by decide +kernel
theorem nd_Mo_label_8 : decode nc_Mo_label 8 = .ok (.iload_n 1, 1) := by decide +kernel
theorem nd_Mo_label_9 : decode nc_Mo_label 9 = .ok (.ifCond .lt 11, 3) := by decide +kernel
theorem nd_Mo_label_12 : decode nc_Mo_label 12 = .ok (.iload_n 1, 1) := by decide +kernel
theorem nd_Mo_label_13 : decode nc_Mo_label 13 = .ok (.aload_n 0, 1) := by decide +kernel
theorem nd_Mo_label_14 : decode nc_Mo_label 14 = .ok (.getfield 154, 3) := by decide +kernel
end
section
theorem nd_Mo_label_17 : decode nc_Mo_label 17 = .ok (.if_icmp .lt 7, 3) := by decide +kernel
theorem nd_Mo_label_20 : decode nc_Mo_label 20 = .ok (.iconst 1, 1) := by decide +kernel
theorem nd_Mo_label_21 : decode nc_Mo_label 21 = .ok (.goto 4, 3) := by decide +kernel
theorem nd_Mo_label_24 : decode nc_Mo_label 24 = .ok (.iconst 0, 1) := by decide +kernel
theorem nd_Mo_label_25 : decode nc_Mo_label 25 = .ok (.putfield 51, 3) := by decide +kernel
theorem nd_Mo_label_28 : decode nc_Mo_label 28 = .ok (.aload_n 0, 1) := by decide +kernel
theorem nd_Mo_label_29 : decode nc_Mo_label 29 = .ok (.getfield 51, 3) := by decide +kernel
theorem nd_Mo_label_32 : decode nc_Mo_label 32 = .ok (.ifCond .le 7, 3) := by decide +kernel
theorem nd_Mo_label_35 : decode nc_Mo_label 35 = .ok (.iconst 0, 1) := by decide +kernel
theorem nd_Mo_label_36 : decode nc_Mo_label 36 = .ok (.goto 13, 3) := by decide +kernel
theorem nd_Mo_label_39 : decode nc_Mo_label 39 = .ok (.aload_n 0, 1) := by decide +kernel
theorem nd_Mo_label_40 : decode nc_Mo_label 40 = .ok (.getfield 47, 3) := by decide +kernel
theorem nd_Mo_label_43 : decode nc_Mo_label 43 = .ok (.iconst 2, 1) := by decide +kernel
theorem nd_Mo_label_44 : decode nc_Mo_label 44 = .ok (.iload_n 1, 1) := by decide +kernel
theorem nd_Mo_label_45 : decode nc_Mo_label 45 = .ok (.imul, 1) := by decide +kernel
theorem nd_Mo_label_46 : decode nc_Mo_label 46 = .ok (.ishr, 1) := by decide +kernel
theorem nd_Mo_label_47 : decode nc_Mo_label 47 = .ok (.iconst 3, 1) := by decide +kernel
theorem nd_Mo_label_48 : decode nc_Mo_label 48 = .ok (.iand, 1) := by decide +kernel
theorem nd_Mo_label_49 : decode nc_Mo_label 49 = .ok (.ireturn, 1) := by decide +kernel
theorem nd_Mo_score_0 : decode nc_Mo_score 0 = .ok (.aload_n 0, 1) := by decide +kernel
theorem nd_Mo_score_1 : decode nc_Mo_score 1 = .ok (.iload_n 1, 1) := by decide +kernel
theorem nd_Mo_score_2 : decode nc_Mo_score 2 = .ok (.invokevirtual 102, 3) := by decide +kernel
theorem nd_Mo_score_5 : decode nc_Mo_score 5 = .ok (.istore 4, 2) := by decide +kernel
theorem nd_Mo_score_7 : decode nc_Mo_score 7 = .ok (.aload_n 0, 1) := by decide +kernel
theorem nd_Mo_score_8 : decode nc_Mo_score 8 = .ok (.iload 4, 2) := by decide +kernel
theorem nd_Mo_score_10 : decode nc_Mo_score 10 = .ok (.ifCond .ge 7, 3) := by decide +kernel
theorem nd_Mo_score_13 : decode nc_Mo_score 13 = .ok (.iconst 1, 1) := by decide +kernel
theorem nd_Mo_score_14 : decode nc_Mo_score 14 = .ok (.goto 4, 3) := by decide +kernel
theorem nd_Mo_score_17 : decode nc_Mo_score 17 = .ok (.iconst 0, 1) := by decide +kernel
theorem nd_Mo_score_18 : decode nc_Mo_score 18 = .ok (.putfield 51, 3) := by decide +kernel
theorem nd_Mo_score_21 : decode nc_Mo_score 21 = .ok (.aload_n 0, 1) := by decide +kernel
theorem nd_Mo_score_22 : decode nc_Mo_score 22 = .ok (.getfield 51, 3) := by decide +kernel
theorem nd_Mo_score_25 : decode nc_Mo_score 25 = .ok (.ifCond .le 5, 3) := by decide +kernel
theorem nd_Mo_score_28 : decode nc_Mo_score 28 = .ok (.lconst 0, 1) := by decide +kernel
theorem nd_Mo_score_29 : decode nc_Mo_score 29 = .ok (.lreturn, 1) := by decide +kernel
theorem nd_Mo_score_30 : decode nc_Mo_score 30 = .ok (.iconst 0, 1) := by decide +kernel
theorem nd_Mo_score_31 : decode nc_Mo_score 31 = .ok (.istore 5, 2) := by decide +kernel
theorem nd_Mo_score_33 : decode nc_Mo_score 33 = .ok (.iload 5, 2) := by decide +kernel
theorem nd_Mo_score_35 : decode nc_Mo_score 35 = .ok (.bipush 6, 2) := by decide +kernel
theorem nd_Mo_score_37 : decode nc_Mo_score 37 = .ok (.if_icmp .ge 24, 3) := by decide +kernel
theorem nd_Mo_score_40 : decode nc_Mo_score 40 = .ok (.aload_n 0, 1) := by decide +kernel
theorem nd_Mo_score_41 : decode nc_Mo_score 41 = .ok (.getfield 41, 3) := by decide +kernel
theorem nd_Mo_score_44 : decode nc_Mo_score 44 = .ok (.iload 5, 2) := by decide +kernel
theorem nd_Mo_score_46 : decode nc_Mo_score 46 = .ok (.iload_n 2, 1) := by decide +kernel
theorem nd_Mo_score_47 : decode nc_Mo_score 47 = .ok (.iconst 2, 1) := by decide +kernel
theorem nd_Mo_score_48 : decode nc_Mo_score 48 = .ok (.iload 5, 2) := by decide +kernel
theorem nd_Mo_score_50 : decode nc_Mo_score 50 = .ok (.imul, 1) := by decide +kernel
theorem nd_Mo_score_51 : decode nc_Mo_score 51 = .ok (.ishr, 1) := by decide +kernel
theorem nd_Mo_score_52 : decode nc_Mo_score 52 = .ok (.iconst 3, 1) := by decide +kernel
theorem nd_Mo_score_53 : decode nc_Mo_score 53 = .ok (.iand, 1) := by decide +kernel
theorem nd_Mo_score_54 : decode nc_Mo_score 54 = .ok (.iastore, 1) := by decide +kernel
theorem nd_Mo_score_55 : decode nc_Mo_score 55 = .ok (.iinc 5 1, 3) := by decide +kernel
theorem nd_Mo_score_58 : decode nc_Mo_score 58 = .ok (.goto (-25), 3) := by decide +kernel
theorem nd_Mo_score_61 : decode nc_Mo_score 61 = .ok (.iload_n 3, 1) := by decide +kernel
theorem nd_Mo_score_62 : decode nc_Mo_score 62 = .ok (.ifCond .eq 32, 3) := by decide +kernel
theorem nd_Mo_score_65 : decode nc_Mo_score 65 = .ok (.aload_n 0, 1) := by decide +kernel
theorem nd_Mo_score_66 : decode nc_Mo_score 66 = .ok (.iload 4, 2) := by decide +kernel
theorem nd_Mo_score_68 : decode nc_Mo_score 68 = .ok (.aload_n 0, 1) := by decide +kernel
theorem nd_Mo_score_69 : decode nc_Mo_score 69 = .ok (.getfield 35, 3) := by decide +kernel
theorem nd_Mo_score_72 : decode nc_Mo_score 72 = .ok (.invokevirtual 112, 3) := by decide +kernel
theorem nd_Mo_score_75 : decode nc_Mo_score 75 = .ok (.aload_n 0, 1) := by decide +kernel
theorem nd_Mo_score_76 : decode nc_Mo_score 76 = .ok (.iconst 0, 1) := by decide +kernel
theorem nd_Mo_score_77 : decode nc_Mo_score 77 = .ok (.aload_n 0, 1) := by decide +kernel
theorem nd_Mo_score_78 : decode nc_Mo_score 78 = .ok (.getfield 13, 3) := by decide +kernel
theorem nd_Mo_score_81 : decode nc_Mo_score 81 = .ok (.iload 4, 2) := by decide +kernel
theorem nd_Mo_score_83 : decode nc_Mo_score 83 = .ok (.iaload, 1) := by decide +kernel
theorem nd_Mo_score_84 : decode nc_Mo_score 84 = .ok (.aload_n 0, 1) := by decide +kernel
theorem nd_Mo_score_85 : decode nc_Mo_score 85 = .ok (.getfield 35, 3) := by decide +kernel
theorem nd_Mo_score_88 : decode nc_Mo_score 88 = .ok (.invokevirtual 116, 3) := by decide +kernel
theorem nd_Mo_score_91 : decode nc_Mo_score 91 = .ok (.goto 29, 3) := by decide +kernel
theorem nd_Mo_score_94 : decode nc_Mo_score 94 = .ok (.aload_n 0, 1) := by decide +kernel
theorem nd_Mo_score_95 : decode nc_Mo_score 95 = .ok (.iload 4, 2) := by decide +kernel
theorem nd_Mo_score_97 : decode nc_Mo_score 97 = .ok (.aload_n 0, 1) := by decide +kernel
theorem nd_Mo_score_98 : decode nc_Mo_score 98 = .ok (.getfield 31, 3) := by decide +kernel
theorem nd_Mo_score_101 : decode nc_Mo_score 101 = .ok (.invokevirtual 112, 3) := by decide +kernel
theorem nd_Mo_score_104 : decode nc_Mo_score 104 = .ok (.aload_n 0, 1) := by decide +kernel
theorem nd_Mo_score_105 : decode nc_Mo_score 105 = .ok (.iconst 0, 1) := by decide +kernel
theorem nd_Mo_score_106 : decode nc_Mo_score 106 = .ok (.aload_n 0, 1) := by decide +kernel
theorem nd_Mo_score_107 : decode nc_Mo_score 107 = .ok (.getfield 13, 3) := by decide +kernel
theorem nd_Mo_score_110 : decode nc_Mo_score 110 = .ok (.iload 4, 2) := by decide +kernel
theorem nd_Mo_score_112 : decode nc_Mo_score 112 = .ok (.iaload, 1) := by decide +kernel
theorem nd_Mo_score_113 : decode nc_Mo_score 113 = .ok (.aload_n 0, 1) := by decide +kernel
theorem nd_Mo_score_114 : decode nc_Mo_score 114 = .ok (.getfield 31, 3) := by decide +kernel
theorem nd_Mo_score_117 : decode nc_Mo_score 117 = .ok (.invokevirtual 116, 3) := by decide +kernel
theorem nd_Mo_score_120 : decode nc_Mo_score 120 = .ok (.aload_n 0, 1) := by decide +kernel
theorem nd_Mo_score_121 : decode nc_Mo_score 121 = .ok (.getfield 44, 3) := by decide +kernel
theorem nd_Mo_score_124 : decode nc_Mo_score 124 = .ok (.aload_n 0, 1) := by decide +kernel
theorem nd_Mo_score_125 : decode nc_Mo_score 125 = .ok (.getfield 13, 3) := by decide +kernel
theorem nd_Mo_score_128 : decode nc_Mo_score 128 = .ok (.iload 4, 2) := by decide +kernel
theorem nd_Mo_score_130 : decode nc_Mo_score 130 = .ok (.iaload, 1) := by decide +kernel
theorem nd_Mo_score_131 : decode nc_Mo_score 131 = .ok (.laload, 1) := by decide +kernel
theorem nd_Mo_score_132 : decode nc_Mo_score 132 = .ok (.lreturn, 1) := by decide +kernel
theorem nd_Mo_errors_0 : decode nc_Mo_errors 0 = .ok (.aload_n 0, 1) := by decide +kernel
theorem nd_Mo_errors_1 : decode nc_Mo_errors 1 = .ok (.iconst 0, 1) := by decide +kernel
theorem nd_Mo_errors_2 : decode nc_Mo_errors 2 = .ok (.putfield 51, 3) := by decide +kernel
theorem nd_Mo_errors_5 : decode nc_Mo_errors 5 = .ok (.iconst 0, 1) := by decide +kernel
theorem nd_Mo_errors_6 : decode nc_Mo_errors 6 = .ok (.istore_n 2, 1) := by decide +kernel
theorem nd_Mo_errors_7 : decode nc_Mo_errors 7 = .ok (.iconst 0, 1) := by decide +kernel
theorem nd_Mo_errors_8 : decode nc_Mo_errors 8 = .ok (.istore_n 3, 1) := by decide +kernel
theorem nd_Mo_errors_9 : decode nc_Mo_errors 9 = .ok (.iload_n 3, 1) := by decide +kernel
theorem nd_Mo_errors_10 : decode nc_Mo_errors 10 = .ok (.aload_n 0, 1) := by decide +kernel
theorem nd_Mo_errors_11 : decode nc_Mo_errors 11 = .ok (.getfield 89, 3) := by decide +kernel
theorem nd_Mo_errors_14 : decode nc_Mo_errors 14 = .ok (.if_icmp .ge 69, 3) := by decide +kernel
theorem nd_Mo_errors_17 : decode nc_Mo_errors 17 = .ok (.aload_n 0, 1) := by decide +kernel
theorem nd_Mo_errors_18 : decode nc_Mo_errors 18 = .ok (.iload_n 3, 1) := by decide +kernel
theorem nd_Mo_errors_19 : decode nc_Mo_errors 19 = .ok (.iload_n 1, 1) := by decide +kernel
theorem nd_Mo_errors_20 : decode nc_Mo_errors 20 = .ok (.invokevirtual 150, 3) := by decide +kernel
theorem nd_Mo_errors_23 : decode nc_Mo_errors 23 = .ok (.iconst 0, 1) := by decide +kernel
theorem nd_Mo_errors_24 : decode nc_Mo_errors 24 = .ok (.istore 4, 2) := by decide +kernel
theorem nd_Mo_errors_26 : decode nc_Mo_errors 26 = .ok (.iload 4, 2) := by decide +kernel
theorem nd_Mo_errors_28 : decode nc_Mo_errors 28 = .ok (.aload_n 0, 1) := by decide +kernel
theorem nd_Mo_errors_29 : decode nc_Mo_errors 29 = .ok (.getfield 13, 3) := by decide +kernel
theorem nd_Mo_errors_32 : decode nc_Mo_errors 32 = .ok (.iload_n 3, 1) := by decide +kernel
theorem nd_Mo_errors_33 : decode nc_Mo_errors 33 = .ok (.iaload, 1) := by decide +kernel
theorem nd_Mo_errors_34 : decode nc_Mo_errors 34 = .ok (.if_icmp .ge 43, 3) := by decide +kernel
theorem nd_Mo_errors_37 : decode nc_Mo_errors 37 = .ok (.aload_n 0, 1) := by decide +kernel
theorem nd_Mo_errors_38 : decode nc_Mo_errors 38 = .ok (.getfield 124, 3) := by decide +kernel
theorem nd_Mo_errors_41 : decode nc_Mo_errors 41 = .ok (.iconst 2, 1) := by decide +kernel
theorem nd_Mo_errors_42 : decode nc_Mo_errors 42 = .ok (.iload 4, 2) := by decide +kernel
theorem nd_Mo_errors_44 : decode nc_Mo_errors 44 = .ok (.imul, 1) := by decide +kernel
theorem nd_Mo_errors_45 : decode nc_Mo_errors 45 = .ok (.ishr, 1) := by decide +kernel
theorem nd_Mo_errors_46 : decode nc_Mo_errors 46 = .ok (.iconst 3, 1) := by decide +kernel
theorem nd_Mo_errors_47 : decode nc_Mo_errors 47 = .ok (.iand, 1) := by decide +kernel
theorem nd_Mo_errors_48 : decode nc_Mo_errors 48 = .ok (.aload_n 0, 1) := by decide +kernel
theorem nd_Mo_errors_49 : decode nc_Mo_errors 49 = .ok (.getfield 19, 3) := by decide +kernel
theorem nd_Mo_errors_52 : decode nc_Mo_errors 52 = .ok (.bipush 6, 2) := by decide +kernel
theorem nd_Mo_errors_54 : decode nc_Mo_errors 54 = .ok (.iload_n 3, 1) := by decide +kernel
theorem nd_Mo_errors_55 : decode nc_Mo_errors 55 = .ok (.imul, 1) := by decide +kernel
theorem nd_Mo_errors_56 : decode nc_Mo_errors 56 = .ok (.iload 4, 2) := by decide +kernel
theorem nd_Mo_errors_58 : decode nc_Mo_errors 58 = .ok (.iadd, 1) := by decide +kernel
theorem nd_Mo_errors_59 : decode nc_Mo_errors 59 = .ok (.iaload, 1) := by decide +kernel
theorem nd_Mo_errors_60 : decode nc_Mo_errors 60 = .ok (.if_icmp .eq 9, 3) := by decide +kernel
theorem nd_Mo_errors_63 : decode nc_Mo_errors 63 = .ok (.iload_n 2, 1) := by decide +kernel
theorem nd_Mo_errors_64 : decode nc_Mo_errors 64 = .ok (.iconst 1, 1) := by decide +kernel
theorem nd_Mo_errors_65 : decode nc_Mo_errors 65 = .ok (.iadd, 1) := by decide +kernel
theorem nd_Mo_errors_66 : decode nc_Mo_errors 66 = .ok (.goto 4, 3) := by decide +kernel
theorem nd_Mo_errors_69 : decode nc_Mo_errors 69 = .ok (.iload_n 2, 1) := by decide +kernel
theorem nd_Mo_errors_70 : decode nc_Mo_errors 70 = .ok (.istore_n 2, 1) := by decide +kernel
theorem nd_Mo_errors_71 : decode nc_Mo_errors 71 = .ok (.iinc 4 1, 3) := by decide +kernel
theorem nd_Mo_errors_74 : decode nc_Mo_errors 74 = .ok (.goto (-48), 3) := by decide +kernel
theorem nd_Mo_errors_77 : decode nc_Mo_errors 77 = .ok (.iinc 3 1, 3) := by decide +kernel
theorem nd_Mo_errors_80 : decode nc_Mo_errors 80 = .ok (.goto (-71), 3) := by decide +kernel
theorem nd_Mo_errors_83 : decode nc_Mo_errors 83 = .ok (.iload_n 2, 1) := by decide +kernel
theorem nd_Mo_errors_84 : decode nc_Mo_errors 84 = .ok (.ireturn, 1) := by decide +kernel
theorem nd_Co_init_0 : decode nc_Co_init 0 = .ok (.aload_n 0, 1) := by decide +kernel
theorem nd_Co_init_1 : decode nc_Co_init 1 = .ok (.invokespecial 3, 3) := by decide +kernel
theorem nd_Co_init_4 : decode nc_Co_init 4 = .ok (.aload_n 0, 1) := by decide +kernel
theorem nd_Co_init_5 : decode nc_Co_init 5 = .ok (.bipush 8, 2) := by decide +kernel
theorem nd_Co_init_7 : decode nc_Co_init 7 = .ok (.anewarray 9, 3) := by decide +kernel
theorem nd_Co_init_10 : decode nc_Co_init 10 = .ok (.putfield 11, 3) := by decide +kernel
theorem nd_Co_init_13 : decode nc_Co_init 13 = .ok (.iconst 0, 1) := by decide +kernel
theorem nd_Co_init_14 : decode nc_Co_init 14 = .ok (.istore_n 1, 1) := by decide +kernel
theorem nd_Co_init_15 : decode nc_Co_init 15 = .ok (.iload_n 1, 1) := by decide +kernel
theorem nd_Co_init_16 : decode nc_Co_init 16 = .ok (.bipush 8, 2) := by decide +kernel
theorem nd_Co_init_18 : decode nc_Co_init 18 = .ok (.if_icmp .ge 22, 3) := by decide +kernel
theorem nd_Co_init_21 : decode nc_Co_init 21 = .ok (.aload_n 0, 1) := by decide +kernel
theorem nd_Co_init_22 : decode nc_Co_init 22 = .ok (.getfield 11, 3) := by decide +kernel
theorem nd_Co_init_25 : decode nc_Co_init 25 = .ok (.iload_n 1, 1) := by decide +kernel
theorem nd_Co_init_26 : decode nc_Co_init 26 = .ok (.new 9, 3) := by decide +kernel
theorem nd_Co_init_29 : decode nc_Co_init 29 = .ok (.dup, 1) := by decide +kernel
theorem nd_Co_init_30 : decode nc_Co_init 30 = .ok (.invokespecial 17, 3) := by decide +kernel
theorem nd_Co_init_33 : decode nc_Co_init 33 = .ok (.aastore, 1) := by decide +kernel
theorem nd_Co_init_34 : decode nc_Co_init 34 = .ok (.iinc 1 1, 3) := by decide +kernel
theorem nd_Co_init_37 : decode nc_Co_init 37 = .ok (.goto (-22), 3) := by decide +kernel
theorem nd_Co_init_40 : decode nc_Co_init 40 = .ok (.return_, 1) := by decide +kernel
theorem nd_De_init_0 : decode nc_De_init 0 = .ok (.aload_n 0, 1) := by decide +kernel
theorem nd_De_init_1 : decode nc_De_init 1 = .ok (.invokespecial 3, 3) := by decide +kernel
theorem nd_De_init_4 : decode nc_De_init 4 = .ok (.aload_n 0, 1) := by decide +kernel
theorem nd_De_init_5 : decode nc_De_init 5 = .ok (.bipush 24, 2) := by decide +kernel
theorem nd_De_init_7 : decode nc_De_init 7 = .ok (.anewarray 9, 3) := by decide +kernel
theorem nd_De_init_10 : decode nc_De_init 10 = .ok (.putfield 11, 3) := by decide +kernel
theorem nd_De_init_13 : decode nc_De_init 13 = .ok (.aload_n 0, 1) := by decide +kernel
theorem nd_De_init_14 : decode nc_De_init 14 = .ok (.new 9, 3) := by decide +kernel
theorem nd_De_init_17 : decode nc_De_init 17 = .ok (.dup, 1) := by decide +kernel
theorem nd_De_init_18 : decode nc_De_init 18 = .ok (.invokespecial 17, 3) := by decide +kernel
theorem nd_De_init_21 : decode nc_De_init 21 = .ok (.putfield 18, 3) := by decide +kernel
theorem nd_De_init_24 : decode nc_De_init 24 = .ok (.iconst 0, 1) := by decide +kernel
theorem nd_De_init_25 : decode nc_De_init 25 = .ok (.istore_n 1, 1) := by decide +kernel
theorem nd_De_init_26 : decode nc_De_init 26 = .ok (.iload_n 1, 1) := by decide +kernel
theorem nd_De_init_27 : decode nc_De_init 27 = .ok (.aload_n 0, 1) := by decide +kernel
theorem nd_De_init_28 : decode nc_De_init 28 = .ok (.getfield 11, 3) := by decide +kernel
theorem nd_De_init_31 : decode nc_De_init 31 = .ok (.arraylength, 1) := by decide +kernel
theorem nd_De_init_32 : decode nc_De_init 32 = .ok (.if_icmp .ge 22, 3) := by decide +kernel
theorem nd_De_init_35 : decode nc_De_init 35 = .ok (.aload_n 0, 1) := by decide +kernel
theorem nd_De_init_36 : decode nc_De_init 36 = .ok (.getfield 11, 3) := by decide +kernel
theorem nd_De_init_39 : decode nc_De_init 39 = .ok (.iload_n 1, 1) := by decide +kernel
theorem nd_De_init_40 : decode nc_De_init 40 = .ok (.new 9, 3) := by decide +kernel
theorem nd_De_init_43 : decode nc_De_init 43 = .ok (.dup, 1) := by decide +kernel
theorem nd_De_init_44 : decode nc_De_init 44 = .ok (.invokespecial 17, 3) := by decide +kernel
theorem nd_De_init_47 : decode nc_De_init 47 = .ok (.aastore, 1) := by decide +kernel
theorem nd_De_init_48 : decode nc_De_init 48 = .ok (.iinc 1 1, 3) := by decide +kernel
theorem nd_De_init_51 : decode nc_De_init 51 = .ok (.goto (-25), 3) := by decide +kernel
theorem nd_De_init_54 : decode nc_De_init 54 = .ok (.return_, 1) := by decide +kernel
theorem nd_De_rank_0 : decode nc_De_rank 0 = .ok (.aload_n 1, 1) := by decide +kernel
theorem nd_De_rank_1 : decode nc_De_rank 1 = .ok (.getfield 22, 3) := by decide +kernel
theorem nd_De_rank_4 : decode nc_De_rank 4 = .ok (.iconst 1, 1) := by decide +kernel
theorem nd_De_rank_5 : decode nc_De_rank 5 = .ok (.isub, 1) := by decide +kernel
theorem nd_De_rank_6 : decode nc_De_rank 6 = .ok (.istore_n 3, 1) := by decide +kernel
theorem nd_De_rank_7 : decode nc_De_rank 7 = .ok (.iload_n 3, 1) := by decide +kernel
theorem nd_De_rank_8 : decode nc_De_rank 8 = .ok (.ifCond .lt 33, 3) := by decide +kernel
theorem nd_De_rank_11 : decode nc_De_rank 11 = .ok (.iconst 0, 1) := by decide +kernel
theorem nd_De_rank_12 : decode nc_De_rank 12 = .ok (.istore 4, 2) := by decide +kernel
theorem nd_De_rank_14 : decode nc_De_rank 14 = .ok (.iload 4, 2) := by decide +kernel
theorem nd_De_rank_16 : decode nc_De_rank 16 = .ok (.iconst 4, 1) := by decide +kernel
theorem nd_De_rank_17 : decode nc_De_rank 17 = .ok (.if_icmp .ge 18, 3) := by decide +kernel
theorem nd_De_rank_20 : decode nc_De_rank 20 = .ok (.aload_n 0, 1) := by decide +kernel
theorem nd_De_rank_21 : decode nc_De_rank 21 = .ok (.aload_n 1, 1) := by decide +kernel
theorem nd_De_rank_22 : decode nc_De_rank 22 = .ok (.aload_n 2, 1) := by decide +kernel
theorem nd_De_rank_23 : decode nc_De_rank 23 = .ok (.iload_n 3, 1) := by decide +kernel
theorem nd_De_rank_24 : decode nc_De_rank 24 = .ok (.iload 4, 2) := by decide +kernel
theorem nd_De_rank_26 : decode nc_De_rank 26 = .ok (.invokevirtual 28, 3) := by decide +kernel
theorem nd_De_rank_29 : decode nc_De_rank 29 = .ok (.iinc 4 1, 3) := by decide +kernel
theorem nd_De_rank_32 : decode nc_De_rank 32 = .ok (.goto (-18), 3) := by decide +kernel
theorem nd_De_rank_35 : decode nc_De_rank 35 = .ok (.iinc 3 (-1), 3) := by decide +kernel
theorem nd_De_rank_38 : decode nc_De_rank 38 = .ok (.goto (-31), 3) := by decide +kernel
theorem nd_De_rank_41 : decode nc_De_rank 41 = .ok (.aload_n 0, 1) := by decide +kernel
theorem nd_De_rank_42 : decode nc_De_rank 42 = .ok (.getfield 18, 3) := by decide +kernel
theorem nd_De_rank_45 : decode nc_De_rank 45 = .ok (.invokevirtual 32, 3) := by decide +kernel
theorem nd_De_rank_48 : decode nc_De_rank 48 = .ok (.iconst 0, 1) := by decide +kernel
theorem nd_De_rank_49 : decode nc_De_rank 49 = .ok (.istore_n 3, 1) := by decide +kernel
theorem nd_De_rank_50 : decode nc_De_rank 50 = .ok (.iload_n 3, 1) := by decide +kernel
theorem nd_De_rank_51 : decode nc_De_rank 51 = .ok (.iconst 4, 1) := by decide +kernel
theorem nd_De_rank_52 : decode nc_De_rank 52 = .ok (.if_icmp .ge 30, 3) := by decide +kernel
theorem nd_De_rank_55 : decode nc_De_rank 55 = .ok (.aload_n 0, 1) := by decide +kernel
theorem nd_De_rank_56 : decode nc_De_rank 56 = .ok (.getfield 18, 3) := by decide +kernel
theorem nd_De_rank_59 : decode nc_De_rank 59 = .ok (.aload_n 0, 1) := by decide +kernel
theorem nd_De_rank_60 : decode nc_De_rank 60 = .ok (.iconst 0, 1) := by decide +kernel
theorem nd_De_rank_61 : decode nc_De_rank 61 = .ok (.iload_n 3, 1) := by decide +kernel
theorem nd_De_rank_62 : decode nc_De_rank 62 = .ok (.invokevirtual 35, 3) := by decide +kernel
theorem nd_De_rank_65 : decode nc_De_rank 65 = .ok (.aload_n 2, 1) := by decide +kernel
theorem nd_De_rank_66 : decode nc_De_rank 66 = .ok (.bipush 32, 2) := by decide +kernel
theorem nd_De_rank_68 : decode nc_De_rank 68 = .ok (.iload_n 3, 1) := by decide +kernel
theorem nd_De_rank_69 : decode nc_De_rank 69 = .ok (.invokevirtual 39, 3) := by decide +kernel
theorem nd_De_rank_72 : decode nc_De_rank 72 = .ok (.iconst 0, 1) := by decide +kernel
theorem nd_De_rank_73 : decode nc_De_rank 73 = .ok (.invokevirtual 45, 3) := by decide +kernel
theorem nd_De_rank_76 : decode nc_De_rank 76 = .ok (.iinc 3 1, 3) := by decide +kernel
theorem nd_De_rank_79 : decode nc_De_rank 79 = .ok (.goto (-29), 3) := by decide +kernel
theorem nd_De_rank_82 : decode nc_De_rank 82 = .ok (.aload_n 0, 1) := by decide +kernel
theorem nd_De_rank_83 : decode nc_De_rank 83 = .ok (.getfield 18, 3) := by decide +kernel
theorem nd_De_rank_86 : decode nc_De_rank 86 = .ok (.areturn, 1) := by decide +kernel
theorem nd_De_rankTails_0 : decode nc_De_rankTails 0 = .ok (.aload_n 0, 1) := by decide +kernel
theorem nd_De_rankTails_1 : decode nc_De_rankTails 1 = .ok (.iload_n 3, 1) := by decide +kernel
theorem nd_De_rankTails_2 : decode nc_De_rankTails 2 = .ok (.iload 4, 2) := by decide +kernel
theorem nd_De_rankTails_4 : decode nc_De_rankTails 4 = .ok (.invokevirtual 35, 3) := by decide +kernel
theorem nd_De_rankTails_7 : decode nc_De_rankTails 7 = .ok (.astore 5, 2) := by decide +kernel
theorem nd_De_rankTails_9 : decode nc_De_rankTails 9 = .ok (.aload_n 2, 1) := by decide +kernel
theorem nd_De_rankTails_10 : decode nc_De_rankTails 10 = .ok (.aload_n 1, 1) := by decide +kernel
theorem nd_De_rankTails_11 : decode nc_De_rankTails 11 = .ok (.iload_n 3, 1) := by decide +kernel
theorem nd_De_rankTails_12 : decode nc_De_rankTails 12 = .ok (.iload 4, 2) := by decide +kernel
theorem nd_De_rankTails_14 : decode nc_De_rankTails 14 = .ok (.invokevirtual 49, 3) := by decide +kernel
theorem nd_De_rankTails_17 : decode nc_De_rankTails 17 = .ok (.lstore 6, 2) := by decide +kernel
theorem nd_De_rankTails_19 : decode nc_De_rankTails 19 = .ok (.iload 4, 2) := by decide +kernel
theorem nd_De_rankTails_21 : decode nc_De_rankTails 21 = .ok (.iconst 2, 1) := by decide +kernel
theorem nd_De_rankTails_22 : decode nc_De_rankTails 22 = .ok (.iload_n 3, 1) := by decide +kernel
theorem nd_De_rankTails_23 : decode nc_De_rankTails 23 = .ok (.imul, 1) := by decide +kernel
theorem nd_De_rankTails_24 : decode nc_De_rankTails 24 = .ok (.ishl, 1) := by decide +kernel
theorem nd_De_rankTails_25 : decode nc_De_rankTails 25 = .ok (.istore 8, 2) := by decide +kernel
theorem nd_De_rankTails_27 : decode nc_De_rankTails 27 = .ok (.aload 5, 2) := by decide +kernel
theorem nd_De_rankTails_29 : decode nc_De_rankTails 29 = .ok (.invokevirtual 32, 3) := by decide +kernel
theorem nd_De_rankTails_32 : decode nc_De_rankTails 32 = .ok (.iload_n 3, 1) := by decide +kernel
theorem nd_De_rankTails_33 : decode nc_De_rankTails 33 = .ok (.aload_n 1, 1) := by decide +kernel
theorem nd_De_rankTails_34 : decode nc_De_rankTails 34 = .ok (.getfield 22, 3) := by decide +kernel
theorem nd_De_rankTails_37 : decode nc_De_rankTails 37 = .ok (.iconst 1, 1) := by decide +kernel
theorem nd_De_rankTails_38 : decode nc_De_rankTails 38 = .ok (.isub, 1) := by decide +kernel
theorem nd_De_rankTails_39 : decode nc_De_rankTails 39 = .ok (.if_icmp .ne 13, 3) := by decide +kernel
theorem nd_De_rankTails_42 : decode nc_De_rankTails 42 = .ok (.aload 5, 2) := by decide +kernel
theorem nd_De_rankTails_44 : decode nc_De_rankTails 44 = .ok (.lload 6, 2) := by decide +kernel
theorem nd_De_rankTails_46 : decode nc_De_rankTails 46 = .ok (.iload 8, 2) := by decide +kernel
theorem nd_De_rankTails_48 : decode nc_De_rankTails 48 = .ok (.invokevirtual 53, 3) := by decide +kernel
theorem nd_De_rankTails_51 : decode nc_De_rankTails 51 = .ok (.return_, 1) := by decide +kernel
theorem nd_De_rankTails_52 : decode nc_De_rankTails 52 = .ok (.iconst 0, 1) := by decide +kernel
theorem nd_De_rankTails_53 : decode nc_De_rankTails 53 = .ok (.istore 9, 2) := by decide +kernel
theorem nd_De_rankTails_55 : decode nc_De_rankTails 55 = .ok (.iload 9, 2) := by decide +kernel
theorem nd_De_rankTails_57 : decode nc_De_rankTails 57 = .ok (.iconst 4, 1) := by decide +kernel
theorem nd_De_rankTails_58 : decode nc_De_rankTails 58 = .ok (.if_icmp .ge 39, 3) := by decide +kernel
theorem nd_De_rankTails_61 : decode nc_De_rankTails 61 = .ok (.aload 5, 2) := by decide +kernel
theorem nd_De_rankTails_63 : decode nc_De_rankTails 63 = .ok (.aload_n 0, 1) := by decide +kernel
theorem nd_De_rankTails_64 : decode nc_De_rankTails 64 = .ok (.iload_n 3, 1) := by decide +kernel
theorem nd_De_rankTails_65 : decode nc_De_rankTails 65 = .ok (.iconst 1, 1) := by decide +kernel
theorem nd_De_rankTails_66 : decode nc_De_rankTails 66 = .ok (.iadd, 1) := by decide +kernel
theorem nd_De_rankTails_67 : decode nc_De_rankTails 67 = .ok (.iload 9, 2) := by decide +kernel
theorem nd_De_rankTails_69 : decode nc_De_rankTails 69 = .ok (.invokevirtual 35, 3) := by decide +kernel
theorem nd_De_rankTails_72 : decode nc_De_rankTails 72 = .ok (.lload 6, 2) := by decide +kernel
theorem nd_De_rankTails_74 : decode nc_De_rankTails 74 = .ok (.aload_n 2, 1) := by decide +kernel
theorem nd_De_rankTails_75 : decode nc_De_rankTails 75 = .ok (.bipush 33, 2) := by decide +kernel
theorem nd_De_rankTails_77 : decode nc_De_rankTails 77 = .ok (.iload 4, 2) := by decide +kernel
theorem nd_De_rankTails_79 : decode nc_De_rankTails 79 = .ok (.iadd, 1) := by decide +kernel
theorem nd_De_rankTails_80 : decode nc_De_rankTails 80 = .ok (.iload 9, 2) := by decide +kernel
theorem nd_De_rankTails_82 : decode nc_De_rankTails 82 = .ok (.invokevirtual 39, 3) := by decide +kernel
theorem nd_De_rankTails_85 : decode nc_De_rankTails 85 = .ok (.ladd, 1) := by decide +kernel
theorem nd_De_rankTails_86 : decode nc_De_rankTails 86 = .ok (.iload 8, 2) := by decide +kernel
theorem nd_De_rankTails_88 : decode nc_De_rankTails 88 = .ok (.invokevirtual 45, 3) := by decide +kernel
theorem nd_De_rankTails_91 : decode nc_De_rankTails 91 = .ok (.iinc 9 1, 3) := by decide +kernel
theorem nd_De_rankTails_94 : decode nc_De_rankTails 94 = .ok (.goto (-39), 3) := by decide +kernel
theorem nd_De_rankTails_97 : decode nc_De_rankTails 97 = .ok (.return_, 1) := by decide +kernel
theorem nd_De_tailsFrom_0 : decode nc_De_tailsFrom 0 = .ok (.aload_n 0, 1) := by decide +kernel
theorem nd_De_tailsFrom_1 : decode nc_De_tailsFrom 1 = .ok (.getfield 11, 3) := by decide +kernel
theorem nd_De_tailsFrom_4 : decode nc_De_tailsFrom 4 = .ok (.iload_n 1, 1) := by decide +kernel
theorem nd_De_tailsFrom_5 : decode nc_De_tailsFrom 5 = .ok (.iconst 4, 1) := by decide +kernel
theorem nd_De_tailsFrom_6 : decode nc_De_tailsFrom 6 = .ok (.imul, 1) := by decide +kernel
theorem nd_De_tailsFrom_7 : decode nc_De_tailsFrom 7 = .ok (.iload_n 2, 1) := by decide +kernel
theorem nd_De_tailsFrom_8 : decode nc_De_tailsFrom 8 = .ok (.iadd, 1) := by decide +kernel
theorem nd_De_tailsFrom_9 : decode nc_De_tailsFrom 9 = .ok (.aaload, 1) := by decide +kernel
theorem nd_De_tailsFrom_10 : decode nc_De_tailsFrom 10 = .ok (.areturn, 1) := by decide +kernel
theorem nd_Ra_init_0 : decode nc_Ra_init 0 = .ok (.aload_n 0, 1) := by decide +kernel
theorem nd_Ra_init_1 : decode nc_Ra_init 1 = .ok (.invokespecial 3, 3) := by decide +kernel
theorem nd_Ra_init_4 : decode nc_Ra_init 4 = .ok (.aload_n 0, 1) := by decide +kernel
theorem nd_Ra_init_5 : decode nc_Ra_init 5 = .ok (.iconst 2, 1) := by decide +kernel
theorem nd_Ra_init_6 : decode nc_Ra_init 6 = .ok (.newarray .long, 2) := by decide +kernel
theorem nd_Ra_init_8 : decode nc_Ra_init 8 = .ok (.putfield 9, 3) := by decide +kernel
theorem nd_Ra_init_11 : decode nc_Ra_init 11 = .ok (.aload_n 0, 1) := by decide +kernel
theorem nd_Ra_init_12 : decode nc_Ra_init 12 = .ok (.iconst 2, 1) := by decide +kernel
theorem nd_Ra_init_13 : decode nc_Ra_init 13 = .ok (.newarray .int, 2) := by decide +kernel
theorem nd_Ra_init_15 : decode nc_Ra_init 15 = .ok (.putfield 15, 3) := by decide +kernel
theorem nd_Ra_init_18 : decode nc_Ra_init 18 = .ok (.return_, 1) := by decide +kernel
theorem nd_Ra_clear_0 : decode nc_Ra_clear 0 = .ok (.aload_n 0, 1) := by decide +kernel
theorem nd_Ra_clear_1 : decode nc_Ra_clear 1 = .ok (.iconst 0, 1) := by decide +kernel
theorem nd_Ra_clear_2 : decode nc_Ra_clear 2 = .ok (.putfield 19, 3) := by decide +kernel
theorem nd_Ra_clear_5 : decode nc_Ra_clear 5 = .ok (.return_, 1) := by decide +kernel
theorem nd_Ra_offer_0 : decode nc_Ra_offer 0 = .ok (.aload_n 0, 1) := by decide +kernel
theorem nd_Ra_offer_1 : decode nc_Ra_offer 1 = .ok (.getfield 19, 3) := by decide +kernel
theorem nd_Ra_offer_4 : decode nc_Ra_offer 4 = .ok (.ifCond .eq 14, 3) := by decide +kernel
theorem nd_Ra_offer_7 : decode nc_Ra_offer 7 = .ok (.lload_n 1, 1) := by decide +kernel
theorem nd_Ra_offer_8 : decode nc_Ra_offer 8 = .ok (.aload_n 0, 1) := by decide +kernel
theorem nd_Ra_offer_9 : decode nc_Ra_offer 9 = .ok (.getfield 9, 3) := by decide +kernel
theorem nd_Ra_offer_12 : decode nc_Ra_offer 12 = .ok (.iconst 0, 1) := by decide +kernel
theorem nd_Ra_offer_13 : decode nc_Ra_offer 13 = .ok (.laload, 1) := by decide +kernel
theorem nd_Ra_offer_14 : decode nc_Ra_offer 14 = .ok (.lcmp, 1) := by decide +kernel
theorem nd_Ra_offer_15 : decode nc_Ra_offer 15 = .ok (.ifCond .le 44, 3) := by decide +kernel
theorem nd_Ra_offer_18 : decode nc_Ra_offer 18 = .ok (.aload_n 0, 1) := by decide +kernel
theorem nd_Ra_offer_19 : decode nc_Ra_offer 19 = .ok (.getfield 9, 3) := by decide +kernel
theorem nd_Ra_offer_22 : decode nc_Ra_offer 22 = .ok (.iconst 1, 1) := by decide +kernel
theorem nd_Ra_offer_23 : decode nc_Ra_offer 23 = .ok (.aload_n 0, 1) := by decide +kernel
theorem nd_Ra_offer_24 : decode nc_Ra_offer 24 = .ok (.getfield 9, 3) := by decide +kernel
theorem nd_Ra_offer_27 : decode nc_Ra_offer 27 = .ok (.iconst 0, 1) := by decide +kernel
theorem nd_Ra_offer_28 : decode nc_Ra_offer 28 = .ok (.laload, 1) := by decide +kernel
theorem nd_Ra_offer_29 : decode nc_Ra_offer 29 = .ok (.lastore, 1) := by decide +kernel
theorem nd_Ra_offer_30 : decode nc_Ra_offer 30 = .ok (.aload_n 0, 1) := by decide +kernel
theorem nd_Ra_offer_31 : decode nc_Ra_offer 31 = .ok (.getfield 15, 3) := by decide +kernel
theorem nd_Ra_offer_34 : decode nc_Ra_offer 34 = .ok (.iconst 1, 1) := by decide +kernel
theorem nd_Ra_offer_35 : decode nc_Ra_offer 35 = .ok (.aload_n 0, 1) := by decide +kernel
theorem nd_Ra_offer_36 : decode nc_Ra_offer 36 = .ok (.getfield 15, 3) := by decide +kernel
theorem nd_Ra_offer_39 : decode nc_Ra_offer 39 = .ok (.iconst 0, 1) := by decide +kernel
theorem nd_Ra_offer_40 : decode nc_Ra_offer 40 = .ok (.iaload, 1) := by decide +kernel
theorem nd_Ra_offer_41 : decode nc_Ra_offer 41 = .ok (.iastore, 1) := by decide +kernel
theorem nd_Ra_offer_42 : decode nc_Ra_offer 42 = .ok (.aload_n 0, 1) := by decide +kernel
theorem nd_Ra_offer_43 : decode nc_Ra_offer 43 = .ok (.getfield 9, 3) := by decide +kernel
theorem nd_Ra_offer_46 : decode nc_Ra_offer 46 = .ok (.iconst 0, 1) := by decide +kernel
theorem nd_Ra_offer_47 : decode nc_Ra_offer 47 = .ok (.lload_n 1, 1) := by decide +kernel
theorem nd_Ra_offer_48 : decode nc_Ra_offer 48 = .ok (.lastore, 1) := by decide +kernel
theorem nd_Ra_offer_49 : decode nc_Ra_offer 49 = .ok (.aload_n 0, 1) := by decide +kernel
theorem nd_Ra_offer_50 : decode nc_Ra_offer 50 = .ok (.getfield 15, 3) := by decide +kernel
theorem nd_Ra_offer_53 : decode nc_Ra_offer 53 = .ok (.iconst 0, 1) := by decide +kernel
theorem nd_Ra_offer_54 : decode nc_Ra_offer 54 = .ok (.iload_n 3, 1) := by decide +kernel
theorem nd_Ra_offer_55 : decode nc_Ra_offer 55 = .ok (.iastore, 1) := by decide +kernel
theorem nd_Ra_offer_56 : decode nc_Ra_offer 56 = .ok (.goto 36, 3) := by decide +kernel
theorem nd_Ra_offer_59 : decode nc_Ra_offer 59 = .ok (.aload_n 0, 1) := by decide +kernel
theorem nd_Ra_offer_60 : decode nc_Ra_offer 60 = .ok (.getfield 19, 3) := by decide +kernel
theorem nd_Ra_offer_63 : decode nc_Ra_offer 63 = .ok (.iconst 1, 1) := by decide +kernel
theorem nd_Ra_offer_64 : decode nc_Ra_offer 64 = .ok (.if_icmp .eq 14, 3) := by decide +kernel
theorem nd_Ra_offer_67 : decode nc_Ra_offer 67 = .ok (.lload_n 1, 1) := by decide +kernel
theorem nd_Ra_offer_68 : decode nc_Ra_offer 68 = .ok (.aload_n 0, 1) := by decide +kernel
theorem nd_Ra_offer_69 : decode nc_Ra_offer 69 = .ok (.getfield 9, 3) := by decide +kernel
theorem nd_Ra_offer_72 : decode nc_Ra_offer 72 = .ok (.iconst 1, 1) := by decide +kernel
theorem nd_Ra_offer_73 : decode nc_Ra_offer 73 = .ok (.laload, 1) := by decide +kernel
theorem nd_Ra_offer_74 : decode nc_Ra_offer 74 = .ok (.lcmp, 1) := by decide +kernel
theorem nd_Ra_offer_75 : decode nc_Ra_offer 75 = .ok (.ifCond .le 17, 3) := by decide +kernel
theorem nd_Ra_offer_78 : decode nc_Ra_offer 78 = .ok (.aload_n 0, 1) := by decide +kernel
theorem nd_Ra_offer_79 : decode nc_Ra_offer 79 = .ok (.getfield 9, 3) := by decide +kernel
theorem nd_Ra_offer_82 : decode nc_Ra_offer 82 = .ok (.iconst 1, 1) := by decide +kernel
theorem nd_Ra_offer_83 : decode nc_Ra_offer 83 = .ok (.lload_n 1, 1) := by decide +kernel
theorem nd_Ra_offer_84 : decode nc_Ra_offer 84 = .ok (.lastore, 1) := by decide +kernel
theorem nd_Ra_offer_85 : decode nc_Ra_offer 85 = .ok (.aload_n 0, 1) := by decide +kernel
theorem nd_Ra_offer_86 : decode nc_Ra_offer 86 = .ok (.getfield 15, 3) := by decide +kernel
theorem nd_Ra_offer_89 : decode nc_Ra_offer 89 = .ok (.iconst 1, 1) := by decide +kernel
theorem nd_Ra_offer_90 : decode nc_Ra_offer 90 = .ok (.iload_n 3, 1) := by decide +kernel
theorem nd_Ra_offer_91 : decode nc_Ra_offer 91 = .ok (.iastore, 1) := by decide +kernel
theorem nd_Ra_offer_92 : decode nc_Ra_offer 92 = .ok (.aload_n 0, 1) := by decide +kernel
theorem nd_Ra_offer_93 : decode nc_Ra_offer 93 = .ok (.getfield 19, 3) := by decide +kernel
theorem nd_Ra_offer_96 : decode nc_Ra_offer 96 = .ok (.iconst 2, 1) := by decide +kernel
theorem nd_Ra_offer_97 : decode nc_Ra_offer 97 = .ok (.if_icmp .ge 13, 3) := by decide +kernel
theorem nd_Ra_offer_100 : decode nc_Ra_offer 100 = .ok (.aload_n 0, 1) := by decide +kernel
theorem nd_Ra_offer_101 : decode nc_Ra_offer 101 = .ok (.dup, 1) := by decide +kernel
theorem nd_Ra_offer_102 : decode nc_Ra_offer 102 = .ok (.getfield 19, 3) := by decide +kernel
theorem nd_Ra_offer_105 : decode nc_Ra_offer 105 = .ok (.iconst 1, 1) := by decide +kernel
theorem nd_Ra_offer_106 : decode nc_Ra_offer 106 = .ok (.iadd, 1) := by decide +kernel
theorem nd_Ra_offer_107 : decode nc_Ra_offer 107 = .ok (.putfield 19, 3) := by decide +kernel
theorem nd_Ra_offer_110 : decode nc_Ra_offer 110 = .ok (.return_, 1) := by decide +kernel
theorem nd_Ra_offerLonger_0 : decode nc_Ra_offerLonger 0 = .ok (.iconst 0, 1) := by decide +kernel
theorem nd_Ra_offerLonger_1 : decode nc_Ra_offerLonger 1 = .ok (.istore 5, 2) := by decide +kernel
theorem nd_Ra_offerLonger_3 : decode nc_Ra_offerLonger 3 = .ok (.iload 5, 2) := by decide +kernel
theorem nd_Ra_offerLonger_5 : decode nc_Ra_offerLonger 5 = .ok (.aload_n 1, 1) := by decide +kernel
theorem nd_Ra_offerLonger_6 : decode nc_Ra_offerLonger 6 = .ok (.getfield 19, 3) := by decide +kernel
theorem nd_Ra_offerLonger_9 : decode nc_Ra_offerLonger 9 = .ok (.if_icmp .ge 32, 3) := by decide +kernel
theorem nd_Ra_offerLonger_12 : decode nc_Ra_offerLonger 12 = .ok (.aload_n 0, 1) := by decide +kernel
theorem nd_Ra_offerLonger_13 : decode nc_Ra_offerLonger 13 = .ok (.aload_n 1, 1) := by decide +kernel
theorem nd_Ra_offerLonger_14 : decode nc_Ra_offerLonger 14 = .ok (.getfield 9, 3) := by decide +kernel
theorem nd_Ra_offerLonger_17 : decode nc_Ra_offerLonger 17 = .ok (.iload 5, 2) := by decide +kernel
theorem nd_Ra_offerLonger_19 : decode nc_Ra_offerLonger 19 = .ok (.laload, 1) := by decide +kernel
theorem nd_Ra_offerLonger_20 : decode nc_Ra_offerLonger 20 = .ok (.lload_n 2, 1) := by decide +kernel
theorem nd_Ra_offerLonger_21 : decode nc_Ra_offerLonger 21 = .ok (.ladd, 1) := by decide +kernel
theorem nd_Ra_offerLonger_22 : decode nc_Ra_offerLonger 22 = .ok (.aload_n 1, 1) := by decide +kernel
theorem nd_Ra_offerLonger_23 : decode nc_Ra_offerLonger 23 = .ok (.getfield 15, 3) := by decide +kernel
theorem nd_Ra_offerLonger_26 : decode nc_Ra_offerLonger 26 = .ok (.iload 5, 2) := by decide +kernel
theorem nd_Ra_offerLonger_28 : decode nc_Ra_offerLonger 28 = .ok (.iaload, 1) := by decide +kernel
theorem nd_Ra_offerLonger_29 : decode nc_Ra_offerLonger 29 = .ok (.iload 4, 2) := by decide +kernel
theorem nd_Ra_offerLonger_31 : decode nc_Ra_offerLonger 31 = .ok (.ior, 1) := by decide +kernel
theorem nd_Ra_offerLonger_32 : decode nc_Ra_offerLonger 32 = .ok (.invokevirtual 23, 3) := by decide +kernel
theorem nd_Ra_offerLonger_35 : decode nc_Ra_offerLonger 35 = .ok (.iinc 5 1, 3) := by decide +kernel
theorem nd_Ra_offerLonger_38 : decode nc_Ra_offerLonger 38 = .ok (.goto (-35), 3) := by decide +kernel
theorem nd_Ra_offerLonger_41 : decode nc_Ra_offerLonger 41 = .ok (.return_, 1) := by decide +kernel
theorem nd_Se_init_0 : decode nc_Se_init 0 = .ok (.aload_n 0, 1) := by decide +kernel
theorem nd_Se_init_1 : decode nc_Se_init 1 = .ok (.invokespecial 3, 3) := by decide +kernel
theorem nd_Se_init_4 : decode nc_Se_init 4 = .ok (.aload_n 0, 1) := by decide +kernel
theorem nd_Se_init_5 : decode nc_Se_init 5 = .ok (.bipush 18, 2) := by decide +kernel
theorem nd_Se_init_7 : decode nc_Se_init 7 = .ok (.newarray .int, 2) := by decide +kernel
theorem nd_Se_init_9 : decode nc_Se_init 9 = .ok (.putfield 9, 3) := by decide +kernel
theorem nd_Se_init_12 : decode nc_Se_init 12 = .ok (.return_, 1) := by decide +kernel
theorem nd_Se_clear_0 : decode nc_Se_clear 0 = .ok (.aload_n 0, 1) := by decide +kernel
theorem nd_Se_clear_1 : decode nc_Se_clear 1 = .ok (.iconst 0, 1) := by decide +kernel
theorem nd_Se_clear_2 : decode nc_Se_clear 2 = .ok (.putfield 15, 3) := by decide +kernel
theorem nd_Se_clear_5 : decode nc_Se_clear 5 = .ok (.aload_n 0, 1) := by decide +kernel
theorem nd_Se_clear_6 : decode nc_Se_clear 6 = .ok (.iconst 0, 1) := by decide +kernel
theorem nd_Se_clear_7 : decode nc_Se_clear 7 = .ok (.putfield 19, 3) := by decide +kernel
theorem nd_Se_clear_10 : decode nc_Se_clear 10 = .ok (.return_, 1) := by decide +kernel
theorem nd_Se_bucketOf_0 : decode nc_Se_bucketOf 0 = .ok (.aload_n 0, 1) := by decide +kernel
theorem nd_Se_bucketOf_1 : decode nc_Se_bucketOf 1 = .ok (.getfield 9, 3) := by decide +kernel
theorem nd_Se_bucketOf_4 : decode nc_Se_bucketOf 4 = .ok (.iload_n 1, 1) := by decide +kernel
theorem nd_Se_bucketOf_5 : decode nc_Se_bucketOf 5 = .ok (.iconst 3, 1) := by decide +kernel
theorem nd_Se_bucketOf_6 : decode nc_Se_bucketOf 6 = .ok (.imul, 1) := by decide +kernel
theorem nd_Se_bucketOf_7 : decode nc_Se_bucketOf 7 = .ok (.iload_n 2, 1) := by decide +kernel
theorem nd_Se_bucketOf_8 : decode nc_Se_bucketOf 8 = .ok (.iadd, 1) := by decide +kernel
theorem nd_Se_bucketOf_9 : decode nc_Se_bucketOf 9 = .ok (.iaload, 1) := by decide +kernel
theorem nd_Se_bucketOf_10 : decode nc_Se_bucketOf 10 = .ok (.ireturn, 1) := by decide +kernel
theorem nd_Se_setBucket_0 : decode nc_Se_setBucket 0 = .ok (.aload_n 0, 1) := by decide +kernel
theorem nd_Se_setBucket_1 : decode nc_Se_setBucket 1 = .ok (.getfield 9, 3) := by decide +kernel
theorem nd_Se_setBucket_4 : decode nc_Se_setBucket 4 = .ok (.iload_n 1, 1) := by decide +kernel
theorem nd_Se_setBucket_5 : decode nc_Se_setBucket 5 = .ok (.iconst 3, 1) := by decide +kernel
theorem nd_Se_setBucket_6 : decode nc_Se_setBucket 6 = .ok (.imul, 1) := by decide +kernel
theorem nd_Se_setBucket_7 : decode nc_Se_setBucket 7 = .ok (.iload_n 2, 1) := by decide +kernel
theorem nd_Se_setBucket_8 : decode nc_Se_setBucket 8 = .ok (.iadd, 1) := by decide +kernel
theorem nd_Se_setBucket_9 : decode nc_Se_setBucket 9 = .ok (.iload_n 3, 1) := by decide +kernel
theorem nd_Se_setBucket_10 : decode nc_Se_setBucket 10 = .ok (.iastore, 1) := by decide +kernel
theorem nd_Se_setBucket_11 : decode nc_Se_setBucket 11 = .ok (.return_, 1) := by decide +kernel
theorem nd_Te_init_0 : decode nc_Te_init 0 = .ok (.aload_n 0, 1) := by decide +kernel
theorem nd_Te_init_1 : decode nc_Te_init 1 = .ok (.invokespecial 3, 3) := by decide +kernel
theorem nd_Te_init_4 : decode nc_Te_init 4 = .ok (.aload_n 0, 1) := by decide +kernel
theorem nd_Te_init_5 : decode nc_Te_init 5 = .ok (.sipush 240, 3) := by decide +kernel
theorem nd_Te_init_8 : decode nc_Te_init 8 = .ok (.newarray .char, 2) := by decide +kernel
theorem nd_Te_init_10 : decode nc_Te_init 10 = .ok (.putfield 9, 3) := by decide +kernel
end
section
theorem nd_Te_init_13 : decode nc_Te_init 13 = .ok (.return_, 1) := by decide +kernel
theorem nd_Te_append_0 : decode nc_Te_append 0 = .ok (.iload_n 3, 1) := by decide +kernel
theorem nd_Te_append_1 : decode nc_Te_append 1 = .ok (.iconst 1, 1) := by decide +kernel
theorem nd_Te_append_2 : decode nc_Te_append 2 = .ok (.if_icmp .lt 21, 3) := by decide +kernel
theorem nd_Te_append_5 : decode nc_Te_append 5 = .ok (.iload_n 3, 1) := by decide +kernel
theorem nd_Te_append_6 : decode nc_Te_append 6 = .ok (.bipush 8, 2) := by decide +kernel
theorem nd_Te_append_8 : decode nc_Te_append 8 = .ok (.if_icmp .gt 15, 3) := by decide +kernel
theorem nd_Te_append_11 : decode nc_Te_append 11 = .ok (.iload_n 3, 1) := by decide +kernel
theorem nd_Te_append_12 : decode nc_Te_append 12 = .ok (.sipush 240, 3) := by decide +kernel
theorem nd_Te_append_15 : decode nc_Te_append 15 = .ok (.aload_n 0, 1) := by decide +kernel
theorem nd_Te_append_16 : decode nc_Te_append 16 = .ok (.getfield 15, 3) := by decide +kernel
theorem nd_Te_append_19 : decode nc_Te_append 19 = .ok (.isub, 1) := by decide +kernel
theorem nd_Te_append_20 : decode nc_Te_append 20 = .ok (.if_icmp .le 5, 3) := by decide +kernel
theorem nd_Te_append_23 : decode nc_Te_append 23 = .ok (.iconst 0, 1) := by decide +kernel
theorem nd_Te_append_24 : decode nc_Te_append 24 = .ok (.ireturn, 1) := by decide +kernel
theorem nd_Te_append_25 : decode nc_Te_append 25 = .ok (.iconst 0, 1) := by decide +kernel
theorem nd_Te_append_26 : decode nc_Te_append 26 = .ok (.istore 4, 2) := by decide +kernel
theorem nd_Te_append_28 : decode nc_Te_append 28 = .ok (.iload 4, 2) := by decide +kernel
theorem nd_Te_append_30 : decode nc_Te_append 30 = .ok (.iload_n 3, 1) := by decide +kernel
theorem nd_Te_append_31 : decode nc_Te_append 31 = .ok (.if_icmp .ge 33, 3) := by decide +kernel
theorem nd_Te_append_34 : decode nc_Te_append 34 = .ok (.lload_n 1, 1) := by decide +kernel
theorem nd_Te_append_35 : decode nc_Te_append 35 = .ok (.iload 4, 2) := by decide +kernel
theorem nd_Te_append_37 : decode nc_Te_append 37 = .ok (.invokestatic 19, 3) := by decide +kernel
theorem nd_Te_append_40 : decode nc_Te_append 40 = .ok (.istore 5, 2) := by decide +kernel
theorem nd_Te_append_42 : decode nc_Te_append 42 = .ok (.iload 5, 2) := by decide +kernel
theorem nd_Te_append_44 : decode nc_Te_append 44 = .ok (.bipush 32, 2) := by decide +kernel
theorem nd_Te_append_46 : decode nc_Te_append 46 = .ok (.if_icmp .lt 10, 3) := by decide +kernel
theorem nd_Te_append_49 : decode nc_Te_append 49 = .ok (.iload 5, 2) := by decide +kernel
theorem nd_Te_append_51 : decode nc_Te_append 51 = .ok (.bipush 126, 2) := by decide +kernel
theorem nd_Te_append_53 : decode nc_Te_append 53 = .ok (.if_icmp .le 5, 3) := by decide +kernel
theorem nd_Te_append_56 : decode nc_Te_append 56 = .ok (.iconst 0, 1) := by decide +kernel
theorem nd_Te_append_57 : decode nc_Te_append 57 = .ok (.ireturn, 1) := by decide +kernel
theorem nd_Te_append_58 : decode nc_Te_append 58 = .ok (.iinc 4 1, 3) := by decide +kernel
theorem nd_Te_append_61 : decode nc_Te_append 61 = .ok (.goto (-33), 3) := by decide +kernel
theorem nd_Te_append_64 : decode nc_Te_append 64 = .ok (.iconst 0, 1) := by decide +kernel
theorem nd_Te_append_65 : decode nc_Te_append 65 = .ok (.istore 4, 2) := by decide +kernel
theorem nd_Te_append_67 : decode nc_Te_append 67 = .ok (.iload 4, 2) := by decide +kernel
theorem nd_Te_append_69 : decode nc_Te_append 69 = .ok (.iload_n 3, 1) := by decide +kernel
theorem nd_Te_append_70 : decode nc_Te_append 70 = .ok (.if_icmp .ge 28, 3) := by decide +kernel
theorem nd_Te_append_73 : decode nc_Te_append 73 = .ok (.aload_n 0, 1) := by decide +kernel
theorem nd_Te_append_74 : decode nc_Te_append 74 = .ok (.getfield 9, 3) := by decide +kernel
theorem nd_Te_append_77 : decode nc_Te_append 77 = .ok (.aload_n 0, 1) := by decide +kernel
theorem nd_Te_append_78 : decode nc_Te_append 78 = .ok (.getfield 15, 3) := by decide +kernel
theorem nd_Te_append_81 : decode nc_Te_append 81 = .ok (.iload 4, 2) := by decide +kernel
theorem nd_Te_append_83 : decode nc_Te_append 83 = .ok (.iadd, 1) := by decide +kernel
theorem nd_Te_append_84 : decode nc_Te_append 84 = .ok (.lload_n 1, 1) := by decide +kernel
theorem nd_Te_append_85 : decode nc_Te_append 85 = .ok (.iload 4, 2) := by decide +kernel
theorem nd_Te_append_87 : decode nc_Te_append 87 = .ok (.invokestatic 19, 3) := by decide +kernel
theorem nd_Te_append_90 : decode nc_Te_append 90 = .ok (.i2c, 1) := by decide +kernel
theorem nd_Te_append_91 : decode nc_Te_append 91 = .ok (.castore, 1) := by decide +kernel
theorem nd_Te_append_92 : decode nc_Te_append 92 = .ok (.iinc 4 1, 3) := by decide +kernel
theorem nd_Te_append_95 : decode nc_Te_append 95 = .ok (.goto (-28), 3) := by decide +kernel
theorem nd_Te_append_98 : decode nc_Te_append 98 = .ok (.aload_n 0, 1) := by decide +kernel
theorem nd_Te_append_99 : decode nc_Te_append 99 = .ok (.dup, 1) := by decide +kernel
theorem nd_Te_append_100 : decode nc_Te_append 100 = .ok (.getfield 15, 3) := by decide +kernel
theorem nd_Te_append_103 : decode nc_Te_append 103 = .ok (.iload_n 3, 1) := by decide +kernel
theorem nd_Te_append_104 : decode nc_Te_append 104 = .ok (.iadd, 1) := by decide +kernel
theorem nd_Te_append_105 : decode nc_Te_append 105 = .ok (.putfield 15, 3) := by decide +kernel
theorem nd_Te_append_108 : decode nc_Te_append 108 = .ok (.iconst 1, 1) := by decide +kernel
theorem nd_Te_append_109 : decode nc_Te_append 109 = .ok (.ireturn, 1) := by decide +kernel
theorem nd_Te_keep_0 : decode nc_Te_keep 0 = .ok (.iload_n 1, 1) := by decide +kernel
theorem nd_Te_keep_1 : decode nc_Te_keep 1 = .ok (.ifCond .lt 11, 3) := by decide +kernel
theorem nd_Te_keep_4 : decode nc_Te_keep 4 = .ok (.iload_n 1, 1) := by decide +kernel
theorem nd_Te_keep_5 : decode nc_Te_keep 5 = .ok (.aload_n 0, 1) := by decide +kernel
theorem nd_Te_keep_6 : decode nc_Te_keep 6 = .ok (.getfield 15, 3) := by decide +kernel
theorem nd_Te_keep_9 : decode nc_Te_keep 9 = .ok (.if_icmp .le 5, 3) := by decide +kernel
theorem nd_Te_keep_12 : decode nc_Te_keep 12 = .ok (.iconst 0, 1) := by decide +kernel
theorem nd_Te_keep_13 : decode nc_Te_keep 13 = .ok (.ireturn, 1) := by decide +kernel
theorem nd_Te_keep_14 : decode nc_Te_keep 14 = .ok (.aload_n 0, 1) := by decide +kernel
theorem nd_Te_keep_15 : decode nc_Te_keep 15 = .ok (.iload_n 1, 1) := by decide +kernel
theorem nd_Te_keep_16 : decode nc_Te_keep 16 = .ok (.putfield 15, 3) := by decide +kernel
theorem nd_Te_keep_19 : decode nc_Te_keep 19 = .ok (.iconst 1, 1) := by decide +kernel
theorem nd_Te_keep_20 : decode nc_Te_keep 20 = .ok (.ireturn, 1) := by decide +kernel
theorem nd_Te_byteOf_0 : decode nc_Te_byteOf 0 = .ok (.lload_n 0, 1) := by decide +kernel
theorem nd_Te_byteOf_1 : decode nc_Te_byteOf 1 = .ok (.bipush 8, 2) := by decide +kernel
theorem nd_Te_byteOf_3 : decode nc_Te_byteOf 3 = .ok (.iload_n 2, 1) := by decide +kernel
theorem nd_Te_byteOf_4 : decode nc_Te_byteOf 4 = .ok (.imul, 1) := by decide +kernel
theorem nd_Te_byteOf_5 : decode nc_Te_byteOf 5 = .ok (.lushr, 1) := by decide +kernel
theorem nd_Te_byteOf_6 : decode nc_Te_byteOf 6 = .ok (.l2i, 1) := by decide +kernel
theorem nd_Te_byteOf_7 : decode nc_Te_byteOf 7 = .ok (.sipush 255, 3) := by decide +kernel
theorem nd_Te_byteOf_10 : decode nc_Te_byteOf 10 = .ok (.iand, 1) := by decide +kernel
theorem nd_Te_byteOf_11 : decode nc_Te_byteOf 11 = .ok (.ireturn, 1) := by decide +kernel
theorem nd_Te_readCorpus_0 : decode nc_Te_readCorpus 0 = .ok (.aload_n 0, 1) := by decide +kernel
theorem nd_Te_readCorpus_1 : decode nc_Te_readCorpus 1 = .ok (.iconst 0, 1) := by decide +kernel
theorem nd_Te_readCorpus_2 : decode nc_Te_readCorpus 2 = .ok (.putfield 23, 3) := by decide +kernel
theorem nd_Te_readCorpus_5 : decode nc_Te_readCorpus 5 = .ok (.aload_n 1, 1) := by decide +kernel
theorem nd_Te_readCorpus_6 : decode nc_Te_readCorpus 6 = .ok (.iconst 0, 1) := by decide +kernel
theorem nd_Te_readCorpus_7 : decode nc_Te_readCorpus 7 = .ok (.putfield 26, 3) := by decide +kernel
theorem nd_Te_readCorpus_10 : decode nc_Te_readCorpus 10 = .ok (.iconst 0, 1) := by decide +kernel
theorem nd_Te_readCorpus_11 : decode nc_Te_readCorpus 11 = .ok (.istore_n 2, 1) := by decide +kernel
theorem nd_Te_readCorpus_12 : decode nc_Te_readCorpus 12 = .ok (.iload_n 2, 1) := by decide +kernel
theorem nd_Te_readCorpus_13 : decode nc_Te_readCorpus 13 = .ok (.bipush 8, 2) := by decide +kernel
theorem nd_Te_readCorpus_15 : decode nc_Te_readCorpus 15 = .ok (.if_icmp .ge 59, 3) := by decide +kernel
theorem nd_Te_readCorpus_18 : decode nc_Te_readCorpus 18 = .ok (.aload_n 0, 1) := by decide +kernel
theorem nd_Te_readCorpus_19 : decode nc_Te_readCorpus 19 = .ok (.aload_n 1, 1) := by decide +kernel
theorem nd_Te_readCorpus_20 : decode nc_Te_readCorpus 20 = .ok (.getfield 31, 3) := by decide +kernel
theorem nd_Te_readCorpus_23 : decode nc_Te_readCorpus 23 = .ok (.iload_n 2, 1) := by decide +kernel
theorem nd_Te_readCorpus_24 : decode nc_Te_readCorpus 24 = .ok (.aaload, 1) := by decide +kernel
theorem nd_Te_readCorpus_25 : decode nc_Te_readCorpus 25 = .ok (.iconst 1, 1) := by decide +kernel
theorem nd_Te_readCorpus_26 : decode nc_Te_readCorpus 26 = .ok (.invokevirtual 35, 3) := by decide +kernel
theorem nd_Te_readCorpus_29 : decode nc_Te_readCorpus 29 = .ok (.ifCond .ne 5, 3) := by decide +kernel
theorem nd_Te_readCorpus_32 : decode nc_Te_readCorpus 32 = .ok (.iconst 0, 1) := by decide +kernel
theorem nd_Te_readCorpus_33 : decode nc_Te_readCorpus 33 = .ok (.ireturn, 1) := by decide +kernel
theorem nd_Te_readCorpus_34 : decode nc_Te_readCorpus 34 = .ok (.aload_n 1, 1) := by decide +kernel
theorem nd_Te_readCorpus_35 : decode nc_Te_readCorpus 35 = .ok (.dup, 1) := by decide +kernel
theorem nd_Te_readCorpus_36 : decode nc_Te_readCorpus 36 = .ok (.getfield 26, 3) := by decide +kernel
theorem nd_Te_readCorpus_39 : decode nc_Te_readCorpus 39 = .ok (.iconst 1, 1) := by decide +kernel
theorem nd_Te_readCorpus_40 : decode nc_Te_readCorpus 40 = .ok (.iadd, 1) := by decide +kernel
theorem nd_Te_readCorpus_41 : decode nc_Te_readCorpus 41 = .ok (.putfield 26, 3) := by decide +kernel
theorem nd_Te_readCorpus_44 : decode nc_Te_readCorpus 44 = .ok (.aload_n 0, 1) := by decide +kernel
theorem nd_Te_readCorpus_45 : decode nc_Te_readCorpus 45 = .ok (.getfield 23, 3) := by decide +kernel
theorem nd_Te_readCorpus_48 : decode nc_Te_readCorpus 48 = .ok (.aload_n 0, 1) := by decide +kernel
theorem nd_Te_readCorpus_49 : decode nc_Te_readCorpus 49 = .ok (.getfield 15, 3) := by decide +kernel
theorem nd_Te_readCorpus_52 : decode nc_Te_readCorpus 52 = .ok (.if_icmp .ne 5, 3) := by decide +kernel
theorem nd_Te_readCorpus_55 : decode nc_Te_readCorpus 55 = .ok (.iconst 1, 1) := by decide +kernel
theorem nd_Te_readCorpus_56 : decode nc_Te_readCorpus 56 = .ok (.ireturn, 1) := by decide +kernel
theorem nd_Te_readCorpus_57 : decode nc_Te_readCorpus 57 = .ok (.aload_n 0, 1) := by decide +kernel
theorem nd_Te_readCorpus_58 : decode nc_Te_readCorpus 58 = .ok (.bipush 59, 2) := by decide +kernel
theorem nd_Te_readCorpus_60 : decode nc_Te_readCorpus 60 = .ok (.invokevirtual 39, 3) := by decide +kernel
theorem nd_Te_readCorpus_63 : decode nc_Te_readCorpus 63 = .ok (.ifCond .ne 5, 3) := by decide +kernel
theorem nd_Te_readCorpus_66 : decode nc_Te_readCorpus 66 = .ok (.iconst 0, 1) := by decide +kernel
theorem nd_Te_readCorpus_67 : decode nc_Te_readCorpus 67 = .ok (.ireturn, 1) := by decide +kernel
theorem nd_Te_readCorpus_68 : decode nc_Te_readCorpus 68 = .ok (.iinc 2 1, 3) := by decide +kernel
theorem nd_Te_readCorpus_71 : decode nc_Te_readCorpus 71 = .ok (.goto (-59), 3) := by decide +kernel
theorem nd_Te_readCorpus_74 : decode nc_Te_readCorpus 74 = .ok (.iconst 0, 1) := by decide +kernel
theorem nd_Te_readCorpus_75 : decode nc_Te_readCorpus 75 = .ok (.ireturn, 1) := by decide +kernel
theorem nd_Te_readSpeech_0 : decode nc_Te_readSpeech 0 = .ok (.aload_n 0, 1) := by decide +kernel
theorem nd_Te_readSpeech_1 : decode nc_Te_readSpeech 1 = .ok (.iconst 0, 1) := by decide +kernel
theorem nd_Te_readSpeech_2 : decode nc_Te_readSpeech 2 = .ok (.putfield 23, 3) := by decide +kernel
theorem nd_Te_readSpeech_5 : decode nc_Te_readSpeech 5 = .ok (.aload_n 0, 1) := by decide +kernel
theorem nd_Te_readSpeech_6 : decode nc_Te_readSpeech 6 = .ok (.aload_n 1, 1) := by decide +kernel
theorem nd_Te_readSpeech_7 : decode nc_Te_readSpeech 7 = .ok (.iconst 0, 1) := by decide +kernel
theorem nd_Te_readSpeech_8 : decode nc_Te_readSpeech 8 = .ok (.invokevirtual 35, 3) := by decide +kernel
theorem nd_Te_readSpeech_11 : decode nc_Te_readSpeech 11 = .ok (.ifCond .eq 18, 3) := by decide +kernel
theorem nd_Te_readSpeech_14 : decode nc_Te_readSpeech 14 = .ok (.aload_n 0, 1) := by decide +kernel
theorem nd_Te_readSpeech_15 : decode nc_Te_readSpeech 15 = .ok (.getfield 23, 3) := by decide +kernel
theorem nd_Te_readSpeech_18 : decode nc_Te_readSpeech 18 = .ok (.aload_n 0, 1) := by decide +kernel
theorem nd_Te_readSpeech_19 : decode nc_Te_readSpeech 19 = .ok (.getfield 15, 3) := by decide +kernel
theorem nd_Te_readSpeech_22 : decode nc_Te_readSpeech 22 = .ok (.if_icmp .ne 7, 3) := by decide +kernel
theorem nd_Te_readSpeech_25 : decode nc_Te_readSpeech 25 = .ok (.iconst 1, 1) := by decide +kernel
theorem nd_Te_readSpeech_26 : decode nc_Te_readSpeech 26 = .ok (.goto 4, 3) := by decide +kernel
theorem nd_Te_readSpeech_29 : decode nc_Te_readSpeech 29 = .ok (.iconst 0, 1) := by decide +kernel
theorem nd_Te_readSpeech_30 : decode nc_Te_readSpeech 30 = .ok (.ireturn, 1) := by decide +kernel
theorem nd_Te_readSentence_0 : decode nc_Te_readSentence 0 = .ok (.aload_n 1, 1) := by decide +kernel
theorem nd_Te_readSentence_1 : decode nc_Te_readSentence 1 = .ok (.invokevirtual 43, 3) := by decide +kernel
theorem nd_Te_readSentence_4 : decode nc_Te_readSentence 4 = .ok (.aload_n 0, 1) := by decide +kernel
theorem nd_Te_readSentence_5 : decode nc_Te_readSentence 5 = .ok (.invokevirtual 48, 3) := by decide +kernel
theorem nd_Te_readSentence_8 : decode nc_Te_readSentence 8 = .ok (.pop, 1) := by decide +kernel
theorem nd_Te_readSentence_9 : decode nc_Te_readSentence 9 = .ok (.aload_n 0, 1) := by decide +kernel
theorem nd_Te_readSentence_10 : decode nc_Te_readSentence 10 = .ok (.getfield 23, 3) := by decide +kernel
theorem nd_Te_readSentence_13 : decode nc_Te_readSentence 13 = .ok (.istore_n 3, 1) := by decide +kernel
theorem nd_Te_readSentence_14 : decode nc_Te_readSentence 14 = .ok (.aload_n 0, 1) := by decide +kernel
theorem nd_Te_readSentence_15 : decode nc_Te_readSentence 15 = .ok (.getfield 23, 3) := by decide +kernel
theorem nd_Te_readSentence_18 : decode nc_Te_readSentence 18 = .ok (.istore 4, 2) := by decide +kernel
theorem nd_Te_readSentence_20 : decode nc_Te_readSentence 20 = .ok (.iconst 1, 1) := by decide +kernel
theorem nd_Te_readSentence_21 : decode nc_Te_readSentence 21 = .ok (.istore 5, 2) := by decide +kernel
theorem nd_Te_readSentence_23 : decode nc_Te_readSentence 23 = .ok (.iconst 0, 1) := by decide +kernel
theorem nd_Te_readSentence_24 : decode nc_Te_readSentence 24 = .ok (.istore 6, 2) := by decide +kernel
theorem nd_Te_readSentence_26 : decode nc_Te_readSentence 26 = .ok (.iload 6, 2) := by decide +kernel
theorem nd_Te_readSentence_28 : decode nc_Te_readSentence 28 = .ok (.bipush 6, 2) := by decide +kernel
theorem nd_Te_readSentence_30 : decode nc_Te_readSentence 30 = .ok (.if_icmp .ge 81, 3) := by decide +kernel
theorem nd_Te_readSentence_33 : decode nc_Te_readSentence 33 = .ok (.iload 5, 2) := by decide +kernel
theorem nd_Te_readSentence_35 : decode nc_Te_readSentence 35 = .ok (.ifCond .eq 76, 3) := by decide +kernel
theorem nd_Te_readSentence_38 : decode nc_Te_readSentence 38 = .ok (.aload_n 0, 1) := by decide +kernel
theorem nd_Te_readSentence_39 : decode nc_Te_readSentence 39 = .ok (.invokevirtual 52, 3) := by decide +kernel
theorem nd_Te_readSentence_42 : decode nc_Te_readSentence 42 = .ok (.invokestatic 56, 3) := by decide +kernel
theorem nd_Te_readSentence_45 : decode nc_Te_readSentence 45 = .ok (.ifCond .eq 66, 3) := by decide +kernel
theorem nd_Te_readSentence_48 : decode nc_Te_readSentence 48 = .ok (.aload_n 0, 1) := by decide +kernel
theorem nd_Te_readSentence_49 : decode nc_Te_readSentence 49 = .ok (.getfield 23, 3) := by decide +kernel
theorem nd_Te_readSentence_52 : decode nc_Te_readSentence 52 = .ok (.istore 7, 2) := by decide +kernel
theorem nd_Te_readSentence_54 : decode nc_Te_readSentence 54 = .ok (.aload_n 0, 1) := by decide +kernel
theorem nd_Te_readSentence_55 : decode nc_Te_readSentence 55 = .ok (.invokevirtual 60, 3) := by decide +kernel
theorem nd_Te_readSentence_58 : decode nc_Te_readSentence 58 = .ok (.aload_n 0, 1) := by decide +kernel
theorem nd_Te_readSentence_59 : decode nc_Te_readSentence 59 = .ok (.aload_n 1, 1) := by decide +kernel
theorem nd_Te_readSentence_60 : decode nc_Te_readSentence 60 = .ok (.iload 7, 2) := by decide +kernel
theorem nd_Te_readSentence_62 : decode nc_Te_readSentence 62 = .ok (.iload_n 3, 1) := by decide +kernel
theorem nd_Te_readSentence_63 : decode nc_Te_readSentence 63 = .ok (.iload 4, 2) := by decide +kernel
theorem nd_Te_readSentence_65 : decode nc_Te_readSentence 65 = .ok (.invokevirtual 63, 3) := by decide +kernel
theorem nd_Te_readSentence_68 : decode nc_Te_readSentence 68 = .ok (.iload 7, 2) := by decide +kernel
theorem nd_Te_readSentence_70 : decode nc_Te_readSentence 70 = .ok (.istore_n 3, 1) := by decide +kernel
theorem nd_Te_readSentence_71 : decode nc_Te_readSentence 71 = .ok (.aload_n 0, 1) := by decide +kernel
theorem nd_Te_readSentence_72 : decode nc_Te_readSentence 72 = .ok (.getfield 23, 3) := by decide +kernel
theorem nd_Te_readSentence_75 : decode nc_Te_readSentence 75 = .ok (.istore 4, 2) := by decide +kernel
theorem nd_Te_readSentence_77 : decode nc_Te_readSentence 77 = .ok (.iload_n 2, 1) := by decide +kernel
theorem nd_Te_readSentence_78 : decode nc_Te_readSentence 78 = .ok (.ifCond .eq 13, 3) := by decide +kernel
theorem nd_Te_readSentence_81 : decode nc_Te_readSentence 81 = .ok (.aload_n 0, 1) := by decide +kernel
theorem nd_Te_readSentence_82 : decode nc_Te_readSentence 82 = .ok (.aload_n 1, 1) := by decide +kernel
theorem nd_Te_readSentence_83 : decode nc_Te_readSentence 83 = .ok (.invokevirtual 67, 3) := by decide +kernel
theorem nd_Te_readSentence_86 : decode nc_Te_readSentence 86 = .ok (.ifCond .ne 5, 3) := by decide +kernel
theorem nd_Te_readSentence_89 : decode nc_Te_readSentence 89 = .ok (.iconst 0, 1) := by decide +kernel
theorem nd_Te_readSentence_90 : decode nc_Te_readSentence 90 = .ok (.ireturn, 1) := by decide +kernel
theorem nd_Te_readSentence_91 : decode nc_Te_readSentence 91 = .ok (.aload_n 1, 1) := by decide +kernel
theorem nd_Te_readSentence_92 : decode nc_Te_readSentence 92 = .ok (.iload 6, 2) := by decide +kernel
theorem nd_Te_readSentence_94 : decode nc_Te_readSentence 94 = .ok (.iconst 1, 1) := by decide +kernel
theorem nd_Te_readSentence_95 : decode nc_Te_readSentence 95 = .ok (.iadd, 1) := by decide +kernel
theorem nd_Te_readSentence_96 : decode nc_Te_readSentence 96 = .ok (.putfield 71, 3) := by decide +kernel
theorem nd_Te_readSentence_99 : decode nc_Te_readSentence 99 = .ok (.aload_n 0, 1) := by decide +kernel
theorem nd_Te_readSentence_100 : decode nc_Te_readSentence 100 = .ok (.invokevirtual 48, 3) := by decide +kernel
theorem nd_Te_readSentence_103 : decode nc_Te_readSentence 103 = .ok (.istore 5, 2) := by decide +kernel
theorem nd_Te_readSentence_105 : decode nc_Te_readSentence 105 = .ok (.iinc 6 1, 3) := by decide +kernel
theorem nd_Te_readSentence_108 : decode nc_Te_readSentence 108 = .ok (.goto (-82), 3) := by decide +kernel
theorem nd_Te_readSentence_111 : decode nc_Te_readSentence 111 = .ok (.aload_n 1, 1) := by decide +kernel
theorem nd_Te_readSentence_112 : decode nc_Te_readSentence 112 = .ok (.getfield 71, 3) := by decide +kernel
theorem nd_Te_readSentence_115 : decode nc_Te_readSentence 115 = .ok (.ifCond .le 7, 3) := by decide +kernel
theorem nd_Te_readSentence_118 : decode nc_Te_readSentence 118 = .ok (.iconst 1, 1) := by decide +kernel
theorem nd_Te_readSentence_119 : decode nc_Te_readSentence 119 = .ok (.goto 4, 3) := by decide +kernel
theorem nd_Te_readSentence_122 : decode nc_Te_readSentence 122 = .ok (.iconst 0, 1) := by decide +kernel
theorem nd_Te_readSentence_123 : decode nc_Te_readSentence 123 = .ok (.ireturn, 1) := by decide +kernel
theorem nd_Te_setFeatures_0 : decode nc_Te_setFeatures 0 = .ok (.iload_n 2, 1) := by decide +kernel
theorem nd_Te_setFeatures_1 : decode nc_Te_setFeatures 1 = .ok (.aload_n 0, 1) := by decide +kernel
theorem nd_Te_setFeatures_2 : decode nc_Te_setFeatures 2 = .ok (.getfield 23, 3) := by decide +kernel
theorem nd_Te_setFeatures_5 : decode nc_Te_setFeatures 5 = .ok (.iconst 2, 1) := by decide +kernel
theorem nd_Te_setFeatures_6 : decode nc_Te_setFeatures 6 = .ok (.isub, 1) := by decide +kernel
theorem nd_Te_setFeatures_7 : decode nc_Te_setFeatures 7 = .ok (.invokestatic 72, 3) := by decide +kernel
theorem nd_Te_setFeatures_10 : decode nc_Te_setFeatures 10 = .ok (.istore 5, 2) := by decide +kernel
theorem nd_Te_setFeatures_12 : decode nc_Te_setFeatures 12 = .ok (.aload_n 1, 1) := by decide +kernel
theorem nd_Te_setFeatures_13 : decode nc_Te_setFeatures 13 = .ok (.aload_n 1, 1) := by decide +kernel
theorem nd_Te_setFeatures_14 : decode nc_Te_setFeatures 14 = .ok (.getfield 71, 3) := by decide +kernel
theorem nd_Te_setFeatures_17 : decode nc_Te_setFeatures 17 = .ok (.iconst 0, 1) := by decide +kernel
theorem nd_Te_setFeatures_18 : decode nc_Te_setFeatures 18 = .ok (.aload_n 0, 1) := by decide +kernel
theorem nd_Te_setFeatures_19 : decode nc_Te_setFeatures 19 = .ok (.bipush 7, 2) := by decide +kernel
theorem nd_Te_setFeatures_21 : decode nc_Te_setFeatures 21 = .ok (.iload_n 2, 1) := by decide +kernel
theorem nd_Te_setFeatures_22 : decode nc_Te_setFeatures 22 = .ok (.aload_n 0, 1) := by decide +kernel
theorem nd_Te_setFeatures_23 : decode nc_Te_setFeatures 23 = .ok (.getfield 23, 3) := by decide +kernel
theorem nd_Te_setFeatures_26 : decode nc_Te_setFeatures 26 = .ok (.invokevirtual 78, 3) := by decide +kernel
theorem nd_Te_setFeatures_29 : decode nc_Te_setFeatures 29 = .ok (.invokestatic 82, 3) := by decide +kernel
theorem nd_Te_setFeatures_32 : decode nc_Te_setFeatures 32 = .ok (.invokevirtual 86, 3) := by decide +kernel
theorem nd_Te_setFeatures_35 : decode nc_Te_setFeatures 35 = .ok (.aload_n 1, 1) := by decide +kernel
theorem nd_Te_setFeatures_36 : decode nc_Te_setFeatures 36 = .ok (.aload_n 1, 1) := by decide +kernel
theorem nd_Te_setFeatures_37 : decode nc_Te_setFeatures 37 = .ok (.getfield 71, 3) := by decide +kernel
theorem nd_Te_setFeatures_40 : decode nc_Te_setFeatures 40 = .ok (.iconst 1, 1) := by decide +kernel
theorem nd_Te_setFeatures_41 : decode nc_Te_setFeatures 41 = .ok (.aload_n 0, 1) := by decide +kernel
theorem nd_Te_setFeatures_42 : decode nc_Te_setFeatures 42 = .ok (.bipush 7, 2) := by decide +kernel
theorem nd_Te_setFeatures_44 : decode nc_Te_setFeatures 44 = .ok (.bipush 45, 2) := by decide +kernel
theorem nd_Te_setFeatures_46 : decode nc_Te_setFeatures 46 = .ok (.invokestatic 90, 3) := by decide +kernel
theorem nd_Te_setFeatures_49 : decode nc_Te_setFeatures 49 = .ok (.iload 5, 2) := by decide +kernel
theorem nd_Te_setFeatures_51 : decode nc_Te_setFeatures 51 = .ok (.aload_n 0, 1) := by decide +kernel
theorem nd_Te_setFeatures_52 : decode nc_Te_setFeatures 52 = .ok (.getfield 23, 3) := by decide +kernel
theorem nd_Te_setFeatures_55 : decode nc_Te_setFeatures 55 = .ok (.invokevirtual 78, 3) := by decide +kernel
theorem nd_Te_setFeatures_58 : decode nc_Te_setFeatures 58 = .ok (.invokestatic 82, 3) := by decide +kernel
theorem nd_Te_setFeatures_61 : decode nc_Te_setFeatures 61 = .ok (.invokevirtual 86, 3) := by decide +kernel
theorem nd_Te_setFeatures_64 : decode nc_Te_setFeatures 64 = .ok (.aload_n 1, 1) := by decide +kernel
theorem nd_Te_setFeatures_65 : decode nc_Te_setFeatures 65 = .ok (.aload_n 1, 1) := by decide +kernel
theorem nd_Te_setFeatures_66 : decode nc_Te_setFeatures 66 = .ok (.getfield 71, 3) := by decide +kernel
theorem nd_Te_setFeatures_69 : decode nc_Te_setFeatures 69 = .ok (.iconst 2, 1) := by decide +kernel
theorem nd_Te_setFeatures_70 : decode nc_Te_setFeatures 70 = .ok (.aload_n 0, 1) := by decide +kernel
theorem nd_Te_setFeatures_71 : decode nc_Te_setFeatures 71 = .ok (.bipush 7, 2) := by decide +kernel
theorem nd_Te_setFeatures_73 : decode nc_Te_setFeatures 73 = .ok (.bipush 60, 2) := by decide +kernel
theorem nd_Te_setFeatures_75 : decode nc_Te_setFeatures 75 = .ok (.invokestatic 90, 3) := by decide +kernel
theorem nd_Te_setFeatures_78 : decode nc_Te_setFeatures 78 = .ok (.iload_n 3, 1) := by decide +kernel
theorem nd_Te_setFeatures_79 : decode nc_Te_setFeatures 79 = .ok (.iload 4, 2) := by decide +kernel
theorem nd_Te_setFeatures_81 : decode nc_Te_setFeatures 81 = .ok (.invokevirtual 78, 3) := by decide +kernel
theorem nd_Te_setFeatures_84 : decode nc_Te_setFeatures 84 = .ok (.invokestatic 82, 3) := by decide +kernel
theorem nd_Te_setFeatures_87 : decode nc_Te_setFeatures 87 = .ok (.invokevirtual 86, 3) := by decide +kernel
theorem nd_Te_setFeatures_90 : decode nc_Te_setFeatures 90 = .ok (.return_, 1) := by decide +kernel
theorem nd_Te_readLabel_0 : decode nc_Te_readLabel 0 = .ok (.aload_n 0, 1) := by decide +kernel
theorem nd_Te_readLabel_1 : decode nc_Te_readLabel 1 = .ok (.bipush 47, 2) := by decide +kernel
theorem nd_Te_readLabel_3 : decode nc_Te_readLabel 3 = .ok (.invokevirtual 39, 3) := by decide +kernel
theorem nd_Te_readLabel_6 : decode nc_Te_readLabel 6 = .ok (.ifCond .ne 5, 3) := by decide +kernel
theorem nd_Te_readLabel_9 : decode nc_Te_readLabel 9 = .ok (.iconst 0, 1) := by decide +kernel
theorem nd_Te_readLabel_10 : decode nc_Te_readLabel 10 = .ok (.ireturn, 1) := by decide +kernel
theorem nd_Te_readLabel_11 : decode nc_Te_readLabel 11 = .ok (.aload_n 0, 1) := by decide +kernel
theorem nd_Te_readLabel_12 : decode nc_Te_readLabel 12 = .ok (.invokevirtual 52, 3) := by decide +kernel
theorem nd_Te_readLabel_15 : decode nc_Te_readLabel 15 = .ok (.bipush 65, 2) := by decide +kernel
theorem nd_Te_readLabel_17 : decode nc_Te_readLabel 17 = .ok (.isub, 1) := by decide +kernel
theorem nd_Te_readLabel_18 : decode nc_Te_readLabel 18 = .ok (.istore_n 2, 1) := by decide +kernel
theorem nd_Te_readLabel_19 : decode nc_Te_readLabel 19 = .ok (.iload_n 2, 1) := by decide +kernel
theorem nd_Te_readLabel_20 : decode nc_Te_readLabel 20 = .ok (.ifCond .lt 8, 3) := by decide +kernel
theorem nd_Te_readLabel_23 : decode nc_Te_readLabel 23 = .ok (.iload_n 2, 1) := by decide +kernel
theorem nd_Te_readLabel_24 : decode nc_Te_readLabel 24 = .ok (.iconst 4, 1) := by decide +kernel
theorem nd_Te_readLabel_25 : decode nc_Te_readLabel 25 = .ok (.if_icmp .lt 5, 3) := by decide +kernel
theorem nd_Te_readLabel_28 : decode nc_Te_readLabel 28 = .ok (.iconst 0, 1) := by decide +kernel
theorem nd_Te_readLabel_29 : decode nc_Te_readLabel 29 = .ok (.ireturn, 1) := by decide +kernel
theorem nd_Te_readLabel_30 : decode nc_Te_readLabel 30 = .ok (.aload_n 0, 1) := by decide +kernel
theorem nd_Te_readLabel_31 : decode nc_Te_readLabel 31 = .ok (.dup, 1) := by decide +kernel
theorem nd_Te_readLabel_32 : decode nc_Te_readLabel 32 = .ok (.getfield 23, 3) := by decide +kernel
theorem nd_Te_readLabel_35 : decode nc_Te_readLabel 35 = .ok (.iconst 1, 1) := by decide +kernel
theorem nd_Te_readLabel_36 : decode nc_Te_readLabel 36 = .ok (.iadd, 1) := by decide +kernel
theorem nd_Te_readLabel_37 : decode nc_Te_readLabel 37 = .ok (.putfield 23, 3) := by decide +kernel
theorem nd_Te_readLabel_40 : decode nc_Te_readLabel 40 = .ok (.aload_n 1, 1) := by decide +kernel
theorem nd_Te_readLabel_41 : decode nc_Te_readLabel 41 = .ok (.dup, 1) := by decide +kernel
theorem nd_Te_readLabel_42 : decode nc_Te_readLabel 42 = .ok (.getfield 94, 3) := by decide +kernel
theorem nd_Te_readLabel_45 : decode nc_Te_readLabel 45 = .ok (.iload_n 2, 1) := by decide +kernel
theorem nd_Te_readLabel_46 : decode nc_Te_readLabel 46 = .ok (.iconst 2, 1) := by decide +kernel
theorem nd_Te_readLabel_47 : decode nc_Te_readLabel 47 = .ok (.aload_n 1, 1) := by decide +kernel
theorem nd_Te_readLabel_48 : decode nc_Te_readLabel 48 = .ok (.getfield 71, 3) := by decide +kernel
theorem nd_Te_readLabel_51 : decode nc_Te_readLabel 51 = .ok (.imul, 1) := by decide +kernel
theorem nd_Te_readLabel_52 : decode nc_Te_readLabel 52 = .ok (.ishl, 1) := by decide +kernel
theorem nd_Te_readLabel_53 : decode nc_Te_readLabel 53 = .ok (.ior, 1) := by decide +kernel
theorem nd_Te_readLabel_54 : decode nc_Te_readLabel 54 = .ok (.putfield 94, 3) := by decide +kernel
theorem nd_Te_readLabel_57 : decode nc_Te_readLabel 57 = .ok (.iconst 1, 1) := by decide +kernel
theorem nd_Te_readLabel_58 : decode nc_Te_readLabel 58 = .ok (.ireturn, 1) := by decide +kernel
theorem nd_Te_take_0 : decode nc_Te_take 0 = .ok (.aload_n 0, 1) := by decide +kernel
theorem nd_Te_take_1 : decode nc_Te_take 1 = .ok (.invokevirtual 52, 3) := by decide +kernel
theorem nd_Te_take_4 : decode nc_Te_take 4 = .ok (.iload_n 1, 1) := by decide +kernel
theorem nd_Te_take_5 : decode nc_Te_take 5 = .ok (.if_icmp .eq 5, 3) := by decide +kernel
theorem nd_Te_take_8 : decode nc_Te_take 8 = .ok (.iconst 0, 1) := by decide +kernel
theorem nd_Te_take_9 : decode nc_Te_take 9 = .ok (.ireturn, 1) := by decide +kernel
theorem nd_Te_take_10 : decode nc_Te_take 10 = .ok (.aload_n 0, 1) := by decide +kernel
theorem nd_Te_take_11 : decode nc_Te_take 11 = .ok (.dup, 1) := by decide +kernel
theorem nd_Te_take_12 : decode nc_Te_take 12 = .ok (.getfield 23, 3) := by decide +kernel
theorem nd_Te_take_15 : decode nc_Te_take 15 = .ok (.iconst 1, 1) := by decide +kernel
theorem nd_Te_take_16 : decode nc_Te_take 16 = .ok (.iadd, 1) := by decide +kernel
theorem nd_Te_take_17 : decode nc_Te_take 17 = .ok (.putfield 23, 3) := by decide +kernel
theorem nd_Te_take_20 : decode nc_Te_take 20 = .ok (.iconst 1, 1) := by decide +kernel
theorem nd_Te_take_21 : decode nc_Te_take 21 = .ok (.ireturn, 1) := by decide +kernel
theorem nd_Te_skipSpaces_0 : decode nc_Te_skipSpaces 0 = .ok (.aload_n 0, 1) := by decide +kernel
theorem nd_Te_skipSpaces_1 : decode nc_Te_skipSpaces 1 = .ok (.getfield 23, 3) := by decide +kernel
theorem nd_Te_skipSpaces_4 : decode nc_Te_skipSpaces 4 = .ok (.istore_n 1, 1) := by decide +kernel
theorem nd_Te_skipSpaces_5 : decode nc_Te_skipSpaces 5 = .ok (.aload_n 0, 1) := by decide +kernel
theorem nd_Te_skipSpaces_6 : decode nc_Te_skipSpaces 6 = .ok (.getfield 23, 3) := by decide +kernel
theorem nd_Te_skipSpaces_9 : decode nc_Te_skipSpaces 9 = .ok (.aload_n 0, 1) := by decide +kernel
theorem nd_Te_skipSpaces_10 : decode nc_Te_skipSpaces 10 = .ok (.getfield 15, 3) := by decide +kernel
theorem nd_Te_skipSpaces_13 : decode nc_Te_skipSpaces 13 = .ok (.if_icmp .ge 25, 3) := by decide +kernel
theorem nd_Te_skipSpaces_16 : decode nc_Te_skipSpaces 16 = .ok (.aload_n 0, 1) := by decide +kernel
theorem nd_Te_skipSpaces_17 : decode nc_Te_skipSpaces 17 = .ok (.invokevirtual 52, 3) := by decide +kernel
theorem nd_Te_skipSpaces_20 : decode nc_Te_skipSpaces 20 = .ok (.bipush 32, 2) := by decide +kernel
theorem nd_Te_skipSpaces_22 : decode nc_Te_skipSpaces 22 = .ok (.if_icmp .ne 16, 3) := by decide +kernel
theorem nd_Te_skipSpaces_25 : decode nc_Te_skipSpaces 25 = .ok (.aload_n 0, 1) := by decide +kernel
theorem nd_Te_skipSpaces_26 : decode nc_Te_skipSpaces 26 = .ok (.dup, 1) := by decide +kernel
theorem nd_Te_skipSpaces_27 : decode nc_Te_skipSpaces 27 = .ok (.getfield 23, 3) := by decide +kernel
theorem nd_Te_skipSpaces_30 : decode nc_Te_skipSpaces 30 = .ok (.iconst 1, 1) := by decide +kernel
theorem nd_Te_skipSpaces_31 : decode nc_Te_skipSpaces 31 = .ok (.iadd, 1) := by decide +kernel
theorem nd_Te_skipSpaces_32 : decode nc_Te_skipSpaces 32 = .ok (.putfield 23, 3) := by decide +kernel
theorem nd_Te_skipSpaces_35 : decode nc_Te_skipSpaces 35 = .ok (.goto (-30), 3) := by decide +kernel
theorem nd_Te_skipSpaces_38 : decode nc_Te_skipSpaces 38 = .ok (.aload_n 0, 1) := by decide +kernel
theorem nd_Te_skipSpaces_39 : decode nc_Te_skipSpaces 39 = .ok (.getfield 23, 3) := by decide +kernel
theorem nd_Te_skipSpaces_42 : decode nc_Te_skipSpaces 42 = .ok (.iload_n 1, 1) := by decide +kernel
theorem nd_Te_skipSpaces_43 : decode nc_Te_skipSpaces 43 = .ok (.if_icmp .le 7, 3) := by decide +kernel
theorem nd_Te_skipSpaces_46 : decode nc_Te_skipSpaces 46 = .ok (.iconst 1, 1) := by decide +kernel
theorem nd_Te_skipSpaces_47 : decode nc_Te_skipSpaces 47 = .ok (.goto 4, 3) := by decide +kernel
theorem nd_Te_skipSpaces_50 : decode nc_Te_skipSpaces 50 = .ok (.iconst 0, 1) := by decide +kernel
theorem nd_Te_skipSpaces_51 : decode nc_Te_skipSpaces 51 = .ok (.ireturn, 1) := by decide +kernel
theorem nd_Te_skipLetters_0 : decode nc_Te_skipLetters 0 = .ok (.iconst 0, 1) := by decide +kernel
theorem nd_Te_skipLetters_1 : decode nc_Te_skipLetters 1 = .ok (.istore_n 1, 1) := by decide +kernel
theorem nd_Te_skipLetters_2 : decode nc_Te_skipLetters 2 = .ok (.iload_n 1, 1) := by decide +kernel
theorem nd_Te_skipLetters_3 : decode nc_Te_skipLetters 3 = .ok (.bipush 6, 2) := by decide +kernel
theorem nd_Te_skipLetters_5 : decode nc_Te_skipLetters 5 = .ok (.if_icmp .ge 29, 3) := by decide +kernel
theorem nd_Te_skipLetters_8 : decode nc_Te_skipLetters 8 = .ok (.aload_n 0, 1) := by decide +kernel
theorem nd_Te_skipLetters_9 : decode nc_Te_skipLetters 9 = .ok (.invokevirtual 52, 3) := by decide +kernel
theorem nd_Te_skipLetters_12 : decode nc_Te_skipLetters 12 = .ok (.invokestatic 56, 3) := by decide +kernel
theorem nd_Te_skipLetters_15 : decode nc_Te_skipLetters 15 = .ok (.ifCond .eq 19, 3) := by decide +kernel
theorem nd_Te_skipLetters_18 : decode nc_Te_skipLetters 18 = .ok (.aload_n 0, 1) := by decide +kernel
theorem nd_Te_skipLetters_19 : decode nc_Te_skipLetters 19 = .ok (.dup, 1) := by decide +kernel
theorem nd_Te_skipLetters_20 : decode nc_Te_skipLetters 20 = .ok (.getfield 23, 3) := by decide +kernel
theorem nd_Te_skipLetters_23 : decode nc_Te_skipLetters 23 = .ok (.iconst 1, 1) := by decide +kernel
theorem nd_Te_skipLetters_24 : decode nc_Te_skipLetters 24 = .ok (.iadd, 1) := by decide +kernel
theorem nd_Te_skipLetters_25 : decode nc_Te_skipLetters 25 = .ok (.putfield 23, 3) := by decide +kernel
theorem nd_Te_skipLetters_28 : decode nc_Te_skipLetters 28 = .ok (.iinc 1 1, 3) := by decide +kernel
theorem nd_Te_skipLetters_31 : decode nc_Te_skipLetters 31 = .ok (.goto (-29), 3) := by decide +kernel
theorem nd_Te_skipLetters_34 : decode nc_Te_skipLetters 34 = .ok (.return_, 1) := by decide +kernel
theorem nd_Te_current_0 : decode nc_Te_current 0 = .ok (.aload_n 0, 1) := by decide +kernel
theorem nd_Te_current_1 : decode nc_Te_current 1 = .ok (.getfield 23, 3) := by decide +kernel
theorem nd_Te_current_4 : decode nc_Te_current 4 = .ok (.aload_n 0, 1) := by decide +kernel
theorem nd_Te_current_5 : decode nc_Te_current 5 = .ok (.getfield 15, 3) := by decide +kernel
theorem nd_Te_current_8 : decode nc_Te_current 8 = .ok (.if_icmp .ge 15, 3) := by decide +kernel
theorem nd_Te_current_11 : decode nc_Te_current 11 = .ok (.aload_n 0, 1) := by decide +kernel
theorem nd_Te_current_12 : decode nc_Te_current 12 = .ok (.getfield 9, 3) := by decide +kernel
theorem nd_Te_current_15 : decode nc_Te_current 15 = .ok (.aload_n 0, 1) := by decide +kernel
theorem nd_Te_current_16 : decode nc_Te_current 16 = .ok (.getfield 23, 3) := by decide +kernel
theorem nd_Te_current_19 : decode nc_Te_current 19 = .ok (.caload, 1) := by decide +kernel
theorem nd_Te_current_20 : decode nc_Te_current 20 = .ok (.goto 4, 3) := by decide +kernel
theorem nd_Te_current_23 : decode nc_Te_current 23 = .ok (.iconst (-1), 1) := by decide +kernel
theorem nd_Te_current_24 : decode nc_Te_current 24 = .ok (.ireturn, 1) := by decide +kernel
theorem nd_Te_hash_0 : decode nc_Te_hash 0 = .ok (.iload_n 1, 1) := by decide +kernel
theorem nd_Te_hash_1 : decode nc_Te_hash 1 = .ok (.istore 4, 2) := by decide +kernel
theorem nd_Te_hash_3 : decode nc_Te_hash 3 = .ok (.iload_n 2, 1) := by decide +kernel
theorem nd_Te_hash_4 : decode nc_Te_hash 4 = .ok (.istore 5, 2) := by decide +kernel
theorem nd_Te_hash_6 : decode nc_Te_hash 6 = .ok (.iload 5, 2) := by decide +kernel
theorem nd_Te_hash_8 : decode nc_Te_hash 8 = .ok (.iload_n 3, 1) := by decide +kernel
theorem nd_Te_hash_9 : decode nc_Te_hash 9 = .ok (.if_icmp .ge 23, 3) := by decide +kernel
theorem nd_Te_hash_12 : decode nc_Te_hash 12 = .ok (.iload 4, 2) := by decide +kernel
theorem nd_Te_hash_14 : decode nc_Te_hash 14 = .ok (.aload_n 0, 1) := by decide +kernel
theorem nd_Te_hash_15 : decode nc_Te_hash 15 = .ok (.getfield 9, 3) := by decide +kernel
theorem nd_Te_hash_18 : decode nc_Te_hash 18 = .ok (.iload 5, 2) := by decide +kernel
theorem nd_Te_hash_20 : decode nc_Te_hash 20 = .ok (.caload, 1) := by decide +kernel
theorem nd_Te_hash_21 : decode nc_Te_hash 21 = .ok (.invokestatic 90, 3) := by decide +kernel
theorem nd_Te_hash_24 : decode nc_Te_hash 24 = .ok (.istore 4, 2) := by decide +kernel
theorem nd_Te_hash_26 : decode nc_Te_hash 26 = .ok (.iinc 5 1, 3) := by decide +kernel
theorem nd_Te_hash_29 : decode nc_Te_hash 29 = .ok (.goto (-23), 3) := by decide +kernel
theorem nd_Te_hash_32 : decode nc_Te_hash 32 = .ok (.iload 4, 2) := by decide +kernel
theorem nd_Te_hash_34 : decode nc_Te_hash 34 = .ok (.ireturn, 1) := by decide +kernel
theorem nd_Te_mix_0 : decode nc_Te_mix 0 = .ok (.bipush 31, 2) := by decide +kernel
theorem nd_Te_mix_2 : decode nc_Te_mix 2 = .ok (.iload_n 0, 1) := by decide +kernel
theorem nd_Te_mix_3 : decode nc_Te_mix 3 = .ok (.imul, 1) := by decide +kernel
theorem nd_Te_mix_4 : decode nc_Te_mix 4 = .ok (.iload_n 1, 1) := by decide +kernel
theorem nd_Te_mix_5 : decode nc_Te_mix 5 = .ok (.iadd, 1) := by decide +kernel
theorem nd_Te_mix_6 : decode nc_Te_mix 6 = .ok (.ireturn, 1) := by decide +kernel
theorem nd_Te_bucket_0 : decode nc_Te_bucket 0 = .ok (.iload_n 0, 1) := by decide +kernel
theorem nd_Te_bucket_1 : decode nc_Te_bucket 1 = .ok (.iload_n 0, 1) := by decide +kernel
theorem nd_Te_bucket_2 : decode nc_Te_bucket 2 = .ok (.bipush 15, 2) := by decide +kernel
theorem nd_Te_bucket_4 : decode nc_Te_bucket 4 = .ok (.iushr, 1) := by decide +kernel
theorem nd_Te_bucket_5 : decode nc_Te_bucket 5 = .ok (.ixor, 1) := by decide +kernel
theorem nd_Te_bucket_6 : decode nc_Te_bucket 6 = .ok (.bipush 31, 2) := by decide +kernel
theorem nd_Te_bucket_8 : decode nc_Te_bucket 8 = .ok (.iand, 1) := by decide +kernel
theorem nd_Te_bucket_9 : decode nc_Te_bucket 9 = .ok (.ireturn, 1) := by decide +kernel
theorem nd_Te_isLetter_0 : decode nc_Te_isLetter 0 = .ok (.iload_n 0, 1) := by decide +kernel
theorem nd_Te_isLetter_1 : decode nc_Te_isLetter 1 = .ok (.bipush 97, 2) := by decide +kernel
theorem nd_Te_isLetter_3 : decode nc_Te_isLetter 3 = .ok (.if_icmp .lt 13, 3) := by decide +kernel
theorem nd_Te_isLetter_6 : decode nc_Te_isLetter 6 = .ok (.iload_n 0, 1) := by decide +kernel
theorem nd_Te_isLetter_7 : decode nc_Te_isLetter 7 = .ok (.bipush 122, 2) := by decide +kernel
theorem nd_Te_isLetter_9 : decode nc_Te_isLetter 9 = .ok (.if_icmp .gt 7, 3) := by decide +kernel
theorem nd_Te_isLetter_12 : decode nc_Te_isLetter 12 = .ok (.iconst 1, 1) := by decide +kernel
theorem nd_Te_isLetter_13 : decode nc_Te_isLetter 13 = .ok (.goto 4, 3) := by decide +kernel
theorem nd_Te_isLetter_16 : decode nc_Te_isLetter 16 = .ok (.iconst 0, 1) := by decide +kernel
theorem nd_Te_isLetter_17 : decode nc_Te_isLetter 17 = .ok (.ireturn, 1) := by decide +kernel
theorem nd_We_init_0 : decode nc_We_init 0 = .ok (.aload_n 0, 1) := by decide +kernel
theorem nd_We_init_1 : decode nc_We_init 1 = .ok (.invokespecial 3, 3) := by decide +kernel
theorem nd_We_init_4 : decode nc_We_init 4 = .ok (.aload_n 0, 1) := by decide +kernel
theorem nd_We_init_5 : decode nc_We_init 5 = .ok (.sipush 148, 3) := by decide +kernel
theorem nd_We_init_8 : decode nc_We_init 8 = .ok (.newarray .long, 2) := by decide +kernel
theorem nd_We_init_10 : decode nc_We_init 10 = .ok (.putfield 9, 3) := by decide +kernel
theorem nd_We_init_13 : decode nc_We_init 13 = .ok (.return_, 1) := by decide +kernel
theorem nd_We_at_0 : decode nc_We_at 0 = .ok (.aload_n 0, 1) := by decide +kernel
theorem nd_We_at_1 : decode nc_We_at 1 = .ok (.getfield 9, 3) := by decide +kernel
theorem nd_We_at_4 : decode nc_We_at 4 = .ok (.iload_n 1, 1) := by decide +kernel
theorem nd_We_at_5 : decode nc_We_at 5 = .ok (.iconst 4, 1) := by decide +kernel
theorem nd_We_at_6 : decode nc_We_at 6 = .ok (.imul, 1) := by decide +kernel
theorem nd_We_at_7 : decode nc_We_at 7 = .ok (.iload_n 2, 1) := by decide +kernel
theorem nd_We_at_8 : decode nc_We_at 8 = .ok (.iadd, 1) := by decide +kernel
theorem nd_We_at_9 : decode nc_We_at 9 = .ok (.laload, 1) := by decide +kernel
theorem nd_We_at_10 : decode nc_We_at 10 = .ok (.lreturn, 1) := by decide +kernel
theorem nd_We_add_0 : decode nc_We_add 0 = .ok (.aload_n 0, 1) := by decide +kernel
theorem nd_We_add_1 : decode nc_We_add 1 = .ok (.getfield 9, 3) := by decide +kernel
theorem nd_We_add_4 : decode nc_We_add 4 = .ok (.iload_n 1, 1) := by decide +kernel
theorem nd_We_add_5 : decode nc_We_add 5 = .ok (.iconst 4, 1) := by decide +kernel
theorem nd_We_add_6 : decode nc_We_add 6 = .ok (.imul, 1) := by decide +kernel
theorem nd_We_add_7 : decode nc_We_add 7 = .ok (.iload_n 2, 1) := by decide +kernel
theorem nd_We_add_8 : decode nc_We_add 8 = .ok (.iadd, 1) := by decide +kernel
theorem nd_We_add_9 : decode nc_We_add 9 = .ok (.dup2, 1) := by decide +kernel
theorem nd_We_add_10 : decode nc_We_add 10 = .ok (.laload, 1) := by decide +kernel
theorem nd_We_add_11 : decode nc_We_add 11 = .ok (.lload_n 3, 1) := by decide +kernel
theorem nd_We_add_12 : decode nc_We_add 12 = .ok (.ladd, 1) := by decide +kernel
theorem nd_We_add_13 : decode nc_We_add 13 = .ok (.lastore, 1) := by decide +kernel
theorem nd_We_add_14 : decode nc_We_add 14 = .ok (.return_, 1) := by decide +kernel
theorem nd_We_clear_0 : decode nc_We_clear 0 = .ok (.iconst 0, 1) := by decide +kernel
theorem nd_We_clear_1 : decode nc_We_clear 1 = .ok (.istore_n 1, 1) := by decide +kernel
theorem nd_We_clear_2 : decode nc_We_clear 2 = .ok (.iload_n 1, 1) := by decide +kernel
theorem nd_We_clear_3 : decode nc_We_clear 3 = .ok (.aload_n 0, 1) := by decide +kernel
theorem nd_We_clear_4 : decode nc_We_clear 4 = .ok (.getfield 9, 3) := by decide +kernel
theorem nd_We_clear_7 : decode nc_We_clear 7 = .ok (.arraylength, 1) := by decide +kernel
theorem nd_We_clear_8 : decode nc_We_clear 8 = .ok (.if_icmp .ge 16, 3) := by decide +kernel
theorem nd_We_clear_11 : decode nc_We_clear 11 = .ok (.aload_n 0, 1) := by decide +kernel
theorem nd_We_clear_12 : decode nc_We_clear 12 = .ok (.getfield 9, 3) := by decide +kernel
theorem nd_We_clear_15 : decode nc_We_clear 15 = .ok (.iload_n 1, 1) := by decide +kernel
theorem nd_We_clear_16 : decode nc_We_clear 16 = .ok (.lconst 0, 1) := by decide +kernel
theorem nd_We_clear_17 : decode nc_We_clear 17 = .ok (.lastore, 1) := by decide +kernel
theorem nd_We_clear_18 : decode nc_We_clear 18 = .ok (.iinc 1 1, 3) := by decide +kernel
theorem nd_We_clear_21 : decode nc_We_clear 21 = .ok (.goto (-19), 3) := by decide +kernel
theorem nd_We_clear_24 : decode nc_We_clear 24 = .ok (.return_, 1) := by decide +kernel
end
section
theorem nd_We_addAll_0 : decode nc_We_addAll 0 = .ok (.iconst 0, 1) := by decide +kernel
theorem nd_We_addAll_1 : decode nc_We_addAll 1 = .ok (.istore_n 2, 1) := by decide +kernel
theorem nd_We_addAll_2 : decode nc_We_addAll 2 = .ok (.iload_n 2, 1) := by decide +kernel
theorem nd_We_addAll_3 : decode nc_We_addAll 3 = .ok (.aload_n 0, 1) := by decide +kernel
theorem nd_We_addAll_4 : decode nc_We_addAll 4 = .ok (.getfield 9, 3) := by decide +kernel
theorem nd_We_addAll_7 : decode nc_We_addAll 7 = .ok (.arraylength, 1) := by decide +kernel
theorem nd_We_addAll_8 : decode nc_We_addAll 8 = .ok (.if_icmp .ge 24, 3) := by decide +kernel
theorem nd_We_addAll_11 : decode nc_We_addAll 11 = .ok (.aload_n 0, 1) := by decide +kernel
theorem nd_We_addAll_12 : decode nc_We_addAll 12 = .ok (.getfield 9, 3) := by decide +kernel
theorem nd_We_addAll_15 : decode nc_We_addAll 15 = .ok (.iload_n 2, 1) := by decide +kernel
theorem nd_We_addAll_16 : decode nc_We_addAll 16 = .ok (.dup2, 1) := by decide +kernel
theorem nd_We_addAll_17 : decode nc_We_addAll 17 = .ok (.laload, 1) := by decide +kernel
theorem nd_We_addAll_18 : decode nc_We_addAll 18 = .ok (.aload_n 1, 1) := by decide +kernel
theorem nd_We_addAll_19 : decode nc_We_addAll 19 = .ok (.getfield 9, 3) := by decide +kernel
theorem nd_We_addAll_22 : decode nc_We_addAll 22 = .ok (.iload_n 2, 1) := by decide +kernel
theorem nd_We_addAll_23 : decode nc_We_addAll 23 = .ok (.laload, 1) := by decide +kernel
theorem nd_We_addAll_24 : decode nc_We_addAll 24 = .ok (.ladd, 1) := by decide +kernel
theorem nd_We_addAll_25 : decode nc_We_addAll 25 = .ok (.lastore, 1) := by decide +kernel
theorem nd_We_addAll_26 : decode nc_We_addAll 26 = .ok (.iinc 2 1, 3) := by decide +kernel
theorem nd_We_addAll_29 : decode nc_We_addAll 29 = .ok (.goto (-27), 3) := by decide +kernel
theorem nd_We_addAll_32 : decode nc_We_addAll 32 = .ok (.return_, 1) := by decide +kernel
theorem nd_We_ofWord_0 : decode nc_We_ofWord 0 = .ok (.lconst 0, 1) := by decide +kernel
theorem nd_We_ofWord_1 : decode nc_We_ofWord 1 = .ok (.lstore 4, 2) := by decide +kernel
theorem nd_We_ofWord_3 : decode nc_We_ofWord 3 = .ok (.iconst 0, 1) := by decide +kernel
theorem nd_We_ofWord_4 : decode nc_We_ofWord 4 = .ok (.istore 6, 2) := by decide +kernel
theorem nd_We_ofWord_6 : decode nc_We_ofWord 6 = .ok (.iload 6, 2) := by decide +kernel
theorem nd_We_ofWord_8 : decode nc_We_ofWord 8 = .ok (.iconst 3, 1) := by decide +kernel
theorem nd_We_ofWord_9 : decode nc_We_ofWord 9 = .ok (.if_icmp .ge 26, 3) := by decide +kernel
theorem nd_We_ofWord_12 : decode nc_We_ofWord 12 = .ok (.lload 4, 2) := by decide +kernel
theorem nd_We_ofWord_14 : decode nc_We_ofWord 14 = .ok (.aload_n 0, 1) := by decide +kernel
theorem nd_We_ofWord_15 : decode nc_We_ofWord 15 = .ok (.aload_n 1, 1) := by decide +kernel
theorem nd_We_ofWord_16 : decode nc_We_ofWord 16 = .ok (.iload_n 2, 1) := by decide +kernel
theorem nd_We_ofWord_17 : decode nc_We_ofWord 17 = .ok (.iload 6, 2) := by decide +kernel
theorem nd_We_ofWord_19 : decode nc_We_ofWord 19 = .ok (.invokevirtual 15, 3) := by decide +kernel
theorem nd_We_ofWord_22 : decode nc_We_ofWord 22 = .ok (.iload_n 3, 1) := by decide +kernel
theorem nd_We_ofWord_23 : decode nc_We_ofWord 23 = .ok (.invokevirtual 21, 3) := by decide +kernel
theorem nd_We_ofWord_26 : decode nc_We_ofWord 26 = .ok (.ladd, 1) := by decide +kernel
theorem nd_We_ofWord_27 : decode nc_We_ofWord 27 = .ok (.lstore 4, 2) := by decide +kernel
theorem nd_We_ofWord_29 : decode nc_We_ofWord 29 = .ok (.iinc 6 1, 3) := by decide +kernel
theorem nd_We_ofWord_32 : decode nc_We_ofWord 32 = .ok (.goto (-26), 3) := by decide +kernel
theorem nd_We_ofWord_35 : decode nc_We_ofWord 35 = .ok (.lload 4, 2) := by decide +kernel
theorem nd_We_ofWord_37 : decode nc_We_ofWord 37 = .ok (.lreturn, 1) := by decide +kernel
theorem nd_We_sum_0 : decode nc_We_sum 0 = .ok (.lconst 0, 1) := by decide +kernel
theorem nd_We_sum_1 : decode nc_We_sum 1 = .ok (.lstore_n 3, 1) := by decide +kernel
theorem nd_We_sum_2 : decode nc_We_sum 2 = .ok (.bipush 32, 2) := by decide +kernel
theorem nd_We_sum_4 : decode nc_We_sum 4 = .ok (.istore 5, 2) := by decide +kernel
theorem nd_We_sum_6 : decode nc_We_sum 6 = .ok (.iconst 0, 1) := by decide +kernel
theorem nd_We_sum_7 : decode nc_We_sum 7 = .ok (.istore 6, 2) := by decide +kernel
theorem nd_We_sum_9 : decode nc_We_sum 9 = .ok (.iload 6, 2) := by decide +kernel
theorem nd_We_sum_11 : decode nc_We_sum 11 = .ok (.aload_n 1, 1) := by decide +kernel
theorem nd_We_sum_12 : decode nc_We_sum 12 = .ok (.getfield 25, 3) := by decide +kernel
theorem nd_We_sum_15 : decode nc_We_sum 15 = .ok (.if_icmp .ge 45, 3) := by decide +kernel
theorem nd_We_sum_18 : decode nc_We_sum 18 = .ok (.iload_n 2, 1) := by decide +kernel
theorem nd_We_sum_19 : decode nc_We_sum 19 = .ok (.iload 6, 2) := by decide +kernel
theorem nd_We_sum_21 : decode nc_We_sum 21 = .ok (.invokestatic 29, 3) := by decide +kernel
theorem nd_We_sum_24 : decode nc_We_sum 24 = .ok (.istore 7, 2) := by decide +kernel
theorem nd_We_sum_26 : decode nc_We_sum 26 = .ok (.lload_n 3, 1) := by decide +kernel
theorem nd_We_sum_27 : decode nc_We_sum 27 = .ok (.aload_n 0, 1) := by decide +kernel
theorem nd_We_sum_28 : decode nc_We_sum 28 = .ok (.iload 5, 2) := by decide +kernel
theorem nd_We_sum_30 : decode nc_We_sum 30 = .ok (.iload 7, 2) := by decide +kernel
theorem nd_We_sum_32 : decode nc_We_sum 32 = .ok (.invokevirtual 21, 3) := by decide +kernel
theorem nd_We_sum_35 : decode nc_We_sum 35 = .ok (.aload_n 0, 1) := by decide +kernel
theorem nd_We_sum_36 : decode nc_We_sum 36 = .ok (.aload_n 1, 1) := by decide +kernel
theorem nd_We_sum_37 : decode nc_We_sum 37 = .ok (.iload 6, 2) := by decide +kernel
theorem nd_We_sum_39 : decode nc_We_sum 39 = .ok (.iload 7, 2) := by decide +kernel
theorem nd_We_sum_41 : decode nc_We_sum 41 = .ok (.invokevirtual 32, 3) := by decide +kernel
theorem nd_We_sum_44 : decode nc_We_sum 44 = .ok (.ladd, 1) := by decide +kernel
theorem nd_We_sum_45 : decode nc_We_sum 45 = .ok (.ladd, 1) := by decide +kernel
theorem nd_We_sum_46 : decode nc_We_sum 46 = .ok (.lstore_n 3, 1) := by decide +kernel
theorem nd_We_sum_47 : decode nc_We_sum 47 = .ok (.bipush 33, 2) := by decide +kernel
theorem nd_We_sum_49 : decode nc_We_sum 49 = .ok (.iload 7, 2) := by decide +kernel
theorem nd_We_sum_51 : decode nc_We_sum 51 = .ok (.iadd, 1) := by decide +kernel
theorem nd_We_sum_52 : decode nc_We_sum 52 = .ok (.istore 5, 2) := by decide +kernel
theorem nd_We_sum_54 : decode nc_We_sum 54 = .ok (.iinc 6 1, 3) := by decide +kernel
theorem nd_We_sum_57 : decode nc_We_sum 57 = .ok (.goto (-48), 3) := by decide +kernel
theorem nd_We_sum_60 : decode nc_We_sum 60 = .ok (.lload_n 3, 1) := by decide +kernel
theorem nd_We_sum_61 : decode nc_We_sum 61 = .ok (.lreturn, 1) := by decide +kernel
theorem nd_We_change_0 : decode nc_We_change 0 = .ok (.bipush 32, 2) := by decide +kernel
theorem nd_We_change_2 : decode nc_We_change 2 = .ok (.istore 5, 2) := by decide +kernel
theorem nd_We_change_4 : decode nc_We_change 4 = .ok (.iconst 0, 1) := by decide +kernel
theorem nd_We_change_5 : decode nc_We_change 5 = .ok (.istore 6, 2) := by decide +kernel
theorem nd_We_change_7 : decode nc_We_change 7 = .ok (.iload 6, 2) := by decide +kernel
theorem nd_We_change_9 : decode nc_We_change 9 = .ok (.aload_n 1, 1) := by decide +kernel
theorem nd_We_change_10 : decode nc_We_change 10 = .ok (.getfield 25, 3) := by decide +kernel
theorem nd_We_change_13 : decode nc_We_change 13 = .ok (.if_icmp .ge 63, 3) := by decide +kernel
theorem nd_We_change_16 : decode nc_We_change 16 = .ok (.iload_n 2, 1) := by decide +kernel
theorem nd_We_change_17 : decode nc_We_change 17 = .ok (.iload 6, 2) := by decide +kernel
theorem nd_We_change_19 : decode nc_We_change 19 = .ok (.invokestatic 29, 3) := by decide +kernel
theorem nd_We_change_22 : decode nc_We_change 22 = .ok (.istore 7, 2) := by decide +kernel
theorem nd_We_change_24 : decode nc_We_change 24 = .ok (.aload_n 0, 1) := by decide +kernel
theorem nd_We_change_25 : decode nc_We_change 25 = .ok (.iload 5, 2) := by decide +kernel
theorem nd_We_change_27 : decode nc_We_change 27 = .ok (.iload 7, 2) := by decide +kernel
theorem nd_We_change_29 : decode nc_We_change 29 = .ok (.lload_n 3, 1) := by decide +kernel
theorem nd_We_change_30 : decode nc_We_change 30 = .ok (.invokevirtual 36, 3) := by decide +kernel
theorem nd_We_change_33 : decode nc_We_change 33 = .ok (.iconst 0, 1) := by decide +kernel
theorem nd_We_change_34 : decode nc_We_change 34 = .ok (.istore 8, 2) := by decide +kernel
theorem nd_We_change_36 : decode nc_We_change 36 = .ok (.iload 8, 2) := by decide +kernel
theorem nd_We_change_38 : decode nc_We_change 38 = .ok (.iconst 3, 1) := by decide +kernel
theorem nd_We_change_39 : decode nc_We_change 39 = .ok (.if_icmp .ge 24, 3) := by decide +kernel
theorem nd_We_change_42 : decode nc_We_change 42 = .ok (.aload_n 0, 1) := by decide +kernel
theorem nd_We_change_43 : decode nc_We_change 43 = .ok (.aload_n 1, 1) := by decide +kernel
theorem nd_We_change_44 : decode nc_We_change 44 = .ok (.iload 6, 2) := by decide +kernel
theorem nd_We_change_46 : decode nc_We_change 46 = .ok (.iload 8, 2) := by decide +kernel
theorem nd_We_change_48 : decode nc_We_change 48 = .ok (.invokevirtual 15, 3) := by decide +kernel
theorem nd_We_change_51 : decode nc_We_change 51 = .ok (.iload 7, 2) := by decide +kernel
theorem nd_We_change_53 : decode nc_We_change 53 = .ok (.lload_n 3, 1) := by decide +kernel
theorem nd_We_change_54 : decode nc_We_change 54 = .ok (.invokevirtual 36, 3) := by decide +kernel
theorem nd_We_change_57 : decode nc_We_change 57 = .ok (.iinc 8 1, 3) := by decide +kernel
theorem nd_We_change_60 : decode nc_We_change 60 = .ok (.goto (-24), 3) := by decide +kernel
theorem nd_We_change_63 : decode nc_We_change 63 = .ok (.bipush 33, 2) := by decide +kernel
theorem nd_We_change_65 : decode nc_We_change 65 = .ok (.iload 7, 2) := by decide +kernel
theorem nd_We_change_67 : decode nc_We_change 67 = .ok (.iadd, 1) := by decide +kernel
theorem nd_We_change_68 : decode nc_We_change 68 = .ok (.istore 5, 2) := by decide +kernel
theorem nd_We_change_70 : decode nc_We_change 70 = .ok (.iinc 6 1, 3) := by decide +kernel
theorem nd_We_change_73 : decode nc_We_change 73 = .ok (.goto (-66), 3) := by decide +kernel
theorem nd_We_change_76 : decode nc_We_change 76 = .ok (.return_, 1) := by decide +kernel
theorem nd_La_load_0 : decode nc_La_load 0 = .ok (.aload_n 1, 1) := by decide +kernel
theorem nd_La_load_1 : decode nc_La_load 1 = .ok (.iconst 0, 1) := by decide +kernel
theorem nd_La_load_2 : decode nc_La_load 2 = .ok (.aload_n 0, 1) := by decide +kernel
theorem nd_La_load_3 : decode nc_La_load 3 = .ok (.invokevirtual 7, 3) := by decide +kernel
theorem nd_La_load_6 : decode nc_La_load 6 = .ok (.i2l, 1) := by decide +kernel
theorem nd_La_load_7 : decode nc_La_load 7 = .ok (.lastore, 1) := by decide +kernel
theorem nd_La_load_8 : decode nc_La_load 8 = .ok (.goto 6, 3) := by decide +kernel
theorem nd_La_load_11 : decode nc_La_load 11 = .ok (.astore_n 2, 1) := by decide +kernel
theorem nd_La_load_12 : decode nc_La_load 12 = .ok (.iconst 1, 1) := by decide +kernel
theorem nd_La_load_13 : decode nc_La_load 13 = .ok (.ireturn, 1) := by decide +kernel
theorem nd_La_load_14 : decode nc_La_load 14 = .ok (.iconst 0, 1) := by decide +kernel
theorem nd_La_load_15 : decode nc_La_load 15 = .ok (.ireturn, 1) := by decide +kernel
theorem nd_La_speak_0 : decode nc_La_speak 0 = .ok (.aload_n 1, 1) := by decide +kernel
theorem nd_La_speak_1 : decode nc_La_speak 1 = .ok (.iconst 0, 1) := by decide +kernel
theorem nd_La_speak_2 : decode nc_La_speak 2 = .ok (.aload_n 0, 1) := by decide +kernel
theorem nd_La_speak_3 : decode nc_La_speak 3 = .ok (.invokevirtual 15, 3) := by decide +kernel
theorem nd_La_speak_6 : decode nc_La_speak 6 = .ok (.i2l, 1) := by decide +kernel
theorem nd_La_speak_7 : decode nc_La_speak 7 = .ok (.lastore, 1) := by decide +kernel
theorem nd_La_speak_8 : decode nc_La_speak 8 = .ok (.goto 6, 3) := by decide +kernel
theorem nd_La_speak_11 : decode nc_La_speak 11 = .ok (.astore_n 2, 1) := by decide +kernel
theorem nd_La_speak_12 : decode nc_La_speak 12 = .ok (.iconst 1, 1) := by decide +kernel
theorem nd_La_speak_13 : decode nc_La_speak 13 = .ok (.ireturn, 1) := by decide +kernel
theorem nd_La_speak_14 : decode nc_La_speak 14 = .ok (.iconst 0, 1) := by decide +kernel
theorem nd_La_speak_15 : decode nc_La_speak 15 = .ok (.ireturn, 1) := by decide +kernel
theorem nd_La_words_0 : decode nc_La_words 0 = .ok (.aload_n 2, 1) := by decide +kernel
theorem nd_La_words_1 : decode nc_La_words 1 = .ok (.iconst 0, 1) := by decide +kernel
theorem nd_La_words_2 : decode nc_La_words 2 = .ok (.aload_n 0, 1) := by decide +kernel
theorem nd_La_words_3 : decode nc_La_words 3 = .ok (.iload_n 1, 1) := by decide +kernel
theorem nd_La_words_4 : decode nc_La_words 4 = .ok (.invokevirtual 18, 3) := by decide +kernel
theorem nd_La_words_7 : decode nc_La_words 7 = .ok (.i2l, 1) := by decide +kernel
theorem nd_La_words_8 : decode nc_La_words 8 = .ok (.lastore, 1) := by decide +kernel
theorem nd_La_words_9 : decode nc_La_words 9 = .ok (.goto 6, 3) := by decide +kernel
theorem nd_La_words_12 : decode nc_La_words 12 = .ok (.astore_n 3, 1) := by decide +kernel
theorem nd_La_words_13 : decode nc_La_words 13 = .ok (.iconst 1, 1) := by decide +kernel
theorem nd_La_words_14 : decode nc_La_words 14 = .ok (.ireturn, 1) := by decide +kernel
theorem nd_La_words_15 : decode nc_La_words 15 = .ok (.iconst 0, 1) := by decide +kernel
theorem nd_La_words_16 : decode nc_La_words 16 = .ok (.ireturn, 1) := by decide +kernel
theorem nd_La_given_0 : decode nc_La_given 0 = .ok (.aload_n 3, 1) := by decide +kernel
theorem nd_La_given_1 : decode nc_La_given 1 = .ok (.iconst 0, 1) := by decide +kernel
theorem nd_La_given_2 : decode nc_La_given 2 = .ok (.aload_n 0, 1) := by decide +kernel
theorem nd_La_given_3 : decode nc_La_given 3 = .ok (.iload_n 1, 1) := by decide +kernel
theorem nd_La_given_4 : decode nc_La_given 4 = .ok (.iload_n 2, 1) := by decide +kernel
theorem nd_La_given_5 : decode nc_La_given 5 = .ok (.invokevirtual 24, 3) := by decide +kernel
theorem nd_La_given_8 : decode nc_La_given 8 = .ok (.i2l, 1) := by decide +kernel
theorem nd_La_given_9 : decode nc_La_given 9 = .ok (.lastore, 1) := by decide +kernel
theorem nd_La_given_10 : decode nc_La_given 10 = .ok (.goto 7, 3) := by decide +kernel
theorem nd_La_given_13 : decode nc_La_given 13 = .ok (.astore 4, 2) := by decide +kernel
theorem nd_La_given_15 : decode nc_La_given 15 = .ok (.iconst 1, 1) := by decide +kernel
theorem nd_La_given_16 : decode nc_La_given 16 = .ok (.ireturn, 1) := by decide +kernel
theorem nd_La_given_17 : decode nc_La_given 17 = .ok (.iconst 0, 1) := by decide +kernel
theorem nd_La_given_18 : decode nc_La_given 18 = .ok (.ireturn, 1) := by decide +kernel
theorem nd_La_feature_0 : decode nc_La_feature 0 = .ok (.aload 4, 2) := by decide +kernel
theorem nd_La_feature_2 : decode nc_La_feature 2 = .ok (.iconst 0, 1) := by decide +kernel
theorem nd_La_feature_3 : decode nc_La_feature 3 = .ok (.aload_n 0, 1) := by decide +kernel
theorem nd_La_feature_4 : decode nc_La_feature 4 = .ok (.iload_n 1, 1) := by decide +kernel
theorem nd_La_feature_5 : decode nc_La_feature 5 = .ok (.iload_n 2, 1) := by decide +kernel
theorem nd_La_feature_6 : decode nc_La_feature 6 = .ok (.iload_n 3, 1) := by decide +kernel
theorem nd_La_feature_7 : decode nc_La_feature 7 = .ok (.invokevirtual 28, 3) := by decide +kernel
theorem nd_La_feature_10 : decode nc_La_feature 10 = .ok (.i2l, 1) := by decide +kernel
theorem nd_La_feature_11 : decode nc_La_feature 11 = .ok (.lastore, 1) := by decide +kernel
theorem nd_La_feature_12 : decode nc_La_feature 12 = .ok (.goto 7, 3) := by decide +kernel
theorem nd_La_feature_15 : decode nc_La_feature 15 = .ok (.astore 5, 2) := by decide +kernel
theorem nd_La_feature_17 : decode nc_La_feature 17 = .ok (.iconst 1, 1) := by decide +kernel
theorem nd_La_feature_18 : decode nc_La_feature 18 = .ok (.ireturn, 1) := by decide +kernel
theorem nd_La_feature_19 : decode nc_La_feature 19 = .ok (.iconst 0, 1) := by decide +kernel
theorem nd_La_feature_20 : decode nc_La_feature 20 = .ok (.ireturn, 1) := by decide +kernel
theorem nd_La_learn_0 : decode nc_La_learn 0 = .ok (.aload_n 2, 1) := by decide +kernel
theorem nd_La_learn_1 : decode nc_La_learn 1 = .ok (.iconst 0, 1) := by decide +kernel
theorem nd_La_learn_2 : decode nc_La_learn 2 = .ok (.aload_n 0, 1) := by decide +kernel
theorem nd_La_learn_3 : decode nc_La_learn 3 = .ok (.iload_n 1, 1) := by decide +kernel
theorem nd_La_learn_4 : decode nc_La_learn 4 = .ok (.invokevirtual 32, 3) := by decide +kernel
theorem nd_La_learn_7 : decode nc_La_learn 7 = .ok (.i2l, 1) := by decide +kernel
theorem nd_La_learn_8 : decode nc_La_learn 8 = .ok (.lastore, 1) := by decide +kernel
theorem nd_La_learn_9 : decode nc_La_learn 9 = .ok (.goto 9, 3) := by decide +kernel
theorem nd_La_learn_12 : decode nc_La_learn 12 = .ok (.astore_n 3, 1) := by decide +kernel
theorem nd_La_learn_13 : decode nc_La_learn 13 = .ok (.iconst 1, 1) := by decide +kernel
theorem nd_La_learn_14 : decode nc_La_learn 14 = .ok (.ireturn, 1) := by decide +kernel
theorem nd_La_learn_15 : decode nc_La_learn 15 = .ok (.astore_n 3, 1) := by decide +kernel
theorem nd_La_learn_16 : decode nc_La_learn 16 = .ok (.iconst 2, 1) := by decide +kernel
theorem nd_La_learn_17 : decode nc_La_learn 17 = .ok (.ireturn, 1) := by decide +kernel
theorem nd_La_learn_18 : decode nc_La_learn 18 = .ok (.iconst 0, 1) := by decide +kernel
theorem nd_La_learn_19 : decode nc_La_learn 19 = .ok (.ireturn, 1) := by decide +kernel
theorem nd_La_weight_0 : decode nc_La_weight 0 = .ok (.aload 4, 2) := by decide +kernel
theorem nd_La_weight_2 : decode nc_La_weight 2 = .ok (.iconst 0, 1) := by decide +kernel
theorem nd_La_weight_3 : decode nc_La_weight 3 = .ok (.aload_n 0, 1) := by decide +kernel
theorem nd_La_weight_4 : decode nc_La_weight 4 = .ok (.iload_n 1, 1) := by decide +kernel
theorem nd_La_weight_5 : decode nc_La_weight 5 = .ok (.iload_n 2, 1) := by decide +kernel
theorem nd_La_weight_6 : decode nc_La_weight 6 = .ok (.iload_n 3, 1) := by decide +kernel
theorem nd_La_weight_7 : decode nc_La_weight 7 = .ok (.invokevirtual 37, 3) := by decide +kernel
theorem nd_La_weight_10 : decode nc_La_weight 10 = .ok (.lastore, 1) := by decide +kernel
theorem nd_La_weight_11 : decode nc_La_weight 11 = .ok (.goto 7, 3) := by decide +kernel
theorem nd_La_weight_14 : decode nc_La_weight 14 = .ok (.astore 5, 2) := by decide +kernel
theorem nd_La_weight_16 : decode nc_La_weight 16 = .ok (.iconst 1, 1) := by decide +kernel
theorem nd_La_weight_17 : decode nc_La_weight 17 = .ok (.ireturn, 1) := by decide +kernel
theorem nd_La_weight_18 : decode nc_La_weight 18 = .ok (.iconst 0, 1) := by decide +kernel
theorem nd_La_weight_19 : decode nc_La_weight 19 = .ok (.ireturn, 1) := by decide +kernel
theorem nd_La_decode_0 : decode nc_La_decode 0 = .ok (.aload 4, 2) := by decide +kernel
theorem nd_La_decode_2 : decode nc_La_decode 2 = .ok (.iconst 0, 1) := by decide +kernel
theorem nd_La_decode_3 : decode nc_La_decode 3 = .ok (.aload_n 0, 1) := by decide +kernel
theorem nd_La_decode_4 : decode nc_La_decode 4 = .ok (.iload_n 1, 1) := by decide +kernel
theorem nd_La_decode_5 : decode nc_La_decode 5 = .ok (.iload_n 2, 1) := by decide +kernel
theorem nd_La_decode_6 : decode nc_La_decode 6 = .ok (.iload_n 3, 1) := by decide +kernel
theorem nd_La_decode_7 : decode nc_La_decode 7 = .ok (.invokevirtual 41, 3) := by decide +kernel
theorem nd_La_decode_10 : decode nc_La_decode 10 = .ok (.lastore, 1) := by decide +kernel
theorem nd_La_decode_11 : decode nc_La_decode 11 = .ok (.goto 7, 3) := by decide +kernel
theorem nd_La_decode_14 : decode nc_La_decode 14 = .ok (.astore 5, 2) := by decide +kernel
theorem nd_La_decode_16 : decode nc_La_decode 16 = .ok (.iconst 1, 1) := by decide +kernel
theorem nd_La_decode_17 : decode nc_La_decode 17 = .ok (.ireturn, 1) := by decide +kernel
theorem nd_La_decode_18 : decode nc_La_decode 18 = .ok (.iconst 0, 1) := by decide +kernel
theorem nd_La_decode_19 : decode nc_La_decode 19 = .ok (.ireturn, 1) := by decide +kernel
theorem nd_La_label_0 : decode nc_La_label 0 = .ok (.aload_n 2, 1) := by decide +kernel
theorem nd_La_label_1 : decode nc_La_label 1 = .ok (.iconst 0, 1) := by decide +kernel
theorem nd_La_label_2 : decode nc_La_label 2 = .ok (.aload_n 0, 1) := by decide +kernel
theorem nd_La_label_3 : decode nc_La_label 3 = .ok (.iload_n 1, 1) := by decide +kernel
theorem nd_La_label_4 : decode nc_La_label 4 = .ok (.invokevirtual 45, 3) := by decide +kernel
theorem nd_La_label_7 : decode nc_La_label 7 = .ok (.i2l, 1) := by decide +kernel
theorem nd_La_label_8 : decode nc_La_label 8 = .ok (.lastore, 1) := by decide +kernel
theorem nd_La_label_9 : decode nc_La_label 9 = .ok (.goto 6, 3) := by decide +kernel
theorem nd_La_label_12 : decode nc_La_label 12 = .ok (.astore_n 3, 1) := by decide +kernel
theorem nd_La_label_13 : decode nc_La_label 13 = .ok (.iconst 1, 1) := by decide +kernel
theorem nd_La_label_14 : decode nc_La_label 14 = .ok (.ireturn, 1) := by decide +kernel
theorem nd_La_label_15 : decode nc_La_label 15 = .ok (.iconst 0, 1) := by decide +kernel
theorem nd_La_label_16 : decode nc_La_label 16 = .ok (.ireturn, 1) := by decide +kernel
theorem nd_La_score_0 : decode nc_La_score 0 = .ok (.aload 4, 2) := by decide +kernel
theorem nd_La_score_2 : decode nc_La_score 2 = .ok (.iconst 0, 1) := by decide +kernel
theorem nd_La_score_3 : decode nc_La_score 3 = .ok (.aload_n 0, 1) := by decide +kernel
theorem nd_La_score_4 : decode nc_La_score 4 = .ok (.iload_n 1, 1) := by decide +kernel
theorem nd_La_score_5 : decode nc_La_score 5 = .ok (.iload_n 2, 1) := by decide +kernel
theorem nd_La_score_6 : decode nc_La_score 6 = .ok (.iload_n 3, 1) := by decide +kernel
theorem nd_La_score_7 : decode nc_La_score 7 = .ok (.invokevirtual 48, 3) := by decide +kernel
theorem nd_La_score_10 : decode nc_La_score 10 = .ok (.lastore, 1) := by decide +kernel
theorem nd_La_score_11 : decode nc_La_score 11 = .ok (.goto 7, 3) := by decide +kernel
theorem nd_La_score_14 : decode nc_La_score 14 = .ok (.astore 5, 2) := by decide +kernel
theorem nd_La_score_16 : decode nc_La_score 16 = .ok (.iconst 1, 1) := by decide +kernel
theorem nd_La_score_17 : decode nc_La_score 17 = .ok (.ireturn, 1) := by decide +kernel
theorem nd_La_score_18 : decode nc_La_score 18 = .ok (.iconst 0, 1) := by decide +kernel
theorem nd_La_score_19 : decode nc_La_score 19 = .ok (.ireturn, 1) := by decide +kernel
theorem nd_La_law_0 : decode nc_La_law 0 = .ok (.new 8, 3) := by decide +kernel
theorem nd_La_law_3 : decode nc_La_law 3 = .ok (.dup, 1) := by decide +kernel
theorem nd_La_law_4 : decode nc_La_law 4 = .ok (.invokespecial 51, 3) := by decide +kernel
theorem nd_La_law_7 : decode nc_La_law 7 = .ok (.astore_n 1, 1) := by decide +kernel
theorem nd_La_law_8 : decode nc_La_law 8 = .ok (.new 52, 3) := by decide +kernel
theorem nd_La_law_11 : decode nc_La_law 11 = .ok (.dup, 1) := by decide +kernel
theorem nd_La_law_12 : decode nc_La_law 12 = .ok (.invokespecial 54, 3) := by decide +kernel
theorem nd_La_law_15 : decode nc_La_law 15 = .ok (.astore_n 2, 1) := by decide +kernel
theorem nd_La_law_16 : decode nc_La_law 16 = .ok (.iconst 1, 1) := by decide +kernel
theorem nd_La_law_17 : decode nc_La_law 17 = .ok (.newarray .long, 2) := by decide +kernel
theorem nd_La_law_19 : decode nc_La_law 19 = .ok (.astore_n 3, 1) := by decide +kernel
theorem nd_La_law_20 : decode nc_La_law 20 = .ok (.iconst 0, 1) := by decide +kernel
theorem nd_La_law_21 : decode nc_La_law 21 = .ok (.istore 4, 2) := by decide +kernel
theorem nd_La_law_23 : decode nc_La_law 23 = .ok (.iload 4, 2) := by decide +kernel
theorem nd_La_law_25 : decode nc_La_law 25 = .ok (.aload_n 0, 1) := by decide +kernel
theorem nd_La_law_26 : decode nc_La_law 26 = .ok (.arraylength, 1) := by decide +kernel
theorem nd_La_law_27 : decode nc_La_law 27 = .ok (.iconst 4, 1) := by decide +kernel
theorem nd_La_law_28 : decode nc_La_law 28 = .ok (.isub, 1) := by decide +kernel
theorem nd_La_law_29 : decode nc_La_law 29 = .ok (.if_icmp .gt 972, 3) := by decide +kernel
theorem nd_La_law_32 : decode nc_La_law 32 = .ok (.aload_n 0, 1) := by decide +kernel
theorem nd_La_law_33 : decode nc_La_law 33 = .ok (.iload 4, 2) := by decide +kernel
theorem nd_La_law_35 : decode nc_La_law 35 = .ok (.iaload, 1) := by decide +kernel
theorem nd_La_law_36 : decode nc_La_law 36 = .ok (.bipush 15, 2) := by decide +kernel
theorem nd_La_law_38 : decode nc_La_law 38 = .ok (.iand, 1) := by decide +kernel
theorem nd_La_law_39 : decode nc_La_law 39 = .ok (.tableswitch 956 0 15 #[77, 146, 171, 215, 259, 272, 328, 396, 476, 532, 545, 558, 653, 764, 820, 915], 77) := by decide +kernel
theorem nd_La_law_116 : decode nc_La_law 116 = .ok (.aload_n 1, 1) := by decide +kernel
theorem nd_La_law_117 : decode nc_La_law 117 = .ok (.aload_n 0, 1) := by decide +kernel
theorem nd_La_law_118 : decode nc_La_law 118 = .ok (.iload 4, 2) := by decide +kernel
theorem nd_La_law_120 : decode nc_La_law 120 = .ok (.iconst 1, 1) := by decide +kernel
theorem nd_La_law_121 : decode nc_La_law 121 = .ok (.iadd, 1) := by decide +kernel
theorem nd_La_law_122 : decode nc_La_law 122 = .ok (.iaload, 1) := by decide +kernel
theorem nd_La_law_123 : decode nc_La_law 123 = .ok (.i2l, 1) := by decide +kernel
theorem nd_La_law_124 : decode nc_La_law 124 = .ok (.bipush 32, 2) := by decide +kernel
theorem nd_La_law_126 : decode nc_La_law 126 = .ok (.lshl, 1) := by decide +kernel
theorem nd_La_law_127 : decode nc_La_law 127 = .ok (.aload_n 0, 1) := by decide +kernel
theorem nd_La_law_128 : decode nc_La_law 128 = .ok (.iload 4, 2) := by decide +kernel
theorem nd_La_law_130 : decode nc_La_law 130 = .ok (.iconst 2, 1) := by decide +kernel
theorem nd_La_law_131 : decode nc_La_law 131 = .ok (.iadd, 1) := by decide +kernel
theorem nd_La_law_132 : decode nc_La_law 132 = .ok (.iaload, 1) := by decide +kernel
theorem nd_La_law_133 : decode nc_La_law 133 = .ok (.i2l, 1) := by decide +kernel
theorem nd_La_law_134 : decode nc_La_law 134 = .ok (.ldc2_w 55, 3) := by decide +kernel
theorem nd_La_law_137 : decode nc_La_law 137 = .ok (.land, 1) := by decide +kernel
theorem nd_La_law_138 : decode nc_La_law 138 = .ok (.lor, 1) := by decide +kernel
theorem nd_La_law_139 : decode nc_La_law 139 = .ok (.aload_n 0, 1) := by decide +kernel
theorem nd_La_law_140 : decode nc_La_law 140 = .ok (.iload 4, 2) := by decide +kernel
theorem nd_La_law_142 : decode nc_La_law 142 = .ok (.iconst 3, 1) := by decide +kernel
theorem nd_La_law_143 : decode nc_La_law 143 = .ok (.iadd, 1) := by decide +kernel
theorem nd_La_law_144 : decode nc_La_law 144 = .ok (.iaload, 1) := by decide +kernel
theorem nd_La_law_145 : decode nc_La_law 145 = .ok (.invokevirtual 57, 3) := by decide +kernel
theorem nd_La_law_148 : decode nc_La_law 148 = .ok (.aload_n 2, 1) := by decide +kernel
theorem nd_La_law_149 : decode nc_La_law 149 = .ok (.aload_n 0, 1) := by decide +kernel
theorem nd_La_law_150 : decode nc_La_law 150 = .ok (.iload 4, 2) := by decide +kernel
theorem nd_La_law_152 : decode nc_La_law 152 = .ok (.iconst 1, 1) := by decide +kernel
theorem nd_La_law_153 : decode nc_La_law 153 = .ok (.iadd, 1) := by decide +kernel
theorem nd_La_law_154 : decode nc_La_law 154 = .ok (.iaload, 1) := by decide +kernel
theorem nd_La_law_155 : decode nc_La_law 155 = .ok (.i2l, 1) := by decide +kernel
theorem nd_La_law_156 : decode nc_La_law 156 = .ok (.bipush 32, 2) := by decide +kernel
theorem nd_La_law_158 : decode nc_La_law 158 = .ok (.lshl, 1) := by decide +kernel
theorem nd_La_law_159 : decode nc_La_law 159 = .ok (.aload_n 0, 1) := by decide +kernel
theorem nd_La_law_160 : decode nc_La_law 160 = .ok (.iload 4, 2) := by decide +kernel
theorem nd_La_law_162 : decode nc_La_law 162 = .ok (.iconst 2, 1) := by decide +kernel
theorem nd_La_law_163 : decode nc_La_law 163 = .ok (.iadd, 1) := by decide +kernel
theorem nd_La_law_164 : decode nc_La_law 164 = .ok (.iaload, 1) := by decide +kernel
theorem nd_La_law_165 : decode nc_La_law 165 = .ok (.i2l, 1) := by decide +kernel
theorem nd_La_law_166 : decode nc_La_law 166 = .ok (.ldc2_w 55, 3) := by decide +kernel
theorem nd_La_law_169 : decode nc_La_law 169 = .ok (.land, 1) := by decide +kernel
theorem nd_La_law_170 : decode nc_La_law 170 = .ok (.lor, 1) := by decide +kernel
theorem nd_La_law_171 : decode nc_La_law 171 = .ok (.aload_n 0, 1) := by decide +kernel
theorem nd_La_law_172 : decode nc_La_law 172 = .ok (.iload 4, 2) := by decide +kernel
theorem nd_La_law_174 : decode nc_La_law 174 = .ok (.iconst 3, 1) := by decide +kernel
theorem nd_La_law_175 : decode nc_La_law 175 = .ok (.iadd, 1) := by decide +kernel
theorem nd_La_law_176 : decode nc_La_law 176 = .ok (.iaload, 1) := by decide +kernel
theorem nd_La_law_177 : decode nc_La_law 177 = .ok (.invokevirtual 61, 3) := by decide +kernel
theorem nd_La_law_180 : decode nc_La_law 180 = .ok (.if_icmp .eq 815, 3) := by decide +kernel
theorem nd_La_law_183 : decode nc_La_law 183 = .ok (.iconst 0, 1) := by decide +kernel
theorem nd_La_law_184 : decode nc_La_law 184 = .ok (.ireturn, 1) := by decide +kernel
theorem nd_La_law_185 : decode nc_La_law 185 = .ok (.aload_n 1, 1) := by decide +kernel
theorem nd_La_law_186 : decode nc_La_law 186 = .ok (.aload_n 0, 1) := by decide +kernel
theorem nd_La_law_187 : decode nc_La_law 187 = .ok (.iload 4, 2) := by decide +kernel
theorem nd_La_law_189 : decode nc_La_law 189 = .ok (.iconst 1, 1) := by decide +kernel
theorem nd_La_law_190 : decode nc_La_law 190 = .ok (.iadd, 1) := by decide +kernel
theorem nd_La_law_191 : decode nc_La_law 191 = .ok (.iaload, 1) := by decide +kernel
theorem nd_La_law_192 : decode nc_La_law 192 = .ok (.invokevirtual 62, 3) := by decide +kernel
theorem nd_La_law_195 : decode nc_La_law 195 = .ok (.aload_n 2, 1) := by decide +kernel
theorem nd_La_law_196 : decode nc_La_law 196 = .ok (.aload_n 0, 1) := by decide +kernel
theorem nd_La_law_197 : decode nc_La_law 197 = .ok (.iload 4, 2) := by decide +kernel
theorem nd_La_law_199 : decode nc_La_law 199 = .ok (.iconst 1, 1) := by decide +kernel
theorem nd_La_law_200 : decode nc_La_law 200 = .ok (.iadd, 1) := by decide +kernel
theorem nd_La_law_201 : decode nc_La_law 201 = .ok (.iaload, 1) := by decide +kernel
theorem nd_La_law_202 : decode nc_La_law 202 = .ok (.invokevirtual 66, 3) := by decide +kernel
theorem nd_La_law_205 : decode nc_La_law 205 = .ok (.if_icmp .eq 790, 3) := by decide +kernel
theorem nd_La_law_208 : decode nc_La_law 208 = .ok (.iconst 0, 1) := by decide +kernel
theorem nd_La_law_209 : decode nc_La_law 209 = .ok (.ireturn, 1) := by decide +kernel
theorem nd_La_law_210 : decode nc_La_law 210 = .ok (.aload_n 1, 1) := by decide +kernel
theorem nd_La_law_211 : decode nc_La_law 211 = .ok (.aload_n 3, 1) := by decide +kernel
theorem nd_La_law_212 : decode nc_La_law 212 = .ok (.invokestatic 67, 3) := by decide +kernel
theorem nd_La_law_215 : decode nc_La_law 215 = .ok (.istore 5, 2) := by decide +kernel
theorem nd_La_law_217 : decode nc_La_law 217 = .ok (.aload_n 2, 1) := by decide +kernel
theorem nd_La_law_218 : decode nc_La_law 218 = .ok (.invokevirtual 72, 3) := by decide +kernel
theorem nd_La_law_221 : decode nc_La_law 221 = .ok (.istore 6, 2) := by decide +kernel
theorem nd_La_law_223 : decode nc_La_law 223 = .ok (.aload_n 2, 1) := by decide +kernel
theorem nd_La_law_224 : decode nc_La_law 224 = .ok (.invokevirtual 73, 3) := by decide +kernel
theorem nd_La_law_227 : decode nc_La_law 227 = .ok (.iload 5, 2) := by decide +kernel
theorem nd_La_law_229 : decode nc_La_law 229 = .ok (.if_icmp .eq 5, 3) := by decide +kernel
theorem nd_La_law_232 : decode nc_La_law 232 = .ok (.iconst 0, 1) := by decide +kernel
theorem nd_La_law_233 : decode nc_La_law 233 = .ok (.ireturn, 1) := by decide +kernel
theorem nd_La_law_234 : decode nc_La_law 234 = .ok (.iload 5, 2) := by decide +kernel
theorem nd_La_law_236 : decode nc_La_law 236 = .ok (.ifCond .ne 15, 3) := by decide +kernel
theorem nd_La_law_239 : decode nc_La_law 239 = .ok (.aload_n 3, 1) := by decide +kernel
theorem nd_La_law_240 : decode nc_La_law 240 = .ok (.iconst 0, 1) := by decide +kernel
theorem nd_La_law_241 : decode nc_La_law 241 = .ok (.laload, 1) := by decide +kernel
theorem nd_La_law_242 : decode nc_La_law 242 = .ok (.iload 6, 2) := by decide +kernel
theorem nd_La_law_244 : decode nc_La_law 244 = .ok (.i2l, 1) := by decide +kernel
theorem nd_La_law_245 : decode nc_La_law 245 = .ok (.lcmp, 1) := by decide +kernel
theorem nd_La_law_246 : decode nc_La_law 246 = .ok (.ifCond .eq 5, 3) := by decide +kernel
theorem nd_La_law_249 : decode nc_La_law 249 = .ok (.iconst 0, 1) := by decide +kernel
theorem nd_La_law_250 : decode nc_La_law 250 = .ok (.ireturn, 1) := by decide +kernel
theorem nd_La_law_251 : decode nc_La_law 251 = .ok (.goto 744, 3) := by decide +kernel
theorem nd_La_law_254 : decode nc_La_law 254 = .ok (.aload_n 1, 1) := by decide +kernel
theorem nd_La_law_255 : decode nc_La_law 255 = .ok (.aload_n 3, 1) := by decide +kernel
theorem nd_La_law_256 : decode nc_La_law 256 = .ok (.invokestatic 76, 3) := by decide +kernel
theorem nd_La_law_259 : decode nc_La_law 259 = .ok (.istore 5, 2) := by decide +kernel
theorem nd_La_law_261 : decode nc_La_law 261 = .ok (.aload_n 2, 1) := by decide +kernel
theorem nd_La_law_262 : decode nc_La_law 262 = .ok (.invokevirtual 78, 3) := by decide +kernel
theorem nd_La_law_265 : decode nc_La_law 265 = .ok (.istore 6, 2) := by decide +kernel
theorem nd_La_law_267 : decode nc_La_law 267 = .ok (.aload_n 2, 1) := by decide +kernel
theorem nd_La_law_268 : decode nc_La_law 268 = .ok (.invokevirtual 73, 3) := by decide +kernel
theorem nd_La_law_271 : decode nc_La_law 271 = .ok (.iload 5, 2) := by decide +kernel
theorem nd_La_law_273 : decode nc_La_law 273 = .ok (.if_icmp .eq 5, 3) := by decide +kernel
theorem nd_La_law_276 : decode nc_La_law 276 = .ok (.iconst 0, 1) := by decide +kernel
theorem nd_La_law_277 : decode nc_La_law 277 = .ok (.ireturn, 1) := by decide +kernel
theorem nd_La_law_278 : decode nc_La_law 278 = .ok (.iload 5, 2) := by decide +kernel
theorem nd_La_law_280 : decode nc_La_law 280 = .ok (.ifCond .ne 15, 3) := by decide +kernel
theorem nd_La_law_283 : decode nc_La_law 283 = .ok (.aload_n 3, 1) := by decide +kernel
theorem nd_La_law_284 : decode nc_La_law 284 = .ok (.iconst 0, 1) := by decide +kernel
theorem nd_La_law_285 : decode nc_La_law 285 = .ok (.laload, 1) := by decide +kernel
theorem nd_La_law_286 : decode nc_La_law 286 = .ok (.iload 6, 2) := by decide +kernel
theorem nd_La_law_288 : decode nc_La_law 288 = .ok (.i2l, 1) := by decide +kernel
theorem nd_La_law_289 : decode nc_La_law 289 = .ok (.lcmp, 1) := by decide +kernel
theorem nd_La_law_290 : decode nc_La_law 290 = .ok (.ifCond .eq 5, 3) := by decide +kernel
theorem nd_La_law_293 : decode nc_La_law 293 = .ok (.iconst 0, 1) := by decide +kernel
theorem nd_La_law_294 : decode nc_La_law 294 = .ok (.ireturn, 1) := by decide +kernel
theorem nd_La_law_295 : decode nc_La_law 295 = .ok (.goto 700, 3) := by decide +kernel
theorem nd_La_law_298 : decode nc_La_law 298 = .ok (.aload_n 1, 1) := by decide +kernel
theorem nd_La_law_299 : decode nc_La_law 299 = .ok (.invokevirtual 79, 3) := by decide +kernel
theorem nd_La_law_302 : decode nc_La_law 302 = .ok (.aload_n 2, 1) := by decide +kernel
theorem nd_La_law_303 : decode nc_La_law 303 = .ok (.invokevirtual 82, 3) := by decide +kernel
theorem nd_La_law_306 : decode nc_La_law 306 = .ok (.if_icmp .eq 689, 3) := by decide +kernel
theorem nd_La_law_309 : decode nc_La_law 309 = .ok (.iconst 0, 1) := by decide +kernel
theorem nd_La_law_310 : decode nc_La_law 310 = .ok (.ireturn, 1) := by decide +kernel
theorem nd_La_law_311 : decode nc_La_law 311 = .ok (.aload_n 1, 1) := by decide +kernel
theorem nd_La_law_312 : decode nc_La_law 312 = .ok (.aload_n 0, 1) := by decide +kernel
theorem nd_La_law_313 : decode nc_La_law 313 = .ok (.iload 4, 2) := by decide +kernel
theorem nd_La_law_315 : decode nc_La_law 315 = .ok (.iconst 1, 1) := by decide +kernel
theorem nd_La_law_316 : decode nc_La_law 316 = .ok (.iadd, 1) := by decide +kernel
theorem nd_La_law_317 : decode nc_La_law 317 = .ok (.iaload, 1) := by decide +kernel
theorem nd_La_law_318 : decode nc_La_law 318 = .ok (.aload_n 3, 1) := by decide +kernel
theorem nd_La_law_319 : decode nc_La_law 319 = .ok (.invokestatic 83, 3) := by decide +kernel
theorem nd_La_law_322 : decode nc_La_law 322 = .ok (.istore 5, 2) := by decide +kernel
theorem nd_La_law_324 : decode nc_La_law 324 = .ok (.aload_n 2, 1) := by decide +kernel
theorem nd_La_law_325 : decode nc_La_law 325 = .ok (.aload_n 0, 1) := by decide +kernel
theorem nd_La_law_326 : decode nc_La_law 326 = .ok (.iload 4, 2) := by decide +kernel
theorem nd_La_law_328 : decode nc_La_law 328 = .ok (.iconst 1, 1) := by decide +kernel
theorem nd_La_law_329 : decode nc_La_law 329 = .ok (.iadd, 1) := by decide +kernel
theorem nd_La_law_330 : decode nc_La_law 330 = .ok (.iaload, 1) := by decide +kernel
theorem nd_La_law_331 : decode nc_La_law 331 = .ok (.invokevirtual 86, 3) := by decide +kernel
theorem nd_La_law_334 : decode nc_La_law 334 = .ok (.istore 6, 2) := by decide +kernel
theorem nd_La_law_336 : decode nc_La_law 336 = .ok (.aload_n 2, 1) := by decide +kernel
theorem nd_La_law_337 : decode nc_La_law 337 = .ok (.invokevirtual 73, 3) := by decide +kernel
theorem nd_La_law_340 : decode nc_La_law 340 = .ok (.iload 5, 2) := by decide +kernel
theorem nd_La_law_342 : decode nc_La_law 342 = .ok (.if_icmp .eq 5, 3) := by decide +kernel
theorem nd_La_law_345 : decode nc_La_law 345 = .ok (.iconst 0, 1) := by decide +kernel
theorem nd_La_law_346 : decode nc_La_law 346 = .ok (.ireturn, 1) := by decide +kernel
theorem nd_La_law_347 : decode nc_La_law 347 = .ok (.iload 5, 2) := by decide +kernel
theorem nd_La_law_349 : decode nc_La_law 349 = .ok (.ifCond .ne 15, 3) := by decide +kernel
theorem nd_La_law_352 : decode nc_La_law 352 = .ok (.aload_n 3, 1) := by decide +kernel
theorem nd_La_law_353 : decode nc_La_law 353 = .ok (.iconst 0, 1) := by decide +kernel
theorem nd_La_law_354 : decode nc_La_law 354 = .ok (.laload, 1) := by decide +kernel
theorem nd_La_law_355 : decode nc_La_law 355 = .ok (.iload 6, 2) := by decide +kernel
theorem nd_La_law_357 : decode nc_La_law 357 = .ok (.i2l, 1) := by decide +kernel
theorem nd_La_law_358 : decode nc_La_law 358 = .ok (.lcmp, 1) := by decide +kernel
theorem nd_La_law_359 : decode nc_La_law 359 = .ok (.ifCond .eq 5, 3) := by decide +kernel
theorem nd_La_law_362 : decode nc_La_law 362 = .ok (.iconst 0, 1) := by decide +kernel
theorem nd_La_law_363 : decode nc_La_law 363 = .ok (.ireturn, 1) := by decide +kernel
theorem nd_La_law_364 : decode nc_La_law 364 = .ok (.goto 631, 3) := by decide +kernel
theorem nd_La_law_367 : decode nc_La_law 367 = .ok (.aload_n 1, 1) := by decide +kernel
theorem nd_La_law_368 : decode nc_La_law 368 = .ok (.aload_n 0, 1) := by decide +kernel
theorem nd_La_law_369 : decode nc_La_law 369 = .ok (.iload 4, 2) := by decide +kernel
theorem nd_La_law_371 : decode nc_La_law 371 = .ok (.iconst 1, 1) := by decide +kernel
theorem nd_La_law_372 : decode nc_La_law 372 = .ok (.iadd, 1) := by decide +kernel
theorem nd_La_law_373 : decode nc_La_law 373 = .ok (.iaload, 1) := by decide +kernel
theorem nd_La_law_374 : decode nc_La_law 374 = .ok (.aload_n 0, 1) := by decide +kernel
theorem nd_La_law_375 : decode nc_La_law 375 = .ok (.iload 4, 2) := by decide +kernel
theorem nd_La_law_377 : decode nc_La_law 377 = .ok (.iconst 2, 1) := by decide +kernel
theorem nd_La_law_378 : decode nc_La_law 378 = .ok (.iadd, 1) := by decide +kernel
theorem nd_La_law_379 : decode nc_La_law 379 = .ok (.iaload, 1) := by decide +kernel
theorem nd_La_law_380 : decode nc_La_law 380 = .ok (.aload_n 3, 1) := by decide +kernel
end
section
theorem nd_La_law_381 : decode nc_La_law 381 = .ok (.invokestatic 87, 3) := by decide +kernel
theorem nd_La_law_384 : decode nc_La_law 384 = .ok (.istore 5, 2) := by decide +kernel
theorem nd_La_law_386 : decode nc_La_law 386 = .ok (.aload_n 2, 1) := by decide +kernel
theorem nd_La_law_387 : decode nc_La_law 387 = .ok (.aload_n 0, 1) := by decide +kernel
theorem nd_La_law_388 : decode nc_La_law 388 = .ok (.iload 4, 2) := by decide +kernel
theorem nd_La_law_390 : decode nc_La_law 390 = .ok (.iconst 1, 1) := by decide +kernel
theorem nd_La_law_391 : decode nc_La_law 391 = .ok (.iadd, 1) := by decide +kernel
theorem nd_La_law_392 : decode nc_La_law 392 = .ok (.iaload, 1) := by decide +kernel
theorem nd_La_law_393 : decode nc_La_law 393 = .ok (.aload_n 0, 1) := by decide +kernel
theorem nd_La_law_394 : decode nc_La_law 394 = .ok (.iload 4, 2) := by decide +kernel
theorem nd_La_law_396 : decode nc_La_law 396 = .ok (.iconst 2, 1) := by decide +kernel
theorem nd_La_law_397 : decode nc_La_law 397 = .ok (.iadd, 1) := by decide +kernel
theorem nd_La_law_398 : decode nc_La_law 398 = .ok (.iaload, 1) := by decide +kernel
theorem nd_La_law_399 : decode nc_La_law 399 = .ok (.invokevirtual 90, 3) := by decide +kernel
theorem nd_La_law_402 : decode nc_La_law 402 = .ok (.istore 6, 2) := by decide +kernel
theorem nd_La_law_404 : decode nc_La_law 404 = .ok (.aload_n 2, 1) := by decide +kernel
theorem nd_La_law_405 : decode nc_La_law 405 = .ok (.invokevirtual 73, 3) := by decide +kernel
theorem nd_La_law_408 : decode nc_La_law 408 = .ok (.iload 5, 2) := by decide +kernel
theorem nd_La_law_410 : decode nc_La_law 410 = .ok (.if_icmp .eq 5, 3) := by decide +kernel
theorem nd_La_law_413 : decode nc_La_law 413 = .ok (.iconst 0, 1) := by decide +kernel
theorem nd_La_law_414 : decode nc_La_law 414 = .ok (.ireturn, 1) := by decide +kernel
theorem nd_La_law_415 : decode nc_La_law 415 = .ok (.iload 5, 2) := by decide +kernel
theorem nd_La_law_417 : decode nc_La_law 417 = .ok (.ifCond .ne 15, 3) := by decide +kernel
theorem nd_La_law_420 : decode nc_La_law 420 = .ok (.aload_n 3, 1) := by decide +kernel
theorem nd_La_law_421 : decode nc_La_law 421 = .ok (.iconst 0, 1) := by decide +kernel
theorem nd_La_law_422 : decode nc_La_law 422 = .ok (.laload, 1) := by decide +kernel
theorem nd_La_law_423 : decode nc_La_law 423 = .ok (.iload 6, 2) := by decide +kernel
theorem nd_La_law_425 : decode nc_La_law 425 = .ok (.i2l, 1) := by decide +kernel
theorem nd_La_law_426 : decode nc_La_law 426 = .ok (.lcmp, 1) := by decide +kernel
theorem nd_La_law_427 : decode nc_La_law 427 = .ok (.ifCond .eq 5, 3) := by decide +kernel
theorem nd_La_law_430 : decode nc_La_law 430 = .ok (.iconst 0, 1) := by decide +kernel
theorem nd_La_law_431 : decode nc_La_law 431 = .ok (.ireturn, 1) := by decide +kernel
theorem nd_La_law_432 : decode nc_La_law 432 = .ok (.goto 563, 3) := by decide +kernel
theorem nd_La_law_435 : decode nc_La_law 435 = .ok (.aload_n 1, 1) := by decide +kernel
theorem nd_La_law_436 : decode nc_La_law 436 = .ok (.aload_n 0, 1) := by decide +kernel
theorem nd_La_law_437 : decode nc_La_law 437 = .ok (.iload 4, 2) := by decide +kernel
theorem nd_La_law_439 : decode nc_La_law 439 = .ok (.iconst 1, 1) := by decide +kernel
theorem nd_La_law_440 : decode nc_La_law 440 = .ok (.iadd, 1) := by decide +kernel
theorem nd_La_law_441 : decode nc_La_law 441 = .ok (.iaload, 1) := by decide +kernel
theorem nd_La_law_442 : decode nc_La_law 442 = .ok (.aload_n 0, 1) := by decide +kernel
theorem nd_La_law_443 : decode nc_La_law 443 = .ok (.iload 4, 2) := by decide +kernel
theorem nd_La_law_445 : decode nc_La_law 445 = .ok (.iconst 2, 1) := by decide +kernel
theorem nd_La_law_446 : decode nc_La_law 446 = .ok (.iadd, 1) := by decide +kernel
theorem nd_La_law_447 : decode nc_La_law 447 = .ok (.iaload, 1) := by decide +kernel
theorem nd_La_law_448 : decode nc_La_law 448 = .ok (.aload_n 0, 1) := by decide +kernel
theorem nd_La_law_449 : decode nc_La_law 449 = .ok (.iload 4, 2) := by decide +kernel
theorem nd_La_law_451 : decode nc_La_law 451 = .ok (.iconst 3, 1) := by decide +kernel
theorem nd_La_law_452 : decode nc_La_law 452 = .ok (.iadd, 1) := by decide +kernel
theorem nd_La_law_453 : decode nc_La_law 453 = .ok (.iaload, 1) := by decide +kernel
theorem nd_La_law_454 : decode nc_La_law 454 = .ok (.aload_n 3, 1) := by decide +kernel
theorem nd_La_law_455 : decode nc_La_law 455 = .ok (.invokestatic 91, 3) := by decide +kernel
theorem nd_La_law_458 : decode nc_La_law 458 = .ok (.istore 5, 2) := by decide +kernel
theorem nd_La_law_460 : decode nc_La_law 460 = .ok (.aload_n 2, 1) := by decide +kernel
theorem nd_La_law_461 : decode nc_La_law 461 = .ok (.aload_n 0, 1) := by decide +kernel
theorem nd_La_law_462 : decode nc_La_law 462 = .ok (.iload 4, 2) := by decide +kernel
theorem nd_La_law_464 : decode nc_La_law 464 = .ok (.iconst 1, 1) := by decide +kernel
theorem nd_La_law_465 : decode nc_La_law 465 = .ok (.iadd, 1) := by decide +kernel
theorem nd_La_law_466 : decode nc_La_law 466 = .ok (.iaload, 1) := by decide +kernel
theorem nd_La_law_467 : decode nc_La_law 467 = .ok (.aload_n 0, 1) := by decide +kernel
theorem nd_La_law_468 : decode nc_La_law 468 = .ok (.iload 4, 2) := by decide +kernel
theorem nd_La_law_470 : decode nc_La_law 470 = .ok (.iconst 2, 1) := by decide +kernel
theorem nd_La_law_471 : decode nc_La_law 471 = .ok (.iadd, 1) := by decide +kernel
theorem nd_La_law_472 : decode nc_La_law 472 = .ok (.iaload, 1) := by decide +kernel
theorem nd_La_law_473 : decode nc_La_law 473 = .ok (.aload_n 0, 1) := by decide +kernel
theorem nd_La_law_474 : decode nc_La_law 474 = .ok (.iload 4, 2) := by decide +kernel
theorem nd_La_law_476 : decode nc_La_law 476 = .ok (.iconst 3, 1) := by decide +kernel
theorem nd_La_law_477 : decode nc_La_law 477 = .ok (.iadd, 1) := by decide +kernel
theorem nd_La_law_478 : decode nc_La_law 478 = .ok (.iaload, 1) := by decide +kernel
theorem nd_La_law_479 : decode nc_La_law 479 = .ok (.invokevirtual 94, 3) := by decide +kernel
theorem nd_La_law_482 : decode nc_La_law 482 = .ok (.istore 6, 2) := by decide +kernel
theorem nd_La_law_484 : decode nc_La_law 484 = .ok (.aload_n 2, 1) := by decide +kernel
theorem nd_La_law_485 : decode nc_La_law 485 = .ok (.invokevirtual 73, 3) := by decide +kernel
theorem nd_La_law_488 : decode nc_La_law 488 = .ok (.iload 5, 2) := by decide +kernel
theorem nd_La_law_490 : decode nc_La_law 490 = .ok (.if_icmp .eq 5, 3) := by decide +kernel
theorem nd_La_law_493 : decode nc_La_law 493 = .ok (.iconst 0, 1) := by decide +kernel
theorem nd_La_law_494 : decode nc_La_law 494 = .ok (.ireturn, 1) := by decide +kernel
theorem nd_La_law_495 : decode nc_La_law 495 = .ok (.iload 5, 2) := by decide +kernel
theorem nd_La_law_497 : decode nc_La_law 497 = .ok (.ifCond .ne 15, 3) := by decide +kernel
theorem nd_La_law_500 : decode nc_La_law 500 = .ok (.aload_n 3, 1) := by decide +kernel
theorem nd_La_law_501 : decode nc_La_law 501 = .ok (.iconst 0, 1) := by decide +kernel
theorem nd_La_law_502 : decode nc_La_law 502 = .ok (.laload, 1) := by decide +kernel
theorem nd_La_law_503 : decode nc_La_law 503 = .ok (.iload 6, 2) := by decide +kernel
theorem nd_La_law_505 : decode nc_La_law 505 = .ok (.i2l, 1) := by decide +kernel
theorem nd_La_law_506 : decode nc_La_law 506 = .ok (.lcmp, 1) := by decide +kernel
theorem nd_La_law_507 : decode nc_La_law 507 = .ok (.ifCond .eq 5, 3) := by decide +kernel
theorem nd_La_law_510 : decode nc_La_law 510 = .ok (.iconst 0, 1) := by decide +kernel
theorem nd_La_law_511 : decode nc_La_law 511 = .ok (.ireturn, 1) := by decide +kernel
theorem nd_La_law_512 : decode nc_La_law 512 = .ok (.goto 483, 3) := by decide +kernel
theorem nd_La_law_515 : decode nc_La_law 515 = .ok (.aload_n 1, 1) := by decide +kernel
theorem nd_La_law_516 : decode nc_La_law 516 = .ok (.aload_n 0, 1) := by decide +kernel
theorem nd_La_law_517 : decode nc_La_law 517 = .ok (.iload 4, 2) := by decide +kernel
theorem nd_La_law_519 : decode nc_La_law 519 = .ok (.iconst 1, 1) := by decide +kernel
theorem nd_La_law_520 : decode nc_La_law 520 = .ok (.iadd, 1) := by decide +kernel
theorem nd_La_law_521 : decode nc_La_law 521 = .ok (.iaload, 1) := by decide +kernel
theorem nd_La_law_522 : decode nc_La_law 522 = .ok (.aload_n 3, 1) := by decide +kernel
theorem nd_La_law_523 : decode nc_La_law 523 = .ok (.invokestatic 95, 3) := by decide +kernel
theorem nd_La_law_526 : decode nc_La_law 526 = .ok (.istore 5, 2) := by decide +kernel
theorem nd_La_law_528 : decode nc_La_law 528 = .ok (.aload_n 2, 1) := by decide +kernel
theorem nd_La_law_529 : decode nc_La_law 529 = .ok (.aload_n 0, 1) := by decide +kernel
theorem nd_La_law_530 : decode nc_La_law 530 = .ok (.iload 4, 2) := by decide +kernel
theorem nd_La_law_532 : decode nc_La_law 532 = .ok (.iconst 1, 1) := by decide +kernel
theorem nd_La_law_533 : decode nc_La_law 533 = .ok (.iadd, 1) := by decide +kernel
theorem nd_La_law_534 : decode nc_La_law 534 = .ok (.iaload, 1) := by decide +kernel
theorem nd_La_law_535 : decode nc_La_law 535 = .ok (.invokevirtual 97, 3) := by decide +kernel
theorem nd_La_law_538 : decode nc_La_law 538 = .ok (.istore 6, 2) := by decide +kernel
theorem nd_La_law_540 : decode nc_La_law 540 = .ok (.aload_n 2, 1) := by decide +kernel
theorem nd_La_law_541 : decode nc_La_law 541 = .ok (.invokevirtual 73, 3) := by decide +kernel
theorem nd_La_law_544 : decode nc_La_law 544 = .ok (.iload 5, 2) := by decide +kernel
theorem nd_La_law_546 : decode nc_La_law 546 = .ok (.if_icmp .eq 5, 3) := by decide +kernel
theorem nd_La_law_549 : decode nc_La_law 549 = .ok (.iconst 0, 1) := by decide +kernel
theorem nd_La_law_550 : decode nc_La_law 550 = .ok (.ireturn, 1) := by decide +kernel
theorem nd_La_law_551 : decode nc_La_law 551 = .ok (.iload 5, 2) := by decide +kernel
theorem nd_La_law_553 : decode nc_La_law 553 = .ok (.ifCond .ne 15, 3) := by decide +kernel
theorem nd_La_law_556 : decode nc_La_law 556 = .ok (.aload_n 3, 1) := by decide +kernel
theorem nd_La_law_557 : decode nc_La_law 557 = .ok (.iconst 0, 1) := by decide +kernel
theorem nd_La_law_558 : decode nc_La_law 558 = .ok (.laload, 1) := by decide +kernel
theorem nd_La_law_559 : decode nc_La_law 559 = .ok (.iload 6, 2) := by decide +kernel
theorem nd_La_law_561 : decode nc_La_law 561 = .ok (.i2l, 1) := by decide +kernel
theorem nd_La_law_562 : decode nc_La_law 562 = .ok (.lcmp, 1) := by decide +kernel
theorem nd_La_law_563 : decode nc_La_law 563 = .ok (.ifCond .eq 5, 3) := by decide +kernel
theorem nd_La_law_566 : decode nc_La_law 566 = .ok (.iconst 0, 1) := by decide +kernel
theorem nd_La_law_567 : decode nc_La_law 567 = .ok (.ireturn, 1) := by decide +kernel
theorem nd_La_law_568 : decode nc_La_law 568 = .ok (.goto 427, 3) := by decide +kernel
theorem nd_La_law_571 : decode nc_La_law 571 = .ok (.aload_n 1, 1) := by decide +kernel
theorem nd_La_law_572 : decode nc_La_law 572 = .ok (.invokevirtual 98, 3) := by decide +kernel
theorem nd_La_law_575 : decode nc_La_law 575 = .ok (.aload_n 2, 1) := by decide +kernel
theorem nd_La_law_576 : decode nc_La_law 576 = .ok (.invokevirtual 101, 3) := by decide +kernel
theorem nd_La_law_579 : decode nc_La_law 579 = .ok (.if_icmp .eq 416, 3) := by decide +kernel
theorem nd_La_law_582 : decode nc_La_law 582 = .ok (.iconst 0, 1) := by decide +kernel
theorem nd_La_law_583 : decode nc_La_law 583 = .ok (.ireturn, 1) := by decide +kernel
theorem nd_La_law_584 : decode nc_La_law 584 = .ok (.aload_n 1, 1) := by decide +kernel
theorem nd_La_law_585 : decode nc_La_law 585 = .ok (.invokevirtual 102, 3) := by decide +kernel
theorem nd_La_law_588 : decode nc_La_law 588 = .ok (.aload_n 2, 1) := by decide +kernel
theorem nd_La_law_589 : decode nc_La_law 589 = .ok (.invokevirtual 105, 3) := by decide +kernel
theorem nd_La_law_592 : decode nc_La_law 592 = .ok (.if_icmp .eq 403, 3) := by decide +kernel
theorem nd_La_law_595 : decode nc_La_law 595 = .ok (.iconst 0, 1) := by decide +kernel
theorem nd_La_law_596 : decode nc_La_law 596 = .ok (.ireturn, 1) := by decide +kernel
theorem nd_La_law_597 : decode nc_La_law 597 = .ok (.aload_n 1, 1) := by decide +kernel
theorem nd_La_law_598 : decode nc_La_law 598 = .ok (.aload_n 0, 1) := by decide +kernel
theorem nd_La_law_599 : decode nc_La_law 599 = .ok (.iload 4, 2) := by decide +kernel
theorem nd_La_law_601 : decode nc_La_law 601 = .ok (.iconst 1, 1) := by decide +kernel
theorem nd_La_law_602 : decode nc_La_law 602 = .ok (.iadd, 1) := by decide +kernel
theorem nd_La_law_603 : decode nc_La_law 603 = .ok (.iaload, 1) := by decide +kernel
theorem nd_La_law_604 : decode nc_La_law 604 = .ok (.aload_n 0, 1) := by decide +kernel
theorem nd_La_law_605 : decode nc_La_law 605 = .ok (.iload 4, 2) := by decide +kernel
theorem nd_La_law_607 : decode nc_La_law 607 = .ok (.iconst 2, 1) := by decide +kernel
theorem nd_La_law_608 : decode nc_La_law 608 = .ok (.iadd, 1) := by decide +kernel
theorem nd_La_law_609 : decode nc_La_law 609 = .ok (.iaload, 1) := by decide +kernel
theorem nd_La_law_610 : decode nc_La_law 610 = .ok (.aload_n 0, 1) := by decide +kernel
theorem nd_La_law_611 : decode nc_La_law 611 = .ok (.iload 4, 2) := by decide +kernel
theorem nd_La_law_613 : decode nc_La_law 613 = .ok (.iconst 3, 1) := by decide +kernel
theorem nd_La_law_614 : decode nc_La_law 614 = .ok (.iadd, 1) := by decide +kernel
theorem nd_La_law_615 : decode nc_La_law 615 = .ok (.iaload, 1) := by decide +kernel
theorem nd_La_law_616 : decode nc_La_law 616 = .ok (.ifCond .eq 7, 3) := by decide +kernel
theorem nd_La_law_619 : decode nc_La_law 619 = .ok (.iconst 1, 1) := by decide +kernel
theorem nd_La_law_620 : decode nc_La_law 620 = .ok (.goto 4, 3) := by decide +kernel
theorem nd_La_law_623 : decode nc_La_law 623 = .ok (.iconst 0, 1) := by decide +kernel
theorem nd_La_law_624 : decode nc_La_law 624 = .ok (.aload_n 3, 1) := by decide +kernel
theorem nd_La_law_625 : decode nc_La_law 625 = .ok (.invokestatic 106, 3) := by decide +kernel
theorem nd_La_law_628 : decode nc_La_law 628 = .ok (.istore 5, 2) := by decide +kernel
theorem nd_La_law_630 : decode nc_La_law 630 = .ok (.aload_n 2, 1) := by decide +kernel
theorem nd_La_law_631 : decode nc_La_law 631 = .ok (.aload_n 0, 1) := by decide +kernel
theorem nd_La_law_632 : decode nc_La_law 632 = .ok (.iload 4, 2) := by decide +kernel
theorem nd_La_law_634 : decode nc_La_law 634 = .ok (.iconst 1, 1) := by decide +kernel
theorem nd_La_law_635 : decode nc_La_law 635 = .ok (.iadd, 1) := by decide +kernel
theorem nd_La_law_636 : decode nc_La_law 636 = .ok (.iaload, 1) := by decide +kernel
theorem nd_La_law_637 : decode nc_La_law 637 = .ok (.aload_n 0, 1) := by decide +kernel
theorem nd_La_law_638 : decode nc_La_law 638 = .ok (.iload 4, 2) := by decide +kernel
theorem nd_La_law_640 : decode nc_La_law 640 = .ok (.iconst 2, 1) := by decide +kernel
theorem nd_La_law_641 : decode nc_La_law 641 = .ok (.iadd, 1) := by decide +kernel
theorem nd_La_law_642 : decode nc_La_law 642 = .ok (.iaload, 1) := by decide +kernel
theorem nd_La_law_643 : decode nc_La_law 643 = .ok (.aload_n 0, 1) := by decide +kernel
theorem nd_La_law_644 : decode nc_La_law 644 = .ok (.iload 4, 2) := by decide +kernel
theorem nd_La_law_646 : decode nc_La_law 646 = .ok (.iconst 3, 1) := by decide +kernel
theorem nd_La_law_647 : decode nc_La_law 647 = .ok (.iadd, 1) := by decide +kernel
theorem nd_La_law_648 : decode nc_La_law 648 = .ok (.iaload, 1) := by decide +kernel
theorem nd_La_law_649 : decode nc_La_law 649 = .ok (.ifCond .eq 7, 3) := by decide +kernel
theorem nd_La_law_652 : decode nc_La_law 652 = .ok (.iconst 1, 1) := by decide +kernel
theorem nd_La_law_653 : decode nc_La_law 653 = .ok (.goto 4, 3) := by decide +kernel
theorem nd_La_law_656 : decode nc_La_law 656 = .ok (.iconst 0, 1) := by decide +kernel
theorem nd_La_law_657 : decode nc_La_law 657 = .ok (.invokevirtual 109, 3) := by decide +kernel
theorem nd_La_law_660 : decode nc_La_law 660 = .ok (.lstore 6, 2) := by decide +kernel
theorem nd_La_law_662 : decode nc_La_law 662 = .ok (.aload_n 2, 1) := by decide +kernel
theorem nd_La_law_663 : decode nc_La_law 663 = .ok (.invokevirtual 73, 3) := by decide +kernel
theorem nd_La_law_666 : decode nc_La_law 666 = .ok (.iload 5, 2) := by decide +kernel
theorem nd_La_law_668 : decode nc_La_law 668 = .ok (.if_icmp .eq 5, 3) := by decide +kernel
theorem nd_La_law_671 : decode nc_La_law 671 = .ok (.iconst 0, 1) := by decide +kernel
theorem nd_La_law_672 : decode nc_La_law 672 = .ok (.ireturn, 1) := by decide +kernel
theorem nd_La_law_673 : decode nc_La_law 673 = .ok (.iload 5, 2) := by decide +kernel
theorem nd_La_law_675 : decode nc_La_law 675 = .ok (.ifCond .ne 14, 3) := by decide +kernel
theorem nd_La_law_678 : decode nc_La_law 678 = .ok (.aload_n 3, 1) := by decide +kernel
theorem nd_La_law_679 : decode nc_La_law 679 = .ok (.iconst 0, 1) := by decide +kernel
theorem nd_La_law_680 : decode nc_La_law 680 = .ok (.laload, 1) := by decide +kernel
theorem nd_La_law_681 : decode nc_La_law 681 = .ok (.lload 6, 2) := by decide +kernel
theorem nd_La_law_683 : decode nc_La_law 683 = .ok (.lcmp, 1) := by decide +kernel
theorem nd_La_law_684 : decode nc_La_law 684 = .ok (.ifCond .eq 5, 3) := by decide +kernel
theorem nd_La_law_687 : decode nc_La_law 687 = .ok (.iconst 0, 1) := by decide +kernel
theorem nd_La_law_688 : decode nc_La_law 688 = .ok (.ireturn, 1) := by decide +kernel
theorem nd_La_law_689 : decode nc_La_law 689 = .ok (.goto 306, 3) := by decide +kernel
theorem nd_La_law_692 : decode nc_La_law 692 = .ok (.aload_n 1, 1) := by decide +kernel
theorem nd_La_law_693 : decode nc_La_law 693 = .ok (.aload_n 0, 1) := by decide +kernel
theorem nd_La_law_694 : decode nc_La_law 694 = .ok (.iload 4, 2) := by decide +kernel
theorem nd_La_law_696 : decode nc_La_law 696 = .ok (.iconst 1, 1) := by decide +kernel
theorem nd_La_law_697 : decode nc_La_law 697 = .ok (.iadd, 1) := by decide +kernel
theorem nd_La_law_698 : decode nc_La_law 698 = .ok (.iaload, 1) := by decide +kernel
theorem nd_La_law_699 : decode nc_La_law 699 = .ok (.aload_n 0, 1) := by decide +kernel
theorem nd_La_law_700 : decode nc_La_law 700 = .ok (.iload 4, 2) := by decide +kernel
theorem nd_La_law_702 : decode nc_La_law 702 = .ok (.iconst 2, 1) := by decide +kernel
theorem nd_La_law_703 : decode nc_La_law 703 = .ok (.iadd, 1) := by decide +kernel
theorem nd_La_law_704 : decode nc_La_law 704 = .ok (.iaload, 1) := by decide +kernel
theorem nd_La_law_705 : decode nc_La_law 705 = .ok (.ifCond .eq 7, 3) := by decide +kernel
theorem nd_La_law_708 : decode nc_La_law 708 = .ok (.iconst 1, 1) := by decide +kernel
theorem nd_La_law_709 : decode nc_La_law 709 = .ok (.goto 4, 3) := by decide +kernel
theorem nd_La_law_712 : decode nc_La_law 712 = .ok (.iconst 0, 1) := by decide +kernel
theorem nd_La_law_713 : decode nc_La_law 713 = .ok (.aload_n 0, 1) := by decide +kernel
theorem nd_La_law_714 : decode nc_La_law 714 = .ok (.iload 4, 2) := by decide +kernel
theorem nd_La_law_716 : decode nc_La_law 716 = .ok (.iconst 3, 1) := by decide +kernel
theorem nd_La_law_717 : decode nc_La_law 717 = .ok (.iadd, 1) := by decide +kernel
theorem nd_La_law_718 : decode nc_La_law 718 = .ok (.iaload, 1) := by decide +kernel
theorem nd_La_law_719 : decode nc_La_law 719 = .ok (.ifCond .eq 7, 3) := by decide +kernel
theorem nd_La_law_722 : decode nc_La_law 722 = .ok (.iconst 1, 1) := by decide +kernel
theorem nd_La_law_723 : decode nc_La_law 723 = .ok (.goto 4, 3) := by decide +kernel
theorem nd_La_law_726 : decode nc_La_law 726 = .ok (.iconst 0, 1) := by decide +kernel
theorem nd_La_law_727 : decode nc_La_law 727 = .ok (.aload_n 3, 1) := by decide +kernel
theorem nd_La_law_728 : decode nc_La_law 728 = .ok (.invokestatic 110, 3) := by decide +kernel
theorem nd_La_law_731 : decode nc_La_law 731 = .ok (.istore 5, 2) := by decide +kernel
theorem nd_La_law_733 : decode nc_La_law 733 = .ok (.aload_n 2, 1) := by decide +kernel
theorem nd_La_law_734 : decode nc_La_law 734 = .ok (.aload_n 0, 1) := by decide +kernel
theorem nd_La_law_735 : decode nc_La_law 735 = .ok (.iload 4, 2) := by decide +kernel
theorem nd_La_law_737 : decode nc_La_law 737 = .ok (.iconst 1, 1) := by decide +kernel
theorem nd_La_law_738 : decode nc_La_law 738 = .ok (.iadd, 1) := by decide +kernel
theorem nd_La_law_739 : decode nc_La_law 739 = .ok (.iaload, 1) := by decide +kernel
theorem nd_La_law_740 : decode nc_La_law 740 = .ok (.aload_n 0, 1) := by decide +kernel
theorem nd_La_law_741 : decode nc_La_law 741 = .ok (.iload 4, 2) := by decide +kernel
theorem nd_La_law_743 : decode nc_La_law 743 = .ok (.iconst 2, 1) := by decide +kernel
theorem nd_La_law_744 : decode nc_La_law 744 = .ok (.iadd, 1) := by decide +kernel
theorem nd_La_law_745 : decode nc_La_law 745 = .ok (.iaload, 1) := by decide +kernel
theorem nd_La_law_746 : decode nc_La_law 746 = .ok (.ifCond .eq 7, 3) := by decide +kernel
theorem nd_La_law_749 : decode nc_La_law 749 = .ok (.iconst 1, 1) := by decide +kernel
theorem nd_La_law_750 : decode nc_La_law 750 = .ok (.goto 4, 3) := by decide +kernel
theorem nd_La_law_753 : decode nc_La_law 753 = .ok (.iconst 0, 1) := by decide +kernel
theorem nd_La_law_754 : decode nc_La_law 754 = .ok (.aload_n 0, 1) := by decide +kernel
theorem nd_La_law_755 : decode nc_La_law 755 = .ok (.iload 4, 2) := by decide +kernel
theorem nd_La_law_757 : decode nc_La_law 757 = .ok (.iconst 3, 1) := by decide +kernel
theorem nd_La_law_758 : decode nc_La_law 758 = .ok (.iadd, 1) := by decide +kernel
theorem nd_La_law_759 : decode nc_La_law 759 = .ok (.iaload, 1) := by decide +kernel
theorem nd_La_law_760 : decode nc_La_law 760 = .ok (.ifCond .eq 7, 3) := by decide +kernel
theorem nd_La_law_763 : decode nc_La_law 763 = .ok (.iconst 1, 1) := by decide +kernel
theorem nd_La_law_764 : decode nc_La_law 764 = .ok (.goto 4, 3) := by decide +kernel
theorem nd_La_law_767 : decode nc_La_law 767 = .ok (.iconst 0, 1) := by decide +kernel
theorem nd_La_law_768 : decode nc_La_law 768 = .ok (.invokevirtual 113, 3) := by decide +kernel
theorem nd_La_law_771 : decode nc_La_law 771 = .ok (.lstore 6, 2) := by decide +kernel
theorem nd_La_law_773 : decode nc_La_law 773 = .ok (.aload_n 2, 1) := by decide +kernel
theorem nd_La_law_774 : decode nc_La_law 774 = .ok (.invokevirtual 73, 3) := by decide +kernel
theorem nd_La_law_777 : decode nc_La_law 777 = .ok (.iload 5, 2) := by decide +kernel
theorem nd_La_law_779 : decode nc_La_law 779 = .ok (.if_icmp .eq 5, 3) := by decide +kernel
theorem nd_La_law_782 : decode nc_La_law 782 = .ok (.iconst 0, 1) := by decide +kernel
theorem nd_La_law_783 : decode nc_La_law 783 = .ok (.ireturn, 1) := by decide +kernel
theorem nd_La_law_784 : decode nc_La_law 784 = .ok (.iload 5, 2) := by decide +kernel
theorem nd_La_law_786 : decode nc_La_law 786 = .ok (.ifCond .ne 14, 3) := by decide +kernel
theorem nd_La_law_789 : decode nc_La_law 789 = .ok (.aload_n 3, 1) := by decide +kernel
theorem nd_La_law_790 : decode nc_La_law 790 = .ok (.iconst 0, 1) := by decide +kernel
theorem nd_La_law_791 : decode nc_La_law 791 = .ok (.laload, 1) := by decide +kernel
theorem nd_La_law_792 : decode nc_La_law 792 = .ok (.lload 6, 2) := by decide +kernel
theorem nd_La_law_794 : decode nc_La_law 794 = .ok (.lcmp, 1) := by decide +kernel
theorem nd_La_law_795 : decode nc_La_law 795 = .ok (.ifCond .eq 5, 3) := by decide +kernel
theorem nd_La_law_798 : decode nc_La_law 798 = .ok (.iconst 0, 1) := by decide +kernel
theorem nd_La_law_799 : decode nc_La_law 799 = .ok (.ireturn, 1) := by decide +kernel
theorem nd_La_law_800 : decode nc_La_law 800 = .ok (.goto 195, 3) := by decide +kernel
theorem nd_La_law_803 : decode nc_La_law 803 = .ok (.aload_n 1, 1) := by decide +kernel
theorem nd_La_law_804 : decode nc_La_law 804 = .ok (.aload_n 0, 1) := by decide +kernel
theorem nd_La_law_805 : decode nc_La_law 805 = .ok (.iload 4, 2) := by decide +kernel
theorem nd_La_law_807 : decode nc_La_law 807 = .ok (.iconst 1, 1) := by decide +kernel
theorem nd_La_law_808 : decode nc_La_law 808 = .ok (.iadd, 1) := by decide +kernel
theorem nd_La_law_809 : decode nc_La_law 809 = .ok (.iaload, 1) := by decide +kernel
theorem nd_La_law_810 : decode nc_La_law 810 = .ok (.aload_n 3, 1) := by decide +kernel
theorem nd_La_law_811 : decode nc_La_law 811 = .ok (.invokestatic 114, 3) := by decide +kernel
theorem nd_La_law_814 : decode nc_La_law 814 = .ok (.istore 5, 2) := by decide +kernel
theorem nd_La_law_816 : decode nc_La_law 816 = .ok (.aload_n 2, 1) := by decide +kernel
theorem nd_La_law_817 : decode nc_La_law 817 = .ok (.aload_n 0, 1) := by decide +kernel
theorem nd_La_law_818 : decode nc_La_law 818 = .ok (.iload 4, 2) := by decide +kernel
theorem nd_La_law_820 : decode nc_La_law 820 = .ok (.iconst 1, 1) := by decide +kernel
theorem nd_La_law_821 : decode nc_La_law 821 = .ok (.iadd, 1) := by decide +kernel
theorem nd_La_law_822 : decode nc_La_law 822 = .ok (.iaload, 1) := by decide +kernel
theorem nd_La_law_823 : decode nc_La_law 823 = .ok (.invokevirtual 116, 3) := by decide +kernel
theorem nd_La_law_826 : decode nc_La_law 826 = .ok (.istore 6, 2) := by decide +kernel
theorem nd_La_law_828 : decode nc_La_law 828 = .ok (.aload_n 2, 1) := by decide +kernel
theorem nd_La_law_829 : decode nc_La_law 829 = .ok (.invokevirtual 73, 3) := by decide +kernel
theorem nd_La_law_832 : decode nc_La_law 832 = .ok (.iload 5, 2) := by decide +kernel
theorem nd_La_law_834 : decode nc_La_law 834 = .ok (.if_icmp .eq 5, 3) := by decide +kernel
theorem nd_La_law_837 : decode nc_La_law 837 = .ok (.iconst 0, 1) := by decide +kernel
theorem nd_La_law_838 : decode nc_La_law 838 = .ok (.ireturn, 1) := by decide +kernel
theorem nd_La_law_839 : decode nc_La_law 839 = .ok (.iload 5, 2) := by decide +kernel
theorem nd_La_law_841 : decode nc_La_law 841 = .ok (.ifCond .ne 15, 3) := by decide +kernel
theorem nd_La_law_844 : decode nc_La_law 844 = .ok (.aload_n 3, 1) := by decide +kernel
theorem nd_La_law_845 : decode nc_La_law 845 = .ok (.iconst 0, 1) := by decide +kernel
theorem nd_La_law_846 : decode nc_La_law 846 = .ok (.laload, 1) := by decide +kernel
theorem nd_La_law_847 : decode nc_La_law 847 = .ok (.iload 6, 2) := by decide +kernel
theorem nd_La_law_849 : decode nc_La_law 849 = .ok (.i2l, 1) := by decide +kernel
theorem nd_La_law_850 : decode nc_La_law 850 = .ok (.lcmp, 1) := by decide +kernel
theorem nd_La_law_851 : decode nc_La_law 851 = .ok (.ifCond .eq 5, 3) := by decide +kernel
theorem nd_La_law_854 : decode nc_La_law 854 = .ok (.iconst 0, 1) := by decide +kernel
theorem nd_La_law_855 : decode nc_La_law 855 = .ok (.ireturn, 1) := by decide +kernel
theorem nd_La_law_856 : decode nc_La_law 856 = .ok (.goto 139, 3) := by decide +kernel
theorem nd_La_law_859 : decode nc_La_law 859 = .ok (.aload_n 1, 1) := by decide +kernel
theorem nd_La_law_860 : decode nc_La_law 860 = .ok (.aload_n 0, 1) := by decide +kernel
theorem nd_La_law_861 : decode nc_La_law 861 = .ok (.iload 4, 2) := by decide +kernel
theorem nd_La_law_863 : decode nc_La_law 863 = .ok (.iconst 1, 1) := by decide +kernel
theorem nd_La_law_864 : decode nc_La_law 864 = .ok (.iadd, 1) := by decide +kernel
theorem nd_La_law_865 : decode nc_La_law 865 = .ok (.iaload, 1) := by decide +kernel
theorem nd_La_law_866 : decode nc_La_law 866 = .ok (.aload_n 0, 1) := by decide +kernel
theorem nd_La_law_867 : decode nc_La_law 867 = .ok (.iload 4, 2) := by decide +kernel
theorem nd_La_law_869 : decode nc_La_law 869 = .ok (.iconst 2, 1) := by decide +kernel
theorem nd_La_law_870 : decode nc_La_law 870 = .ok (.iadd, 1) := by decide +kernel
theorem nd_La_law_871 : decode nc_La_law 871 = .ok (.iaload, 1) := by decide +kernel
theorem nd_La_law_872 : decode nc_La_law 872 = .ok (.aload_n 0, 1) := by decide +kernel
theorem nd_La_law_873 : decode nc_La_law 873 = .ok (.iload 4, 2) := by decide +kernel
theorem nd_La_law_875 : decode nc_La_law 875 = .ok (.iconst 3, 1) := by decide +kernel
theorem nd_La_law_876 : decode nc_La_law 876 = .ok (.iadd, 1) := by decide +kernel
theorem nd_La_law_877 : decode nc_La_law 877 = .ok (.iaload, 1) := by decide +kernel
theorem nd_La_law_878 : decode nc_La_law 878 = .ok (.ifCond .eq 7, 3) := by decide +kernel
theorem nd_La_law_881 : decode nc_La_law 881 = .ok (.iconst 1, 1) := by decide +kernel
theorem nd_La_law_882 : decode nc_La_law 882 = .ok (.goto 4, 3) := by decide +kernel
theorem nd_La_law_885 : decode nc_La_law 885 = .ok (.iconst 0, 1) := by decide +kernel
theorem nd_La_law_886 : decode nc_La_law 886 = .ok (.aload_n 3, 1) := by decide +kernel
theorem nd_La_law_887 : decode nc_La_law 887 = .ok (.invokestatic 117, 3) := by decide +kernel
theorem nd_La_law_890 : decode nc_La_law 890 = .ok (.istore 5, 2) := by decide +kernel
theorem nd_La_law_892 : decode nc_La_law 892 = .ok (.aload_n 2, 1) := by decide +kernel
theorem nd_La_law_893 : decode nc_La_law 893 = .ok (.aload_n 0, 1) := by decide +kernel
theorem nd_La_law_894 : decode nc_La_law 894 = .ok (.iload 4, 2) := by decide +kernel
theorem nd_La_law_896 : decode nc_La_law 896 = .ok (.iconst 1, 1) := by decide +kernel
theorem nd_La_law_897 : decode nc_La_law 897 = .ok (.iadd, 1) := by decide +kernel
theorem nd_La_law_898 : decode nc_La_law 898 = .ok (.iaload, 1) := by decide +kernel
theorem nd_La_law_899 : decode nc_La_law 899 = .ok (.aload_n 0, 1) := by decide +kernel
theorem nd_La_law_900 : decode nc_La_law 900 = .ok (.iload 4, 2) := by decide +kernel
theorem nd_La_law_902 : decode nc_La_law 902 = .ok (.iconst 2, 1) := by decide +kernel
theorem nd_La_law_903 : decode nc_La_law 903 = .ok (.iadd, 1) := by decide +kernel
theorem nd_La_law_904 : decode nc_La_law 904 = .ok (.iaload, 1) := by decide +kernel
theorem nd_La_law_905 : decode nc_La_law 905 = .ok (.aload_n 0, 1) := by decide +kernel
theorem nd_La_law_906 : decode nc_La_law 906 = .ok (.iload 4, 2) := by decide +kernel
theorem nd_La_law_908 : decode nc_La_law 908 = .ok (.iconst 3, 1) := by decide +kernel
theorem nd_La_law_909 : decode nc_La_law 909 = .ok (.iadd, 1) := by decide +kernel
theorem nd_La_law_910 : decode nc_La_law 910 = .ok (.iaload, 1) := by decide +kernel
theorem nd_La_law_911 : decode nc_La_law 911 = .ok (.ifCond .eq 7, 3) := by decide +kernel
theorem nd_La_law_914 : decode nc_La_law 914 = .ok (.iconst 1, 1) := by decide +kernel
theorem nd_La_law_915 : decode nc_La_law 915 = .ok (.goto 4, 3) := by decide +kernel
theorem nd_La_law_918 : decode nc_La_law 918 = .ok (.iconst 0, 1) := by decide +kernel
theorem nd_La_law_919 : decode nc_La_law 919 = .ok (.invokevirtual 119, 3) := by decide +kernel
theorem nd_La_law_922 : decode nc_La_law 922 = .ok (.lstore 6, 2) := by decide +kernel
theorem nd_La_law_924 : decode nc_La_law 924 = .ok (.aload_n 2, 1) := by decide +kernel
theorem nd_La_law_925 : decode nc_La_law 925 = .ok (.invokevirtual 73, 3) := by decide +kernel
theorem nd_La_law_928 : decode nc_La_law 928 = .ok (.iload 5, 2) := by decide +kernel
theorem nd_La_law_930 : decode nc_La_law 930 = .ok (.if_icmp .eq 5, 3) := by decide +kernel
theorem nd_La_law_933 : decode nc_La_law 933 = .ok (.iconst 0, 1) := by decide +kernel
theorem nd_La_law_934 : decode nc_La_law 934 = .ok (.ireturn, 1) := by decide +kernel
theorem nd_La_law_935 : decode nc_La_law 935 = .ok (.iload 5, 2) := by decide +kernel
theorem nd_La_law_937 : decode nc_La_law 937 = .ok (.ifCond .ne 14, 3) := by decide +kernel
theorem nd_La_law_940 : decode nc_La_law 940 = .ok (.aload_n 3, 1) := by decide +kernel
theorem nd_La_law_941 : decode nc_La_law 941 = .ok (.iconst 0, 1) := by decide +kernel
theorem nd_La_law_942 : decode nc_La_law 942 = .ok (.laload, 1) := by decide +kernel
theorem nd_La_law_943 : decode nc_La_law 943 = .ok (.lload 6, 2) := by decide +kernel
theorem nd_La_law_945 : decode nc_La_law 945 = .ok (.lcmp, 1) := by decide +kernel
theorem nd_La_law_946 : decode nc_La_law 946 = .ok (.ifCond .eq 5, 3) := by decide +kernel
theorem nd_La_law_949 : decode nc_La_law 949 = .ok (.iconst 0, 1) := by decide +kernel
theorem nd_La_law_950 : decode nc_La_law 950 = .ok (.ireturn, 1) := by decide +kernel
theorem nd_La_law_951 : decode nc_La_law 951 = .ok (.goto 44, 3) := by decide +kernel
theorem nd_La_law_954 : decode nc_La_law 954 = .ok (.aload_n 1, 1) := by decide +kernel
theorem nd_La_law_955 : decode nc_La_law 955 = .ok (.aload_n 0, 1) := by decide +kernel
theorem nd_La_law_956 : decode nc_La_law 956 = .ok (.iload 4, 2) := by decide +kernel
theorem nd_La_law_958 : decode nc_La_law 958 = .ok (.iconst 1, 1) := by decide +kernel
theorem nd_La_law_959 : decode nc_La_law 959 = .ok (.iadd, 1) := by decide +kernel
theorem nd_La_law_960 : decode nc_La_law 960 = .ok (.iaload, 1) := by decide +kernel
theorem nd_La_law_961 : decode nc_La_law 961 = .ok (.ifCond .eq 7, 3) := by decide +kernel
theorem nd_La_law_964 : decode nc_La_law 964 = .ok (.iconst 1, 1) := by decide +kernel
theorem nd_La_law_965 : decode nc_La_law 965 = .ok (.goto 4, 3) := by decide +kernel
theorem nd_La_law_968 : decode nc_La_law 968 = .ok (.iconst 0, 1) := by decide +kernel
theorem nd_La_law_969 : decode nc_La_law 969 = .ok (.invokevirtual 120, 3) := by decide +kernel
theorem nd_La_law_972 : decode nc_La_law 972 = .ok (.aload_n 2, 1) := by decide +kernel
theorem nd_La_law_973 : decode nc_La_law 973 = .ok (.aload_n 0, 1) := by decide +kernel
theorem nd_La_law_974 : decode nc_La_law 974 = .ok (.iload 4, 2) := by decide +kernel
theorem nd_La_law_976 : decode nc_La_law 976 = .ok (.iconst 1, 1) := by decide +kernel
theorem nd_La_law_977 : decode nc_La_law 977 = .ok (.iadd, 1) := by decide +kernel
theorem nd_La_law_978 : decode nc_La_law 978 = .ok (.iaload, 1) := by decide +kernel
theorem nd_La_law_979 : decode nc_La_law 979 = .ok (.ifCond .eq 7, 3) := by decide +kernel
theorem nd_La_law_982 : decode nc_La_law 982 = .ok (.iconst 1, 1) := by decide +kernel
theorem nd_La_law_983 : decode nc_La_law 983 = .ok (.goto 4, 3) := by decide +kernel
theorem nd_La_law_986 : decode nc_La_law 986 = .ok (.iconst 0, 1) := by decide +kernel
theorem nd_La_law_987 : decode nc_La_law 987 = .ok (.invokevirtual 124, 3) := by decide +kernel
theorem nd_La_law_990 : decode nc_La_law 990 = .ok (.if_icmp .eq 5, 3) := by decide +kernel
theorem nd_La_law_993 : decode nc_La_law 993 = .ok (.iconst 0, 1) := by decide +kernel
theorem nd_La_law_994 : decode nc_La_law 994 = .ok (.ireturn, 1) := by decide +kernel
theorem nd_La_law_995 : decode nc_La_law 995 = .ok (.iinc 4 4, 3) := by decide +kernel
theorem nd_La_law_998 : decode nc_La_law 998 = .ok (.goto (-975), 3) := by decide +kernel
theorem nd_La_law_1001 : decode nc_La_law 1001 = .ok (.iconst 1, 1) := by decide +kernel
theorem nd_La_law_1002 : decode nc_La_law 1002 = .ok (.ireturn, 1) := by decide +kernel
end
section
/-! ===== heaps as maps: how large, and what lies where ===== -/
abbrev gw_S : Type := Nat × (Nat → Option va_E)
def gw_up (σ : gw_S) (a : Nat) (e : va_E) : gw_S := (σ.1, fun b => if b = a then some e else σ.2 b)
def gw_nw (σ : gw_S) (e : va_E) : gw_S := (σ.1 + 1, fun b => if b = σ.1 then some e else σ.2 b)
theorem gw_up_eq (σ : gw_S) (a : Nat) (e : va_E) : (gw_up σ a e).2 a = some e := by simp [gw_up]
theorem gw_up_ne {σ : gw_S} {a b : Nat} {e : va_E} (h : b ≠ a) : (gw_up σ a e).2 b = σ.2 b := by simp [gw_up, h]
theorem gw_nw_eq (σ : gw_S) (e : va_E) : (gw_nw σ e).2 σ.1 = some e := by simp [gw_nw]
theorem gw_nw_ne {σ : gw_S} {b : Nat} {e : va_E} (h : b ≠ σ.1) : (gw_nw σ e).2 b = σ.2 b := by simp [gw_nw, h]
/-- nothing but what lies from lo up to hi has changed -/
def gw_fr (σ σ' : gw_S) (lo hi : Nat) : Prop := σ'.1 = σ.1 ∧ ∀ b, b < lo ∨ hi ≤ b → σ'.2 b = σ.2 b
theorem gw_fr_rf (σ : gw_S) (lo hi : Nat) : gw_fr σ σ lo hi := ⟨rfl, fun _ _ => rfl⟩
theorem gw_fr_up (σ : gw_S) (a : Nat) (e : va_E) {lo hi : Nat} (h1 : lo ≤ a) (h2 : a < hi) : gw_fr σ (gw_up σ a e) lo hi := ⟨rfl, fun b hb => gw_up_ne (by omega)⟩
theorem gw_fr_tr {σ σ1 σ2 : gw_S} {lo hi lo1 hi1 lo2 hi2 : Nat} (h1 : gw_fr σ σ1 lo1 hi1) (h2 : gw_fr σ1 σ2 lo2 hi2) (a : lo ≤ lo1 := by omega) (b : lo ≤ lo2 := by omega) (c : hi1 ≤ hi := by omega) (d : hi2 ≤ hi := by omega) : gw_fr σ σ2 lo hi :=
  ⟨h2.1.trans h1.1, fun q hq => (h2.2 q (by omega)).trans (h1.2 q (by omega))⟩
abbrev gw_Z : Type := va_G × (Nat → ClassId)
def gw_T (Z : gw_Z) : List (ClassId × FieldType) := [(Z.2 0, .int), (Z.2 1, .long), (Z.2 2, .char), (Z.2 3, .object nR_Se), (Z.2 4, .object nR_Ra)]
abbrev gw_I (Z : gw_Z) (n : Nat) (f : Nat → Int32) : va_E := .inl (Z.2 0, n, .inl f)
abbrev gw_J (Z : gw_Z) (n : Nat) (f : Nat → Int64) : va_E := .inl (Z.2 1, n, .inr (.inl f))
abbrev gw_Ch (Z : gw_Z) (n : Nat) (f : Nat → Int32) : va_E := .inl (Z.2 2, n, .inl f)
abbrev gw_Q3 (Z : gw_Z) (n : Nat) (f : Nat → Option Nat) : va_E := .inl (Z.2 3, n, .inr (.inr (.inr (.inr f))))
abbrev gw_Q4 (Z : gw_Z) (n : Nat) (f : Nat → Option Nat) : va_E := .inl (Z.2 4, n, .inr (.inr (.inr (.inr f))))
/-- the heap is σ from b0 on, and no statics lie there -/
def gw_H (Z : gw_Z) (b0 : Nat) (σ : gw_S) (H : Heap) : Prop := H.size = σ.1 ∧ (b0 ≤ σ.1 ∧ ∀ (a : Nat) (cell : Cell), b0 ≤ a → H[a]? = some cell → cell.vm.isStatics = false) ∧ ∀ a e, σ.2 a = some e → b0 ≤ a ∧ va_at Z.1 nv_cl (a, e) H
theorem gw_ns {D : va_G} {cl : List vw_C} {a : Nat} {e : va_E} {H : Heap} (h : va_at D cl (a, e) H) {cell : Cell} (hc : H[a]? = some cell) : cell.vm.isStatics = false := by
  cases e with
  | inl x =>
    have h1 : H[a]? = some (vp_cell x.1 x.2) := h
    rw [hc] at h1
    cases h1
    obtain ⟨c, n, f | f | f | f | f⟩ := x <;> rfl
  | inr o =>
    obtain ⟨r, -, cell2, q1, q2, q3, -⟩ := h
    have q1 : H[a]? = some cell2 := q1
    rw [hc] at q1
    cases q1
    rw [q3]; rfl
theorem gw_H_lt {Z : gw_Z} {b0 : Nat} {σ : gw_S} {H : Heap} (h : gw_H Z b0 σ H) {a : Nat} {e : va_E} (ha : σ.2 a = some e) : a < σ.1 := by
  have := (h.2.2 a e ha).2.lt
  rw [h.1] at this
  exact this
theorem gw_H_up {Z : gw_Z} {b0 : Nat} {σ : gw_S} {H H1 : Heap} (h : gw_H Z b0 σ H) {a : Nat} {e0 e : va_E} (ha : σ.2 a = some e0) (he : va_at Z.1 nv_cl (a, e) H1) (z : H1.size = H.size) (oq : ∀ q : Nat, q ≠ a → H1[q]? = H[q]?) : gw_H Z b0 (gw_up σ a e) H1 := by
  refine ⟨z.trans h.1, ⟨h.2.1.1, fun q cell hq hc => ?_⟩, fun b f hb => ?_⟩
  · by_cases e9 : q = a
    · subst e9; exact gw_ns he hc
    · exact h.2.1.2 q cell hq (by rw [← oq q e9]; exact hc)
  by_cases hq : b = a
  · subst hq
    rw [gw_up_eq] at hb
    cases hb
    exact ⟨(h.2.2 _ _ ha).1, he⟩
  · rw [gw_up_ne hq] at hb
    exact ⟨(h.2.2 b f hb).1, (h.2.2 b f hb).2.kept (oq b hq)⟩
theorem gw_H_nw {Z : gw_Z} {b0 : Nat} {σ : gw_S} {H H1 : Heap} (h : gw_H Z b0 σ H) {e : va_E} (he : va_at Z.1 nv_cl (H.size, e) H1) (z : H1.size = H.size + 1) (oq : ∀ q : Nat, q < H.size → H1[q]? = H[q]?) : gw_H Z b0 (gw_nw σ e) H1 := by
  refine ⟨by rw [z, h.1]; rfl, ⟨Nat.le_succ_of_le h.2.1.1, fun q cell hq hc => ?_⟩, fun b f hb => ?_⟩
  · by_cases e9 : q = H.size
    · subst e9; exact gw_ns he hc
    · have h9 : q < H.size := by
        have := (Array.getElem?_eq_some_iff.mp hc).1
        omega
      exact h.2.1.2 q cell hq (by rw [← oq q h9]; exact hc)
  by_cases hq : b = σ.1
  · subst hq
    rw [gw_nw_eq] at hb
    cases hb
    exact ⟨h.2.1.1, by rw [← h.1]; exact he⟩
  · rw [gw_nw_ne hq] at hb
    exact ⟨(h.2.2 b f hb).1, (h.2.2 b f hb).2.kept (oq b (by have := gw_H_lt h hb; rw [h.1]; exact this))⟩
theorem gw_one {D : va_G} {cl : List vw_C} {a : Nat} {e : va_E} {H : Heap} (h : va_at D cl (a, e) H) : va_P D cl [(a, e)] H := by
  intro k q hk
  match k, hk with
  | 0, hk => cases hk; exact h
  | k + 1, hk => simp at hk
/-! ===== the words, all of them in one list ===== -/
def gw_ws : List Cond := lw_tbl.filter goodWord
def gw_isN (w : Cond) : Bool := match w with
  | .methodLinkNest _ _ _ _ => true
  | .fieldLinkNest _ _ _ _ _ _ => true
  | _ => false
def gw_nl : List Cond := tables_1.filter gw_isN
theorem gw_in {w : Cond} (h : w ∈ lw_tbl) (g : goodWord w = true) : w ∈ gw_ws := List.mem_filter.mpr ⟨h, g⟩
theorem gw_in_t {w : Cond} (i : Nat) (h : tables_1[i]? = some w) (g : goodWord w = true) : w ∈ gw_ws := gw_in (List.mem_append_right _ (List.mem_of_getElem? h)) g
theorem gw_in_p {w : Cond} (i : Nat) (h : (k2_sels lw_privs)[i]? = some w) (g : goodWord w = true) : w ∈ gw_ws := gw_in (List.mem_append_left _ (List.mem_of_getElem? h)) g
theorem gw_in_n {w : Cond} (i : Nat) (h : tables_1[i]? = some w) (g : gw_isN w = true) : w ∈ gw_nl := List.mem_filter.mpr ⟨List.mem_of_getElem? h, g⟩
theorem gw_good : ∀ w ∈ gw_ws, (w.onTables && w.keeps) = true ∨ ∃ ty, w = .arrayClass ty := fun w h => good_of_word (List.mem_filter.mp h).2
theorem gw_goodIn : GoodIn gw_ws gw_ws := fun w h => ⟨h, gw_good w h⟩
/-- what the tables say, wherever a method of the program begins -/
def gw_K (Z : gw_Z) (U : State) : Prop := va_K Z.1 nv_cl (gw_T Z) U ∧ (∀ w ∈ gw_nl, va_Nw w U) ∧ va_AO nR_Se U ∧ va_AO nR_Ra U
theorem gw_K_warm {Z : gw_Z} {s U : State} (hW : s.WarmedH U.vm) (h : gw_K Z s) : gw_K Z U := by
  refine ⟨va_K.moved hW.alike h.1, fun w hw => ?_, va_AO.moved hW.alike h.2.2.1, va_AO.moved hW.alike h.2.2.2⟩
  have h1 := h.2.1 w hw
  have h2 : gw_isN w = true := (List.mem_filter.mp hw).2
  cases w with
  | methodLinkNest a b c d => exact va_Nw.warmM hW h1
  | fieldLinkNest a b c d e f => exact va_Nw.warmF hW h1
  | _ => cases h2
theorem gw_K_vm {Z : gw_Z} {s U : State} (hW : s.vm = U.vm) (h : gw_K Z s) : gw_K Z U := gw_K_warm (by rw [← hW]; exact State.WarmedH.refl s) h
/-! ===== where a walk stands ===== -/
/-- machine; invocation; method; class numbers, the first cell of its own, how many locals; what is to be reached -/
abbrev gw_C : Type := (Program × Launch × Env × Room) × (State × MethodId × Array Value × List Frame) × (Method × Code) × (gw_Z × Nat × Nat) × (State → Prop)
abbrev gw_s (X : gw_C) : State := X.2.1.1
abbrev gw_m (X : gw_C) : MethodId := X.2.1.2.1
abbrev gw_a (X : gw_C) : Array Value := X.2.1.2.2.1
abbrev gw_R (X : gw_C) : Room := X.1.2.2.2
abbrev gw_z (X : gw_C) : gw_Z := X.2.2.2.1.1
abbrev gw_b (X : gw_C) : Nat := X.2.2.2.1.2.1
abbrev gw_n (X : gw_C) : Nat := X.2.2.2.1.2.2
abbrev gw_w (X : gw_C) (H : Heap) (locs : List Loc) (ce sl : Nat) (g : JFrame) : Prop := W X.1.1 X.1.2.1 X.1.2.2.1 X.1.2.2.2 X.2.1.1 X.2.1.2.1 X.2.1.2.2.1 X.2.1.2.2.2 X.2.2.1.1 X.2.2.1.2 H locs ce sl X.2.2.2.2 g
def gw_W (X : gw_C) (σ : gw_S) (ce sl pc : Nat) (L : List (Nat × Value)) (st : List Value) : Prop :=
  ∀ (H : Heap) (locs : List Loc) (ls : Array Slot), gw_H (gw_z X) (gw_b X) σ H → va_S (fun q => gw_b X ≤ q) (gw_s X).heap H locs → lv_has ls (gw_n X) L → gw_w X H locs ce sl (F0 (gw_m X) pc ls st)
/-- how many locals; its room: frames, words, cells, slots -/
abbrev gw_N : Type := Nat × Nat × Nat × Nat × Nat
def gw_ok (X : gw_C) (cc : ByteArray) (own : String) (q : gw_N) : Prop :=
  X.1.1.tables.exec = Jvm.exec ∧ X.2.2.1.2.code = cc ∧ (X.2.2.1.2.maxLocals = gw_n X ∧ gw_n X = q.1 ∧ gw_R X = { frames := q.2.1, cells := q.2.2.2.1, slots := q.2.2.2.2, locals := q.2.2.1 } ∧ X.2.2.1.1.locks = false) ∧ (gw_s X).vm.findClass own = some (gw_m X).cls ∧ (∀ w ∈ gw_ws, w.before (gw_a X) (gw_s X) = true) ∧ gw_K (gw_z X) (gw_s X)
theorem gw_nL {X : gw_C} {cc : ByteArray} {own : String} {q : gw_N} (hX : gw_ok X cc own q) {i : Nat} (h : i < q.1) : i < gw_n X := by rw [hX.2.2.1.2.1]; exact h
theorem gw_rc {X : gw_C} {cc : ByteArray} {own : String} {q : gw_N} (hX : gw_ok X cc own q) {i : Nat} (h : i ≤ q.2.2.2.1) : i ≤ (gw_R X).cells := by rw [hX.2.2.1.2.2.1]; exact h
theorem gw_rs {X : gw_C} {cc : ByteArray} {own : String} {q : gw_N} (hX : gw_ok X cc own q) {i : Nat} (h : i ≤ q.2.2.2.2) : i ≤ (gw_R X).slots := by rw [hX.2.2.1.2.2.1]; exact h
end
section
theorem gw_iconst {X : gw_C} {cc : ByteArray} {own : String} {σ : gw_S} {ce sl pc : Nat} {L : List (Nat × Value)} {st : List Value} {q : gw_N} (hX : gw_ok X cc own q) {n : Int} {v : Int32} (d : decode cc pc = .ok (.iconst n, 1)) (hv : Int32.ofInt n = v) (kk : gw_W X σ ce sl (pc + 1) L (.int v :: st)) : gw_W X σ ce sl pc L (st) :=
  fun H locs ls hG hS hL => lv_iconst hX.1 hX.2.1 d hv (kk H locs ls hG hS hL)
theorem gw_bipush {X : gw_C} {cc : ByteArray} {own : String} {σ : gw_S} {ce sl pc : Nat} {L : List (Nat × Value)} {st : List Value} {q : gw_N} (hX : gw_ok X cc own q) {n : Int} {v : Int32} (d : decode cc pc = .ok (.bipush n, 2)) (hv : (Int8.ofInt n).toInt32 = v) (kk : gw_W X σ ce sl (pc + 2) L (.int v :: st)) : gw_W X σ ce sl pc L (st) :=
  fun H locs ls hG hS hL => lv_bipush hX.1 hX.2.1 d hv (kk H locs ls hG hS hL)
theorem gw_sipush {X : gw_C} {cc : ByteArray} {own : String} {σ : gw_S} {ce sl pc : Nat} {L : List (Nat × Value)} {st : List Value} {q : gw_N} (hX : gw_ok X cc own q) {n : Int} {v : Int32} (d : decode cc pc = .ok (.sipush n, 3)) (hv : (Int16.ofInt n).toInt32 = v) (kk : gw_W X σ ce sl (pc + 3) L (.int v :: st)) : gw_W X σ ce sl pc L (st) :=
  fun H locs ls hG hS hL => lv_sipush hX.1 hX.2.1 d hv (kk H locs ls hG hS hL)
theorem gw_lconst {X : gw_C} {cc : ByteArray} {own : String} {σ : gw_S} {ce sl pc : Nat} {L : List (Nat × Value)} {st : List Value} {q : gw_N} (hX : gw_ok X cc own q) {n : Fin 2} {v : Int64} (d : decode cc pc = .ok (.lconst n, 1)) (hv : Int64.ofNat (n : Nat) = v) (kk : gw_W X σ ce sl (pc + 1) L (.long v :: st)) : gw_W X σ ce sl pc L (st) :=
  fun H locs ls hG hS hL => lv_lconst hX.1 hX.2.1 d hv (kk H locs ls hG hS hL)
theorem gw_iload_n {X : gw_C} {cc : ByteArray} {own : String} {σ : gw_S} {ce sl pc : Nat} {L : List (Nat × Value)} {st : List Value} {q : gw_N} (hX : gw_ok X cc own q) {k : Fin 4} {i : Nat} {x : Int32} (d : decode cc pc = .ok (.iload_n k, 1)) (hi : (k : Nat) = i) (j : Nat) (hj : L[j]? = some (i, .int x)) (kk : gw_W X σ ce sl (pc + 1) L (.int x :: st)) : gw_W X σ ce sl pc L (st) :=
  fun H locs ls hG hS hL => lv_iload_n hX.1 hX.2.1 d hi (lv_at hL j hj) (kk H locs ls hG hS hL)
theorem gw_iload {X : gw_C} {cc : ByteArray} {own : String} {σ : gw_S} {ce sl pc : Nat} {L : List (Nat × Value)} {st : List Value} {q : gw_N} (hX : gw_ok X cc own q) {i : Nat} {x : Int32} (d : decode cc pc = .ok (.iload i, 2)) (j : Nat) (hj : L[j]? = some (i, .int x)) (kk : gw_W X σ ce sl (pc + 2) L (.int x :: st)) : gw_W X σ ce sl pc L (st) :=
  fun H locs ls hG hS hL => lv_iload hX.1 hX.2.1 d (lv_at hL j hj) (kk H locs ls hG hS hL)
theorem gw_istore_n {X : gw_C} {cc : ByteArray} {own : String} {σ : gw_S} {ce sl pc : Nat} {L : List (Nat × Value)} {st : List Value} {q : gw_N} (hX : gw_ok X cc own q) {k : Fin 4} {i : Nat} {x : Int32} {L' : List (Nat × Value)} (d : decode cc pc = .ok (.istore_n k, 1)) (hi : (k : Nat) = i) (hn : i < q.1) (hl : (i, Value.int x) :: L.filter (fun y => !(y.1 == i) && !(y.1 + 1 == i && y.2.category == 2)) = L') (kk : gw_W X σ ce sl (pc + 1) L' (st)) : gw_W X σ ce sl pc L (.int x :: st) :=
  fun H locs ls hG hS hL => lv_istore_n hX.1 hX.2.1 d hi hL (gw_nL hX hn) hl (fun ls' hL' => kk H locs ls' hG hS hL')
theorem gw_istore {X : gw_C} {cc : ByteArray} {own : String} {σ : gw_S} {ce sl pc : Nat} {L : List (Nat × Value)} {st : List Value} {q : gw_N} (hX : gw_ok X cc own q) {i : Nat} {x : Int32} {L' : List (Nat × Value)} (d : decode cc pc = .ok (.istore i, 2)) (hn : i < q.1) (hl : (i, Value.int x) :: L.filter (fun y => !(y.1 == i) && !(y.1 + 1 == i && y.2.category == 2)) = L') (kk : gw_W X σ ce sl (pc + 2) L' (st)) : gw_W X σ ce sl pc L (.int x :: st) :=
  fun H locs ls hG hS hL => lv_istore hX.1 hX.2.1 d hL (gw_nL hX hn) hl (fun ls' hL' => kk H locs ls' hG hS hL')
theorem gw_lload_n {X : gw_C} {cc : ByteArray} {own : String} {σ : gw_S} {ce sl pc : Nat} {L : List (Nat × Value)} {st : List Value} {q : gw_N} (hX : gw_ok X cc own q) {k : Fin 4} {i : Nat} {x : Int64} (d : decode cc pc = .ok (.lload_n k, 1)) (hi : (k : Nat) = i) (j : Nat) (hj : L[j]? = some (i, .long x)) (kk : gw_W X σ ce sl (pc + 1) L (.long x :: st)) : gw_W X σ ce sl pc L (st) :=
  fun H locs ls hG hS hL => lv_lload_n hX.1 hX.2.1 d hi (lv_at hL j hj) (kk H locs ls hG hS hL)
theorem gw_lload {X : gw_C} {cc : ByteArray} {own : String} {σ : gw_S} {ce sl pc : Nat} {L : List (Nat × Value)} {st : List Value} {q : gw_N} (hX : gw_ok X cc own q) {i : Nat} {x : Int64} (d : decode cc pc = .ok (.lload i, 2)) (j : Nat) (hj : L[j]? = some (i, .long x)) (kk : gw_W X σ ce sl (pc + 2) L (.long x :: st)) : gw_W X σ ce sl pc L (st) :=
  fun H locs ls hG hS hL => lv_lload hX.1 hX.2.1 d (lv_at hL j hj) (kk H locs ls hG hS hL)
theorem gw_lstore_n {X : gw_C} {cc : ByteArray} {own : String} {σ : gw_S} {ce sl pc : Nat} {L : List (Nat × Value)} {st : List Value} {q : gw_N} (hX : gw_ok X cc own q) {k : Fin 4} {i : Nat} {x : Int64} {L' : List (Nat × Value)} (d : decode cc pc = .ok (.lstore_n k, 1)) (hi : (k : Nat) = i) (hn : i + 1 < q.1) (hl : (i, Value.long x) :: L.filter (fun y => !(y.1 == i) && (!(y.1 == i + 1) && !(y.1 + 1 == i && y.2.category == 2))) = L') (kk : gw_W X σ ce sl (pc + 1) L' (st)) : gw_W X σ ce sl pc L (.long x :: st) :=
  fun H locs ls hG hS hL => lv_lstore_n hX.1 hX.2.1 d hi hL (gw_nL hX hn) hl (fun ls' hL' => kk H locs ls' hG hS hL')
theorem gw_lstore {X : gw_C} {cc : ByteArray} {own : String} {σ : gw_S} {ce sl pc : Nat} {L : List (Nat × Value)} {st : List Value} {q : gw_N} (hX : gw_ok X cc own q) {i : Nat} {x : Int64} {L' : List (Nat × Value)} (d : decode cc pc = .ok (.lstore i, 2)) (hn : i + 1 < q.1) (hl : (i, Value.long x) :: L.filter (fun y => !(y.1 == i) && (!(y.1 == i + 1) && !(y.1 + 1 == i && y.2.category == 2))) = L') (kk : gw_W X σ ce sl (pc + 2) L' (st)) : gw_W X σ ce sl pc L (.long x :: st) :=
  fun H locs ls hG hS hL => lv_lstore hX.1 hX.2.1 d hL (gw_nL hX hn) hl (fun ls' hL' => kk H locs ls' hG hS hL')
theorem gw_aload_n {X : gw_C} {cc : ByteArray} {own : String} {σ : gw_S} {ce sl pc : Nat} {L : List (Nat × Value)} {st : List Value} {q : gw_N} (hX : gw_ok X cc own q) {k : Fin 4} {i : Nat} {x : Nat} (d : decode cc pc = .ok (.aload_n k, 1)) (hi : (k : Nat) = i) (j : Nat) (hj : L[j]? = some (i, .ref x)) (kk : gw_W X σ ce sl (pc + 1) L (.ref x :: st)) : gw_W X σ ce sl pc L (st) :=
  fun H locs ls hG hS hL => lv_aload_n hX.1 hX.2.1 d hi (lv_at hL j hj) (kk H locs ls hG hS hL)
theorem gw_aload {X : gw_C} {cc : ByteArray} {own : String} {σ : gw_S} {ce sl pc : Nat} {L : List (Nat × Value)} {st : List Value} {q : gw_N} (hX : gw_ok X cc own q) {i : Nat} {x : Nat} (d : decode cc pc = .ok (.aload i, 2)) (j : Nat) (hj : L[j]? = some (i, .ref x)) (kk : gw_W X σ ce sl (pc + 2) L (.ref x :: st)) : gw_W X σ ce sl pc L (st) :=
  fun H locs ls hG hS hL => lv_aload hX.1 hX.2.1 d (lv_at hL j hj) (kk H locs ls hG hS hL)
theorem gw_astore_n {X : gw_C} {cc : ByteArray} {own : String} {σ : gw_S} {ce sl pc : Nat} {L : List (Nat × Value)} {st : List Value} {q : gw_N} (hX : gw_ok X cc own q) {k : Fin 4} {i : Nat} {x : Nat} {L' : List (Nat × Value)} (d : decode cc pc = .ok (.astore_n k, 1)) (hi : (k : Nat) = i) (hn : i < q.1) (hl : (i, Value.ref x) :: L.filter (fun y => !(y.1 == i) && !(y.1 + 1 == i && y.2.category == 2)) = L') (kk : gw_W X σ ce sl (pc + 1) L' (st)) : gw_W X σ ce sl pc L (.ref x :: st) :=
  fun H locs ls hG hS hL => lv_astore_n hX.1 hX.2.1 d hi hL (gw_nL hX hn) hl (fun ls' hL' => kk H locs ls' hG hS hL')
theorem gw_astore {X : gw_C} {cc : ByteArray} {own : String} {σ : gw_S} {ce sl pc : Nat} {L : List (Nat × Value)} {st : List Value} {q : gw_N} (hX : gw_ok X cc own q) {i : Nat} {x : Nat} {L' : List (Nat × Value)} (d : decode cc pc = .ok (.astore i, 2)) (hn : i < q.1) (hl : (i, Value.ref x) :: L.filter (fun y => !(y.1 == i) && !(y.1 + 1 == i && y.2.category == 2)) = L') (kk : gw_W X σ ce sl (pc + 2) L' (st)) : gw_W X σ ce sl pc L (.ref x :: st) :=
  fun H locs ls hG hS hL => lv_astore hX.1 hX.2.1 d hL (gw_nL hX hn) hl (fun ls' hL' => kk H locs ls' hG hS hL')
theorem gw_iinc {X : gw_C} {cc : ByteArray} {own : String} {σ : gw_S} {ce sl pc : Nat} {L : List (Nat × Value)} {st : List Value} {q : gw_N} (hX : gw_ok X cc own q) {i : Nat} {n : Int} {x v : Int32} {L' : List (Nat × Value)} (d : decode cc pc = .ok (.iinc i n, 3)) (j : Nat) (hj : L[j]? = some (i, .int x)) (hv : x + Int32.ofInt n = v) (hn : i < q.1) (hl : (i, Value.int v) :: L.filter (fun y => !(y.1 == i) && !(y.1 + 1 == i && y.2.category == 2)) = L') (kk : gw_W X σ ce sl (pc + 3) L' (st)) : gw_W X σ ce sl pc L (st) :=
  fun H locs ls hG hS hL => lv_iinc hX.1 hX.2.1 d hL hj hv (gw_nL hX hn) hl (fun ls' hL' => kk H locs ls' hG hS hL')
theorem gw_iadd {X : gw_C} {cc : ByteArray} {own : String} {σ : gw_S} {ce sl pc : Nat} {L : List (Nat × Value)} {st : List Value} {q : gw_N} (hX : gw_ok X cc own q) {x y : Int32} (d : decode cc pc = .ok (.iadd, 1)) (kk : gw_W X σ ce sl (pc + 1) L (.int (x + y) :: st)) : gw_W X σ ce sl pc L (.int y :: .int x :: st) :=
  fun H locs ls hG hS hL => lv_iadd hX.1 hX.2.1 d (kk H locs ls hG hS hL)
theorem gw_isub {X : gw_C} {cc : ByteArray} {own : String} {σ : gw_S} {ce sl pc : Nat} {L : List (Nat × Value)} {st : List Value} {q : gw_N} (hX : gw_ok X cc own q) {x y : Int32} (d : decode cc pc = .ok (.isub, 1)) (kk : gw_W X σ ce sl (pc + 1) L (.int (x - y) :: st)) : gw_W X σ ce sl pc L (.int y :: .int x :: st) :=
  fun H locs ls hG hS hL => lv_isub hX.1 hX.2.1 d (kk H locs ls hG hS hL)
theorem gw_imul {X : gw_C} {cc : ByteArray} {own : String} {σ : gw_S} {ce sl pc : Nat} {L : List (Nat × Value)} {st : List Value} {q : gw_N} (hX : gw_ok X cc own q) {x y : Int32} (d : decode cc pc = .ok (.imul, 1)) (kk : gw_W X σ ce sl (pc + 1) L (.int (x * y) :: st)) : gw_W X σ ce sl pc L (.int y :: .int x :: st) :=
  fun H locs ls hG hS hL => lv_imul hX.1 hX.2.1 d (kk H locs ls hG hS hL)
theorem gw_iand {X : gw_C} {cc : ByteArray} {own : String} {σ : gw_S} {ce sl pc : Nat} {L : List (Nat × Value)} {st : List Value} {q : gw_N} (hX : gw_ok X cc own q) {x y : Int32} (d : decode cc pc = .ok (.iand, 1)) (kk : gw_W X σ ce sl (pc + 1) L (.int (x &&& y) :: st)) : gw_W X σ ce sl pc L (.int y :: .int x :: st) :=
  fun H locs ls hG hS hL => lv_iand hX.1 hX.2.1 d (kk H locs ls hG hS hL)
theorem gw_ior {X : gw_C} {cc : ByteArray} {own : String} {σ : gw_S} {ce sl pc : Nat} {L : List (Nat × Value)} {st : List Value} {q : gw_N} (hX : gw_ok X cc own q) {x y : Int32} (d : decode cc pc = .ok (.ior, 1)) (kk : gw_W X σ ce sl (pc + 1) L (.int (x ||| y) :: st)) : gw_W X σ ce sl pc L (.int y :: .int x :: st) :=
  fun H locs ls hG hS hL => lv_ior hX.1 hX.2.1 d (kk H locs ls hG hS hL)
theorem gw_ixor {X : gw_C} {cc : ByteArray} {own : String} {σ : gw_S} {ce sl pc : Nat} {L : List (Nat × Value)} {st : List Value} {q : gw_N} (hX : gw_ok X cc own q) {x y : Int32} (d : decode cc pc = .ok (.ixor, 1)) (kk : gw_W X σ ce sl (pc + 1) L (.int (x ^^^ y) :: st)) : gw_W X σ ce sl pc L (.int y :: .int x :: st) :=
  fun H locs ls hG hS hL => lv_ixor hX.1 hX.2.1 d (kk H locs ls hG hS hL)
theorem gw_ladd {X : gw_C} {cc : ByteArray} {own : String} {σ : gw_S} {ce sl pc : Nat} {L : List (Nat × Value)} {st : List Value} {q : gw_N} (hX : gw_ok X cc own q) {x y : Int64} (d : decode cc pc = .ok (.ladd, 1)) (kk : gw_W X σ ce sl (pc + 1) L (.long (x + y) :: st)) : gw_W X σ ce sl pc L (.long y :: .long x :: st) :=
  fun H locs ls hG hS hL => lv_ladd hX.1 hX.2.1 d (kk H locs ls hG hS hL)
theorem gw_lsub {X : gw_C} {cc : ByteArray} {own : String} {σ : gw_S} {ce sl pc : Nat} {L : List (Nat × Value)} {st : List Value} {q : gw_N} (hX : gw_ok X cc own q) {x y : Int64} (d : decode cc pc = .ok (.lsub, 1)) (kk : gw_W X σ ce sl (pc + 1) L (.long (x - y) :: st)) : gw_W X σ ce sl pc L (.long y :: .long x :: st) :=
  fun H locs ls hG hS hL => lv_lsub hX.1 hX.2.1 d (kk H locs ls hG hS hL)
theorem gw_land {X : gw_C} {cc : ByteArray} {own : String} {σ : gw_S} {ce sl pc : Nat} {L : List (Nat × Value)} {st : List Value} {q : gw_N} (hX : gw_ok X cc own q) {x y : Int64} (d : decode cc pc = .ok (.land, 1)) (kk : gw_W X σ ce sl (pc + 1) L (.long (x &&& y) :: st)) : gw_W X σ ce sl pc L (.long y :: .long x :: st) :=
  fun H locs ls hG hS hL => lv_land hX.1 hX.2.1 d (kk H locs ls hG hS hL)
theorem gw_lor {X : gw_C} {cc : ByteArray} {own : String} {σ : gw_S} {ce sl pc : Nat} {L : List (Nat × Value)} {st : List Value} {q : gw_N} (hX : gw_ok X cc own q) {x y : Int64} (d : decode cc pc = .ok (.lor, 1)) (kk : gw_W X σ ce sl (pc + 1) L (.long (x ||| y) :: st)) : gw_W X σ ce sl pc L (.long y :: .long x :: st) :=
  fun H locs ls hG hS hL => lv_lor hX.1 hX.2.1 d (kk H locs ls hG hS hL)
theorem gw_ishl {X : gw_C} {cc : ByteArray} {own : String} {σ : gw_S} {ce sl pc : Nat} {L : List (Nat × Value)} {st : List Value} {q : gw_N} (hX : gw_ok X cc own q) {x y : Int32} (d : decode cc pc = .ok (.ishl, 1)) (kk : gw_W X σ ce sl (pc + 1) L (.int (x <<< (y &&& 31)) :: st)) : gw_W X σ ce sl pc L (.int y :: .int x :: st) :=
  fun H locs ls hG hS hL => lv_ishl hX.1 hX.2.1 d (kk H locs ls hG hS hL)
theorem gw_ishr {X : gw_C} {cc : ByteArray} {own : String} {σ : gw_S} {ce sl pc : Nat} {L : List (Nat × Value)} {st : List Value} {q : gw_N} (hX : gw_ok X cc own q) {x y : Int32} (d : decode cc pc = .ok (.ishr, 1)) (kk : gw_W X σ ce sl (pc + 1) L (.int (x >>> (y &&& 31)) :: st)) : gw_W X σ ce sl pc L (.int y :: .int x :: st) :=
  fun H locs ls hG hS hL => lv_ishr hX.1 hX.2.1 d (kk H locs ls hG hS hL)
theorem gw_iushr {X : gw_C} {cc : ByteArray} {own : String} {σ : gw_S} {ce sl pc : Nat} {L : List (Nat × Value)} {st : List Value} {q : gw_N} (hX : gw_ok X cc own q) {x y : Int32} (d : decode cc pc = .ok (.iushr, 1)) (kk : gw_W X σ ce sl (pc + 1) L (.int (x.toUInt32 >>> (y.toUInt32 &&& Int32.toUInt32 31)).toInt32 :: st)) : gw_W X σ ce sl pc L (.int y :: .int x :: st) :=
  fun H locs ls hG hS hL => lv_iushr hX.1 hX.2.1 d rfl (kk H locs ls hG hS hL)
theorem gw_i2l {X : gw_C} {cc : ByteArray} {own : String} {σ : gw_S} {ce sl pc : Nat} {L : List (Nat × Value)} {st : List Value} {q : gw_N} (hX : gw_ok X cc own q) {x : Int32} (d : decode cc pc = .ok (.i2l, 1)) (kk : gw_W X σ ce sl (pc + 1) L (.long x.toInt64 :: st)) : gw_W X σ ce sl pc L (.int x :: st) :=
  fun H locs ls hG hS hL => lv_i2l hX.1 hX.2.1 d rfl (kk H locs ls hG hS hL)
theorem gw_l2i {X : gw_C} {cc : ByteArray} {own : String} {σ : gw_S} {ce sl pc : Nat} {L : List (Nat × Value)} {st : List Value} {q : gw_N} (hX : gw_ok X cc own q) {x : Int64} (d : decode cc pc = .ok (.l2i, 1)) (kk : gw_W X σ ce sl (pc + 1) L (.int x.toInt32 :: st)) : gw_W X σ ce sl pc L (.long x :: st) :=
  fun H locs ls hG hS hL => lv_l2i hX.1 hX.2.1 d rfl (kk H locs ls hG hS hL)
theorem gw_i2c {X : gw_C} {cc : ByteArray} {own : String} {σ : gw_S} {ce sl pc : Nat} {L : List (Nat × Value)} {st : List Value} {q : gw_N} (hX : gw_ok X cc own q) {x : Int32} (d : decode cc pc = .ok (.i2c, 1)) (kk : gw_W X σ ce sl (pc + 1) L (.int (x.toUInt32 % 65536).toInt32 :: st)) : gw_W X σ ce sl pc L (.int x :: st) :=
  fun H locs ls hG hS hL => lv_i2c hX.1 hX.2.1 d rfl (kk H locs ls hG hS hL)
theorem gw_lushr {X : gw_C} {cc : ByteArray} {own : String} {σ : gw_S} {ce sl pc : Nat} {L : List (Nat × Value)} {st : List Value} {q : gw_N} (hX : gw_ok X cc own q) {x : Int64} {y : Int32} (d : decode cc pc = .ok (.lushr, 1)) (kk : gw_W X σ ce sl (pc + 1) L (.long (x.toUInt64 >>> (y.toInt64.toUInt64 &&& Int64.toUInt64 63)).toInt64 :: st)) : gw_W X σ ce sl pc L (.int y :: .long x :: st) :=
  fun H locs ls hG hS hL => lv_lushr hX.1 hX.2.1 d rfl (kk H locs ls hG hS hL)
theorem gw_lshl {X : gw_C} {cc : ByteArray} {own : String} {σ : gw_S} {ce sl pc : Nat} {L : List (Nat × Value)} {st : List Value} {q : gw_N} (hX : gw_ok X cc own q) {x : Int64} {y : Int32} (d : decode cc pc = .ok (.lshl, 1)) (kk : gw_W X σ ce sl (pc + 1) L (.long (x <<< (y.toInt64 &&& 63)) :: st)) : gw_W X σ ce sl pc L (.int y :: .long x :: st) :=
  fun H locs ls hG hS hL => lv_lshl hX.1 hX.2.1 d rfl (kk H locs ls hG hS hL)
theorem gw_lshr {X : gw_C} {cc : ByteArray} {own : String} {σ : gw_S} {ce sl pc : Nat} {L : List (Nat × Value)} {st : List Value} {q : gw_N} (hX : gw_ok X cc own q) {x : Int64} {y : Int32} (d : decode cc pc = .ok (.lshr, 1)) (kk : gw_W X σ ce sl (pc + 1) L (.long (x >>> (y.toInt64 &&& 63)) :: st)) : gw_W X σ ce sl pc L (.int y :: .long x :: st) :=
  fun H locs ls hG hS hL => lv_lshr hX.1 hX.2.1 d rfl (kk H locs ls hG hS hL)
theorem gw_dup {X : gw_C} {cc : ByteArray} {own : String} {σ : gw_S} {ce sl pc : Nat} {L : List (Nat × Value)} {st : List Value} {q : gw_N} (hX : gw_ok X cc own q) {va : Value} (d : decode cc pc = .ok (.dup, 1)) (hva : va.category = 1) (kk : gw_W X σ ce sl (pc + 1) L (va :: va :: st)) : gw_W X σ ce sl pc L (va :: st) :=
  fun H locs ls hG hS hL => lv_dup hX.1 hX.2.1 d hva (kk H locs ls hG hS hL)
theorem gw_pop {X : gw_C} {cc : ByteArray} {own : String} {σ : gw_S} {ce sl pc : Nat} {L : List (Nat × Value)} {st : List Value} {q : gw_N} (hX : gw_ok X cc own q) {va : Value} (d : decode cc pc = .ok (.pop, 1)) (hva : va.category = 1) (kk : gw_W X σ ce sl (pc + 1) L (st)) : gw_W X σ ce sl pc L (va :: st) :=
  fun H locs ls hG hS hL => lv_pop hX.1 hX.2.1 d hva (kk H locs ls hG hS hL)
theorem gw_dup_x1 {X : gw_C} {cc : ByteArray} {own : String} {σ : gw_S} {ce sl pc : Nat} {L : List (Nat × Value)} {st : List Value} {q : gw_N} (hX : gw_ok X cc own q) {va vb : Value} (d : decode cc pc = .ok (.dup_x1, 1)) (hva : va.category = 1) (hvb : vb.category = 1) (kk : gw_W X σ ce sl (pc + 1) L (va :: vb :: va :: st)) : gw_W X σ ce sl pc L (va :: vb :: st) :=
  fun H locs ls hG hS hL => lv_dup_x1 hX.1 hX.2.1 d hva hvb (kk H locs ls hG hS hL)
theorem gw_dup2_11 {X : gw_C} {cc : ByteArray} {own : String} {σ : gw_S} {ce sl pc : Nat} {L : List (Nat × Value)} {st : List Value} {q : gw_N} (hX : gw_ok X cc own q) {va vb : Value} (d : decode cc pc = .ok (.dup2, 1)) (hva : va.category = 1) (hvb : vb.category = 1) (kk : gw_W X σ ce sl (pc + 1) L (va :: vb :: va :: vb :: st)) : gw_W X σ ce sl pc L (va :: vb :: st) :=
  fun H locs ls hG hS hL => lv_dup2_11 hX.1 hX.2.1 d hva hvb (kk H locs ls hG hS hL)
theorem gw_dup2_2 {X : gw_C} {cc : ByteArray} {own : String} {σ : gw_S} {ce sl pc : Nat} {L : List (Nat × Value)} {st : List Value} {q : gw_N} (hX : gw_ok X cc own q) {va : Value} (d : decode cc pc = .ok (.dup2, 1)) (hva : va.category = 2) (kk : gw_W X σ ce sl (pc + 1) L (va :: va :: st)) : gw_W X σ ce sl pc L (va :: st) :=
  fun H locs ls hG hS hL => lv_dup2_2 hX.1 hX.2.1 d hva (kk H locs ls hG hS hL)
theorem gw_dup2_x1_2 {X : gw_C} {cc : ByteArray} {own : String} {σ : gw_S} {ce sl pc : Nat} {L : List (Nat × Value)} {st : List Value} {q : gw_N} (hX : gw_ok X cc own q) {va vb : Value} (d : decode cc pc = .ok (.dup2_x1, 1)) (hva : va.category = 2) (hvb : vb.category = 1) (kk : gw_W X σ ce sl (pc + 1) L (va :: vb :: va :: st)) : gw_W X σ ce sl pc L (va :: vb :: st) :=
  fun H locs ls hG hS hL => lv_dup2_x1_2 hX.1 hX.2.1 d hva hvb (kk H locs ls hG hS hL)
theorem gw_if_eq {X : gw_C} {cc : ByteArray} {own : String} {σ : gw_S} {ce sl pc : Nat} {L : List (Nat × Value)} {st : List Value} {q : gw_N} (hX : gw_ok X cc own q) {x : Int32} {off : Int} {tgt : Nat} (d : decode cc pc = .ok (.ifCond .eq off, 3)) (ht : (pc : Int) + off = (tgt : Int)) (kt : x = 0 → gw_W X σ ce sl (tgt) L (st)) (kf : ¬ x = 0 → gw_W X σ ce sl (pc + 3) L (st)) : gw_W X σ ce sl pc L (.int x :: st) :=
  fun H locs ls hG hS hL => lv_if_eq hX.1 hX.2.1 d ht (fun h => kt h H locs ls hG hS hL) (fun h => kf h H locs ls hG hS hL)
theorem gw_icmp_eq {X : gw_C} {cc : ByteArray} {own : String} {σ : gw_S} {ce sl pc : Nat} {L : List (Nat × Value)} {st : List Value} {q : gw_N} (hX : gw_ok X cc own q) {x y : Int32} {off : Int} {tgt : Nat} (d : decode cc pc = .ok (.if_icmp .eq off, 3)) (ht : (pc : Int) + off = (tgt : Int)) (kt : x = y → gw_W X σ ce sl (tgt) L (st)) (kf : ¬ x = y → gw_W X σ ce sl (pc + 3) L (st)) : gw_W X σ ce sl pc L (.int y :: .int x :: st) :=
  fun H locs ls hG hS hL => lv_icmp_eq hX.1 hX.2.1 d ht (fun h => kt h H locs ls hG hS hL) (fun h => kf h H locs ls hG hS hL)
theorem gw_if_ne {X : gw_C} {cc : ByteArray} {own : String} {σ : gw_S} {ce sl pc : Nat} {L : List (Nat × Value)} {st : List Value} {q : gw_N} (hX : gw_ok X cc own q) {x : Int32} {off : Int} {tgt : Nat} (d : decode cc pc = .ok (.ifCond .ne off, 3)) (ht : (pc : Int) + off = (tgt : Int)) (kt : ¬ x = 0 → gw_W X σ ce sl (tgt) L (st)) (kf : x = 0 → gw_W X σ ce sl (pc + 3) L (st)) : gw_W X σ ce sl pc L (.int x :: st) :=
  fun H locs ls hG hS hL => lv_if_ne hX.1 hX.2.1 d ht (fun h => kt h H locs ls hG hS hL) (fun h => kf h H locs ls hG hS hL)
theorem gw_icmp_ne {X : gw_C} {cc : ByteArray} {own : String} {σ : gw_S} {ce sl pc : Nat} {L : List (Nat × Value)} {st : List Value} {q : gw_N} (hX : gw_ok X cc own q) {x y : Int32} {off : Int} {tgt : Nat} (d : decode cc pc = .ok (.if_icmp .ne off, 3)) (ht : (pc : Int) + off = (tgt : Int)) (kt : ¬ x = y → gw_W X σ ce sl (tgt) L (st)) (kf : x = y → gw_W X σ ce sl (pc + 3) L (st)) : gw_W X σ ce sl pc L (.int y :: .int x :: st) :=
  fun H locs ls hG hS hL => lv_icmp_ne hX.1 hX.2.1 d ht (fun h => kt h H locs ls hG hS hL) (fun h => kf h H locs ls hG hS hL)
theorem gw_if_lt {X : gw_C} {cc : ByteArray} {own : String} {σ : gw_S} {ce sl pc : Nat} {L : List (Nat × Value)} {st : List Value} {q : gw_N} (hX : gw_ok X cc own q) {x : Int32} {off : Int} {tgt : Nat} (d : decode cc pc = .ok (.ifCond .lt off, 3)) (ht : (pc : Int) + off = (tgt : Int)) (kt : x < 0 → gw_W X σ ce sl (tgt) L (st)) (kf : ¬ x < 0 → gw_W X σ ce sl (pc + 3) L (st)) : gw_W X σ ce sl pc L (.int x :: st) :=
  fun H locs ls hG hS hL => lv_if_lt hX.1 hX.2.1 d ht (fun h => kt h H locs ls hG hS hL) (fun h => kf h H locs ls hG hS hL)
theorem gw_icmp_lt {X : gw_C} {cc : ByteArray} {own : String} {σ : gw_S} {ce sl pc : Nat} {L : List (Nat × Value)} {st : List Value} {q : gw_N} (hX : gw_ok X cc own q) {x y : Int32} {off : Int} {tgt : Nat} (d : decode cc pc = .ok (.if_icmp .lt off, 3)) (ht : (pc : Int) + off = (tgt : Int)) (kt : x < y → gw_W X σ ce sl (tgt) L (st)) (kf : ¬ x < y → gw_W X σ ce sl (pc + 3) L (st)) : gw_W X σ ce sl pc L (.int y :: .int x :: st) :=
  fun H locs ls hG hS hL => lv_icmp_lt hX.1 hX.2.1 d ht (fun h => kt h H locs ls hG hS hL) (fun h => kf h H locs ls hG hS hL)
theorem gw_if_ge {X : gw_C} {cc : ByteArray} {own : String} {σ : gw_S} {ce sl pc : Nat} {L : List (Nat × Value)} {st : List Value} {q : gw_N} (hX : gw_ok X cc own q) {x : Int32} {off : Int} {tgt : Nat} (d : decode cc pc = .ok (.ifCond .ge off, 3)) (ht : (pc : Int) + off = (tgt : Int)) (kt : 0 ≤ x → gw_W X σ ce sl (tgt) L (st)) (kf : ¬ 0 ≤ x → gw_W X σ ce sl (pc + 3) L (st)) : gw_W X σ ce sl pc L (.int x :: st) :=
  fun H locs ls hG hS hL => lv_if_ge hX.1 hX.2.1 d ht (fun h => kt h H locs ls hG hS hL) (fun h => kf h H locs ls hG hS hL)
theorem gw_icmp_ge {X : gw_C} {cc : ByteArray} {own : String} {σ : gw_S} {ce sl pc : Nat} {L : List (Nat × Value)} {st : List Value} {q : gw_N} (hX : gw_ok X cc own q) {x y : Int32} {off : Int} {tgt : Nat} (d : decode cc pc = .ok (.if_icmp .ge off, 3)) (ht : (pc : Int) + off = (tgt : Int)) (kt : y ≤ x → gw_W X σ ce sl (tgt) L (st)) (kf : ¬ y ≤ x → gw_W X σ ce sl (pc + 3) L (st)) : gw_W X σ ce sl pc L (.int y :: .int x :: st) :=
  fun H locs ls hG hS hL => lv_icmp_ge hX.1 hX.2.1 d ht (fun h => kt h H locs ls hG hS hL) (fun h => kf h H locs ls hG hS hL)
theorem gw_if_gt {X : gw_C} {cc : ByteArray} {own : String} {σ : gw_S} {ce sl pc : Nat} {L : List (Nat × Value)} {st : List Value} {q : gw_N} (hX : gw_ok X cc own q) {x : Int32} {off : Int} {tgt : Nat} (d : decode cc pc = .ok (.ifCond .gt off, 3)) (ht : (pc : Int) + off = (tgt : Int)) (kt : 0 < x → gw_W X σ ce sl (tgt) L (st)) (kf : ¬ 0 < x → gw_W X σ ce sl (pc + 3) L (st)) : gw_W X σ ce sl pc L (.int x :: st) :=
  fun H locs ls hG hS hL => lv_if_gt hX.1 hX.2.1 d ht (fun h => kt h H locs ls hG hS hL) (fun h => kf h H locs ls hG hS hL)
theorem gw_icmp_gt {X : gw_C} {cc : ByteArray} {own : String} {σ : gw_S} {ce sl pc : Nat} {L : List (Nat × Value)} {st : List Value} {q : gw_N} (hX : gw_ok X cc own q) {x y : Int32} {off : Int} {tgt : Nat} (d : decode cc pc = .ok (.if_icmp .gt off, 3)) (ht : (pc : Int) + off = (tgt : Int)) (kt : y < x → gw_W X σ ce sl (tgt) L (st)) (kf : ¬ y < x → gw_W X σ ce sl (pc + 3) L (st)) : gw_W X σ ce sl pc L (.int y :: .int x :: st) :=
  fun H locs ls hG hS hL => lv_icmp_gt hX.1 hX.2.1 d ht (fun h => kt h H locs ls hG hS hL) (fun h => kf h H locs ls hG hS hL)
theorem gw_if_le {X : gw_C} {cc : ByteArray} {own : String} {σ : gw_S} {ce sl pc : Nat} {L : List (Nat × Value)} {st : List Value} {q : gw_N} (hX : gw_ok X cc own q) {x : Int32} {off : Int} {tgt : Nat} (d : decode cc pc = .ok (.ifCond .le off, 3)) (ht : (pc : Int) + off = (tgt : Int)) (kt : x ≤ 0 → gw_W X σ ce sl (tgt) L (st)) (kf : ¬ x ≤ 0 → gw_W X σ ce sl (pc + 3) L (st)) : gw_W X σ ce sl pc L (.int x :: st) :=
  fun H locs ls hG hS hL => lv_if_le hX.1 hX.2.1 d ht (fun h => kt h H locs ls hG hS hL) (fun h => kf h H locs ls hG hS hL)
theorem gw_icmp_le {X : gw_C} {cc : ByteArray} {own : String} {σ : gw_S} {ce sl pc : Nat} {L : List (Nat × Value)} {st : List Value} {q : gw_N} (hX : gw_ok X cc own q) {x y : Int32} {off : Int} {tgt : Nat} (d : decode cc pc = .ok (.if_icmp .le off, 3)) (ht : (pc : Int) + off = (tgt : Int)) (kt : x ≤ y → gw_W X σ ce sl (tgt) L (st)) (kf : ¬ x ≤ y → gw_W X σ ce sl (pc + 3) L (st)) : gw_W X σ ce sl pc L (.int y :: .int x :: st) :=
  fun H locs ls hG hS hL => lv_icmp_le hX.1 hX.2.1 d ht (fun h => kt h H locs ls hG hS hL) (fun h => kf h H locs ls hG hS hL)
theorem gw_goto {X : gw_C} {cc : ByteArray} {own : String} {σ : gw_S} {ce sl pc : Nat} {L : List (Nat × Value)} {st : List Value} {q : gw_N} (hX : gw_ok X cc own q) {off : Int} {tgt : Nat} (d : decode cc pc = .ok (.goto off, 3)) (ht : (pc : Int) + off = (tgt : Int)) (kk : gw_W X σ ce sl (tgt) L (st)) : gw_W X σ ce sl pc L (st) :=
  fun H locs ls hG hS hL => lv_goto hX.1 hX.2.1 d ht (kk H locs ls hG hS hL)
theorem gw_lcmp {X : gw_C} {cc : ByteArray} {own : String} {σ : gw_S} {ce sl pc : Nat} {L : List (Nat × Value)} {st : List Value} {q : gw_N} (hX : gw_ok X cc own q) {x y : Int64} (d : decode cc pc = .ok (.lcmp, 1)) (kk : gw_W X σ ce sl (pc + 1) L (.int (lg_cmp x y) :: st)) : gw_W X σ ce sl pc L (.long y :: .long x :: st) :=
  fun H locs ls hG hS hL => W.lcmp hX.1 hX.2.1 d (kk H locs ls hG hS hL)
theorem gw_tableIn {X : gw_C} {cc : ByteArray} {own : String} {σ : gw_S} {ce sl pc : Nat} {L : List (Nat × Value)} {st : List Value} {q : gw_N} (hX : gw_ok X cc own q) {dflt lo hi : Int} {offs : Array Int} {len : Nat} {x : Int32} {off : Int} {tgt : Nat} (d : decode cc pc = .ok (.tableswitch dflt lo hi offs, len)) (h1 : ¬ x.toInt < lo) (h2 : ¬ hi < x.toInt) (ho : offs[(x.toInt - lo).toNat]? = some off) (ht : (pc : Int) + off = (tgt : Int)) (kk : gw_W X σ ce sl (tgt) L (st)) : gw_W X σ ce sl pc L (.int x :: st) :=
  fun H locs ls hG hS hL => lv_tableIn hX.1 hX.2.1 d h1 h2 ho ht (kk H locs ls hG hS hL)
theorem gw_tableOut {X : gw_C} {cc : ByteArray} {own : String} {σ : gw_S} {ce sl pc : Nat} {L : List (Nat × Value)} {st : List Value} {q : gw_N} (hX : gw_ok X cc own q) {dflt lo hi : Int} {offs : Array Int} {len : Nat} {x : Int32} {tgt : Nat} (d : decode cc pc = .ok (.tableswitch dflt lo hi offs, len)) (h : x.toInt < lo ∨ hi < x.toInt) (ht : (pc : Int) + dflt = (tgt : Int)) (kk : gw_W X σ ce sl (tgt) L (st)) : gw_W X σ ce sl pc L (.int x :: st) :=
  fun H locs ls hG hS hL => lv_tableOut hX.1 hX.2.1 d h ht (kk H locs ls hG hS hL)
theorem gw_topi {X : gw_C} {σ : gw_S} {ce sl pc : Nat} {L : List (Nat × Value)} {st : List Value} {x y : Int32} (h : x = y) (kk : gw_W X σ ce sl pc L (.int y :: st)) : gw_W X σ ce sl pc L (.int x :: st) := h ▸ kk
theorem gw_topl {X : gw_C} {σ : gw_S} {ce sl pc : Nat} {L : List (Nat × Value)} {st : List Value} {x y : Int64} (h : x = y) (kk : gw_W X σ ce sl pc L (.long y :: st)) : gw_W X σ ce sl pc L (.long x :: st) := h ▸ kk
theorem gw_cut {X : gw_C} {σ : gw_S} {ce sl pc : Nat} {L : List (Nat × Value)} {st : List Value} {ks : List Nat} {L' : List (Nat × Value)} (h : lv_pick L ks = L') (kk : gw_W X σ ce sl pc L' st) : gw_W X σ ce sl pc L st := fun H locs ls hG hS hL => kk H locs ls hG hS (lv_sub hL ks h)
theorem gw_heap {X : gw_C} {σ : gw_S} {ce sl pc : Nat} {L : List (Nat × Value)} {st : List Value} {σ' : gw_S} (h : σ = σ') (kk : gw_W X σ' ce sl pc L st) : gw_W X σ ce sl pc L st := h ▸ kk
theorem gw_widen {X : gw_C} {σ : gw_S} {ce sl pc : Nat} {L : List (Nat × Value)} {st : List Value} {k n : Nat} (h1 : ce ≤ k) (h2 : sl ≤ n) (kk : gw_W X σ k n pc L st) : gw_W X σ ce sl pc L st := fun H locs ls hG hS hL => W.widen h1 h2 (kk H locs ls hG hS hL)
end
section
/-! ===== rows of the walk that touch the heap ===== -/
/-- what is known of a made class: its number, its fields' words, types, names -/
def gw_cls (ci : Nat) (C : String) (T : u_T) (N : Nat) (ty : Nat → FieldType) : Prop :=
  nv_cl[ci]? = some (C, T, N) ∧ (∀ w ∈ u_ws C T N, w ∈ gw_ws) ∧ (∀ k, k < N → parseFieldDescriptor (T k).2.2.1 = some (ty k)) ∧ ∀ a, a < N → ∀ b, b < N → a ≠ b → (T a).2.1 ≠ (T b).2.1
/-- what the entry index of own's pool says: the field k of the class ci, final or not, of the type t -/
def gw_fld (own : String) (index ci k : Nat) (fin : Bool) (t : FieldType) : Prop := ∃ (C : String) (T : u_T) (N : Nat) (ty : Nat → FieldType), gw_cls ci C T N ty ∧ k < N ∧ (T k).2.2.2 = fin ∧ ty k = t ∧ (T k).1 = C ∧
  (Cond.fieldLink own index (T k).1 (T k).2.1 (T k).2.2.1 ∈ gw_ws ∨ ∃ host : String, Cond.fieldLinkNest own index (T k).1 (T k).2.1 (T k).2.2.1 host ∈ gw_nl)
section GWR
variable {X : gw_C} {cc : ByteArray} {own : String} {σ : gw_S} {ce sl pc : Nat} {L : List (Nat × Value)} {st : List Value}
theorem gw_get {q : gw_N} (hX : gw_ok X cc own q) {index ci k : Nat} {fin : Bool} {t : FieldType} (f : gw_fld own index ci k fin t) (d : decode cc pc = .ok (.getfield index, 3)) {a : Nat} {fs : List Value} {v : Value} (h : σ.2 a = some (.inr (ci, fs))) (hv : fs[k]? = some v)
    (kk : gw_W X σ ce sl (pc + 3) L (v :: st)) : gw_W X σ ce sl pc L (.ref a :: st) := by
  obtain ⟨C, T, N, ty, ⟨hc, hin, hty, hnm⟩, hk, hfin, ht, -, hlink⟩ := f
  intro H locs ls hG hS hL
  have hP := gw_one (hG.2.2 a _ h).2
  rcases hlink with hlink | ⟨host, hlink⟩
  · exact va_get hX.1 hX.2.1 hX.2.2.2.2.1 hin hX.2.2.2.1 hX.2.2.2.2.2.1 hP 0 rfl hc k hk (hX.2.2.2.2.1 _ hlink) (fun _ h9 => h9) hv d (kk H locs ls hG hS hL)
  · exact va_getN hX.1 hX.2.1 hX.2.2.2.2.1 hin hX.2.2.2.1 hX.2.2.2.2.2.1 hP 0 rfl hc k hk (va_Nw.use rfl (hX.2.2.2.2.2.2.1 _ hlink)) (fun _ h9 => h9) hv d (kk H locs ls hG hS hL)
theorem gw_put {q : gw_N} (hX : gw_ok X cc own q) {index ci k : Nat} {t : FieldType} (f : gw_fld own index ci k false t) (d : decode cc pc = .ok (.putfield index, 3)) {a : Nat} {fs : List Value} {v : Value} (h : σ.2 a = some (.inr (ci, fs))) (hn : narrow t v = v) (hf : fits t v = true) (hl : k < fs.length) {e' : va_E} (he : .inr (ci, fs.set k v) = e')
    (kk : gw_W X (gw_up σ a e') ce sl (pc + 3) L st) : gw_W X σ ce sl pc L (v :: .ref a :: st) := by
  obtain ⟨C, T, N, ty, ⟨hc, hin, hty, hnm⟩, hk, hfin, ht, -, hlink⟩ := f
  intro H locs ls hG hS hL
  have hw := hX.2.2.2.2.1
  have hK := hX.2.2.2.2.2.1
  have hap := va_apart (own := own) hw hin ty hty hnm hK hc
  obtain ⟨r, h1, cell, q1, q2, q3, q4⟩ := (hG.2.2 a _ h).2
  have hr : r = (C, T, N) := Option.some.inj (h1.symm.trans hc)
  subst hr
  obtain ⟨hSl, hfc, kC, hkC, hkind⟩ := hK.1 ci _ hc
  obtain ⟨cf, kf, fi, fd, hi, hsl⟩ := hSl k hk
  have hlay := hw _ (hin _ (u_in_lay hk))
  unfold u_lay at hlay
  rw [if_neg (by rw [hfin]; decide)] at hlay
  have hst := (u_facts hfc hkC (u_lays hw hin hk) hi).1
  have hd : parseFieldDescriptor (T k).2.2.1 = some t := ht ▸ hty k hk
  have h6 := u_store hfc hkC hkind hlay hi hd hn hf
  have last : ∀ H' : Heap, H'[a]? = some (cell.setSlot fd.slot v) → H'.size = H.size → (∀ q, q ≠ a → H'[q]? = H[q]?) → gw_w X H' (locs ++ [⟨a, fd.slot⟩]) ce sl (F0 (gw_m X) (pc + 3) ls st) := by
    intro H' e1 e2 e3
    refine kk H' _ ls (gw_H_up hG h ?_ e2 e3) (hS.put e2 e3 (hG.2.2 a _ h).1) hL
    rw [← he]
    rw [hsl] at e1
    exact ⟨_, hc, t_OB.to (V := updV (vp_V fs) k v) ⟨_, e1, q2, q3, t_set q4 hap hk v⟩ (fun j _ => vp_updV_set hl v j)⟩
  rcases hlink with hlink | ⟨host, hlink⟩
  · exact W.putK hX.1 hX.2.1 (f := fd) ⟨hX.2.2.2.1, hw _ hlink, ⟨_, _, _, hi⟩, hst⟩ (by rw [q2]; exact h6) q1 q3 (by rw [hsl]; exact k2_hasslot (q4 k hk)) rfl rfl d last
  · exact va_WputK hX.1 hX.2.1 (f := fd) hX.2.2.2.1 (va_Nw.use rfl (hX.2.2.2.2.2.2.1 _ hlink)) hi hst (by rw [q2]; exact h6) q1 q3 (by rw [hsl]; exact k2_hasslot (q4 k hk)) rfl rfl d last
/-- a final field, in its class's constructor -/
theorem gw_putF {q : gw_N} (hX : gw_ok X cc own q) {index ci k : Nat} {t : FieldType} (f : gw_fld own index ci k true t) (ho : ∀ (C : String) (T : u_T) (N : Nat), nv_cl[ci]? = some (C, T, N) → C = own) (hin2 : X.2.2.1.1.name = "<init>") (d : decode cc pc = .ok (.putfield index, 3)) {a : Nat} {fs : List Value} {v : Value} (h : σ.2 a = some (.inr (ci, fs))) (hn : narrow t v = v) (hf : fits t v = true) (hl : k < fs.length) {e' : va_E} (he : .inr (ci, fs.set k v) = e')
    (hm : Cond.fieldLink own index own (match nv_cl[ci]? with | some q => (q.2.1 k).2.1 | none => "") (match nv_cl[ci]? with | some q => (q.2.1 k).2.2.1 | none => "") ∈ gw_ws)
    (kk : gw_W X (gw_up σ a e') ce sl (pc + 3) L st) : gw_W X σ ce sl pc L (v :: .ref a :: st) := by
  obtain ⟨C, T, N, ty, ⟨hc, hin, hty, hnm⟩, hk, hfin, ht, hC, -⟩ := f
  have hCo := ho C T N hc
  rw [hc] at hm
  subst hCo
  intro H locs ls hG hS hL
  have hw := hX.2.2.2.2.1
  have hK := hX.2.2.2.2.2.1
  have hap := va_apart (own := C) hw hin ty hty hnm hK hc
  obtain ⟨r, h1, cell, q1, q2, q3, q4⟩ := (hG.2.2 a _ h).2
  have hr : r = (C, T, N) := Option.some.inj (h1.symm.trans hc)
  subst hr
  obtain ⟨hSl, hfc, kC, hkC, hkind⟩ := hK.1 ci _ hc
  obtain ⟨cf, kf, fi, fd, hi, hsl⟩ := hSl k hk
  have hlay := hw _ (hin _ (u_in_lay hk))
  unfold u_lay at hlay
  rw [if_pos hfin] at hlay
  have hst := (u_facts hfc hkC (u_lays hw hin hk) hi).1
  have hcf : (gw_m X).cls = cf := by
    obtain ⟨_, _, c', _, _, _, -, -, hf', -, -, -, hown2, -⟩ := Cond.laysFinal_spec hlay
    have e1 : c' = cf := by have := hi.symm.trans hf'; simp at this; exact this.1.symm
    rw [hC] at hown2
    rw [← e1]; exact Option.some.inj (hX.2.2.2.1.symm.trans hown2)
  have hd : parseFieldDescriptor (T k).2.2.1 = some t := ht ▸ hty k hk
  have h6 := u_fits hfc hkC hkind (Or.inr hlay) hi hd hn hf
  have hi2 : (gw_s X).fieldFound? C (T k).2.1 (T k).2.2.1 = some (cf, kf, fi, fd) := by
    have h9 : (gw_s X).fieldFound? (T k).1 (T k).2.1 (T k).2.2.1 = some (cf, kf, fi, fd) := hi
    rw [hC] at h9
    exact h9
  refine W.putFinK hX.1 hX.2.1 hX.2.2.2.1 (hw _ hm) hi2 hst hcf hin2 (by rw [q2]; exact h6) q1 q3 (by rw [hsl]; exact k2_hasslot (q4 k hk)) rfl rfl d fun H' e1 e2 e3 => ?_
  refine kk H' _ ls (gw_H_up hG h ?_ e2 e3) (hS.put e2 e3 (hG.2.2 a _ h).1) hL
  rw [← he]
  rw [hsl] at e1
  exact ⟨_, hc, t_OB.to (V := updV (vp_V fs) k v) ⟨_, e1, q2, q3, t_set q4 hap hk v⟩ (fun j _ => vp_updV_set hl v j)⟩
theorem gw_new {q : gw_N} (hX : gw_ok X cc own q) {index ci N : Nat} {C : String} {T : u_T} {ty : Nat → FieldType} (hcl : gw_cls ci C T N ty) (hk : Cond.classLink own index C ∈ gw_ws) (hins : Cond.instantiable C N ∈ gw_ws) (hini : Cond.initialized C ∈ gw_ws) (d : decode cc pc = .ok (.new index, 3)) {fs : List Value} (hfs : ∀ j, j < N → defaultValue (ty j) = vp_V fs j)
    (h1 : ce + 1 ≤ q.2.2.2.1) (h2 : sl + N ≤ q.2.2.2.2) (kk : gw_W X (gw_nw σ (.inr (ci, fs))) (ce + 1) (sl + N) (pc + 3) L (.ref σ.1 :: st)) : gw_W X σ ce sl pc L st := by
  obtain ⟨hc, hin, hty, hnm⟩ := hcl
  intro H locs ls hG hS hL
  have hw := hX.2.2.2.2.1
  have hKn := hX.2.2.2.2.2.1.1 ci _ hc
  refine W.newcK hX.1 hX.2.1 hX.2.2.2.1 (hw _ hk) (hw _ hins) (hw _ hini) rfl d (gw_rc hX h1) (gw_rs hX h2) hKn.2.1 rfl fun H1 kC hkC e1 z1 o1 => ?_
  have h9 := kk H1 locs ls (gw_H_nw hG ⟨_, hc, (u_born ty hw hin hKn hkC e1 hty).to hfs⟩ z1 o1) ⟨Nat.le_trans hS.1 (by omega), fun x g1 g2 => (o1 x (Nat.lt_of_lt_of_le g1 hS.1)).trans (hS.2.1 x g1 g2), hS.2.2⟩ hL
  rw [← hG.1] at h9
  exact h9
theorem gw_iald {q : gw_N} (hX : gw_ok X cc own q) (d : decode cc pc = .ok (.iaload, 1)) {a n : Nat} {f : Nat → Int32} (h : σ.2 a = some (gw_I (gw_z X) n f)) {x : Int32} (i : Nat) (hx : x = nI i) (hi : i < n) (hn : n < 2147483648) (kk : gw_W X σ ce sl (pc + 1) L (.int (f i) :: st)) : gw_W X σ ce sl pc L (.int x :: .ref a :: st) := by
  subst hx
  intro H locs ls hG hS hL
  refine va_iald hX.1 hX.2.1 hX.2.2.2.2.2.1 (gw_one (hG.2.2 a _ h).2) 0 0 rfl rfl (vp_in_nI hi hn) d ?_
  rw [nI_clamp (show i < 2 ^ 31 by omega)]
  exact kk H locs ls hG hS hL
theorem gw_lald {q : gw_N} (hX : gw_ok X cc own q) (d : decode cc pc = .ok (.laload, 1)) {a n : Nat} {f : Nat → Int64} (h : σ.2 a = some (gw_J (gw_z X) n f)) {x : Int32} (i : Nat) (hx : x = nI i) (hi : i < n) (hn : n < 2147483648) (kk : gw_W X σ ce sl (pc + 1) L (.long (f i) :: st)) : gw_W X σ ce sl pc L (.int x :: .ref a :: st) := by
  subst hx
  intro H locs ls hG hS hL
  refine va_lald hX.1 hX.2.1 hX.2.2.2.2.2.1 (gw_one (hG.2.2 a _ h).2) 0 1 rfl rfl (vp_in_nI hi hn) d ?_
  rw [nI_clamp (show i < 2 ^ 31 by omega)]
  exact kk H locs ls hG hS hL
theorem gw_cald {q : gw_N} (hX : gw_ok X cc own q) (d : decode cc pc = .ok (.caload, 1)) {a n : Nat} {f : Nat → Int32} (h : σ.2 a = some (gw_Ch (gw_z X) n f)) {x : Int32} (i : Nat) (hx : x = nI i) (hi : i < n) (hn : n < 2147483648) (kk : gw_W X σ ce sl (pc + 1) L (.int (f i) :: st)) : gw_W X σ ce sl pc L (.int x :: .ref a :: st) := by
  subst hx
  intro H locs ls hG hS hL
  refine va_cald hX.1 hX.2.1 hX.2.2.2.2.2.1 (gw_one (hG.2.2 a _ h).2) 0 2 rfl rfl (vp_in_nI hi hn) d ?_
  rw [nI_clamp (show i < 2 ^ 31 by omega)]
  exact kk H locs ls hG hS hL
theorem gw_ald3 {q : gw_N} (hX : gw_ok X cc own q) (d : decode cc pc = .ok (.aaload, 1)) {a n : Nat} {f : Nat → Option Nat} (h : σ.2 a = some (gw_Q3 (gw_z X) n f)) {x : Int32} (i : Nat) (hx : x = nI i) (hi : i < n) (hn : n < 2147483648) {r : Nat} (hr : f i = some r) (kk : gw_W X σ ce sl (pc + 1) L (.ref r :: st)) : gw_W X σ ce sl pc L (.int x :: .ref a :: st) := by
  subst hx
  intro H locs ls hG hS hL
  refine va_aldq (C := nR_Se) hX.1 hX.2.1 hX.2.2.2.2.2.1 (gw_one (hG.2.2 a _ h).2) 0 3 rfl rfl (vp_in_nI hi hn) d ?_
  rw [nI_clamp (show i < 2 ^ 31 by omega), hr]
  exact kk H locs ls hG hS hL
theorem gw_ald4 {q : gw_N} (hX : gw_ok X cc own q) (d : decode cc pc = .ok (.aaload, 1)) {a n : Nat} {f : Nat → Option Nat} (h : σ.2 a = some (gw_Q4 (gw_z X) n f)) {x : Int32} (i : Nat) (hx : x = nI i) (hi : i < n) (hn : n < 2147483648) {r : Nat} (hr : f i = some r) (kk : gw_W X σ ce sl (pc + 1) L (.ref r :: st)) : gw_W X σ ce sl pc L (.int x :: .ref a :: st) := by
  subst hx
  intro H locs ls hG hS hL
  refine va_aldq (C := nR_Ra) hX.1 hX.2.1 hX.2.2.2.2.2.1 (gw_one (hG.2.2 a _ h).2) 0 4 rfl rfl (vp_in_nI hi hn) d ?_
  rw [nI_clamp (show i < 2 ^ 31 by omega), hr]
  exact kk H locs ls hG hS hL
theorem gw_alen {q : gw_N} (hX : gw_ok X cc own q) (d : decode cc pc = .ok (.arraylength, 1)) {a : Nat} {t : Nat} {cA : ClassId} {ty : FieldType} {y : vp_A} (h : σ.2 a = some (.inl (cA, y))) (ht : (gw_T (gw_z X))[t]? = some (cA, ty)) {v : Int32} (hv : nI y.1 = v) (kk : gw_W X σ ce sl (pc + 1) L (.int v :: st)) : gw_W X σ ce sl pc L (.ref a :: st) := by
  intro H locs ls hG hS hL
  exact va_alen hX.1 hX.2.1 hX.2.2.2.2.2.1 (gw_one (hG.2.2 a _ h).2) 0 t rfl ht hv d (kk H locs ls hG hS hL)
theorem gw_iast {q : gw_N} (hX : gw_ok X cc own q) (d : decode cc pc = .ok (.iastore, 1)) {a n : Nat} {f : Nat → Int32} (h : σ.2 a = some (gw_I (gw_z X) n f)) {x v : Int32} (i : Nat) (hx : x = nI i) (hi : i < n) (hn : n < 2147483648) (kk : gw_W X (gw_up σ a (gw_I (gw_z X) n (upd f i v))) ce sl (pc + 1) L st) : gw_W X σ ce sl pc L (.int v :: .int x :: .ref a :: st) := by
  subst hx
  intro H locs ls hG hS hL
  have hin : vp_in (nI i) n := vp_in_nI hi hn
  have hcl : (nI i).toNatClampNeg = i := nI_clamp (show i < 2 ^ 31 by omega)
  refine W.iast hX.1 hX.2.1 (hG.2.2 a _ h).2 ((hX.2.2.2.2.2.1.2 0 _ rfl).1 n (fun j => .int (f j))) (fun q => by cases q) (by show ¬ (nI i < 0 ∨ (arrV _ _ _).slots.size ≤ _); rw [arrV_size]; exact hin) rfl rfl d fun H1 e z oq => ?_
  refine kk H1 _ ls (gw_H_up hG h ?_ z oq) (hS.put z oq (hG.2.2 a _ h).1) hL
  show H1[a]? = some (vp_cell _ _)
  rw [e, hcl]
  rw [vp_cell_i, vp_cell_i, arrV_store]
  congr 2
  funext q
  by_cases hq : q = i
  · subst hq
    simp [updV, upd]
  · simp [updV, upd, hq]
theorem gw_cast {q : gw_N} (hX : gw_ok X cc own q) (d : decode cc pc = .ok (.castore, 1)) {a n : Nat} {f : Nat → Int32} (h : σ.2 a = some (gw_Ch (gw_z X) n f)) {x v : Int32} (i : Nat) (hx : x = nI i) (hi : i < n) (hn : n < 2147483648) (hv : narrow .char (.int v) = .int v) (kk : gw_W X (gw_up σ a (gw_Ch (gw_z X) n (upd f i v))) ce sl (pc + 1) L st) : gw_W X σ ce sl pc L (.int v :: .int x :: .ref a :: st) := by
  subst hx
  intro H locs ls hG hS hL
  have hin : vp_in (nI i) n := vp_in_nI hi hn
  have hcl : (nI i).toNatClampNeg = i := nI_clamp (show i < 2 ^ 31 by omega)
  refine W.cast hX.1 hX.2.1 (hG.2.2 a _ h).2 ((hX.2.2.2.2.2.1.2 2 _ rfl).1 n (fun j => .int (f j))) (fun q => by cases q) (by show ¬ (nI i < 0 ∨ (arrV _ _ _).slots.size ≤ _); rw [arrV_size]; exact hin) rfl rfl d fun H1 e z oq => ?_
  refine kk H1 _ ls (gw_H_up hG h ?_ z oq) (hS.put z oq (hG.2.2 a _ h).1) hL
  show H1[a]? = some (vp_cell _ _)
  rw [e, hcl, hv]
  rw [vp_cell_i, vp_cell_i, arrV_store]
  congr 2
  funext q
  by_cases hq : q = i
  · subst hq
    simp [updV, upd]
  · simp [updV, upd, hq]
theorem gw_last {q : gw_N} (hX : gw_ok X cc own q) (d : decode cc pc = .ok (.lastore, 1)) {a n : Nat} {f : Nat → Int64} (h : σ.2 a = some (gw_J (gw_z X) n f)) {x : Int32} {v : Int64} (i : Nat) (hx : x = nI i) (hi : i < n) (hn : n < 2147483648) (kk : gw_W X (gw_up σ a (gw_J (gw_z X) n (vp_updL f i v))) ce sl (pc + 1) L st) : gw_W X σ ce sl pc L (.long v :: .int x :: .ref a :: st) := by
  subst hx
  intro H locs ls hG hS hL
  have hin : vp_in (nI i) n := vp_in_nI hi hn
  have hcl : (nI i).toNatClampNeg = i := nI_clamp (show i < 2 ^ 31 by omega)
  refine W.last hX.1 hX.2.1 (hG.2.2 a _ h).2 ((hX.2.2.2.2.2.1.2 1 _ rfl).1 n (fun j => .long (f j))) (fun q => by cases q) (by show ¬ (nI i < 0 ∨ (arrV _ _ _).slots.size ≤ _); rw [arrV_size]; exact hin) rfl rfl d fun H1 e z oq => ?_
  refine kk H1 _ ls (gw_H_up hG h ?_ z oq) (hS.put z oq (hG.2.2 a _ h).1) hL
  show H1[a]? = some (vp_cell _ _)
  rw [e, hcl]
  rw [vp_cell_l, vp_cell_l, arrV_store]
  congr 2
  funext q
  by_cases hq : q = i
  · subst hq
    simp [updV, vp_updL]
  · simp [updV, vp_updL, hq]
theorem gw_newI {q : gw_N} (hX : gw_ok X cc own q) (hw : Cond.arrayClass .int ∈ gw_ws) (d : decode cc pc = .ok (.newarray .int, 2)) {x : Int32} (n : Nat) (hx : x = nI n) (hn : n < 100000) (h1 : ce + 1 ≤ q.2.2.2.1) (h2 : sl + n ≤ q.2.2.2.2) (kk : gw_W X (gw_nw σ (gw_I (gw_z X) n (fun _ => 0))) (ce + 1) (sl + n) (pc + 2) L (.ref σ.1 :: st)) : gw_W X σ ce sl pc L (.int x :: st) := by
  subst hx
  intro H locs ls hG hS hL
  refine va_newaK hX.1 hX.2.1 (atype := .int) (hX.2.2.2.2.1 _ hw) rfl d rfl (nI_pos (by omega)) (nI_clamp (by omega)) (by show n * 4 ≤ _; omega) (gw_rc hX h1) (gw_rs hX h2) rfl fun H1 cA e1 z1 o1 hAr hNm => ?_
  have hcA : cA = (gw_z X).2 0 := Option.some.inj (hNm.symm.trans (hX.2.2.2.2.2.1.2 0 _ rfl).2)
  subst hcA
  have h9 := kk H1 locs ls (gw_H_nw hG (by show H1[H.size]? = some (vp_cell _ _); rw [vp_cell_i]; exact e1) z1 o1) ⟨Nat.le_trans hS.1 (by omega), fun x g1 g2 => (o1 x (Nat.lt_of_lt_of_le g1 hS.1)).trans (hS.2.1 x g1 g2), hS.2.2⟩ hL
  rw [← hG.1] at h9
  exact h9
theorem gw_newJ {q : gw_N} (hX : gw_ok X cc own q) (hw : Cond.arrayClass .long ∈ gw_ws) (d : decode cc pc = .ok (.newarray .long, 2)) {x : Int32} (n : Nat) (hx : x = nI n) (hn : n < 100000) (h1 : ce + 1 ≤ q.2.2.2.1) (h2 : sl + n ≤ q.2.2.2.2) (kk : gw_W X (gw_nw σ (gw_J (gw_z X) n (fun _ => 0))) (ce + 1) (sl + n) (pc + 2) L (.ref σ.1 :: st)) : gw_W X σ ce sl pc L (.int x :: st) := by
  subst hx
  intro H locs ls hG hS hL
  refine va_newaK hX.1 hX.2.1 (atype := .long) (hX.2.2.2.2.1 _ hw) rfl d rfl (nI_pos (by omega)) (nI_clamp (by omega)) (by show n * 8 ≤ _; omega) (gw_rc hX h1) (gw_rs hX h2) rfl fun H1 cA e1 z1 o1 hAr hNm => ?_
  have hcA : cA = (gw_z X).2 1 := Option.some.inj (hNm.symm.trans (hX.2.2.2.2.2.1.2 1 _ rfl).2)
  subst hcA
  have h9 := kk H1 locs ls (gw_H_nw hG (by show H1[H.size]? = some (vp_cell _ _); rw [vp_cell_l]; exact e1) z1 o1) ⟨Nat.le_trans hS.1 (by omega), fun x g1 g2 => (o1 x (Nat.lt_of_lt_of_le g1 hS.1)).trans (hS.2.1 x g1 g2), hS.2.2⟩ hL
  rw [← hG.1] at h9
  exact h9
theorem gw_newC {q : gw_N} (hX : gw_ok X cc own q) (hw : Cond.arrayClass .char ∈ gw_ws) (d : decode cc pc = .ok (.newarray .char, 2)) {x : Int32} (n : Nat) (hx : x = nI n) (hn : n < 100000) (h1 : ce + 1 ≤ q.2.2.2.1) (h2 : sl + n ≤ q.2.2.2.2) (kk : gw_W X (gw_nw σ (gw_Ch (gw_z X) n (fun _ => 0))) (ce + 1) (sl + n) (pc + 2) L (.ref σ.1 :: st)) : gw_W X σ ce sl pc L (.int x :: st) := by
  subst hx
  intro H locs ls hG hS hL
  refine va_newaK hX.1 hX.2.1 (atype := .char) (hX.2.2.2.2.1 _ hw) rfl d rfl (nI_pos (by omega)) (nI_clamp (by omega)) (by show n * 2 ≤ _; omega) (gw_rc hX h1) (gw_rs hX h2) rfl fun H1 cA e1 z1 o1 hAr hNm => ?_
  have hcA : cA = (gw_z X).2 2 := Option.some.inj (hNm.symm.trans (hX.2.2.2.2.2.1.2 2 _ rfl).2)
  subst hcA
  have h9 := kk H1 locs ls (gw_H_nw hG (by show H1[H.size]? = some (vp_cell _ _); rw [vp_cell_i]; exact e1) z1 o1) ⟨Nat.le_trans hS.1 (by omega), fun x g1 g2 => (o1 x (Nat.lt_of_lt_of_le g1 hS.1)).trans (hS.2.1 x g1 g2), hS.2.2⟩ hL
  rw [← hG.1] at h9
  exact h9
theorem gw_newQ {q : gw_N} (hX : gw_ok X cc own q) {index j : Nat} {C : String} (hj : (gw_T (gw_z X))[j]? = some ((gw_z X).2 j, .object C)) (hover : va_AO C (gw_s X)) (hk : Cond.classLink own index C ∈ gw_ws) (d : decode cc pc = .ok (.anewarray index, 3)) {x : Int32} (n : Nat) (hx : x = nI n) (hn : n < 100000) (h1 : ce + 1 ≤ q.2.2.2.1) (h2 : sl + n ≤ q.2.2.2.2) (kk : gw_W X (gw_nw σ (.inl ((gw_z X).2 j, n, .inr (.inr (.inr (.inr (fun _ => none))))))) (ce + 1) (sl + n) (pc + 3) L (.ref σ.1 :: st)) : gw_W X σ ce sl pc L (.int x :: st) := by
  subst hx
  intro H locs ls hG hS hL
  have hcl : (nI n).toNatClampNeg = n := nI_clamp (by omega)
  refine W.anew hX.1 hX.2.1 hX.2.2.2.1 (hX.2.2.2.2.1 _ hk) (va_AO.use hover) rfl d rfl (nI_pos (by omega)) (by rw [hcl]; omega) (gw_rc hX h1) (by rw [hcl]; exact gw_rs hX h2) fun cA kA comp f1 f2 f3 f4 => ?_
  obtain ⟨kB, comB, b1, b2, b3, b4⟩ := (hX.2.2.2.2.2.1.2 j _ hj).2
  have hcA : cA = (gw_z X).2 j := Option.some.inj (f1.symm.trans b4)
  subst hcA
  rw [hcl]
  have h9 := kk (H.push ({ cls := (gw_z X).2 j, slots := Array.replicate n .null, vm := .none } : Cell)) locs ls (gw_H_nw hG (by show _ = some (vp_cell _ _); rw [vp_cell_q, Array.getElem?_push_size, ← arrV_new]; rfl) (by rw [Array.size_push]) (fun q hq => by rw [Array.getElem?_push, if_neg (Nat.ne_of_lt hq)])) ⟨Nat.le_trans hS.1 (by rw [Array.size_push]; omega), fun x g1 g2 => (by rw [Array.getElem?_push, if_neg (Nat.ne_of_lt (Nat.lt_of_lt_of_le g1 hS.1))]; exact hS.2.1 x g1 g2), hS.2.2⟩ hL
  rw [← hG.1] at h9
  exact h9
theorem gw_astQ {q : gw_N} (hX : gw_ok X cc own q) {j ci : Nat} {r : vw_C} (hj : (gw_T (gw_z X))[j]? = some ((gw_z X).2 j, .object r.1)) (hc : nv_cl[ci]? = some r) (d : decode cc pc = .ok (.aastore, 1)) {a n v : Nat} {vs : List Value} {f : Nat → Option Nat} (h : σ.2 a = some (.inl ((gw_z X).2 j, n, .inr (.inr (.inr (.inr f)))))) (hv : σ.2 v = some (.inr (ci, vs))) {x : Int32} (i : Nat) (hx : x = nI i) (hi : i < n) (hn : n < 2147483648) (kk : gw_W X (gw_up σ a (.inl ((gw_z X).2 j, n, .inr (.inr (.inr (.inr (va_up f i (some v)))))))) ce sl (pc + 1) L st) : gw_W X σ ce sl pc L (.ref v :: .int x :: .ref a :: st) := by
  subst hx
  intro H locs ls hG hS hL
  have hin : vp_in (nI i) n := vp_in_nI hi hn
  have hlt : (nI i).toNatClampNeg < n := Nat.not_le.mp fun q => hin (Or.inr q)
  have h0 : ¬ nI i < 0 := fun q => hin (Or.inl q)
  have hcl : (nI i).toNatClampNeg = i := nI_clamp (show i < 2 ^ 31 by omega)
  obtain ⟨r', hr', cellV, g1, g2, g3, -⟩ := (hG.2.2 v _ hv).2
  have hcls := (hX.2.2.2.2.2.1.1 ci r hc).2
  obtain ⟨kA, comp, k1, k2, k3, -⟩ := (hX.2.2.2.2.2.1.2 j _ hj).2
  have hcomp : comp = (gw_z X).1.1 ci := Option.some.inj (k3.symm.trans hcls.1)
  subst hcomp
  obtain ⟨kC, hkC, -⟩ := hcls.2
  refine W.aast hX.1 hX.2.1 (hG.2.2 a _ h).2 (fun q h => by cases h) (fun h => by cases h) k1 k2 rfl hkC ⟨h0, by show _ < (arrV _ _ _).slots.size; rw [arrV_size]; exact hlt⟩ g1 (fun q h => by rw [g3] at h; cases h) (by rw [g2]; exact hkC) (by rw [g2]; exact va_assign hcls) rfl rfl d fun H1 e z oq => ?_
  refine kk H1 _ ls (gw_H_up hG h ?_ z oq) (hS.put z oq (hG.2.2 a _ h).1) hL
  show H1[a]? = some (vp_cell _ _)
  rw [e, hcl]
  rw [vp_cell_q, vp_cell_q, arrV_store]
  congr 2
  funext q
  by_cases hq : q = i
  · subst hq
    simp [updV, va_up, va_rf]
  · simp [updV, va_up, hq]
/-- Object's constructor -/
theorem gw_obj {q : gw_N} (hX : gw_ok X cc own q) {idx : Nat} (hl : Cond.methodLink own idx objectInit ∈ gw_ws) (hi : Cond.instanceMethod objectInit ∈ gw_ws) (hc : Cond.code objectInit ⟨#[0xb1]⟩ 1 none ∈ gw_ws) (d : decode cc pc = .ok (.invokespecial idx, 3)) {a : Nat} (h1 : 1 ≤ q.2.1) (h2 : (st.map fun v => v.category).sum + 12 ≤ q.2.2.1) (kk : gw_W X σ ce sl (pc + 3) L st) : gw_W X σ ce sl pc L (.ref a :: st) := by
  intro H locs ls hG hS hL
  have hw := hX.2.2.2.2.1
  refine W.objInit hX.1 hX.2.1 hX.2.2.2.1 (hw _ hl) (hw _ hi) (hw _ hc) rfl (by rw [hX.2.2.1.1]; exact hL.1) rfl d (by rw [show X.1.2.2.2 = _ from hX.2.2.1.2.2.1]; exact h1) (by rw [show X.1.2.2.2 = _ from hX.2.2.1.2.2.1]; show 2 * 0 + (st.map fun v => v.category).sum + 12 ≤ q.2.2.1; omega) ?_
  exact kk H locs ls hG hS hL
end GWR
end
section
/-! ===== contracts and calls ===== -/
def gw_Pc (Z : gw_Z) (b0 : Nat) (σ : gw_S) (av : List Value) : Array Value → State → Prop := va_Pc av (fun U => gw_K Z U ∧ gw_H Z b0 σ U.heap)
theorem gw_blind (Z : gw_Z) (b0 : Nat) (σ : gw_S) (av : List Value) : FrameBlind (gw_Pc Z b0 σ av) := fun a U g mk h => ⟨h.1, gw_K_vm (s := U) (U := U.calling g mk a) rfl h.2.1, h.2.2⟩
def gw_Qc (Z : gw_Z) (b0 : Nat) (post : Option Value → gw_S → Prop) : Array Value → State → Outcome → State → Prop := fun _ s0 oc t => ∃ (v : Option Value) (σ' : gw_S), oc = .returned v ∧ post v σ' ∧ gw_H Z b0 σ' t.heap ∧ va_F (fun q => b0 ≤ q) s0 t
def gw_end (X : gw_C) (post : Option Value → gw_S → Prop) (mc ms : Nat) : State → Prop := MQ X.2.1.2.2.2 (gw_Qc (gw_z X) (gw_b X) post) (gw_a X) (gw_s X) mc ms (fun q => gw_b X ≤ q)
/-- the contract of a method that returns: on every heap that is σ it answers and leaves what post says -/
def gw_M (l : Launch) (y : MethodName) (cc : ByteArray) (q : gw_N) (ret : Option FieldType) (Z : gw_Z) (b0 : Nat) (σ : gw_S) (av : List Value) (post : Option Value → gw_S → Prop) : Prop :=
  Met l y (.code y cc q.1 ret :: gw_ws) { frames := q.2.1, cells := q.2.2.2.1, slots := q.2.2.2.2, locals := q.2.2.1 } (gw_Pc Z b0 σ av) (gw_Qc Z b0 post) q.2.2.2.1 q.2.2.2.2 (fun a => b0 ≤ a)
theorem gw_M_of {l : Launch} {y : MethodName} {cc : ByteArray} {q : gw_N} {ret : Option FieldType} {Z : gw_Z} {b0 : Nat} {σ : gw_S} {av : List Value} {post : Option Value → gw_S → Prop} (hy : plainName y.cls = true) (ha : (lg_sl av).length ≤ q.1)
    (body : ∀ X : gw_C, gw_ok X cc y.cls q → X.1.2.1 = l → gw_z X = Z → gw_b X = b0 → X.2.2.1.1.sig.returnType = ret → X.2.2.1.1.name = y.name → X.2.2.2.2 = gw_end X post q.2.2.2.1 q.2.2.2.2 → gw_W X σ 0 0 0 (lv_args 0 av) []) : gw_M l y cc q ret Z b0 σ av post := by
  refine Met.ofW (cc := cc) (maxL := q.1) (ret := ret) hy rfl ?_
  intro p e s m args below meth c s₁ B hml hv
  obtain ⟨rfl, hK, hG⟩ := hv
  have hts := atoms_spec (ws := .code y cc q.1 ret :: gw_ws) B.pre
  have hl := lv_entry av (n := q.1) ha
  rw [lg_entry_eq]
  exact body ((p, l, e, { frames := q.2.1, cells := q.2.2.2.1, slots := q.2.2.2.2, locals := q.2.2.1 }), (s, m, av.toArray, below), (meth, c), (Z, b0, q.1), MQ below (gw_Qc Z b0 post) av.toArray s q.2.2.2.1 q.2.2.2.2 (fun a => b0 ≤ a))
    ⟨B.exec, B.bytes, ⟨hml, rfl, rfl, B.notSynchronized⟩, findClass_of_methodNamed B.named, fun w hw => hts w (List.mem_cons_of_mem _ hw), hK⟩ rfl rfl rfl B.returns (name_of_methodNamed B.named B.method).1 rfl s.heap [] _ hG va_S.rf hl
section GWC
variable {X : gw_C} {cc : ByteArray} {own : String} {q : gw_N} {σ : gw_S} {ce sl pc : Nat} {L : List (Nat × Value)} {st : List Value} {post : Option Value → gw_S → Prop} {mc ms : Nat}
theorem gw_iret (hX : gw_ok X cc own q) (hQ : X.2.2.2.2 = gw_end X post mc ms) (hr : X.2.2.1.1.sig.returnType = some .int) (d : decode cc pc = .ok (.ireturn, 1)) {v : Int32} (h1 : ce ≤ mc) (h2 : sl ≤ ms) (hp : post (some (.int v)) σ) : gw_W X σ ce sl pc L [.int v] := by
  intro H locs ls hG hS hL
  refine W.widen h1 h2 ?_
  rw [hQ]
  exact W.iret hX.1 hX.2.1 hr (fun t ht hW => ⟨some (.int v), σ, rfl, hp, by rw [ht]; exact hG, hS.F ht⟩) hS.2.2 d hX.2.2.1.2.2.2
theorem gw_zret (hX : gw_ok X cc own q) (hQ : X.2.2.2.2 = gw_end X post mc ms) (hr : X.2.2.1.1.sig.returnType = some .boolean) (d : decode cc pc = .ok (.ireturn, 1)) {v : Int32} (hn : narrow .boolean (.int v) = .int v) (h1 : ce ≤ mc) (h2 : sl ≤ ms) (hp : post (some (.int v)) σ) : gw_W X σ ce sl pc L [.int v] := by
  intro H locs ls hG hS hL
  refine W.widen h1 h2 ?_
  rw [hQ]
  exact W.zret hX.1 hX.2.1 hr hn (fun t ht hW => ⟨some (.int v), σ, rfl, hp, by rw [ht]; exact hG, hS.F ht⟩) hS.2.2 d hX.2.2.1.2.2.2
theorem gw_lret (hX : gw_ok X cc own q) (hQ : X.2.2.2.2 = gw_end X post mc ms) (hr : X.2.2.1.1.sig.returnType = some .long) (d : decode cc pc = .ok (.lreturn, 1)) {v : Int64} (h1 : ce ≤ mc) (h2 : sl ≤ ms) (hp : post (some (.long v)) σ) : gw_W X σ ce sl pc L [.long v] := by
  intro H locs ls hG hS hL
  refine W.widen h1 h2 ?_
  rw [hQ]
  exact W.lret hX.1 hX.2.1 hr (fun t ht hW => ⟨some (.long v), σ, rfl, hp, by rw [ht]; exact hG, hS.F ht⟩) hS.2.2 d hX.2.2.1.2.2.2
theorem gw_aret (hX : gw_ok X cc own q) (hQ : X.2.2.2.2 = gw_end X post mc ms) {n : String} (hr : X.2.2.1.1.sig.returnType = some (.object n)) (d : decode cc pc = .ok (.areturn, 1)) {a : Nat} (h1 : ce ≤ mc) (h2 : sl ≤ ms) (hp : post (some (.ref a)) σ) : gw_W X σ ce sl pc L [.ref a] := by
  intro H locs ls hG hS hL
  refine W.widen h1 h2 ?_
  rw [hQ]
  exact W.aret hX.1 hX.2.1 hr (Or.inl ⟨n, rfl⟩) (Or.inr ⟨a, rfl⟩) (fun t ht hW => ⟨some (.ref a), σ, rfl, hp, by rw [ht]; exact hG, hS.F ht⟩) hS.2.2 d hX.2.2.1.2.2.2
theorem gw_vret (hX : gw_ok X cc own q) (hQ : X.2.2.2.2 = gw_end X post mc ms) (hr : X.2.2.1.1.sig.returnType = none) (d : decode cc pc = .ok (.return_, 1)) (h1 : ce ≤ mc) (h2 : sl ≤ ms) (hp : post none σ) : gw_W X σ ce sl pc L [] := by
  intro H locs ls hG hS hL
  refine W.widen h1 h2 ?_
  rw [hQ]
  exact W.vret hX.1 hX.2.1 hr (fun t ht hW => ⟨none, σ, rfl, hp, by rw [ht]; exact hG, hS.F ht⟩) hS.2.2 d hX.2.2.1.2.2.2
/-- behind a call -/
theorem gw_back {H : Heap} {locs : List Loc} {ls : Array Slot} {st0 rest : List Value} {a : Array Value} (hr : va_Run X.1.1 X.1.2.1 X.1.2.2.1 X.1.2.2.2 X.2.1.1 X.2.1.2.1 X.2.1.2.2.1 X.2.1.2.2.2 X.2.2.1.1 X.2.2.1.2 H locs ce sl mc ms (F0 (gw_m X) pc ls st0) rest (gw_Qc (gw_z X) (gw_b X) post a) (fun q => gw_b X ≤ q)) (hS : va_S (fun q => gw_b X ≤ q) (gw_s X).heap H locs) (hL : lv_has ls (gw_n X) L)
    (kk : ∀ (v : Option Value) (σ' : gw_S), post v σ' → gw_W X σ' (ce + mc) (sl + ms) (pc + 3) L (v.toList ++ rest)) : gw_w X H locs ce sl (F0 (gw_m X) pc ls st0) := by
  intro T hT X0
  obtain ⟨v, s0, t, T', L', h0, X', hL', e1, e2, ⟨v', σ', hv, hp, hG', hF⟩, hst⟩ := hr T hT X0
  cases hv
  obtain ⟨f1, f2⟩ := hF
  rw [h0, ← e1] at f1
  have f3 : ∀ q : Nat, q < H.size → ¬ gw_b X ≤ q → T'.heap[q]? = H[q]? := fun q h1 h2 => by
    rw [e1, f2 q (by rw [h0]; exact h1) h2, h0]
  obtain ⟨t2, a1, b1⟩ := kk v σ' hp T'.heap (locs ++ L') ls (by rw [e1]; exact hG') ⟨Nat.le_trans hS.1 f1, fun q g1 g2 => (f3 q (Nat.lt_of_lt_of_le g1 hS.1) g2).trans (hS.2.1 q g1 g2), fun z hz => (List.mem_append.mp hz).elim (hS.2.2 z) (hL' z)⟩ hL T' rfl X'
  exact ⟨t2, hst t2 a1, b1⟩
/-- what the tables say of a method that is called -/
def gw_cal (y : MethodName) (cc : ByteArray) (maxL : Nat) (ret : Option FieldType) (n : Nat) : Prop := Cond.code y cc maxL ret ∈ gw_ws ∧ Cond.initialized y.cls ∈ gw_ws ∧ y.cls ≠ "java/lang/invoke/MethodHandle" ∧ y.cls ≠ "java/lang/invoke/VarHandle" ∧ (parseMethodDescriptor y.desc).map (fun d => d.parameters.length) = some n
theorem gw_cal_in {y : MethodName} {cb : ByteArray} {maxL n : Nat} {ret : Option FieldType} (h : gw_cal y cb maxL ret n) : GoodIn gw_ws (.code y cb maxL ret :: gw_ws) := fun w hw => by
  rcases List.mem_cons.mp hw with rfl | h1
  · exact ⟨h.1, gw_good _ h.1⟩
  · exact ⟨h1, gw_good _ h1⟩
/-- the call's own words: a virtual one, a static one, a constructor -/
def gw_sV (own : String) (idx : Nat) (y : MethodName) (cb : ByteArray) (maxL : Nat) (ret : Option FieldType) (n ci : Nat) : Prop := gw_cal y cb maxL ret n ∧ (Cond.methodLink own idx y ∈ gw_ws ∨ ∃ host : String, Cond.methodLinkNest own idx y host ∈ gw_nl) ∧ Cond.instanceMethod y ∈ gw_ws ∧ Cond.selects y.cls y y ∈ gw_ws ∧ ∃ r : vw_C, nv_cl[ci]? = some r ∧ r.1 = y.cls
def gw_sS (own : String) (idx : Nat) (y : MethodName) (cb : ByteArray) (maxL : Nat) (ret : Option FieldType) (n : Nat) : Prop := gw_cal y cb maxL ret n ∧ (Cond.methodLink own idx y ∈ gw_ws ∨ ∃ host : String, Cond.methodLinkNest own idx y host ∈ gw_nl) ∧ Cond.static y ∈ gw_ws
def gw_sI (own : String) (idx : Nat) (y : MethodName) (cb : ByteArray) (maxL : Nat) (n : Nat) : Prop := gw_cal y cb maxL none n ∧ (Cond.methodLink own idx y ∈ gw_ws ∨ ∃ host : String, Cond.methodLinkNest own idx y host ∈ gw_nl) ∧ Cond.instanceMethod y ∈ gw_ws ∧ y.name = "<init>"
/-- room for a callee's frames, words, cells, slots -/
abbrev gw_rm (q q' : gw_N) (ce sl : Nat) : Prop := (q'.2.1 + 1 ≤ q.2.1 ∧ 8 + (q'.1 + 11) + q'.2.2.1 ≤ q.2.2.1) ∧ ce + q'.2.2.2.1 ≤ q.2.2.2.1 ∧ sl + q'.2.2.2.2 ≤ q.2.2.2.2
theorem gw_callV (hX : gw_ok X cc own q) {idx n ci : Nat} {y : MethodName} {cb : ByteArray} {q' : gw_N} {ret : Option FieldType} (k : gw_sV own idx y cb q'.1 ret n ci) {b : Nat} {As rest : List Value} {fs : List Value} (hM : gw_M X.1.2.1 y cb q' ret (gw_z X) (gw_b X) σ (.ref b :: As) post) (hb : σ.2 b = some (.inr (ci, fs))) (hn : As.length = n) (hst : st = As.reverse ++ .ref b :: rest) (hw : (rest.map fun v => v.category).sum ≤ 8) (d : decode cc pc = .ok (.invokevirtual idx, 3)) (hR : gw_rm q q' ce sl)
    (kk : ∀ (v : Option Value) (σ' : gw_S), post v σ' → gw_W X σ' (ce + q'.2.2.2.1) (sl + q'.2.2.2.2) (pc + 3) L (v.toList ++ rest)) : gw_W X σ ce sl pc L st := by
  obtain ⟨hc, hlk, hi, hs, r, hr, hry⟩ := k
  subst hst
  intro H locs ls hG hS hL
  have hws := hX.2.2.2.2.1
  have hRm : X.1.2.2.2 = _ := hX.2.2.1.2.2.1
  have hfix : CallFix X.1.1 (gw_m X) X.2.2.1.2 cc (gw_n X) (gw_s X) (gw_a X) gw_ws own := ⟨hX.1, hX.2.1, hX.2.2.1.1, hX.2.2.2.1, hws⟩
  have hpre : PreV (gw_s X) H y.cls b (gw_Pc (gw_z X) (gw_b X) σ (.ref b :: As)) As := ⟨gw_blind _ _ _ _, by rw [← hry]; exact va_recv hX.2.2.2.2.2.1 (gw_one (hG.2.2 b _ hb).2) hr (q0 := 0) rfl, fun U hU hW => ⟨rfl, gw_K_warm hW hX.2.2.2.2.2, by rw [hU]; exact hG⟩⟩
  rcases hlk with hlk | ⟨host, hlk⟩
  · exact gw_back (va_runV hfix hM ⟨callB_of n hws (gw_cal_in hc) rfl rfl rfl (hws _ hc.2.1) (hws _ hlk) hc.2.2 (by rw [hRm]; exact hR.1), hws _ hi, hws _ hs⟩ hpre rfl hn hL.1 rfl (lv_room hw) d (by rw [hRm]; exact hR.2)) hS hL kk
  · exact gw_back (va_runVN hfix hM ⟨va_cnB n hws (gw_cal_in hc) rfl rfl rfl (hX.2.2.2.2.2.2.1 _ hlk) (hws _ hc.2.1) hc.2.2 (by rw [hRm]; exact hR.1), hws _ hi, hws _ hs⟩ hpre rfl hn hL.1 rfl (lv_room hw) d (by rw [hRm]; exact hR.2)) hS hL kk
theorem gw_callS (hX : gw_ok X cc own q) {idx n : Nat} {y : MethodName} {cb : ByteArray} {q' : gw_N} {ret : Option FieldType} (k : gw_sS own idx y cb q'.1 ret n) {As rest : List Value} (hM : gw_M X.1.2.1 y cb q' ret (gw_z X) (gw_b X) σ As post) (hn : As.length = n) (hst : st = As.reverse ++ rest) (hw : (rest.map fun v => v.category).sum ≤ 8) (d : decode cc pc = .ok (.invokestatic idx, 3)) (hR : gw_rm q q' ce sl)
    (kk : ∀ (v : Option Value) (σ' : gw_S), post v σ' → gw_W X σ' (ce + q'.2.2.2.1) (sl + q'.2.2.2.2) (pc + 3) L (v.toList ++ rest)) : gw_W X σ ce sl pc L st := by
  obtain ⟨hc, hlk, hs⟩ := k
  subst hst
  intro H locs ls hG hS hL
  have hws := hX.2.2.2.2.1
  have hRm : X.1.2.2.2 = _ := hX.2.2.1.2.2.1
  have hfix : CallFix X.1.1 (gw_m X) X.2.2.1.2 cc (gw_n X) (gw_s X) (gw_a X) gw_ws own := ⟨hX.1, hX.2.1, hX.2.2.1.1, hX.2.2.2.1, hws⟩
  have hpre : PreS (gw_s X) H (gw_Pc (gw_z X) (gw_b X) σ As) As := ⟨gw_blind _ _ _ _, fun U hU hW => ⟨rfl, gw_K_warm hW hX.2.2.2.2.2, by rw [hU]; exact hG⟩⟩
  rcases hlk with hlk | ⟨host, hlk⟩
  · exact gw_back (va_runS hfix hM ⟨callB_of n hws (gw_cal_in hc) rfl rfl rfl (hws _ hc.2.1) (hws _ hlk) hc.2.2 (by rw [hRm]; exact hR.1), hws _ hs⟩ hpre rfl hn hL.1 rfl (lv_room hw) d (by rw [hRm]; exact hR.2)) hS hL kk
  · exact gw_back (va_runSN hfix hM ⟨va_cnB n hws (gw_cal_in hc) rfl rfl rfl (hX.2.2.2.2.2.2.1 _ hlk) (hws _ hc.2.1) hc.2.2 (by rw [hRm]; exact hR.1), hws _ hs, trivial⟩ hpre rfl hn hL.1 rfl (lv_room hw) d (by rw [hRm]; exact hR.2)) hS hL kk
theorem gw_callI (hX : gw_ok X cc own q) {idx n : Nat} {y : MethodName} {cb : ByteArray} {q' : gw_N} (k : gw_sI own idx y cb q'.1 n) {b : Nat} {As rest : List Value} (hM : gw_M X.1.2.1 y cb q' none (gw_z X) (gw_b X) σ (.ref b :: As) post) (hn : As.length = n) (hst : st = As.reverse ++ .ref b :: rest) (hw : (rest.map fun v => v.category).sum ≤ 8) (d : decode cc pc = .ok (.invokespecial idx, 3)) (hR : gw_rm q q' ce sl)
    (kk : ∀ (v : Option Value) (σ' : gw_S), post v σ' → gw_W X σ' (ce + q'.2.2.2.1) (sl + q'.2.2.2.2) (pc + 3) L (v.toList ++ rest)) : gw_W X σ ce sl pc L st := by
  obtain ⟨hc, hlk, hi, hy1⟩ := k
  subst hst
  intro H locs ls hG hS hL
  have hws := hX.2.2.2.2.1
  have hRm : X.1.2.2.2 = _ := hX.2.2.1.2.2.1
  have hfix : CallFix X.1.1 (gw_m X) X.2.2.1.2 cc (gw_n X) (gw_s X) (gw_a X) gw_ws own := ⟨hX.1, hX.2.1, hX.2.2.1.1, hX.2.2.2.1, hws⟩
  have hpre : PreS (gw_s X) H (gw_Pc (gw_z X) (gw_b X) σ (.ref b :: As)) (.ref b :: As) := ⟨gw_blind _ _ _ _, fun U hU hW => ⟨rfl, gw_K_warm hW hX.2.2.2.2.2, by rw [hU]; exact hG⟩⟩
  rcases hlk with hlk | ⟨host, hlk⟩
  · exact gw_back (va_runI hfix hM ⟨callB_of n hws (gw_cal_in hc) rfl rfl rfl (hws _ hc.2.1) (hws _ hlk) hc.2.2 (by rw [hRm]; exact hR.1), hy1, hws _ hi⟩ hpre rfl hn hL.1 rfl (lv_room hw) d (by rw [hRm]; exact hR.2)) hS hL kk
  · exact gw_back (va_runIN hfix hM ⟨va_cnB n hws (gw_cal_in hc) rfl rfl rfl (hX.2.2.2.2.2.2.1 _ hlk) (hws _ hc.2.1) hc.2.2 (by rw [hRm]; exact hR.1), hy1, hws _ hi⟩ hpre rfl hn hL.1 rfl (lv_room hw) d (by rw [hRm]; exact hR.2)) hS hL kk
end GWC
end
section
theorem kc_LL : gw_cls 0 nR_LL nF_LL 12 nT_LL := ⟨rfl, by decide +kernel, nO_LL, nN_LL⟩
theorem kc_Mo : gw_cls 1 nR_Mo nF_Mo 24 nT_Mo := ⟨rfl, by decide +kernel, nO_Mo, nN_Mo⟩
theorem kc_Co : gw_cls 2 nR_Co nF_Co 2 nT_Co := ⟨rfl, by decide +kernel, nO_Co, nN_Co⟩
theorem kc_De : gw_cls 3 nR_De nF_De 2 nT_De := ⟨rfl, by decide +kernel, nO_De, nN_De⟩
theorem kc_Ra : gw_cls 4 nR_Ra nF_Ra 3 nT_Ra := ⟨rfl, by decide +kernel, nO_Ra, nN_Ra⟩
theorem kc_Se : gw_cls 5 nR_Se nF_Se 3 nT_Se := ⟨rfl, by decide +kernel, nO_Se, nN_Se⟩
theorem kc_Te : gw_cls 6 nR_Te nF_Te 3 nT_Te := ⟨rfl, by decide +kernel, nO_Te, nN_Te⟩
theorem kc_We : gw_cls 7 nR_We nF_We 1 nT_We := ⟨rfl, by decide +kernel, nO_We, nN_We⟩
theorem kf_LL_10 : gw_fld "LabelLearner" 10 0 0 true (.object "LabelLearner$Text") := ⟨_, _, _, _, kc_LL, by decide, rfl, rfl, rfl, Or.inl (gw_in_t 126 (by decide +kernel) rfl)⟩
theorem kf_LL_19 : gw_fld "LabelLearner" 19 0 1 true (.object "LabelLearner$Decoder") := ⟨_, _, _, _, kc_LL, by decide, rfl, rfl, rfl, Or.inl (gw_in_t 127 (by decide +kernel) rfl)⟩
theorem kf_LL_26 : gw_fld "LabelLearner" 26 0 2 true (.object "LabelLearner$Weights") := ⟨_, _, _, _, kc_LL, by decide, rfl, rfl, rfl, Or.inl (gw_in_t 128 (by decide +kernel) rfl)⟩
theorem kf_LL_30 : gw_fld "LabelLearner" 30 0 3 true (.object "LabelLearner$Weights") := ⟨_, _, _, _, kc_LL, by decide, rfl, rfl, rfl, Or.inl (gw_in_t 129 (by decide +kernel) rfl)⟩
theorem kf_LL_36 : gw_fld "LabelLearner" 36 0 4 false (.object "LabelLearner$Corpus") := ⟨_, _, _, _, kc_LL, by decide, rfl, rfl, rfl, Or.inl (gw_in_t 130 (by decide +kernel) rfl)⟩
theorem kf_LL_40 : gw_fld "LabelLearner" 40 0 5 false (.object "LabelLearner$Corpus") := ⟨_, _, _, _, kc_LL, by decide, rfl, rfl, rfl, Or.inl (gw_in_t 131 (by decide +kernel) rfl)⟩
theorem kf_LL_46 : gw_fld "LabelLearner" 46 0 6 false (.object "LabelLearner$Sentence") := ⟨_, _, _, _, kc_LL, by decide, rfl, rfl, rfl, Or.inl (gw_in_t 132 (by decide +kernel) rfl)⟩
theorem kf_LL_50 : gw_fld "LabelLearner" 50 0 7 false (.object "LabelLearner$Sentence") := ⟨_, _, _, _, kc_LL, by decide, rfl, rfl, rfl, Or.inl (gw_in_t 133 (by decide +kernel) rfl)⟩
theorem kf_LL_75 : gw_fld "LabelLearner" 75 0 8 false (.int) := ⟨_, _, _, _, kc_LL, by decide, rfl, rfl, rfl, Or.inl (gw_in_t 134 (by decide +kernel) rfl)⟩
theorem kf_LL_79 : gw_fld "LabelLearner" 79 0 9 false (.int) := ⟨_, _, _, _, kc_LL, by decide, rfl, rfl, rfl, Or.inl (gw_in_t 135 (by decide +kernel) rfl)⟩
theorem kf_LL_85 : gw_fld "LabelLearner" 85 2 1 false (.int) := ⟨_, _, _, _, kc_Co, by decide, rfl, rfl, rfl, Or.inr ⟨"LabelLearner", gw_in_n 117 (by decide +kernel) rfl⟩⟩
theorem kf_LL_94 : gw_fld "LabelLearner" 94 5 2 false (.int) := ⟨_, _, _, _, kc_Se, by decide, rfl, rfl, rfl, Or.inr ⟨"LabelLearner", gw_in_n 104 (by decide +kernel) rfl⟩⟩
theorem kf_LL_108 : gw_fld "LabelLearner" 108 5 1 false (.int) := ⟨_, _, _, _, kc_Se, by decide, rfl, rfl, rfl, Or.inr ⟨"LabelLearner", gw_in_n 100 (by decide +kernel) rfl⟩⟩
theorem kf_LL_145 : gw_fld "LabelLearner" 145 0 10 false (.int) := ⟨_, _, _, _, kc_LL, by decide, rfl, rfl, rfl, Or.inl (gw_in_t 136 (by decide +kernel) rfl)⟩
theorem kf_LL_148 : gw_fld "LabelLearner" 148 4 1 true (.array .int) := ⟨_, _, _, _, kc_Ra, by decide, rfl, rfl, rfl, Or.inr ⟨"LabelLearner", gw_in_n 57 (by decide +kernel) rfl⟩⟩
theorem kf_LL_154 : gw_fld "LabelLearner" 154 0 11 false (.int) := ⟨_, _, _, _, kc_LL, by decide, rfl, rfl, rfl, Or.inl (gw_in_t 137 (by decide +kernel) rfl)⟩
theorem kf_LL_157 : gw_fld "LabelLearner" 157 4 0 true (.array .long) := ⟨_, _, _, _, kc_Ra, by decide, rfl, rfl, rfl, Or.inr ⟨"LabelLearner", gw_in_n 55 (by decide +kernel) rfl⟩⟩
theorem kf_LL_165 : gw_fld "LabelLearner" 165 2 0 true (.array (.object "LabelLearner$Sentence")) := ⟨_, _, _, _, kc_Co, by decide, rfl, rfl, rfl, Or.inr ⟨"LabelLearner", gw_in_n 116 (by decide +kernel) rfl⟩⟩
theorem kf_Mo_7 : gw_fld "LabelLearnerModel" 7 1 2 true (.array .int) := ⟨_, _, _, _, kc_Mo, by decide, rfl, rfl, rfl, Or.inl (gw_in_t 537 (by decide +kernel) rfl)⟩
theorem kf_Mo_13 : gw_fld "LabelLearnerModel" 13 1 4 true (.array .int) := ⟨_, _, _, _, kc_Mo, by decide, rfl, rfl, rfl, Or.inl (gw_in_t 539 (by decide +kernel) rfl)⟩
theorem kf_Mo_16 : gw_fld "LabelLearnerModel" 16 1 5 true (.array .int) := ⟨_, _, _, _, kc_Mo, by decide, rfl, rfl, rfl, Or.inl (gw_in_t 540 (by decide +kernel) rfl)⟩
theorem kf_Mo_19 : gw_fld "LabelLearnerModel" 19 1 6 true (.array .int) := ⟨_, _, _, _, kc_Mo, by decide, rfl, rfl, rfl, Or.inl (gw_in_t 541 (by decide +kernel) rfl)⟩
theorem kf_Mo_22 : gw_fld "LabelLearnerModel" 22 1 8 true (.array .int) := ⟨_, _, _, _, kc_Mo, by decide, rfl, rfl, rfl, Or.inl (gw_in_t 543 (by decide +kernel) rfl)⟩
theorem kf_Mo_25 : gw_fld "LabelLearnerModel" 25 1 9 true (.array .int) := ⟨_, _, _, _, kc_Mo, by decide, rfl, rfl, rfl, Or.inl (gw_in_t 544 (by decide +kernel) rfl)⟩
theorem kf_Mo_28 : gw_fld "LabelLearnerModel" 28 1 10 true (.array .int) := ⟨_, _, _, _, kc_Mo, by decide, rfl, rfl, rfl, Or.inl (gw_in_t 545 (by decide +kernel) rfl)⟩
theorem kf_Mo_31 : gw_fld "LabelLearnerModel" 31 1 11 true (.array .long) := ⟨_, _, _, _, kc_Mo, by decide, rfl, rfl, rfl, Or.inl (gw_in_t 546 (by decide +kernel) rfl)⟩
theorem kf_Mo_35 : gw_fld "LabelLearnerModel" 35 1 12 true (.array .long) := ⟨_, _, _, _, kc_Mo, by decide, rfl, rfl, rfl, Or.inl (gw_in_t 547 (by decide +kernel) rfl)⟩
theorem kf_Mo_38 : gw_fld "LabelLearnerModel" 38 1 15 true (.array .long) := ⟨_, _, _, _, kc_Mo, by decide, rfl, rfl, rfl, Or.inl (gw_in_t 550 (by decide +kernel) rfl)⟩
theorem kf_Mo_41 : gw_fld "LabelLearnerModel" 41 1 16 true (.array .int) := ⟨_, _, _, _, kc_Mo, by decide, rfl, rfl, rfl, Or.inl (gw_in_t 551 (by decide +kernel) rfl)⟩
theorem kf_Mo_44 : gw_fld "LabelLearnerModel" 44 1 17 true (.array .long) := ⟨_, _, _, _, kc_Mo, by decide, rfl, rfl, rfl, Or.inl (gw_in_t 552 (by decide +kernel) rfl)⟩
theorem kf_Mo_47 : gw_fld "LabelLearnerModel" 47 1 22 false (.int) := ⟨_, _, _, _, kc_Mo, by decide, rfl, rfl, rfl, Or.inl (gw_in_t 557 (by decide +kernel) rfl)⟩
theorem kf_Mo_51 : gw_fld "LabelLearnerModel" 51 1 0 false (.int) := ⟨_, _, _, _, kc_Mo, by decide, rfl, rfl, rfl, Or.inl (gw_in_t 535 (by decide +kernel) rfl)⟩
theorem kf_Mo_56 : gw_fld "LabelLearnerModel" 56 1 1 false (.int) := ⟨_, _, _, _, kc_Mo, by decide, rfl, rfl, rfl, Or.inl (gw_in_t 536 (by decide +kernel) rfl)⟩
theorem kf_Mo_82 : gw_fld "LabelLearnerModel" 82 1 7 false (.int) := ⟨_, _, _, _, kc_Mo, by decide, rfl, rfl, rfl, Or.inl (gw_in_t 542 (by decide +kernel) rfl)⟩
theorem kf_Mo_89 : gw_fld "LabelLearnerModel" 89 1 3 false (.int) := ⟨_, _, _, _, kc_Mo, by decide, rfl, rfl, rfl, Or.inl (gw_in_t 538 (by decide +kernel) rfl)⟩
theorem kf_Mo_96 : gw_fld "LabelLearnerModel" 96 1 13 false (.int) := ⟨_, _, _, _, kc_Mo, by decide, rfl, rfl, rfl, Or.inl (gw_in_t 548 (by decide +kernel) rfl)⟩
theorem kf_Mo_99 : gw_fld "LabelLearnerModel" 99 1 14 false (.int) := ⟨_, _, _, _, kc_Mo, by decide, rfl, rfl, rfl, Or.inl (gw_in_t 549 (by decide +kernel) rfl)⟩
theorem kf_Mo_120 : gw_fld "LabelLearnerModel" 120 1 18 false (.long) := ⟨_, _, _, _, kc_Mo, by decide, rfl, rfl, rfl, Or.inl (gw_in_t 553 (by decide +kernel) rfl)⟩
theorem kf_Mo_124 : gw_fld "LabelLearnerModel" 124 1 20 false (.int) := ⟨_, _, _, _, kc_Mo, by decide, rfl, rfl, rfl, Or.inl (gw_in_t 555 (by decide +kernel) rfl)⟩
theorem kf_Mo_127 : gw_fld "LabelLearnerModel" 127 1 21 false (.int) := ⟨_, _, _, _, kc_Mo, by decide, rfl, rfl, rfl, Or.inl (gw_in_t 556 (by decide +kernel) rfl)⟩
theorem kf_Mo_130 : gw_fld "LabelLearnerModel" 130 1 19 false (.long) := ⟨_, _, _, _, kc_Mo, by decide, rfl, rfl, rfl, Or.inl (gw_in_t 554 (by decide +kernel) rfl)⟩
theorem kf_Mo_154 : gw_fld "LabelLearnerModel" 154 1 23 false (.int) := ⟨_, _, _, _, kc_Mo, by decide, rfl, rfl, rfl, Or.inl (gw_in_t 558 (by decide +kernel) rfl)⟩
theorem kf_Co_11 : gw_fld "LabelLearner$Corpus" 11 2 0 true (.array (.object "LabelLearner$Sentence")) := ⟨_, _, _, _, kc_Co, by decide, rfl, rfl, rfl, Or.inl (gw_in_t 114 (by decide +kernel) rfl)⟩
theorem kf_De_11 : gw_fld "LabelLearner$Decoder" 11 3 0 true (.array (.object "LabelLearner$Ranking")) := ⟨_, _, _, _, kc_De, by decide, rfl, rfl, rfl, Or.inl (gw_in_t 68 (by decide +kernel) rfl)⟩
theorem kf_De_18 : gw_fld "LabelLearner$Decoder" 18 3 1 true (.object "LabelLearner$Ranking") := ⟨_, _, _, _, kc_De, by decide, rfl, rfl, rfl, Or.inl (gw_in_t 69 (by decide +kernel) rfl)⟩
theorem kf_De_22 : gw_fld "LabelLearner$Decoder" 22 5 2 false (.int) := ⟨_, _, _, _, kc_Se, by decide, rfl, rfl, rfl, Or.inr ⟨"LabelLearner", gw_in_n 102 (by decide +kernel) rfl⟩⟩
theorem kf_Ra_9 : gw_fld "LabelLearner$Ranking" 9 4 0 true (.array .long) := ⟨_, _, _, _, kc_Ra, by decide, rfl, rfl, rfl, Or.inl (gw_in_t 54 (by decide +kernel) rfl)⟩
theorem kf_Ra_15 : gw_fld "LabelLearner$Ranking" 15 4 1 true (.array .int) := ⟨_, _, _, _, kc_Ra, by decide, rfl, rfl, rfl, Or.inl (gw_in_t 56 (by decide +kernel) rfl)⟩
theorem kf_Ra_19 : gw_fld "LabelLearner$Ranking" 19 4 2 false (.int) := ⟨_, _, _, _, kc_Ra, by decide, rfl, rfl, rfl, Or.inl (gw_in_t 58 (by decide +kernel) rfl)⟩
theorem kf_Se_9 : gw_fld "LabelLearner$Sentence" 9 5 0 true (.array .int) := ⟨_, _, _, _, kc_Se, by decide, rfl, rfl, rfl, Or.inl (gw_in_t 98 (by decide +kernel) rfl)⟩
theorem kf_Se_15 : gw_fld "LabelLearner$Sentence" 15 5 2 false (.int) := ⟨_, _, _, _, kc_Se, by decide, rfl, rfl, rfl, Or.inl (gw_in_t 103 (by decide +kernel) rfl)⟩
theorem kf_Se_19 : gw_fld "LabelLearner$Sentence" 19 5 1 false (.int) := ⟨_, _, _, _, kc_Se, by decide, rfl, rfl, rfl, Or.inl (gw_in_t 99 (by decide +kernel) rfl)⟩
theorem kf_Te_9 : gw_fld "LabelLearner$Text" 9 6 0 true (.array .char) := ⟨_, _, _, _, kc_Te, by decide, rfl, rfl, rfl, Or.inl (gw_in_t 30 (by decide +kernel) rfl)⟩
theorem kf_Te_15 : gw_fld "LabelLearner$Text" 15 6 1 false (.int) := ⟨_, _, _, _, kc_Te, by decide, rfl, rfl, rfl, Or.inl (gw_in_t 31 (by decide +kernel) rfl)⟩
theorem kf_Te_23 : gw_fld "LabelLearner$Text" 23 6 2 false (.int) := ⟨_, _, _, _, kc_Te, by decide, rfl, rfl, rfl, Or.inl (gw_in_t 32 (by decide +kernel) rfl)⟩
theorem kf_Te_26 : gw_fld "LabelLearner$Text" 26 2 1 false (.int) := ⟨_, _, _, _, kc_Co, by decide, rfl, rfl, rfl, Or.inr ⟨"LabelLearner", gw_in_n 118 (by decide +kernel) rfl⟩⟩
theorem kf_Te_31 : gw_fld "LabelLearner$Text" 31 2 0 true (.array (.object "LabelLearner$Sentence")) := ⟨_, _, _, _, kc_Co, by decide, rfl, rfl, rfl, Or.inr ⟨"LabelLearner", gw_in_n 115 (by decide +kernel) rfl⟩⟩
theorem kf_Te_71 : gw_fld "LabelLearner$Text" 71 5 2 false (.int) := ⟨_, _, _, _, kc_Se, by decide, rfl, rfl, rfl, Or.inr ⟨"LabelLearner", gw_in_n 106 (by decide +kernel) rfl⟩⟩
theorem kf_Te_94 : gw_fld "LabelLearner$Text" 94 5 1 false (.int) := ⟨_, _, _, _, kc_Se, by decide, rfl, rfl, rfl, Or.inr ⟨"LabelLearner", gw_in_n 101 (by decide +kernel) rfl⟩⟩
theorem kf_We_9 : gw_fld "LabelLearner$Weights" 9 7 0 true (.array .long) := ⟨_, _, _, _, kc_We, by decide, rfl, rfl, rfl, Or.inl (gw_in_t 81 (by decide +kernel) rfl)⟩
theorem kf_We_25 : gw_fld "LabelLearner$Weights" 25 5 2 false (.int) := ⟨_, _, _, _, kc_Se, by decide, rfl, rfl, rfl, Or.inr ⟨"LabelLearner", gw_in_n 105 (by decide +kernel) rfl⟩⟩
theorem ko_LL_1 : Cond.methodLink "LabelLearner" 1 objectInit ∈ gw_ws := gw_in_t 21 (by decide +kernel) rfl
theorem kk_Te_init : gw_cal ny_Te_init nc_Te_init 1 none 0 := ⟨gw_in_t 28 (by decide +kernel) rfl, gw_in_t 2 (by decide +kernel) rfl, by decide +kernel, by decide +kernel, by decide +kernel⟩
theorem ks_LL_9 : gw_sI "LabelLearner" 9 ny_Te_init nc_Te_init 1 0 := ⟨kk_Te_init, Or.inr ⟨"LabelLearner", gw_in_n 26 (by decide +kernel) rfl⟩, gw_in_t 27 (by decide +kernel) rfl, rfl⟩
theorem kk_De_init : gw_cal ny_De_init nc_De_init 2 none 0 := ⟨gw_in_t 45 (by decide +kernel) rfl, gw_in_t 3 (by decide +kernel) rfl, by decide +kernel, by decide +kernel, by decide +kernel⟩
theorem ks_LL_18 : gw_sI "LabelLearner" 18 ny_De_init nc_De_init 2 0 := ⟨kk_De_init, Or.inr ⟨"LabelLearner", gw_in_n 43 (by decide +kernel) rfl⟩, gw_in_t 44 (by decide +kernel) rfl, rfl⟩
theorem kk_We_init : gw_cal ny_We_init nc_We_init 1 none 0 := ⟨gw_in_t 79 (by decide +kernel) rfl, gw_in_t 5 (by decide +kernel) rfl, by decide +kernel, by decide +kernel, by decide +kernel⟩
theorem ks_LL_25 : gw_sI "LabelLearner" 25 ny_We_init nc_We_init 1 0 := ⟨kk_We_init, Or.inr ⟨"LabelLearner", gw_in_n 77 (by decide +kernel) rfl⟩, gw_in_t 78 (by decide +kernel) rfl, rfl⟩
theorem kk_Co_init : gw_cal ny_Co_init nc_Co_init 2 none 0 := ⟨gw_in_t 89 (by decide +kernel) rfl, gw_in_t 6 (by decide +kernel) rfl, by decide +kernel, by decide +kernel, by decide +kernel⟩
theorem ks_LL_35 : gw_sI "LabelLearner" 35 ny_Co_init nc_Co_init 2 0 := ⟨kk_Co_init, Or.inr ⟨"LabelLearner", gw_in_n 87 (by decide +kernel) rfl⟩, gw_in_t 88 (by decide +kernel) rfl, rfl⟩
theorem kk_Se_init : gw_cal ny_Se_init nc_Se_init 1 none 0 := ⟨gw_in_t 96 (by decide +kernel) rfl, gw_in_t 7 (by decide +kernel) rfl, by decide +kernel, by decide +kernel, by decide +kernel⟩
theorem ks_LL_45 : gw_sI "LabelLearner" 45 ny_Se_init nc_Se_init 1 0 := ⟨kk_Se_init, Or.inr ⟨"LabelLearner", gw_in_n 125 (by decide +kernel) rfl⟩, gw_in_t 95 (by decide +kernel) rfl, rfl⟩
theorem kk_Te_append : gw_cal ny_Te_append nc_Te_append 6 (some .boolean) 2 := ⟨gw_in_t 170 (by decide +kernel) rfl, gw_in_t 2 (by decide +kernel) rfl, by decide +kernel, by decide +kernel, by decide +kernel⟩
theorem ks_LL_53 : gw_sV "LabelLearner" 53 ny_Te_append nc_Te_append 6 (some .boolean) 2 6 := ⟨kk_Te_append, Or.inr ⟨"LabelLearner", gw_in_n 167 (by decide +kernel) rfl⟩, gw_in_t 169 (by decide +kernel) rfl, gw_in_p 0 (by decide +kernel) rfl, _, rfl, rfl⟩
theorem kk_Te_keep : gw_cal ny_Te_keep nc_Te_keep 2 (some .boolean) 1 := ⟨gw_in_t 181 (by decide +kernel) rfl, gw_in_t 2 (by decide +kernel) rfl, by decide +kernel, by decide +kernel, by decide +kernel⟩
theorem ks_LL_57 : gw_sV "LabelLearner" 57 ny_Te_keep nc_Te_keep 2 (some .boolean) 1 6 := ⟨kk_Te_keep, Or.inr ⟨"LabelLearner", gw_in_n 178 (by decide +kernel) rfl⟩, gw_in_t 180 (by decide +kernel) rfl, gw_in_p 1 (by decide +kernel) rfl, _, rfl, rfl⟩
theorem kk_Te_readCorpus : gw_cal ny_Te_readCorpus nc_Te_readCorpus 3 (some .boolean) 1 := ⟨gw_in_t 257 (by decide +kernel) rfl, gw_in_t 2 (by decide +kernel) rfl, by decide +kernel, by decide +kernel, by decide +kernel⟩
theorem ks_LL_61 : gw_sV "LabelLearner" 61 ny_Te_readCorpus nc_Te_readCorpus 3 (some .boolean) 1 6 := ⟨kk_Te_readCorpus, Or.inr ⟨"LabelLearner", gw_in_n 254 (by decide +kernel) rfl⟩, gw_in_t 256 (by decide +kernel) rfl, gw_in_p 12 (by decide +kernel) rfl, _, rfl, rfl⟩
theorem kk_We_clear : gw_cal ny_We_clear nc_We_clear 2 none 0 := ⟨gw_in_t 381 (by decide +kernel) rfl, gw_in_t 5 (by decide +kernel) rfl, by decide +kernel, by decide +kernel, by decide +kernel⟩
theorem ks_LL_72 : gw_sV "LabelLearner" 72 ny_We_clear nc_We_clear 2 none 0 7 := ⟨kk_We_clear, Or.inr ⟨"LabelLearner", gw_in_n 378 (by decide +kernel) rfl⟩, gw_in_t 380 (by decide +kernel) rfl, gw_in_p 24 (by decide +kernel) rfl, _, rfl, rfl⟩
theorem kk_LL_forgetDecoding : gw_cal ny_LL_forgetDecoding nc_LL_forgetDecoding 1 none 0 := ⟨gw_in_t 385 (by decide +kernel) rfl, gw_in_t 1 (by decide +kernel) rfl, by decide +kernel, by decide +kernel, by decide +kernel⟩
theorem ks_LL_82 : gw_sV "LabelLearner" 82 ny_LL_forgetDecoding nc_LL_forgetDecoding 1 none 0 0 := ⟨kk_LL_forgetDecoding, Or.inl (gw_in_t 382 (by decide +kernel) rfl), gw_in_t 384 (by decide +kernel) rfl, gw_in_p 25 (by decide +kernel) rfl, _, rfl, rfl⟩
theorem kk_Te_readSpeech : gw_cal ny_Te_readSpeech nc_Te_readSpeech 2 (some .boolean) 1 := ⟨gw_in_t 396 (by decide +kernel) rfl, gw_in_t 2 (by decide +kernel) rfl, by decide +kernel, by decide +kernel, by decide +kernel⟩
theorem ks_LL_88 : gw_sV "LabelLearner" 88 ny_Te_readSpeech nc_Te_readSpeech 2 (some .boolean) 1 6 := ⟨kk_Te_readSpeech, Or.inr ⟨"LabelLearner", gw_in_n 393 (by decide +kernel) rfl⟩, gw_in_t 395 (by decide +kernel) rfl, gw_in_p 26 (by decide +kernel) rfl, _, rfl, rfl⟩
theorem kk_LL_sentenceNumbered : gw_cal ny_LL_sentenceNumbered nc_LL_sentenceNumbered 2 (some (.object "LabelLearner$Sentence")) 1 := ⟨gw_in_t 409 (by decide +kernel) rfl, gw_in_t 1 (by decide +kernel) rfl, by decide +kernel, by decide +kernel, by decide +kernel⟩
theorem ks_LL_95 : gw_sV "LabelLearner" 95 ny_LL_sentenceNumbered nc_LL_sentenceNumbered 2 (some (.object "LabelLearner$Sentence")) 1 0 := ⟨kk_LL_sentenceNumbered, Or.inl (gw_in_t 406 (by decide +kernel) rfl), gw_in_t 408 (by decide +kernel) rfl, gw_in_p 27 (by decide +kernel) rfl, _, rfl, rfl⟩
theorem kk_LL_requireWord : gw_cal ny_LL_requireWord nc_LL_requireWord 2 none 2 := ⟨gw_in_t 436 (by decide +kernel) rfl, gw_in_t 1 (by decide +kernel) rfl, by decide +kernel, by decide +kernel, by decide +kernel⟩
theorem ks_LL_104 : gw_sS "LabelLearner" 104 ny_LL_requireWord nc_LL_requireWord 2 none 2 := ⟨kk_LL_requireWord, Or.inl (gw_in_t 434 (by decide +kernel) rfl), gw_in_t 435 (by decide +kernel) rfl⟩
theorem kk_LL_labelIn : gw_cal ny_LL_labelIn nc_LL_labelIn 2 (some .int) 2 := ⟨gw_in_t 245 (by decide +kernel) rfl, gw_in_t 1 (by decide +kernel) rfl, by decide +kernel, by decide +kernel, by decide +kernel⟩
theorem ks_LL_111 : gw_sS "LabelLearner" 111 ny_LL_labelIn nc_LL_labelIn 2 (some .int) 2 := ⟨kk_LL_labelIn, Or.inl (gw_in_t 243 (by decide +kernel) rfl), gw_in_t 244 (by decide +kernel) rfl⟩
theorem kk_Se_bucketOf : gw_cal ny_Se_bucketOf nc_Se_bucketOf 3 (some .int) 2 := ⟨gw_in_t 221 (by decide +kernel) rfl, gw_in_t 7 (by decide +kernel) rfl, by decide +kernel, by decide +kernel, by decide +kernel⟩
theorem ks_LL_117 : gw_sV "LabelLearner" 117 ny_Se_bucketOf nc_Se_bucketOf 3 (some .int) 2 5 := ⟨kk_Se_bucketOf, Or.inr ⟨"LabelLearner", gw_in_n 446 (by decide +kernel) rfl⟩, gw_in_t 220 (by decide +kernel) rfl, gw_in_p 7 (by decide +kernel) rfl, _, rfl, rfl⟩
theorem kk_LL_learnCorpus : gw_cal ny_LL_learnCorpus nc_LL_learnCorpus 3 (some .int) 0 := ⟨gw_in_t 475 (by decide +kernel) rfl, gw_in_t 1 (by decide +kernel) rfl, by decide +kernel, by decide +kernel, by decide +kernel⟩
theorem ks_LL_127 : gw_sV "LabelLearner" 127 ny_LL_learnCorpus nc_LL_learnCorpus 3 (some .int) 0 0 := ⟨kk_LL_learnCorpus, Or.inl (gw_in_t 472 (by decide +kernel) rfl), gw_in_t 474 (by decide +kernel) rfl, gw_in_p 28 (by decide +kernel) rfl, _, rfl, rfl⟩
theorem kk_LL_weightsOrTotals : gw_cal ny_LL_weightsOrTotals nc_LL_weightsOrTotals 2 (some (.object "LabelLearner$Weights")) 1 := ⟨gw_in_t 201 (by decide +kernel) rfl, gw_in_t 1 (by decide +kernel) rfl, by decide +kernel, by decide +kernel, by decide +kernel⟩
theorem ks_LL_133 : gw_sV "LabelLearner" 133 ny_LL_weightsOrTotals nc_LL_weightsOrTotals 2 (some (.object "LabelLearner$Weights")) 1 0 := ⟨kk_LL_weightsOrTotals, Or.inl (gw_in_t 198 (by decide +kernel) rfl), gw_in_t 200 (by decide +kernel) rfl, gw_in_p 2 (by decide +kernel) rfl, _, rfl, rfl⟩
theorem kk_We_at : gw_cal ny_We_at nc_We_at 3 (some .long) 2 := ⟨gw_in_t 225 (by decide +kernel) rfl, gw_in_t 5 (by decide +kernel) rfl, by decide +kernel, by decide +kernel, by decide +kernel⟩
theorem ks_LL_137 : gw_sV "LabelLearner" 137 ny_We_at nc_We_at 3 (some .long) 2 7 := ⟨kk_We_at, Or.inr ⟨"LabelLearner", gw_in_n 502 (by decide +kernel) rfl⟩, gw_in_t 224 (by decide +kernel) rfl, gw_in_p 8 (by decide +kernel) rfl, _, rfl, rfl⟩
theorem kk_De_rank : gw_cal ny_De_rank nc_De_rank 5 (some (.object "LabelLearner$Ranking")) 2 := ⟨gw_in_t 205 (by decide +kernel) rfl, gw_in_t 3 (by decide +kernel) rfl, by decide +kernel, by decide +kernel, by decide +kernel⟩
theorem ks_LL_141 : gw_sV "LabelLearner" 141 ny_De_rank nc_De_rank 5 (some (.object "LabelLearner$Ranking")) 2 3 := ⟨kk_De_rank, Or.inr ⟨"LabelLearner", gw_in_n 202 (by decide +kernel) rfl⟩, gw_in_t 204 (by decide +kernel) rfl, gw_in_p 3 (by decide +kernel) rfl, _, rfl, rfl⟩
theorem kk_We_sum : gw_cal ny_We_sum nc_We_sum 8 (some .long) 2 := ⟨gw_in_t 527 (by decide +kernel) rfl, gw_in_t 5 (by decide +kernel) rfl, by decide +kernel, by decide +kernel, by decide +kernel⟩
theorem ks_LL_161 : gw_sV "LabelLearner" 161 ny_We_sum nc_We_sum 8 (some .long) 2 7 := ⟨kk_We_sum, Or.inr ⟨"LabelLearner", gw_in_n 524 (by decide +kernel) rfl⟩, gw_in_t 526 (by decide +kernel) rfl, gw_in_p 33 (by decide +kernel) rfl, _, rfl, rfl⟩
theorem kk_LL_differences : gw_cal ny_LL_differences nc_LL_differences 5 (some .int) 3 := ⟨gw_in_t 242 (by decide +kernel) rfl, gw_in_t 1 (by decide +kernel) rfl, by decide +kernel, by decide +kernel, by decide +kernel⟩
theorem ks_LL_169 : gw_sS "LabelLearner" 169 ny_LL_differences nc_LL_differences 5 (some .int) 3 := ⟨kk_LL_differences, Or.inl (gw_in_t 240 (by decide +kernel) rfl), gw_in_t 241 (by decide +kernel) rfl⟩
theorem kk_LL_learnSentence : gw_cal ny_LL_learnSentence nc_LL_learnSentence 4 (some .boolean) 1 := ⟨gw_in_t 479 (by decide +kernel) rfl, gw_in_t 1 (by decide +kernel) rfl, by decide +kernel, by decide +kernel, by decide +kernel⟩
theorem ks_LL_175 : gw_sV "LabelLearner" 175 ny_LL_learnSentence nc_LL_learnSentence 4 (some .boolean) 1 0 := ⟨kk_LL_learnSentence, Or.inl (gw_in_t 476 (by decide +kernel) rfl), gw_in_t 478 (by decide +kernel) rfl, gw_in_p 29 (by decide +kernel) rfl, _, rfl, rfl⟩
theorem kk_We_change : gw_cal ny_We_change nc_We_change 9 none 3 := ⟨gw_in_t 483 (by decide +kernel) rfl, gw_in_t 5 (by decide +kernel) rfl, by decide +kernel, by decide +kernel, by decide +kernel⟩
theorem ks_LL_178 : gw_sV "LabelLearner" 178 ny_We_change nc_We_change 9 none 3 7 := ⟨kk_We_change, Or.inr ⟨"LabelLearner", gw_in_n 480 (by decide +kernel) rfl⟩, gw_in_t 482 (by decide +kernel) rfl, gw_in_p 30 (by decide +kernel) rfl, _, rfl, rfl⟩
theorem kk_We_addAll : gw_cal ny_We_addAll nc_We_addAll 3 none 1 := ⟨gw_in_t 493 (by decide +kernel) rfl, gw_in_t 5 (by decide +kernel) rfl, by decide +kernel, by decide +kernel, by decide +kernel⟩
theorem ks_LL_184 : gw_sV "LabelLearner" 184 ny_We_addAll nc_We_addAll 3 none 1 7 := ⟨kk_We_addAll, Or.inr ⟨"LabelLearner", gw_in_n 490 (by decide +kernel) rfl⟩, gw_in_t 492 (by decide +kernel) rfl, gw_in_p 32 (by decide +kernel) rfl, _, rfl, rfl⟩
theorem ko_Mo_1 : Cond.methodLink "LabelLearnerModel" 1 objectInit ∈ gw_ws := gw_in_t 534 (by decide +kernel) rfl
theorem kk_Mo_letter : gw_cal ny_Mo_letter nc_Mo_letter 3 (some .int) 2 := ⟨gw_in_t 618 (by decide +kernel) rfl, gw_in_t 8 (by decide +kernel) rfl, by decide +kernel, by decide +kernel, by decide +kernel⟩
theorem ks_Mo_59 : gw_sS "LabelLearnerModel" 59 ny_Mo_letter nc_Mo_letter 3 (some .int) 2 := ⟨kk_Mo_letter, Or.inl (gw_in_t 616 (by decide +kernel) rfl), gw_in_t 617 (by decide +kernel) rfl⟩
theorem kk_Mo_is : gw_cal ny_Mo_is nc_Mo_is 3 (some .boolean) 2 := ⟨gw_in_t 639 (by decide +kernel) rfl, gw_in_t 8 (by decide +kernel) rfl, by decide +kernel, by decide +kernel, by decide +kernel⟩
theorem ks_Mo_63 : gw_sV "LabelLearnerModel" 63 ny_Mo_is nc_Mo_is 3 (some .boolean) 2 1 := ⟨kk_Mo_is, Or.inl (gw_in_t 636 (by decide +kernel) rfl), gw_in_t 638 (by decide +kernel) rfl, gw_in_p 36 (by decide +kernel) rfl, _, rfl, rfl⟩
theorem kk_Mo_bucketOf : gw_cal ny_Mo_bucketOf nc_Mo_bucketOf 1 (some .int) 1 := ⟨gw_in_t 650 (by decide +kernel) rfl, gw_in_t 8 (by decide +kernel) rfl, by decide +kernel, by decide +kernel, by decide +kernel⟩
theorem ks_Mo_67 : gw_sS "LabelLearnerModel" 67 ny_Mo_bucketOf nc_Mo_bucketOf 1 (some .int) 1 := ⟨kk_Mo_bucketOf, Or.inl (gw_in_t 648 (by decide +kernel) rfl), gw_in_t 649 (by decide +kernel) rfl⟩
theorem kk_Mo_skip : gw_cal ny_Mo_skip nc_Mo_skip 3 (some .int) 1 := ⟨gw_in_t 635 (by decide +kernel) rfl, gw_in_t 8 (by decide +kernel) rfl, by decide +kernel, by decide +kernel, by decide +kernel⟩
theorem ks_Mo_71 : gw_sV "LabelLearnerModel" 71 ny_Mo_skip nc_Mo_skip 3 (some .int) 1 1 := ⟨kk_Mo_skip, Or.inl (gw_in_t 632 (by decide +kernel) rfl), gw_in_t 634 (by decide +kernel) rfl, gw_in_p 35 (by decide +kernel) rfl, _, rfl, rfl⟩
theorem kk_Mo_isLetter : gw_cal ny_Mo_isLetter nc_Mo_isLetter 2 (some .boolean) 1 := ⟨gw_in_t 643 (by decide +kernel) rfl, gw_in_t 8 (by decide +kernel) rfl, by decide +kernel, by decide +kernel, by decide +kernel⟩
theorem ks_Mo_74 : gw_sV "LabelLearnerModel" 74 ny_Mo_isLetter nc_Mo_isLetter 2 (some .boolean) 1 1 := ⟨kk_Mo_isLetter, Or.inl (gw_in_t 640 (by decide +kernel) rfl), gw_in_t 642 (by decide +kernel) rfl, gw_in_p 37 (by decide +kernel) rfl, _, rfl, rfl⟩
theorem kk_Mo_hash : gw_cal ny_Mo_hash nc_Mo_hash 6 (some .int) 3 := ⟨gw_in_t 647 (by decide +kernel) rfl, gw_in_t 8 (by decide +kernel) rfl, by decide +kernel, by decide +kernel, by decide +kernel⟩
theorem ks_Mo_78 : gw_sV "LabelLearnerModel" 78 ny_Mo_hash nc_Mo_hash 6 (some .int) 3 1 := ⟨kk_Mo_hash, Or.inl (gw_in_t 644 (by decide +kernel) rfl), gw_in_t 646 (by decide +kernel) rfl, gw_in_p 38 (by decide +kernel) rfl, _, rfl, rfl⟩
theorem kk_Mo_readSentence : gw_cal ny_Mo_readSentence nc_Mo_readSentence 11 (some .int) 3 := ⟨gw_in_t 631 (by decide +kernel) rfl, gw_in_t 8 (by decide +kernel) rfl, by decide +kernel, by decide +kernel, by decide +kernel⟩
theorem ks_Mo_85 : gw_sV "LabelLearnerModel" 85 ny_Mo_readSentence nc_Mo_readSentence 11 (some .int) 3 1 := ⟨kk_Mo_readSentence, Or.inl (gw_in_t 628 (by decide +kernel) rfl), gw_in_t 630 (by decide +kernel) rfl, gw_in_p 34 (by decide +kernel) rfl, _, rfl, rfl⟩
theorem kk_Mo_take : gw_cal ny_Mo_take nc_Mo_take 3 none 1 := ⟨gw_in_t 654 (by decide +kernel) rfl, gw_in_t 8 (by decide +kernel) rfl, by decide +kernel, by decide +kernel, by decide +kernel⟩
theorem ks_Mo_92 : gw_sV "LabelLearnerModel" 92 ny_Mo_take nc_Mo_take 3 none 1 1 := ⟨kk_Mo_take, Or.inl (gw_in_t 651 (by decide +kernel) rfl), gw_in_t 653 (by decide +kernel) rfl, gw_in_p 39 (by decide +kernel) rfl, _, rfl, rfl⟩
theorem kk_Mo_place : gw_cal ny_Mo_place nc_Mo_place 2 (some .int) 1 := ⟨gw_in_t 670 (by decide +kernel) rfl, gw_in_t 8 (by decide +kernel) rfl, by decide +kernel, by decide +kernel, by decide +kernel⟩
theorem ks_Mo_102 : gw_sV "LabelLearnerModel" 102 ny_Mo_place nc_Mo_place 2 (some .int) 1 1 := ⟨kk_Mo_place, Or.inl (gw_in_t 667 (by decide +kernel) rfl), gw_in_t 669 (by decide +kernel) rfl, gw_in_p 40 (by decide +kernel) rfl, _, rfl, rfl⟩
theorem kk_Mo_wordsOf : gw_cal ny_Mo_wordsOf nc_Mo_wordsOf 2 (some .int) 1 := ⟨gw_in_t 674 (by decide +kernel) rfl, gw_in_t 8 (by decide +kernel) rfl, by decide +kernel, by decide +kernel, by decide +kernel⟩
theorem ks_Mo_105 : gw_sV "LabelLearnerModel" 105 ny_Mo_wordsOf nc_Mo_wordsOf 2 (some .int) 1 1 := ⟨kk_Mo_wordsOf, Or.inl (gw_in_t 671 (by decide +kernel) rfl), gw_in_t 673 (by decide +kernel) rfl, gw_in_p 41 (by decide +kernel) rfl, _, rfl, rfl⟩
theorem kk_Mo_of : gw_cal ny_Mo_of nc_Mo_of 3 (some .long) 3 := ⟨gw_in_t 701 (by decide +kernel) rfl, gw_in_t 8 (by decide +kernel) rfl, by decide +kernel, by decide +kernel, by decide +kernel⟩
theorem ks_Mo_108 : gw_sS "LabelLearnerModel" 108 ny_Mo_of nc_Mo_of 3 (some .long) 3 := ⟨kk_Mo_of, Or.inl (gw_in_t 699 (by decide +kernel) rfl), gw_in_t 700 (by decide +kernel) rfl⟩
theorem kk_Mo_prepare : gw_cal ny_Mo_prepare nc_Mo_prepare 8 none 2 := ⟨gw_in_t 698 (by decide +kernel) rfl, gw_in_t 8 (by decide +kernel) rfl, by decide +kernel, by decide +kernel, by decide +kernel⟩
theorem ks_Mo_112 : gw_sV "LabelLearnerModel" 112 ny_Mo_prepare nc_Mo_prepare 8 none 2 1 := ⟨kk_Mo_prepare, Or.inl (gw_in_t 695 (by decide +kernel) rfl), gw_in_t 697 (by decide +kernel) rfl, gw_in_p 44 (by decide +kernel) rfl, _, rfl, rfl⟩
theorem kk_Mo_sumFrom : gw_cal ny_Mo_sumFrom nc_Mo_sumFrom 5 none 3 := ⟨gw_in_t 705 (by decide +kernel) rfl, gw_in_t 8 (by decide +kernel) rfl, by decide +kernel, by decide +kernel, by decide +kernel⟩
theorem ks_Mo_116 : gw_sV "LabelLearnerModel" 116 ny_Mo_sumFrom nc_Mo_sumFrom 5 none 3 1 := ⟨kk_Mo_sumFrom, Or.inl (gw_in_t 702 (by decide +kernel) rfl), gw_in_t 704 (by decide +kernel) rfl, gw_in_p 45 (by decide +kernel) rfl, _, rfl, rfl⟩
theorem kk_Mo_packed : gw_cal ny_Mo_packed nc_Mo_packed 4 (some .int) 1 := ⟨gw_in_t 709 (by decide +kernel) rfl, gw_in_t 8 (by decide +kernel) rfl, by decide +kernel, by decide +kernel, by decide +kernel⟩
theorem ks_Mo_133 : gw_sV "LabelLearnerModel" 133 ny_Mo_packed nc_Mo_packed 4 (some .int) 1 1 := ⟨kk_Mo_packed, Or.inl (gw_in_t 706 (by decide +kernel) rfl), gw_in_t 708 (by decide +kernel) rfl, gw_in_p 46 (by decide +kernel) rfl, _, rfl, rfl⟩
theorem kk_Mo_search : gw_cal ny_Mo_search nc_Mo_search 9 none 2 := ⟨gw_in_t 694 (by decide +kernel) rfl, gw_in_t 8 (by decide +kernel) rfl, by decide +kernel, by decide +kernel, by decide +kernel⟩
theorem ks_Mo_136 : gw_sV "LabelLearnerModel" 136 ny_Mo_search nc_Mo_search 9 none 2 1 := ⟨kk_Mo_search, Or.inl (gw_in_t 691 (by decide +kernel) rfl), gw_in_t 693 (by decide +kernel) rfl, gw_in_p 43 (by decide +kernel) rfl, _, rfl, rfl⟩
theorem kk_Mo_givenRow : gw_cal ny_Mo_givenRow nc_Mo_givenRow 4 (some .int) 1 := ⟨gw_in_t 713 (by decide +kernel) rfl, gw_in_t 8 (by decide +kernel) rfl, by decide +kernel, by decide +kernel, by decide +kernel⟩
theorem ks_Mo_139 : gw_sV "LabelLearnerModel" 139 ny_Mo_givenRow nc_Mo_givenRow 4 (some .int) 1 1 := ⟨kk_Mo_givenRow, Or.inl (gw_in_t 710 (by decide +kernel) rfl), gw_in_t 712 (by decide +kernel) rfl, gw_in_p 47 (by decide +kernel) rfl, _, rfl, rfl⟩
theorem kk_Mo_mend : gw_cal ny_Mo_mend nc_Mo_mend 8 none 3 := ⟨gw_in_t 717 (by decide +kernel) rfl, gw_in_t 8 (by decide +kernel) rfl, by decide +kernel, by decide +kernel, by decide +kernel⟩
theorem ks_Mo_142 : gw_sV "LabelLearnerModel" 142 ny_Mo_mend nc_Mo_mend 8 none 3 1 := ⟨kk_Mo_mend, Or.inl (gw_in_t 714 (by decide +kernel) rfl), gw_in_t 716 (by decide +kernel) rfl, gw_in_p 48 (by decide +kernel) rfl, _, rfl, rfl⟩
theorem kk_Mo_onePass : gw_cal ny_Mo_onePass nc_Mo_onePass 5 (some .int) 0 := ⟨gw_in_t 690 (by decide +kernel) rfl, gw_in_t 8 (by decide +kernel) rfl, by decide +kernel, by decide +kernel, by decide +kernel⟩
theorem ks_Mo_146 : gw_sV "LabelLearnerModel" 146 ny_Mo_onePass nc_Mo_onePass 5 (some .int) 0 1 := ⟨kk_Mo_onePass, Or.inl (gw_in_t 687 (by decide +kernel) rfl), gw_in_t 689 (by decide +kernel) rfl, gw_in_p 42 (by decide +kernel) rfl, _, rfl, rfl⟩
theorem kk_Mo_searchBy : gw_cal ny_Mo_searchBy nc_Mo_searchBy 3 none 2 := ⟨gw_in_t 737 (by decide +kernel) rfl, gw_in_t 8 (by decide +kernel) rfl, by decide +kernel, by decide +kernel, by decide +kernel⟩
theorem ks_Mo_150 : gw_sV "LabelLearnerModel" 150 ny_Mo_searchBy nc_Mo_searchBy 3 none 2 1 := ⟨kk_Mo_searchBy, Or.inl (gw_in_t 734 (by decide +kernel) rfl), gw_in_t 736 (by decide +kernel) rfl, gw_in_p 49 (by decide +kernel) rfl, _, rfl, rfl⟩
theorem ko_Co_3 : Cond.methodLink "LabelLearner$Corpus" 3 objectInit ∈ gw_ws := gw_in_t 90 (by decide +kernel) rfl
theorem ks_Co_17 : gw_sI "LabelLearner$Corpus" 17 ny_Se_init nc_Se_init 1 0 := ⟨kk_Se_init, Or.inr ⟨"LabelLearner", gw_in_n 94 (by decide +kernel) rfl⟩, gw_in_t 95 (by decide +kernel) rfl, rfl⟩
theorem ko_De_3 : Cond.methodLink "LabelLearner$Decoder" 3 objectInit ∈ gw_ws := gw_in_t 46 (by decide +kernel) rfl
theorem kk_Ra_init : gw_cal ny_Ra_init nc_Ra_init 1 none 0 := ⟨gw_in_t 52 (by decide +kernel) rfl, gw_in_t 4 (by decide +kernel) rfl, by decide +kernel, by decide +kernel, by decide +kernel⟩
theorem ks_De_17 : gw_sI "LabelLearner$Decoder" 17 ny_Ra_init nc_Ra_init 1 0 := ⟨kk_Ra_init, Or.inr ⟨"LabelLearner", gw_in_n 50 (by decide +kernel) rfl⟩, gw_in_t 51 (by decide +kernel) rfl, rfl⟩
theorem kk_De_rankTails : gw_cal ny_De_rankTails nc_De_rankTails 10 none 4 := ⟨gw_in_t 209 (by decide +kernel) rfl, gw_in_t 3 (by decide +kernel) rfl, by decide +kernel, by decide +kernel, by decide +kernel⟩
theorem ks_De_28 : gw_sV "LabelLearner$Decoder" 28 ny_De_rankTails nc_De_rankTails 10 none 4 3 := ⟨kk_De_rankTails, Or.inl (gw_in_t 206 (by decide +kernel) rfl), gw_in_t 208 (by decide +kernel) rfl, gw_in_p 4 (by decide +kernel) rfl, _, rfl, rfl⟩
theorem kk_Ra_clear : gw_cal ny_Ra_clear nc_Ra_clear 1 none 0 := ⟨gw_in_t 229 (by decide +kernel) rfl, gw_in_t 4 (by decide +kernel) rfl, by decide +kernel, by decide +kernel, by decide +kernel⟩
theorem ks_De_32 : gw_sV "LabelLearner$Decoder" 32 ny_Ra_clear nc_Ra_clear 1 none 0 4 := ⟨kk_Ra_clear, Or.inr ⟨"LabelLearner", gw_in_n 226 (by decide +kernel) rfl⟩, gw_in_t 228 (by decide +kernel) rfl, gw_in_p 9 (by decide +kernel) rfl, _, rfl, rfl⟩
theorem kk_De_tailsFrom : gw_cal ny_De_tailsFrom nc_De_tailsFrom 3 (some (.object "LabelLearner$Ranking")) 2 := ⟨gw_in_t 213 (by decide +kernel) rfl, gw_in_t 3 (by decide +kernel) rfl, by decide +kernel, by decide +kernel, by decide +kernel⟩
theorem ks_De_35 : gw_sV "LabelLearner$Decoder" 35 ny_De_tailsFrom nc_De_tailsFrom 3 (some (.object "LabelLearner$Ranking")) 2 3 := ⟨kk_De_tailsFrom, Or.inl (gw_in_t 210 (by decide +kernel) rfl), gw_in_t 212 (by decide +kernel) rfl, gw_in_p 5 (by decide +kernel) rfl, _, rfl, rfl⟩
theorem ks_De_39 : gw_sV "LabelLearner$Decoder" 39 ny_We_at nc_We_at 3 (some .long) 2 7 := ⟨kk_We_at, Or.inr ⟨"LabelLearner", gw_in_n 234 (by decide +kernel) rfl⟩, gw_in_t 224 (by decide +kernel) rfl, gw_in_p 8 (by decide +kernel) rfl, _, rfl, rfl⟩
theorem kk_Ra_offerLonger : gw_cal ny_Ra_offerLonger nc_Ra_offerLonger 6 none 3 := ⟨gw_in_t 238 (by decide +kernel) rfl, gw_in_t 4 (by decide +kernel) rfl, by decide +kernel, by decide +kernel, by decide +kernel⟩
theorem ks_De_45 : gw_sV "LabelLearner$Decoder" 45 ny_Ra_offerLonger nc_Ra_offerLonger 6 none 3 4 := ⟨kk_Ra_offerLonger, Or.inr ⟨"LabelLearner", gw_in_n 235 (by decide +kernel) rfl⟩, gw_in_t 237 (by decide +kernel) rfl, gw_in_p 11 (by decide +kernel) rfl, _, rfl, rfl⟩
theorem kk_We_ofWord : gw_cal ny_We_ofWord nc_We_ofWord 7 (some .long) 3 := ⟨gw_in_t 217 (by decide +kernel) rfl, gw_in_t 5 (by decide +kernel) rfl, by decide +kernel, by decide +kernel, by decide +kernel⟩
theorem ks_De_49 : gw_sV "LabelLearner$Decoder" 49 ny_We_ofWord nc_We_ofWord 7 (some .long) 3 7 := ⟨kk_We_ofWord, Or.inr ⟨"LabelLearner", gw_in_n 214 (by decide +kernel) rfl⟩, gw_in_t 216 (by decide +kernel) rfl, gw_in_p 6 (by decide +kernel) rfl, _, rfl, rfl⟩
theorem kk_Ra_offer : gw_cal ny_Ra_offer nc_Ra_offer 4 none 2 := ⟨gw_in_t 233 (by decide +kernel) rfl, gw_in_t 4 (by decide +kernel) rfl, by decide +kernel, by decide +kernel, by decide +kernel⟩
theorem ks_De_53 : gw_sV "LabelLearner$Decoder" 53 ny_Ra_offer nc_Ra_offer 4 none 2 4 := ⟨kk_Ra_offer, Or.inr ⟨"LabelLearner", gw_in_n 230 (by decide +kernel) rfl⟩, gw_in_t 232 (by decide +kernel) rfl, gw_in_p 10 (by decide +kernel) rfl, _, rfl, rfl⟩
theorem ko_Ra_3 : Cond.methodLink "LabelLearner$Ranking" 3 objectInit ∈ gw_ws := gw_in_t 53 (by decide +kernel) rfl
theorem ks_Ra_23 : gw_sV "LabelLearner$Ranking" 23 ny_Ra_offer nc_Ra_offer 4 none 2 4 := ⟨kk_Ra_offer, Or.inl (gw_in_t 239 (by decide +kernel) rfl), gw_in_t 232 (by decide +kernel) rfl, gw_in_p 10 (by decide +kernel) rfl, _, rfl, rfl⟩
theorem ko_Se_3 : Cond.methodLink "LabelLearner$Sentence" 3 objectInit ∈ gw_ws := gw_in_t 97 (by decide +kernel) rfl
theorem ko_Te_3 : Cond.methodLink "LabelLearner$Text" 3 objectInit ∈ gw_ws := gw_in_t 29 (by decide +kernel) rfl
theorem kk_Te_byteOf : gw_cal ny_Te_byteOf nc_Te_byteOf 3 (some .int) 2 := ⟨gw_in_t 173 (by decide +kernel) rfl, gw_in_t 2 (by decide +kernel) rfl, by decide +kernel, by decide +kernel, by decide +kernel⟩
theorem ks_Te_19 : gw_sS "LabelLearner$Text" 19 ny_Te_byteOf nc_Te_byteOf 3 (some .int) 2 := ⟨kk_Te_byteOf, Or.inl (gw_in_t 171 (by decide +kernel) rfl), gw_in_t 172 (by decide +kernel) rfl⟩
theorem kk_Te_readSentence : gw_cal ny_Te_readSentence nc_Te_readSentence 8 (some .boolean) 2 := ⟨gw_in_t 261 (by decide +kernel) rfl, gw_in_t 2 (by decide +kernel) rfl, by decide +kernel, by decide +kernel, by decide +kernel⟩
theorem ks_Te_35 : gw_sV "LabelLearner$Text" 35 ny_Te_readSentence nc_Te_readSentence 8 (some .boolean) 2 6 := ⟨kk_Te_readSentence, Or.inl (gw_in_t 258 (by decide +kernel) rfl), gw_in_t 260 (by decide +kernel) rfl, gw_in_p 13 (by decide +kernel) rfl, _, rfl, rfl⟩
theorem kk_Te_take : gw_cal ny_Te_take nc_Te_take 2 (some .boolean) 1 := ⟨gw_in_t 309 (by decide +kernel) rfl, gw_in_t 2 (by decide +kernel) rfl, by decide +kernel, by decide +kernel, by decide +kernel⟩
theorem ks_Te_39 : gw_sV "LabelLearner$Text" 39 ny_Te_take nc_Te_take 2 (some .boolean) 1 6 := ⟨kk_Te_take, Or.inl (gw_in_t 306 (by decide +kernel) rfl), gw_in_t 308 (by decide +kernel) rfl, gw_in_p 22 (by decide +kernel) rfl, _, rfl, rfl⟩
theorem kk_Se_clear : gw_cal ny_Se_clear nc_Se_clear 1 none 0 := ⟨gw_in_t 265 (by decide +kernel) rfl, gw_in_t 7 (by decide +kernel) rfl, by decide +kernel, by decide +kernel, by decide +kernel⟩
theorem ks_Te_43 : gw_sV "LabelLearner$Text" 43 ny_Se_clear nc_Se_clear 1 none 0 5 := ⟨kk_Se_clear, Or.inr ⟨"LabelLearner", gw_in_n 262 (by decide +kernel) rfl⟩, gw_in_t 264 (by decide +kernel) rfl, gw_in_p 14 (by decide +kernel) rfl, _, rfl, rfl⟩
theorem kk_Te_skipSpaces : gw_cal ny_Te_skipSpaces nc_Te_skipSpaces 2 (some .boolean) 0 := ⟨gw_in_t 269 (by decide +kernel) rfl, gw_in_t 2 (by decide +kernel) rfl, by decide +kernel, by decide +kernel, by decide +kernel⟩
theorem ks_Te_48 : gw_sV "LabelLearner$Text" 48 ny_Te_skipSpaces nc_Te_skipSpaces 2 (some .boolean) 0 6 := ⟨kk_Te_skipSpaces, Or.inl (gw_in_t 266 (by decide +kernel) rfl), gw_in_t 268 (by decide +kernel) rfl, gw_in_p 15 (by decide +kernel) rfl, _, rfl, rfl⟩
theorem kk_Te_current : gw_cal ny_Te_current nc_Te_current 1 (some .int) 0 := ⟨gw_in_t 273 (by decide +kernel) rfl, gw_in_t 2 (by decide +kernel) rfl, by decide +kernel, by decide +kernel, by decide +kernel⟩
theorem ks_Te_52 : gw_sV "LabelLearner$Text" 52 ny_Te_current nc_Te_current 1 (some .int) 0 6 := ⟨kk_Te_current, Or.inl (gw_in_t 270 (by decide +kernel) rfl), gw_in_t 272 (by decide +kernel) rfl, gw_in_p 16 (by decide +kernel) rfl, _, rfl, rfl⟩
theorem kk_Te_isLetter : gw_cal ny_Te_isLetter nc_Te_isLetter 1 (some .boolean) 1 := ⟨gw_in_t 276 (by decide +kernel) rfl, gw_in_t 2 (by decide +kernel) rfl, by decide +kernel, by decide +kernel, by decide +kernel⟩
theorem ks_Te_56 : gw_sS "LabelLearner$Text" 56 ny_Te_isLetter nc_Te_isLetter 1 (some .boolean) 1 := ⟨kk_Te_isLetter, Or.inl (gw_in_t 274 (by decide +kernel) rfl), gw_in_t 275 (by decide +kernel) rfl⟩
theorem kk_Te_skipLetters : gw_cal ny_Te_skipLetters nc_Te_skipLetters 2 none 0 := ⟨gw_in_t 280 (by decide +kernel) rfl, gw_in_t 2 (by decide +kernel) rfl, by decide +kernel, by decide +kernel, by decide +kernel⟩
theorem ks_Te_60 : gw_sV "LabelLearner$Text" 60 ny_Te_skipLetters nc_Te_skipLetters 2 none 0 6 := ⟨kk_Te_skipLetters, Or.inl (gw_in_t 277 (by decide +kernel) rfl), gw_in_t 279 (by decide +kernel) rfl, gw_in_p 17 (by decide +kernel) rfl, _, rfl, rfl⟩
theorem kk_Te_setFeatures : gw_cal ny_Te_setFeatures nc_Te_setFeatures 6 none 4 := ⟨gw_in_t 284 (by decide +kernel) rfl, gw_in_t 2 (by decide +kernel) rfl, by decide +kernel, by decide +kernel, by decide +kernel⟩
theorem ks_Te_63 : gw_sV "LabelLearner$Text" 63 ny_Te_setFeatures nc_Te_setFeatures 6 none 4 6 := ⟨kk_Te_setFeatures, Or.inl (gw_in_t 281 (by decide +kernel) rfl), gw_in_t 283 (by decide +kernel) rfl, gw_in_p 18 (by decide +kernel) rfl, _, rfl, rfl⟩
theorem kk_Te_readLabel : gw_cal ny_Te_readLabel nc_Te_readLabel 3 (some .boolean) 1 := ⟨gw_in_t 305 (by decide +kernel) rfl, gw_in_t 2 (by decide +kernel) rfl, by decide +kernel, by decide +kernel, by decide +kernel⟩
theorem ks_Te_67 : gw_sV "LabelLearner$Text" 67 ny_Te_readLabel nc_Te_readLabel 3 (some .boolean) 1 6 := ⟨kk_Te_readLabel, Or.inl (gw_in_t 302 (by decide +kernel) rfl), gw_in_t 304 (by decide +kernel) rfl, gw_in_p 21 (by decide +kernel) rfl, _, rfl, rfl⟩
theorem kk_Te_hash : gw_cal ny_Te_hash nc_Te_hash 6 (some .int) 3 := ⟨gw_in_t 291 (by decide +kernel) rfl, gw_in_t 2 (by decide +kernel) rfl, by decide +kernel, by decide +kernel, by decide +kernel⟩
theorem ks_Te_78 : gw_sV "LabelLearner$Text" 78 ny_Te_hash nc_Te_hash 6 (some .int) 3 6 := ⟨kk_Te_hash, Or.inl (gw_in_t 288 (by decide +kernel) rfl), gw_in_t 290 (by decide +kernel) rfl, gw_in_p 19 (by decide +kernel) rfl, _, rfl, rfl⟩
theorem kk_Te_bucket : gw_cal ny_Te_bucket nc_Te_bucket 1 (some .int) 1 := ⟨gw_in_t 297 (by decide +kernel) rfl, gw_in_t 2 (by decide +kernel) rfl, by decide +kernel, by decide +kernel, by decide +kernel⟩
theorem ks_Te_82 : gw_sS "LabelLearner$Text" 82 ny_Te_bucket nc_Te_bucket 1 (some .int) 1 := ⟨kk_Te_bucket, Or.inl (gw_in_t 295 (by decide +kernel) rfl), gw_in_t 296 (by decide +kernel) rfl⟩
theorem kk_Se_setBucket : gw_cal ny_Se_setBucket nc_Se_setBucket 4 none 3 := ⟨gw_in_t 301 (by decide +kernel) rfl, gw_in_t 7 (by decide +kernel) rfl, by decide +kernel, by decide +kernel, by decide +kernel⟩
theorem ks_Te_86 : gw_sV "LabelLearner$Text" 86 ny_Se_setBucket nc_Se_setBucket 4 none 3 5 := ⟨kk_Se_setBucket, Or.inr ⟨"LabelLearner", gw_in_n 298 (by decide +kernel) rfl⟩, gw_in_t 300 (by decide +kernel) rfl, gw_in_p 20 (by decide +kernel) rfl, _, rfl, rfl⟩
theorem kk_Te_mix : gw_cal ny_Te_mix nc_Te_mix 2 (some .int) 2 := ⟨gw_in_t 294 (by decide +kernel) rfl, gw_in_t 2 (by decide +kernel) rfl, by decide +kernel, by decide +kernel, by decide +kernel⟩
theorem ks_Te_90 : gw_sS "LabelLearner$Text" 90 ny_Te_mix nc_Te_mix 2 (some .int) 2 := ⟨kk_Te_mix, Or.inl (gw_in_t 292 (by decide +kernel) rfl), gw_in_t 293 (by decide +kernel) rfl⟩
theorem ko_We_3 : Cond.methodLink "LabelLearner$Weights" 3 objectInit ∈ gw_ws := gw_in_t 80 (by decide +kernel) rfl
theorem ks_We_15 : gw_sV "LabelLearner$Weights" 15 ny_Se_bucketOf nc_Se_bucketOf 3 (some .int) 2 5 := ⟨kk_Se_bucketOf, Or.inr ⟨"LabelLearner", gw_in_n 218 (by decide +kernel) rfl⟩, gw_in_t 220 (by decide +kernel) rfl, gw_in_p 7 (by decide +kernel) rfl, _, rfl, rfl⟩
theorem ks_We_21 : gw_sV "LabelLearner$Weights" 21 ny_We_at nc_We_at 3 (some .long) 2 7 := ⟨kk_We_at, Or.inl (gw_in_t 222 (by decide +kernel) rfl), gw_in_t 224 (by decide +kernel) rfl, gw_in_p 8 (by decide +kernel) rfl, _, rfl, rfl⟩
theorem ks_We_29 : gw_sS "LabelLearner$Weights" 29 ny_LL_labelIn nc_LL_labelIn 2 (some .int) 2 := ⟨kk_LL_labelIn, Or.inr ⟨"LabelLearner", gw_in_n 484 (by decide +kernel) rfl⟩, gw_in_t 244 (by decide +kernel) rfl⟩
theorem ks_We_32 : gw_sV "LabelLearner$Weights" 32 ny_We_ofWord nc_We_ofWord 7 (some .long) 3 7 := ⟨kk_We_ofWord, Or.inl (gw_in_t 528 (by decide +kernel) rfl), gw_in_t 216 (by decide +kernel) rfl, gw_in_p 6 (by decide +kernel) rfl, _, rfl, rfl⟩
theorem kk_We_add : gw_cal ny_We_add nc_We_add 5 none 3 := ⟨gw_in_t 488 (by decide +kernel) rfl, gw_in_t 5 (by decide +kernel) rfl, by decide +kernel, by decide +kernel, by decide +kernel⟩
theorem ks_We_36 : gw_sV "LabelLearner$Weights" 36 ny_We_add nc_We_add 5 none 3 7 := ⟨kk_We_add, Or.inl (gw_in_t 485 (by decide +kernel) rfl), gw_in_t 487 (by decide +kernel) rfl, gw_in_p 31 (by decide +kernel) rfl, _, rfl, rfl⟩
theorem kk_LL_load : gw_cal ny_LL_load nc_LL_load 2 (some .int) 0 := ⟨gw_in_t 253 (by decide +kernel) rfl, gw_in_t 1 (by decide +kernel) rfl, by decide +kernel, by decide +kernel, by decide +kernel⟩
theorem ks_La_7 : gw_sV "LabelLearnerLaw" 7 ny_LL_load nc_LL_load 2 (some .int) 0 0 := ⟨kk_LL_load, Or.inl (gw_in_t 250 (by decide +kernel) rfl), gw_in_t 251 (by decide +kernel) rfl, gw_in_t 252 (by decide +kernel) rfl, _, rfl, rfl⟩
theorem kk_LL_speak : gw_cal ny_LL_speak nc_LL_speak 2 (some .int) 0 := ⟨gw_in_t 392 (by decide +kernel) rfl, gw_in_t 1 (by decide +kernel) rfl, by decide +kernel, by decide +kernel, by decide +kernel⟩
theorem ks_La_15 : gw_sV "LabelLearnerLaw" 15 ny_LL_speak nc_LL_speak 2 (some .int) 0 0 := ⟨kk_LL_speak, Or.inl (gw_in_t 389 (by decide +kernel) rfl), gw_in_t 390 (by decide +kernel) rfl, gw_in_t 391 (by decide +kernel) rfl, _, rfl, rfl⟩
theorem kk_LL_words : gw_cal ny_LL_words nc_LL_words 2 (some .int) 1 := ⟨gw_in_t 405 (by decide +kernel) rfl, gw_in_t 1 (by decide +kernel) rfl, by decide +kernel, by decide +kernel, by decide +kernel⟩
theorem ks_La_18 : gw_sV "LabelLearnerLaw" 18 ny_LL_words nc_LL_words 2 (some .int) 1 0 := ⟨kk_LL_words, Or.inl (gw_in_t 402 (by decide +kernel) rfl), gw_in_t 403 (by decide +kernel) rfl, gw_in_t 404 (by decide +kernel) rfl, _, rfl, rfl⟩
theorem kk_LL_given : gw_cal ny_LL_given nc_LL_given 4 (some .int) 2 := ⟨gw_in_t 432 (by decide +kernel) rfl, gw_in_t 1 (by decide +kernel) rfl, by decide +kernel, by decide +kernel, by decide +kernel⟩
theorem ks_La_24 : gw_sV "LabelLearnerLaw" 24 ny_LL_given nc_LL_given 4 (some .int) 2 0 := ⟨kk_LL_given, Or.inl (gw_in_t 429 (by decide +kernel) rfl), gw_in_t 430 (by decide +kernel) rfl, gw_in_t 431 (by decide +kernel) rfl, _, rfl, rfl⟩
theorem kk_LL_feature : gw_cal ny_LL_feature nc_LL_feature 5 (some .int) 3 := ⟨gw_in_t 444 (by decide +kernel) rfl, gw_in_t 1 (by decide +kernel) rfl, by decide +kernel, by decide +kernel, by decide +kernel⟩
theorem ks_La_28 : gw_sV "LabelLearnerLaw" 28 ny_LL_feature nc_LL_feature 5 (some .int) 3 0 := ⟨kk_LL_feature, Or.inl (gw_in_t 441 (by decide +kernel) rfl), gw_in_t 442 (by decide +kernel) rfl, gw_in_t 443 (by decide +kernel) rfl, _, rfl, rfl⟩
theorem kk_LL_learn : gw_cal ny_LL_learn nc_LL_learn 4 (some .int) 1 := ⟨gw_in_t 454 (by decide +kernel) rfl, gw_in_t 1 (by decide +kernel) rfl, by decide +kernel, by decide +kernel, by decide +kernel⟩
theorem ks_La_32 : gw_sV "LabelLearnerLaw" 32 ny_LL_learn nc_LL_learn 4 (some .int) 1 0 := ⟨kk_LL_learn, Or.inl (gw_in_t 451 (by decide +kernel) rfl), gw_in_t 452 (by decide +kernel) rfl, gw_in_t 453 (by decide +kernel) rfl, _, rfl, rfl⟩
theorem kk_LL_weight : gw_cal ny_LL_weight nc_LL_weight 4 (some .long) 3 := ⟨gw_in_t 500 (by decide +kernel) rfl, gw_in_t 1 (by decide +kernel) rfl, by decide +kernel, by decide +kernel, by decide +kernel⟩
theorem ks_La_37 : gw_sV "LabelLearnerLaw" 37 ny_LL_weight nc_LL_weight 4 (some .long) 3 0 := ⟨kk_LL_weight, Or.inl (gw_in_t 497 (by decide +kernel) rfl), gw_in_t 498 (by decide +kernel) rfl, gw_in_t 499 (by decide +kernel) rfl, _, rfl, rfl⟩
theorem kk_LL_decode : gw_cal ny_LL_decode nc_LL_decode 7 (some .long) 3 := ⟨gw_in_t 509 (by decide +kernel) rfl, gw_in_t 1 (by decide +kernel) rfl, by decide +kernel, by decide +kernel, by decide +kernel⟩
theorem ks_La_41 : gw_sV "LabelLearnerLaw" 41 ny_LL_decode nc_LL_decode 7 (some .long) 3 0 := ⟨kk_LL_decode, Or.inl (gw_in_t 506 (by decide +kernel) rfl), gw_in_t 507 (by decide +kernel) rfl, gw_in_t 508 (by decide +kernel) rfl, _, rfl, rfl⟩
theorem kk_LL_label : gw_cal ny_LL_label nc_LL_label 2 (some .int) 1 := ⟨gw_in_t 516 (by decide +kernel) rfl, gw_in_t 1 (by decide +kernel) rfl, by decide +kernel, by decide +kernel, by decide +kernel⟩
theorem ks_La_45 : gw_sV "LabelLearnerLaw" 45 ny_LL_label nc_LL_label 2 (some .int) 1 0 := ⟨kk_LL_label, Or.inl (gw_in_t 513 (by decide +kernel) rfl), gw_in_t 514 (by decide +kernel) rfl, gw_in_t 515 (by decide +kernel) rfl, _, rfl, rfl⟩
theorem kk_LL_score : gw_cal ny_LL_score nc_LL_score 4 (some .long) 3 := ⟨gw_in_t 523 (by decide +kernel) rfl, gw_in_t 1 (by decide +kernel) rfl, by decide +kernel, by decide +kernel, by decide +kernel⟩
theorem ks_La_48 : gw_sV "LabelLearnerLaw" 48 ny_LL_score nc_LL_score 4 (some .long) 3 0 := ⟨kk_LL_score, Or.inl (gw_in_t 520 (by decide +kernel) rfl), gw_in_t 521 (by decide +kernel) rfl, gw_in_t 522 (by decide +kernel) rfl, _, rfl, rfl⟩
theorem kk_LL_init : gw_cal ny_LL_init nc_LL_init 1 none 0 := ⟨gw_in_t 20 (by decide +kernel) rfl, gw_in_t 1 (by decide +kernel) rfl, by decide +kernel, by decide +kernel, by decide +kernel⟩
theorem ks_La_51 : gw_sI "LabelLearnerLaw" 51 ny_LL_init nc_LL_init 1 0 := ⟨kk_LL_init, Or.inl (gw_in_t 18 (by decide +kernel) rfl), gw_in_t 19 (by decide +kernel) rfl, rfl⟩
theorem kk_Mo_init : gw_cal ny_Mo_init nc_Mo_init 1 none 0 := ⟨gw_in_t 533 (by decide +kernel) rfl, gw_in_t 8 (by decide +kernel) rfl, by decide +kernel, by decide +kernel, by decide +kernel⟩
theorem ks_La_54 : gw_sI "LabelLearnerLaw" 54 ny_Mo_init nc_Mo_init 1 0 := ⟨kk_Mo_init, Or.inl (gw_in_t 531 (by decide +kernel) rfl), gw_in_t 532 (by decide +kernel) rfl, rfl⟩
theorem kk_LL_type : gw_cal ny_LL_type nc_LL_type 4 (some .boolean) 2 := ⟨gw_in_t 166 (by decide +kernel) rfl, gw_in_t 1 (by decide +kernel) rfl, by decide +kernel, by decide +kernel, by decide +kernel⟩
theorem ks_La_57 : gw_sV "LabelLearnerLaw" 57 ny_LL_type nc_LL_type 4 (some .boolean) 2 0 := ⟨kk_LL_type, Or.inl (gw_in_t 163 (by decide +kernel) rfl), gw_in_t 164 (by decide +kernel) rfl, gw_in_t 165 (by decide +kernel) rfl, _, rfl, rfl⟩
theorem kk_Mo_type : gw_cal ny_Mo_type nc_Mo_type 6 (some .boolean) 2 := ⟨gw_in_t 615 (by decide +kernel) rfl, gw_in_t 8 (by decide +kernel) rfl, by decide +kernel, by decide +kernel, by decide +kernel⟩
theorem ks_La_61 : gw_sV "LabelLearnerLaw" 61 ny_Mo_type nc_Mo_type 6 (some .boolean) 2 1 := ⟨kk_Mo_type, Or.inl (gw_in_t 612 (by decide +kernel) rfl), gw_in_t 613 (by decide +kernel) rfl, gw_in_t 614 (by decide +kernel) rfl, _, rfl, rfl⟩
theorem kk_LL_cut : gw_cal ny_LL_cut nc_LL_cut 2 (some .boolean) 1 := ⟨gw_in_t 177 (by decide +kernel) rfl, gw_in_t 1 (by decide +kernel) rfl, by decide +kernel, by decide +kernel, by decide +kernel⟩
theorem ks_La_62 : gw_sV "LabelLearnerLaw" 62 ny_LL_cut nc_LL_cut 2 (some .boolean) 1 0 := ⟨kk_LL_cut, Or.inl (gw_in_t 174 (by decide +kernel) rfl), gw_in_t 175 (by decide +kernel) rfl, gw_in_t 176 (by decide +kernel) rfl, _, rfl, rfl⟩
theorem kk_Mo_cut : gw_cal ny_Mo_cut nc_Mo_cut 2 (some .boolean) 1 := ⟨gw_in_t 623 (by decide +kernel) rfl, gw_in_t 8 (by decide +kernel) rfl, by decide +kernel, by decide +kernel, by decide +kernel⟩
theorem ks_La_66 : gw_sV "LabelLearnerLaw" 66 ny_Mo_cut nc_Mo_cut 2 (some .boolean) 1 1 := ⟨kk_Mo_cut, Or.inl (gw_in_t 620 (by decide +kernel) rfl), gw_in_t 621 (by decide +kernel) rfl, gw_in_t 622 (by decide +kernel) rfl, _, rfl, rfl⟩
theorem kk_Mo_load : gw_cal ny_Mo_load nc_Mo_load 4 (some .int) 0 := ⟨gw_in_t 627 (by decide +kernel) rfl, gw_in_t 8 (by decide +kernel) rfl, by decide +kernel, by decide +kernel, by decide +kernel⟩
theorem ks_La_72 : gw_sV "LabelLearnerLaw" 72 ny_Mo_load nc_Mo_load 4 (some .int) 0 1 := ⟨kk_Mo_load, Or.inl (gw_in_t 624 (by decide +kernel) rfl), gw_in_t 625 (by decide +kernel) rfl, gw_in_t 626 (by decide +kernel) rfl, _, rfl, rfl⟩
theorem kk_Mo_thrown : gw_cal ny_Mo_thrown nc_Mo_thrown 1 (some .int) 0 := ⟨gw_in_t 611 (by decide +kernel) rfl, gw_in_t 8 (by decide +kernel) rfl, by decide +kernel, by decide +kernel, by decide +kernel⟩
theorem ks_La_73 : gw_sV "LabelLearnerLaw" 73 ny_Mo_thrown nc_Mo_thrown 1 (some .int) 0 1 := ⟨kk_Mo_thrown, Or.inl (gw_in_t 608 (by decide +kernel) rfl), gw_in_t 609 (by decide +kernel) rfl, gw_in_t 610 (by decide +kernel) rfl, _, rfl, rfl⟩
theorem kk_Mo_speak : gw_cal ny_Mo_speak nc_Mo_speak 2 (some .int) 0 := ⟨gw_in_t 658 (by decide +kernel) rfl, gw_in_t 8 (by decide +kernel) rfl, by decide +kernel, by decide +kernel, by decide +kernel⟩
theorem ks_La_78 : gw_sV "LabelLearnerLaw" 78 ny_Mo_speak nc_Mo_speak 2 (some .int) 0 1 := ⟨kk_Mo_speak, Or.inl (gw_in_t 655 (by decide +kernel) rfl), gw_in_t 656 (by decide +kernel) rfl, gw_in_t 657 (by decide +kernel) rfl, _, rfl, rfl⟩
theorem kk_LL_sentences : gw_cal ny_LL_sentences nc_LL_sentences 1 (some .int) 0 := ⟨gw_in_t 185 (by decide +kernel) rfl, gw_in_t 1 (by decide +kernel) rfl, by decide +kernel, by decide +kernel, by decide +kernel⟩
theorem ks_La_79 : gw_sV "LabelLearnerLaw" 79 ny_LL_sentences nc_LL_sentences 1 (some .int) 0 0 := ⟨kk_LL_sentences, Or.inl (gw_in_t 182 (by decide +kernel) rfl), gw_in_t 183 (by decide +kernel) rfl, gw_in_t 184 (by decide +kernel) rfl, _, rfl, rfl⟩
theorem kk_Mo_sentences : gw_cal ny_Mo_sentences nc_Mo_sentences 1 (some .int) 0 := ⟨gw_in_t 662 (by decide +kernel) rfl, gw_in_t 8 (by decide +kernel) rfl, by decide +kernel, by decide +kernel, by decide +kernel⟩
theorem ks_La_82 : gw_sV "LabelLearnerLaw" 82 ny_Mo_sentences nc_Mo_sentences 1 (some .int) 0 1 := ⟨kk_Mo_sentences, Or.inl (gw_in_t 659 (by decide +kernel) rfl), gw_in_t 660 (by decide +kernel) rfl, gw_in_t 661 (by decide +kernel) rfl, _, rfl, rfl⟩
theorem kk_Mo_words : gw_cal ny_Mo_words nc_Mo_words 2 (some .int) 1 := ⟨gw_in_t 666 (by decide +kernel) rfl, gw_in_t 8 (by decide +kernel) rfl, by decide +kernel, by decide +kernel, by decide +kernel⟩
theorem ks_La_86 : gw_sV "LabelLearnerLaw" 86 ny_Mo_words nc_Mo_words 2 (some .int) 1 1 := ⟨kk_Mo_words, Or.inl (gw_in_t 663 (by decide +kernel) rfl), gw_in_t 664 (by decide +kernel) rfl, gw_in_t 665 (by decide +kernel) rfl, _, rfl, rfl⟩
theorem kk_Mo_given : gw_cal ny_Mo_given nc_Mo_given 3 (some .int) 2 := ⟨gw_in_t 678 (by decide +kernel) rfl, gw_in_t 8 (by decide +kernel) rfl, by decide +kernel, by decide +kernel, by decide +kernel⟩
theorem ks_La_90 : gw_sV "LabelLearnerLaw" 90 ny_Mo_given nc_Mo_given 3 (some .int) 2 1 := ⟨kk_Mo_given, Or.inl (gw_in_t 675 (by decide +kernel) rfl), gw_in_t 676 (by decide +kernel) rfl, gw_in_t 677 (by decide +kernel) rfl, _, rfl, rfl⟩
theorem kk_Mo_feature : gw_cal ny_Mo_feature nc_Mo_feature 4 (some .int) 3 := ⟨gw_in_t 682 (by decide +kernel) rfl, gw_in_t 8 (by decide +kernel) rfl, by decide +kernel, by decide +kernel, by decide +kernel⟩
theorem ks_La_94 : gw_sV "LabelLearnerLaw" 94 ny_Mo_feature nc_Mo_feature 4 (some .int) 3 1 := ⟨kk_Mo_feature, Or.inl (gw_in_t 679 (by decide +kernel) rfl), gw_in_t 680 (by decide +kernel) rfl, gw_in_t 681 (by decide +kernel) rfl, _, rfl, rfl⟩
theorem kk_Mo_learn : gw_cal ny_Mo_learn nc_Mo_learn 4 (some .int) 1 := ⟨gw_in_t 686 (by decide +kernel) rfl, gw_in_t 8 (by decide +kernel) rfl, by decide +kernel, by decide +kernel, by decide +kernel⟩
theorem ks_La_97 : gw_sV "LabelLearnerLaw" 97 ny_Mo_learn nc_Mo_learn 4 (some .int) 1 1 := ⟨kk_Mo_learn, Or.inl (gw_in_t 683 (by decide +kernel) rfl), gw_in_t 684 (by decide +kernel) rfl, gw_in_t 685 (by decide +kernel) rfl, _, rfl, rfl⟩
theorem kk_LL_mistakes : gw_cal ny_LL_mistakes nc_LL_mistakes 1 (some .int) 0 := ⟨gw_in_t 189 (by decide +kernel) rfl, gw_in_t 1 (by decide +kernel) rfl, by decide +kernel, by decide +kernel, by decide +kernel⟩
theorem ks_La_98 : gw_sV "LabelLearnerLaw" 98 ny_LL_mistakes nc_LL_mistakes 1 (some .int) 0 0 := ⟨kk_LL_mistakes, Or.inl (gw_in_t 186 (by decide +kernel) rfl), gw_in_t 187 (by decide +kernel) rfl, gw_in_t 188 (by decide +kernel) rfl, _, rfl, rfl⟩
theorem kk_Mo_mistakes : gw_cal ny_Mo_mistakes nc_Mo_mistakes 1 (some .int) 0 := ⟨gw_in_t 721 (by decide +kernel) rfl, gw_in_t 8 (by decide +kernel) rfl, by decide +kernel, by decide +kernel, by decide +kernel⟩
theorem ks_La_101 : gw_sV "LabelLearnerLaw" 101 ny_Mo_mistakes nc_Mo_mistakes 1 (some .int) 0 1 := ⟨kk_Mo_mistakes, Or.inl (gw_in_t 718 (by decide +kernel) rfl), gw_in_t 719 (by decide +kernel) rfl, gw_in_t 720 (by decide +kernel) rfl, _, rfl, rfl⟩
theorem kk_LL_passes : gw_cal ny_LL_passes nc_LL_passes 1 (some .int) 0 := ⟨gw_in_t 193 (by decide +kernel) rfl, gw_in_t 1 (by decide +kernel) rfl, by decide +kernel, by decide +kernel, by decide +kernel⟩
theorem ks_La_102 : gw_sV "LabelLearnerLaw" 102 ny_LL_passes nc_LL_passes 1 (some .int) 0 0 := ⟨kk_LL_passes, Or.inl (gw_in_t 190 (by decide +kernel) rfl), gw_in_t 191 (by decide +kernel) rfl, gw_in_t 192 (by decide +kernel) rfl, _, rfl, rfl⟩
theorem kk_Mo_passes : gw_cal ny_Mo_passes nc_Mo_passes 1 (some .int) 0 := ⟨gw_in_t 725 (by decide +kernel) rfl, gw_in_t 8 (by decide +kernel) rfl, by decide +kernel, by decide +kernel, by decide +kernel⟩
theorem ks_La_105 : gw_sV "LabelLearnerLaw" 105 ny_Mo_passes nc_Mo_passes 1 (some .int) 0 1 := ⟨kk_Mo_passes, Or.inl (gw_in_t 722 (by decide +kernel) rfl), gw_in_t 723 (by decide +kernel) rfl, gw_in_t 724 (by decide +kernel) rfl, _, rfl, rfl⟩
theorem kk_Mo_weight : gw_cal ny_Mo_weight nc_Mo_weight 4 (some .long) 3 := ⟨gw_in_t 729 (by decide +kernel) rfl, gw_in_t 8 (by decide +kernel) rfl, by decide +kernel, by decide +kernel, by decide +kernel⟩
theorem ks_La_109 : gw_sV "LabelLearnerLaw" 109 ny_Mo_weight nc_Mo_weight 4 (some .long) 3 1 := ⟨kk_Mo_weight, Or.inl (gw_in_t 726 (by decide +kernel) rfl), gw_in_t 727 (by decide +kernel) rfl, gw_in_t 728 (by decide +kernel) rfl, _, rfl, rfl⟩
theorem kk_Mo_decode : gw_cal ny_Mo_decode nc_Mo_decode 5 (some .long) 3 := ⟨gw_in_t 733 (by decide +kernel) rfl, gw_in_t 8 (by decide +kernel) rfl, by decide +kernel, by decide +kernel, by decide +kernel⟩
theorem ks_La_113 : gw_sV "LabelLearnerLaw" 113 ny_Mo_decode nc_Mo_decode 5 (some .long) 3 1 := ⟨kk_Mo_decode, Or.inl (gw_in_t 730 (by decide +kernel) rfl), gw_in_t 731 (by decide +kernel) rfl, gw_in_t 732 (by decide +kernel) rfl, _, rfl, rfl⟩
theorem kk_Mo_label : gw_cal ny_Mo_label nc_Mo_label 2 (some .int) 1 := ⟨gw_in_t 741 (by decide +kernel) rfl, gw_in_t 8 (by decide +kernel) rfl, by decide +kernel, by decide +kernel, by decide +kernel⟩
theorem ks_La_116 : gw_sV "LabelLearnerLaw" 116 ny_Mo_label nc_Mo_label 2 (some .int) 1 1 := ⟨kk_Mo_label, Or.inl (gw_in_t 738 (by decide +kernel) rfl), gw_in_t 739 (by decide +kernel) rfl, gw_in_t 740 (by decide +kernel) rfl, _, rfl, rfl⟩
theorem kk_Mo_score : gw_cal ny_Mo_score nc_Mo_score 6 (some .long) 3 := ⟨gw_in_t 745 (by decide +kernel) rfl, gw_in_t 8 (by decide +kernel) rfl, by decide +kernel, by decide +kernel, by decide +kernel⟩
theorem ks_La_119 : gw_sV "LabelLearnerLaw" 119 ny_Mo_score nc_Mo_score 6 (some .long) 3 1 := ⟨kk_Mo_score, Or.inl (gw_in_t 742 (by decide +kernel) rfl), gw_in_t 743 (by decide +kernel) rfl, gw_in_t 744 (by decide +kernel) rfl, _, rfl, rfl⟩
theorem kk_LL_errors : gw_cal ny_LL_errors nc_LL_errors 6 (some .int) 1 := ⟨gw_in_t 197 (by decide +kernel) rfl, gw_in_t 1 (by decide +kernel) rfl, by decide +kernel, by decide +kernel, by decide +kernel⟩
theorem ks_La_120 : gw_sV "LabelLearnerLaw" 120 ny_LL_errors nc_LL_errors 6 (some .int) 1 0 := ⟨kk_LL_errors, Or.inl (gw_in_t 194 (by decide +kernel) rfl), gw_in_t 195 (by decide +kernel) rfl, gw_in_t 196 (by decide +kernel) rfl, _, rfl, rfl⟩
theorem kk_Mo_errors : gw_cal ny_Mo_errors nc_Mo_errors 5 (some .int) 1 := ⟨gw_in_t 749 (by decide +kernel) rfl, gw_in_t 8 (by decide +kernel) rfl, by decide +kernel, by decide +kernel, by decide +kernel⟩
theorem ks_La_124 : gw_sV "LabelLearnerLaw" 124 ny_Mo_errors nc_Mo_errors 5 (some .int) 1 1 := ⟨kk_Mo_errors, Or.inl (gw_in_t 746 (by decide +kernel) rfl), gw_in_t 747 (by decide +kernel) rfl, gw_in_t 748 (by decide +kernel) rfl, _, rfl, rfl⟩
theorem ko_i : Cond.instanceMethod objectInit ∈ gw_ws := gw_in_t 22 (by decide +kernel) rfl
theorem ko_c : Cond.code objectInit ⟨#[0xb1]⟩ 1 none ∈ gw_ws := gw_in_t 23 (by decide +kernel) rfl
theorem ka_int : Cond.arrayClass .int ∈ gw_ws := gw_in_t 67 (by decide +kernel) rfl
theorem ka_long : Cond.arrayClass .long ∈ gw_ws := gw_in_t 66 (by decide +kernel) rfl
theorem ka_char : Cond.arrayClass .char ∈ gw_ws := gw_in_t 40 (by decide +kernel) rfl
theorem kn_LL_7 : Cond.classLink "LabelLearner" 7 nR_Te ∈ gw_ws := gw_in_t 24 (by decide +kernel) rfl
theorem kn_LL_16 : Cond.classLink "LabelLearner" 16 nR_De ∈ gw_ws := gw_in_t 41 (by decide +kernel) rfl
theorem kn_LL_23 : Cond.classLink "LabelLearner" 23 nR_We ∈ gw_ws := gw_in_t 75 (by decide +kernel) rfl
theorem kn_LL_33 : Cond.classLink "LabelLearner" 33 nR_Co ∈ gw_ws := gw_in_t 85 (by decide +kernel) rfl
theorem kn_LL_43 : Cond.classLink "LabelLearner" 43 nR_Se ∈ gw_ws := gw_in_t 124 (by decide +kernel) rfl
theorem kn_Co_9 : Cond.classLink "LabelLearner$Corpus" 9 nR_Se ∈ gw_ws := gw_in_t 91 (by decide +kernel) rfl
theorem kn_De_9 : Cond.classLink "LabelLearner$Decoder" 9 nR_Ra ∈ gw_ws := gw_in_t 47 (by decide +kernel) rfl
theorem kn_La_8 : Cond.classLink "LabelLearnerLaw" 8 nR_LL ∈ gw_ws := gw_in_t 16 (by decide +kernel) rfl
theorem kn_La_52 : Cond.classLink "LabelLearnerLaw" 52 nR_Mo ∈ gw_ws := gw_in_t 529 (by decide +kernel) rfl
theorem km_LL : Cond.instantiable nR_LL 12 ∈ gw_ws := gw_in_t 17 (by decide +kernel) rfl
theorem kb_LL : Cond.initialized nR_LL ∈ gw_ws := gw_in_t 1 (by decide +kernel) rfl
theorem km_Mo : Cond.instantiable nR_Mo 24 ∈ gw_ws := gw_in_t 530 (by decide +kernel) rfl
theorem kb_Mo : Cond.initialized nR_Mo ∈ gw_ws := gw_in_t 8 (by decide +kernel) rfl
theorem km_Co : Cond.instantiable nR_Co 2 ∈ gw_ws := gw_in_t 86 (by decide +kernel) rfl
theorem kb_Co : Cond.initialized nR_Co ∈ gw_ws := gw_in_t 6 (by decide +kernel) rfl
theorem km_De : Cond.instantiable nR_De 2 ∈ gw_ws := gw_in_t 42 (by decide +kernel) rfl
theorem kb_De : Cond.initialized nR_De ∈ gw_ws := gw_in_t 3 (by decide +kernel) rfl
theorem km_Ra : Cond.instantiable nR_Ra 3 ∈ gw_ws := gw_in_t 49 (by decide +kernel) rfl
theorem kb_Ra : Cond.initialized nR_Ra ∈ gw_ws := gw_in_t 4 (by decide +kernel) rfl
theorem km_Se : Cond.instantiable nR_Se 3 ∈ gw_ws := gw_in_t 93 (by decide +kernel) rfl
theorem kb_Se : Cond.initialized nR_Se ∈ gw_ws := gw_in_t 7 (by decide +kernel) rfl
theorem km_Te : Cond.instantiable nR_Te 3 ∈ gw_ws := gw_in_t 25 (by decide +kernel) rfl
theorem kb_Te : Cond.initialized nR_Te ∈ gw_ws := gw_in_t 2 (by decide +kernel) rfl
theorem km_We : Cond.instantiable nR_We 1 ∈ gw_ws := gw_in_t 76 (by decide +kernel) rfl
theorem kb_We : Cond.initialized nR_We ∈ gw_ws := gw_in_t 5 (by decide +kernel) rfl
end
section
/-! ===== methods that may throw (no stack traces are kept) ===== -/
/-- a static of the class C that nobody here writes holds a reference or null -/
def gx_S (C n d : String) (b0 : Nat) (U : State) : Prop := ∃ (c : ClassId) (k : Class) (i : Nat) (f : Field) (a : Nat) (cell : Cell), U.vm.findClass C = some c ∧ U.fieldFound? C n d = some (c, k, i, f) ∧ f.isStatic = true ∧ k.statics = some a ∧ U.heap[a]? = some cell ∧ cell.vm.isStatics = true ∧ cell.cls = c ∧ f.slot < cell.slots.size ∧ k.staticTypes[f.slot]? = some f.type ∧ a < b0 ∧ (cell.slots[f.slot]? = some .null ∨ ∃ r : Nat, cell.slots[f.slot]? = some (.ref r))
theorem gx_S_mv {C n d : String} {b0 : Nat} {u U : State} (hvm : u.vm.Alike U.vm) (hh : ∀ a, a < b0 → U.heap[a]? = u.heap[a]?) (h : gx_S C n d b0 u) : gx_S C n d b0 U := by
  obtain ⟨c, k, i, f, a, cell, h1, h2, h3, h4, h5, h6, h7, h8, h9, h10, h11⟩ := h
  obtain ⟨k', hi', he⟩ := State.fieldFound?_setVm hvm h2
  exact ⟨c, k', i, f, a, cell, by rw [hvm.findClass]; exact h1, hi', h3, by rw [he]; exact h4, by rw [hh a h10]; exact h5, h6, h7, h8, by rw [he]; exact h9, h10, h11⟩
theorem gx_S_lays {C n d : String} {b0 : Nat} {U : State} (h : gx_S C n d b0 U) (args : Array Value) : (Cond.laysStatic C n d).before args U = true := by
  obtain ⟨c, k, i, f, a, cell, h1, h2, h3, h4, h5, h6, h7, h8, h9, h10, h11⟩ := h
  simp [Cond.before, Cond.holds, Cond.value, h1, h2, h3, h4, h5, h6, h7, h8, h9]
theorem gx_S_ref {C n d : String} {b0 : Nat} {U : State} (h : gx_S C n d b0 U) (args : Array Value) : (Cond.isRef (.static C n d)).before args U = true := by
  obtain ⟨c, k, i, f, a, cell, h1, h2, h3, h4, h5, h6, h7, h8, h9, h10, h11⟩ := h
  have he : (Term.static C n d).eval args U none [] U = cell.slots[f.slot]? := by
    simp [Term.eval, State.fieldNamed?, h2, h3, h4, h5, h6]
  rcases h11 with h11 | ⟨r, h11⟩
  · rw [h11] at he
    simp [Cond.before, Cond.holds, Cond.value, he]
  · rw [h11] at he
    simp [Cond.before, Cond.holds, Cond.value, he]
theorem gx_S_of {C n d : String} {args : Array Value} {s : State} (hl : (Cond.laysStatic C n d).before args s = true) (hr : (Cond.isRef (.static C n d)).before args s = true) : gx_S C n d s.heap.size s := by
  obtain ⟨c, k, i, f, a, cell, h1, h2, h3, h4, h5, h6, h7, h8, h9⟩ := Cond.laysStatic_spec hl
  obtain ⟨u, hu⟩ := Cond.staticRefV h2 h3 h4 h5 h6 hr
  refine ⟨c, k, i, f, a, cell, h1, h2, h3, h4, h5, h6, h7, h8, h9, (Array.getElem?_eq_some_iff.mp h5).1, ?_⟩
  obtain ⟨v, hv⟩ := u
  cases v with
  | null => exact Or.inl hu
  | ref r => exact Or.inr ⟨r, hu⟩
  | _ => simp [Value.isRef] at hv
def gx_isT (w : Cond) : Bool := match w with
  | .castable _ _ => true
  | .declares _ => true
  | _ => false
def gx_tl : List Cond := tables_1.filter gx_isT
def gx_sl : List (Nat × String) := [(67, "the text is no corpus"), (92, "the text is no speech"), (173, "no such sentence"), (101, "the speech is not in the corpus"), (188, "no such word"), (115, "no such feature"), (120, "passes are 1 to 6"), (124, "there is no corpus"), (131, "no such weight")]
/-- what is known where a method begins that may throw -/
def gx_K (b0 : Nat) (U : State) : Prop := gx_S Bundle.tN "UNASSIGNED_STACK" Bundle.steD b0 U ∧ gx_S Bundle.tN "SUPPRESSED_SENTINEL" Bundle.listD b0 U ∧ (∀ w ∈ gx_tl, va_Nw w U) ∧ (∀ q ∈ gx_sl, (∃ sa : Nat, vk_R "LabelLearner" q.1 q.2 sa U)) ∧ ∀ c c', U.vm.findClass "java/lang/IllegalStateException" = some c → U.vm.findClass "java/lang/IllegalArgumentException" = some c' → U.vm.assignable c c' = false
theorem gx_K_mv {b0 : Nat} {s U : State} (hW : s.WarmedH U.vm) (hh : ∀ a, a < b0 → U.heap[a]? = s.heap[a]?) (h : gx_K b0 s) : gx_K b0 U := by
  refine ⟨gx_S_mv hW.alike hh h.1, gx_S_mv hW.alike hh h.2.1, fun w hw => ?_, fun q hq => ?_, fun c c' h1 h2 => ?_⟩
  · have h1 := h.2.2.1 w hw
    have h2 : gx_isT w = true := (List.mem_filter.mp hw).2
    cases w with
    | castable a b => exact va_Nw.warmC hW h1
    | declares x => exact va_Nw.warmD hW h1
    | _ => cases h2
  · obtain ⟨sa, h1⟩ := h.2.2.2.1 q hq
    exact ⟨sa, vk_R.warm hW h1⟩
  · rw [hW.alike.findClass] at h1 h2
    rw [hW.alike.assignable]
    exact h.2.2.2.2 c c' h1 h2
/-! contracts -/
def gx_Pc (Z : gw_Z) (b0 : Nat) (σ : gw_S) (av : List Value) : Array Value → State → Prop := va_Pc av (fun U => gw_K Z U ∧ gw_H Z b0 σ U.heap ∧ gx_K b0 U)
theorem gx_blind (Z : gw_Z) (b0 : Nat) (σ : gw_S) (av : List Value) : FrameBlind (gx_Pc Z b0 σ av) := fun a U g mk h => ⟨h.1, gw_K_vm (s := U) (U := U.calling g mk a) rfl h.2.1, h.2.2.1, gx_K_mv (s := U) (U := U.calling g mk a) (State.WarmedH.refl U) (fun _ _ => rfl) h.2.2.2⟩
def gx_Q (Z : gw_Z) (b0 : Nat) (post : Option Value → gw_S → Prop) (px : String → gw_S → Prop) (mc ms : Nat) : Array Value → State → Outcome → State → Prop := fun a s0 o t =>
  (gw_Qc Z b0 post a s0 o t ∧ ∃ L, FrameEnd s0 o t L mc ms ∧ ∀ z ∈ L, b0 ≤ z.base) ∨
  ∃ (q : Addr) (E : String) (ce : Cell) (L : List Loc) (σ' : gw_S), o = .threw q ∧ px E σ' ∧ gw_H Z b0 σ' t.heap ∧ va_F (fun z => b0 ≤ z) s0 t ∧ t.heap[q]? = some ce ∧ ce.vm = .none ∧ s0.vm.findClass E = some ce.cls ∧ s0.WarmedH t.vm ∧ s0.sameButNew ({ t with vm := s0.vm } : State) L mc ms ∧ ∀ z ∈ L, b0 ≤ z.base
def gx_M (l : Launch) (y : MethodName) (cc : ByteArray) (q : gw_N) (ret : Option FieldType) (Z : gw_Z) (b0 : Nat) (σ : gw_S) (av : List Value) (post : Option Value → gw_S → Prop) (px : String → gw_S → Prop) : Prop :=
  MetFree l y (headSpec (.code y cc q.1 ret :: gw_ws) { frames := q.2.1, cells := q.2.2.2.1, slots := q.2.2.2.2, locals := q.2.2.1 }) (gx_Pc Z b0 σ av) (fun _ _ _ _ _ => True) (gx_Q Z b0 post px q.2.2.2.1 q.2.2.2.2)
def gx_end (X : gw_C) (post : Option Value → gw_S → Prop) (px : String → gw_S → Prop) (mc ms : Nat) : State → Prop := fun t => ∃ o, t.status = .running ∧ Ended t X.2.1.2.2.2 o ∧ gx_Q (gw_z X) (gw_b X) post px mc ms (gw_a X) (gw_s X) o t
/-- what a walk of such a method has besides -/
def gx_ok (X : gw_C) : Prop := gx_K (gw_b X) (gw_s X) ∧ X.1.2.1.stackTraces = false ∧ (∀ x ∈ X.2.2.1.2.exceptionTable.toList, False) ∧ gw_b X ≤ (gw_s X).heap.size
theorem gx_M_of {l : Launch} {y : MethodName} {cc : ByteArray} {q : gw_N} {ret : Option FieldType} {Z : gw_Z} {b0 : Nat} {σ : gw_S} {av : List Value} {post : Option Value → gw_S → Prop} {px : String → gw_S → Prop} (hy : plainName y.cls = true) (ha : (lg_sl av).length ≤ q.1) (hl0 : l.stackTraces = false)
    (body : ∀ X : gw_C, gw_ok X cc y.cls q → X.1.2.1 = l → gw_z X = Z → gw_b X = b0 → X.2.2.1.1.sig.returnType = ret → X.2.2.1.1.name = y.name → X.2.2.2.2 = gx_end X post px q.2.2.2.1 q.2.2.2.2 → gx_ok X → gw_W X σ 0 0 0 (lv_args 0 av) []) : gx_M l y cc q ret Z b0 σ av post px := by
  refine MetFree.of_bodyS (code := cc) (maxLocals := q.1) (ret := ret) hy ?_ ?_
  · intro args s m h hn
    obtain ⟨meth, c, h1, h2, h3, h4, h5, h6, -, -⟩ := Cond.code_spec hn (atoms_spec (ws := .code y cc q.1 ret :: gw_ws) h _ List.mem_cons_self)
    exact ⟨meth, c, h1, h2, h3, h4, h5, h6⟩
  · intro p e s m args below meth c s₁ B hml hv _
    obtain ⟨rfl, hK, hG, hK9⟩ := hv
    have hts := atoms_spec (ws := .code y cc q.1 ret :: gw_ws) B.pre
    have hl := lv_entry av (n := q.1) ha
    have hh0 : s₁.heap = s.heap := by rw [B.state]; rfl
    have htab : ∀ x ∈ c.exceptionTable.toList, False := by
      obtain ⟨meth9, c9, h1, h2, -, -, -, -, h7, -⟩ := Cond.code_spec B.named (hts _ List.mem_cons_self)
      cases Option.some.inj (h1.symm.trans B.method)
      cases Option.some.inj (h2.symm.trans (Stand.of_body B).code)
      intro x hx
      rw [Array.isEmpty_iff.mp h7] at hx
      cases hx
    have h9 := body ((p, l, e, { frames := q.2.1, cells := q.2.2.2.1, slots := q.2.2.2.2, locals := q.2.2.1 }), (s, m, av.toArray, below), (meth, c), (Z, b0, q.1), fun t => ∃ o, t.status = .running ∧ Ended t below o ∧ gx_Q Z b0 post px q.2.2.2.1 q.2.2.2.2 av.toArray s o t)
      ⟨B.exec, B.bytes, ⟨hml, rfl, rfl, B.notSynchronized⟩, findClass_of_methodNamed B.named, fun w hw => hts w (List.mem_cons_of_mem _ hw), hK⟩ rfl rfl rfl B.returns (name_of_methodNamed B.named B.method).1 rfl ⟨hK9, hl0, htab, by show b0 ≤ s.heap.size; rw [hG.1]; exact hG.2.1.1⟩ s.heap [] _ hG va_S.rf hl
    rw [← lg_entry_eq] at h9
    obtain ⟨t, a1, o, b1, b2, b3⟩ := h9 s₁ hh0 (Stand.of_body B)
    exact ⟨t, o, a1, b1, b2, b3⟩
section GXR
variable {X : gw_C} {cc : ByteArray} {own : String} {q : gw_N} {σ : gw_S} {ce sl pc : Nat} {L : List (Nat × Value)} {st : List Value} {post : Option Value → gw_S → Prop} {px : String → gw_S → Prop} {mc ms : Nat}
/-- it is enough to reach what says more -/
theorem gx_mono {Q1 : State → Prop} (h : ∀ t, Q1 t → X.2.2.2.2 t) (k : gw_W (X.1, X.2.1, X.2.2.1, X.2.2.2.1, Q1) σ ce sl pc L st) : gw_W X σ ce sl pc L st := by
  intro H locs ls hG hS hL T hT X0
  obtain ⟨t, a1, b1⟩ := k H locs ls hG hS hL T hT X0
  exact ⟨t, a1, h t b1⟩
theorem gx_ret (hQ : X.2.2.2.2 = gx_end X post px mc ms) (k : gw_W (X.1, X.2.1, X.2.2.1, X.2.2.2.1, gw_end X post mc ms) σ ce sl pc L st) : gw_W X σ ce sl pc L st := by
  refine gx_mono (Q1 := gw_end X post mc ms) (fun t h => ?_) k
  rw [hQ]
  obtain ⟨o, b1, b2, b3, b4⟩ := h
  exact ⟨o, b1, b2, Or.inl ⟨b3, b4⟩⟩
theorem gx_okQ {Q1 : State → Prop} (hX : gw_ok X cc own q) : gw_ok (X.1, X.2.1, X.2.2.1, X.2.2.2.1, Q1) cc own q := hX
theorem gx_iret (hX : gw_ok X cc own q) (hQ : X.2.2.2.2 = gx_end X post px mc ms) (hr : X.2.2.1.1.sig.returnType = some .int) (d : decode cc pc = .ok (.ireturn, 1)) {v : Int32} (h1 : ce ≤ mc) (h2 : sl ≤ ms) (hp : post (some (.int v)) σ) : gw_W X σ ce sl pc L [.int v] :=
  gx_ret hQ (gw_iret (X := (X.1, X.2.1, X.2.2.1, X.2.2.2.1, gw_end X post mc ms)) hX rfl hr d h1 h2 hp)
theorem gx_lret (hX : gw_ok X cc own q) (hQ : X.2.2.2.2 = gx_end X post px mc ms) (hr : X.2.2.1.1.sig.returnType = some .long) (d : decode cc pc = .ok (.lreturn, 1)) {v : Int64} (h1 : ce ≤ mc) (h2 : sl ≤ ms) (hp : post (some (.long v)) σ) : gw_W X σ ce sl pc L [.long v] :=
  gx_ret hQ (gw_lret (X := (X.1, X.2.1, X.2.2.1, X.2.2.2.1, gw_end X post mc ms)) hX rfl hr d h1 h2 hp)
theorem gx_aret (hX : gw_ok X cc own q) (hQ : X.2.2.2.2 = gx_end X post px mc ms) {n : String} (hr : X.2.2.1.1.sig.returnType = some (.object n)) (d : decode cc pc = .ok (.areturn, 1)) {a : Nat} (h1 : ce ≤ mc) (h2 : sl ≤ ms) (hp : post (some (.ref a)) σ) : gw_W X σ ce sl pc L [.ref a] :=
  gx_ret hQ (gw_aret (X := (X.1, X.2.1, X.2.2.1, X.2.2.2.1, gw_end X post mc ms)) hX rfl hr d h1 h2 hp)
theorem gx_vret (hX : gw_ok X cc own q) (hQ : X.2.2.2.2 = gx_end X post px mc ms) (hr : X.2.2.1.1.sig.returnType = none) (d : decode cc pc = .ok (.return_, 1)) (h1 : ce ≤ mc) (h2 : sl ≤ ms) (hp : post none σ) : gw_W X σ ce sl pc L [] :=
  gx_ret hQ (gw_vret (X := (X.1, X.2.1, X.2.2.1, X.2.2.2.1, gw_end X post mc ms)) hX rfl hr d h1 h2 hp)
end GXR
end
section
/-! ===== a call that returns or throws; a throw ===== -/
section GXB
variable {p : Program} {l : Launch} {e : Env} {R : Room} {s : State} {m : MethodId} {args : Array Value} {below : List Frame} {meth : Method} {c : Code} {locs : List Loc} {cells slots : Nat}
/-- the callee's contract, used by a caller that stands at U with the arguments taken off its stack -/
theorem gx_run {y : MethodName} {cb : ByteArray} {q : gw_N} {ret : Option FieldType} {Z : gw_Z} {b0 : Nat} {σ : gw_S} {av : List Value} {post : Option Value → gw_S → Prop} {px : String → gw_S → Prop} (hM : gx_M l y cb q ret Z b0 σ av post px)
    {U : State} (X : Stand p l e R s m args below meth c U locs cells slots) {g : JFrame} (hg : g.method = m) (hsize : g.locals.size = c.maxLocals) {ig : Instr} (hdg : decode c.code g.pc = .ok (ig, 3)) (hw : 2 * g.monitorRoom + (g.stack.map fun v => v.category).sum ≤ 8) {mk : MethodId} (hn : U.methodNamed? y = some mk)
    (hws : ∀ w ∈ (Cond.code y cb q.1 ret :: gw_ws), w.before av.toArray U = true) (hini : (Cond.initialized y.cls).before av.toArray U = true) (hPc : gx_Pc Z b0 σ av av.toArray U) (hR : q.2.1 + 1 ≤ R.frames ∧ 8 + (q.1 + 11) + q.2.2.1 ≤ R.locals) (hc : cells + q.2.2.2.1 ≤ R.cells ∧ slots + q.2.2.2.2 ≤ R.slots) :
    (∃ (v : Option Value) (σ' : gw_S) (V : State) (L' : List Loc), Stand p l e R s m args below meth c V (locs ++ L') (cells + q.2.2.2.1) (slots + q.2.2.2.2) ∧ (∀ z ∈ L', b0 ≤ z.base) ∧ post v σ' ∧ gw_H Z b0 σ' V.heap ∧ U.heap.size ≤ V.heap.size ∧ (∀ a : Nat, a < U.heap.size → ¬ b0 ≤ a → V.heap[a]? = U.heap[a]?) ∧
      Steps p.tables e below (doInvoke e (U.setTop g) [] mk av.toArray).1 (V.setTop { g with pc := g.pc + 3, stack := v.toList ++ g.stack })) ∨
    (∃ (x : Addr) (E : String) (cx : Cell) (σ' : gw_S) (V : State) (L' : List Loc), Stand p l e R s m args below meth c V (locs ++ L') (cells + q.2.2.2.1) (slots + q.2.2.2.2) ∧ (∀ z ∈ L', b0 ≤ z.base) ∧ px E σ' ∧ gw_H Z b0 σ' V.heap ∧ U.heap.size ≤ V.heap.size ∧ (∀ a : Nat, a < U.heap.size → ¬ b0 ≤ a → V.heap[a]? = U.heap[a]?) ∧ V.heap[x]? = some cx ∧ cx.vm = .none ∧ U.vm.findClass E = some cx.cls ∧
      Steps p.tables e below (doInvoke e (U.setTop g) [] mk av.toArray).1 ((V.setTop g).pushFrame (.throwing x))) := by
  have h1 : (headSpec (.code y cb q.1 ret :: gw_ws) { frames := q.2.1, cells := q.2.2.2.1, slots := q.2.2.2.2, locals := q.2.2.1 }).pre.before av.toArray U = true := atoms_intro hws
  obtain ⟨methY, cY, hmY, hcY, -, hlY, -, -, -, -⟩ := Cond.code_spec hn (hws _ List.mem_cons_self)
  obtain ⟨kY, hkY, -⟩ := className_of_methodNamed hn
  have hiY : kY.init = .initialized := Cond.initialized_spec (findClass_of_methodNamed hn) hkY hini
  have hA : At U g.method c below := by rw [hg]; exact X.here
  have happ := Spec.appliesLoose_calling (g := g) (args := av.toArray) hA hdg hn hkY hiY (X.room_calling (g := g) (R' := (headSpec (.code y cb q.1 ret :: gw_ws) { frames := q.2.1, cells := q.2.2.2.1, slots := q.2.2.2.2, locals := q.2.2.1 }).room) hsize hmY hcY hR.1 (by rw [hlY]; exact Nat.le_trans (Nat.add_le_add_right (Nat.add_le_add_right hw _) _) hR.2) hc.1 hc.2) h1
  obtain ⟨mid, hmid⟩ := hA.above
  have hfr : (U.setTop g).frames = (.java g :: mid) ++ below := by rw [State.frames_setTop' g hA.top, hmid]; rfl
  obtain ⟨o, t, hsteps, -, hend, hq⟩ := Steps.callFree hM p X.admits X.cas X.clock (acts := []) hfr happ (gx_blind Z b0 σ av _ _ g mk hPc) trivial
  have hq : gx_Q Z b0 post px q.2.2.2.1 q.2.2.2.2 av.toArray (U.calling g mk av.toArray) o t := hq
  rw [State.frames_setTop' g hA.top] at hend
  obtain ⟨g₀, hg0⟩ := Option.isSome_iff_exists.mp hA.top
  obtain ⟨r, hr⟩ := State.topJava?_eq_some.mp hg0
  generalize hVe : ({ U with heap := t.heap, slotsUsed := t.slotsUsed } : State).setVm t.vm = V
  have hr' : V.frames = .java g₀ :: r := by rw [← hVe]; exact hr
  have hVh : V.heap = t.heap := by rw [← hVe]; rfl
  have back : ∀ L' : List Loc, U.WarmedH t.vm → (U.calling g mk av.toArray).sameButNew ({ t with vm := (U.calling g mk av.toArray).vm } : State) L' q.2.2.2.1 q.2.2.2.2 →
      Stand p l e R s m args below meth c V (locs ++ L') (cells + q.2.2.2.1) (slots + q.2.2.2.2) ∧ t = V.setFrames t.frames := by
    intro L' hW hsm
    obtain ⟨e2, q2, q3, q4, q5, q6⟩ := hsm
    have e3 : t = ({ (U.calling g mk av.toArray).setFrames t.frames with heap := t.heap, slotsUsed := t.slotsUsed } : State).setVm t.vm := by
      have h9 : t = ({ t with vm := (U.calling g mk av.toArray).vm } : State).setVm t.vm := rfl
      rw [e2] at h9
      exact h9
    have hsame : U.sameButNew ({ U with heap := t.heap, slotsUsed := t.slotsUsed } : State) L' q.2.2.2.1 q.2.2.2.2 := by
      refine ⟨?_, q2, q3, q4, q5, q6⟩
      obtain ⟨th, hth, -⟩ := State.frames_cons hr
      show ({ U with heap := t.heap, slotsUsed := t.slotsUsed } : State) = { U.setFrames U.frames with heap := t.heap, slotsUsed := t.slotsUsed }
      rw [State.setFrames_self hth]
    constructor
    · rw [← hVe]
      exact ⟨X.admits, X.cas, X.clock, X.frames, X.room, X.hears, X.method, X.code, (X.here.setHeapUsed t.heap t.slotsUsed).setVm hW.alike, X.tail, State.WarmedH.trans X.warmed hW, X.limits, X.bytes, X.same.trans (hsame.setVm s.vm)⟩
    · refine e3.trans ?_
      rw [State.calling_eq hA.top, State.setFrames_setFrames, ← hVe]
      rfl
  rcases hq with ⟨⟨v, σ', rfl, hp, hG, hF⟩, L', ⟨-, hW, hsm⟩, hL'⟩ | ⟨x, E, cx, L', σ', rfl, hp, hG, hF, hcx, hcv, hcl, hW, hsm, hL'⟩
  · obtain ⟨XV, ht⟩ := back L' hW hsm
    refine Or.inl ⟨v, σ', V, L', XV, hL', hp, by rw [hVh]; exact hG, by rw [hVh]; exact hF.1, fun a h1 h2 => by rw [hVh]; exact hF.2 a h1 h2, ?_⟩
    obtain ⟨c₂, i₂, n₂, hc₂, hd₂, hf₂⟩ := hend
    have hcc : c₂ = c := by
      have h9 : t.code? g.method = U.code? g.method := by
        rw [State.code?_eq, State.code?_eq, hW.alike.method?]
        rfl
      exact Option.some.inj (hc₂.symm.trans (h9.trans hA.code))
    subst hcc
    have hn2 : n₂ = 3 := by rw [hdg] at hd₂; cases hd₂; rfl
    subst hn2
    have hfin : t = V.setTop { g with pc := g.pc + 3, stack := v.toList ++ g.stack } := by
      rw [ht, hf₂, State.setTop_of_frames _ hr', hr]
      rfl
    rw [← hfin]
    exact hsteps
  · obtain ⟨XV, ht⟩ := back L' hW hsm
    refine Or.inr ⟨x, E, cx, σ', V, L', XV, hL', hp, by rw [hVh]; exact hG, by rw [hVh]; exact hF.1, fun a h1 h2 => by rw [hVh]; exact hF.2 a h1 h2, by rw [hVh]; exact hcx, hcv, hcl, ?_⟩
    have hf₂ : t.frames = .throwing x :: .java g :: U.frames.tail := hend
    have hfin : t = (V.setTop g).pushFrame (.throwing x) := by
      rw [ht, hf₂, State.pushFrame, State.frames_setTop _ hr', State.setTop_of_frames _ hr', State.setFrames_setFrames, hr]
      rfl
    rw [← hfin]
    exact hsteps
end GXB
section GXC
variable {X : gw_C} {cc : ByteArray} {own : String} {q : gw_N} {σ : gw_S} {ce sl pc : Nat} {L : List (Nat × Value)} {st : List Value} {post : Option Value → gw_S → Prop} {px : String → gw_S → Prop} {mc ms : Nat}
/-- an exception of the class E lies over the frame -/
def gx_X (X : gw_C) (σ : gw_S) (ce sl pc : Nat) (L : List (Nat × Value)) (st : List Value) (E : String) : Prop :=
  ∀ (H : Heap) (locs : List Loc) (ls : Array Slot), gw_H (gw_z X) (gw_b X) σ H → va_S (fun q => gw_b X ≤ q) (gw_s X).heap H locs → lv_has ls (gw_n X) L → ∀ (x : Nat) (cx : Cell), H[x]? = some cx → cx.vm = .none → (gw_s X).vm.findClass E = some cx.cls →
    ∀ T : State, T.heap = H → Stand X.1.1 X.1.2.1 X.1.2.2.1 X.1.2.2.2 X.2.1.1 X.2.1.2.1 X.2.1.2.2.1 X.2.1.2.2.2 X.2.2.1.1 X.2.2.1.2 T locs ce sl → ∃ t, Steps X.1.1.tables X.1.2.2.1 X.2.1.2.2.2 ((T.setTop (F0 (gw_m X) pc ls st)).pushFrame (.throwing x)) t ∧ X.2.2.2.2 t
/-- it goes on to the caller -/
theorem gx_out (hX : gw_ok X cc own q) (hE : gx_ok X) (hQ : X.2.2.2.2 = gx_end X post px mc ms) {E : String} (h1 : ce ≤ mc) (h2 : sl ≤ ms) (hp : px E σ) : gx_X X σ ce sl pc L st E := by
  intro H locs ls hG hS hL x cx hx hv hcl T hT X0
  obtain ⟨st1, hrun, hend, hW, hsm⟩ := X0.leaveThrown x (g := F0 (gw_m X) pc ls st) rfl rfl rfl (fun z hz => (hE.2.2.1 z hz).elim) hX.2.2.1.2.2.2
  have hcell9 : (T.setFrames (.throwing x :: X.2.1.2.2.2)).heap[x]? = some cx := by
    show T.heap[x]? = some cx
    rw [hT]; exact hx
  refine ⟨_, st1, ?_⟩
  rw [hQ]
  refine ⟨.threw x, hrun, hend, Or.inr ⟨x, E, cx, locs, σ, rfl, hp, ?_, ?_, hcell9, hv, hcl, hW, hsm.mono h1 h2, hS.2.2⟩⟩
  · show gw_H _ _ σ T.heap
    rw [hT]; exact hG
  · exact ⟨by show _ ≤ T.heap.size; rw [hT]; exact hS.1, fun a g1 g2 => by show T.heap[a]? = _; rw [hT]; exact hS.2.1 a g1 g2⟩
theorem gx_env {H : Heap} {locs : List Loc} {U : State} (hK : gx_K (gw_b X) (gw_s X)) (hb0 : gw_b X ≤ (gw_s X).heap.size) (hS : va_S (fun q => gw_b X ≤ q) (gw_s X).heap H locs) (hU : U.heap = H) (hW : (gw_s X).WarmedH U.vm) : gx_K (gw_b X) U :=
  gx_K_mv hW (fun a ha => by rw [hU]; exact hS.2.1 a (by omega) (by omega)) hK
theorem gx_callV (hX : gw_ok X cc own q) (hK : gx_K (gw_b X) (gw_s X)) (hb0 : gw_b X ≤ (gw_s X).heap.size) {idx n ci : Nat} {y : MethodName} {cb : ByteArray} {q' : gw_N} {ret : Option FieldType} (k : gw_sV own idx y cb q'.1 ret n ci) (hlk : Cond.methodLink own idx y ∈ gw_ws) {b : Nat} {As rest : List Value} {fs : List Value} (hM : gx_M X.1.2.1 y cb q' ret (gw_z X) (gw_b X) σ (.ref b :: As) post px) (hb : σ.2 b = some (.inr (ci, fs))) (hn : As.length = n) (hst : st = As.reverse ++ .ref b :: rest) (hw : (rest.map fun v => v.category).sum ≤ 8) (d : decode cc pc = .ok (.invokevirtual idx, 3)) (hR : gw_rm q q' ce sl)
    (kx : ∀ (E : String) (σ' : gw_S), px E σ' → gx_X X σ' (ce + q'.2.2.2.1) (sl + q'.2.2.2.2) pc L rest E)
    (kk : ∀ (v : Option Value) (σ' : gw_S), post v σ' → gw_W X σ' (ce + q'.2.2.2.1) (sl + q'.2.2.2.2) (pc + 3) L (v.toList ++ rest)) : gw_W X σ ce sl pc L st := by
  obtain ⟨hc, -, hi, hs, r, hr, hry⟩ := k
  subst hst
  intro H locs ls hG hS hL T hT X0
  have hws := hX.2.2.2.2.1
  have hRm : X.1.2.2.2 = _ := hX.2.2.1.2.2.1
  obtain ⟨cellB, hcB, hoB, hclB⟩ := va_recv hX.2.2.2.2.2.1 (gw_one (hG.2.2 b _ hb).2) hr (q0 := 0) rfl
  rw [hry] at hclB
  obtain ⟨mk, methM, hnamed, hmethM, hstM, habM⟩ := Cond.instanceMethod_spec (hws _ hi)
  obtain ⟨methM', cM, hmethM', -, -, -, -, -, -, hsigM⟩ := Cond.code_spec hnamed (hws _ hc.1)
  cases hmethM.symm.trans hmethM'
  obtain ⟨c2, r2, m2, q1, q2, q3, q4, kP, hkP, hkPi⟩ := Cond.selects_spec (hws _ hs)
  cases hclB.symm.trans q1
  cases (State.methodFound?_of_named hnamed ⟨hc.2.2.1, hc.2.2.2.1⟩).symm.trans q2
  cases hnamed.symm.trans q3
  have hselP : selectMethod X.1.2.2.1.platform (gw_s X).vm cellB.cls mk = .method mk := by rw [Launch.admits_selectMethod X0.admits]; exact q4
  have hlen : As.length = methM.sig.parameters.length := by
    have h2 := hc.2.2.2.2
    rw [hsigM] at h2
    exact hn.trans (Option.some.inj h2).symm
  obtain ⟨vm₁, X₁, hstep₁⟩ := X0.invokevirtual hX.1 hX.2.2.2.1 (hws _ hlk) hnamed hmethM hstM hkP hkPi ⟨hc.2.2.1, hc.2.2.2.1⟩ (a := b) (cell := cellB) (by rw [hT]; exact hcB)
    (fun z h => by rw [h] at hoB; cases hoB) hselP hmethM habM hkP hkPi (g := F0 (gw_m X) pc ls (As.reverse ++ .ref b :: rest)) rfl (argsL := As) (rest := rest) hlen rfl (by rw [hX.2.1]; exact d)
  have hW₁ := X₁.warmed
  have hPc : gx_Pc (gw_z X) (gw_b X) σ (.ref b :: As) (Value.ref b :: As).toArray (T.setVm vm₁) := ⟨rfl, gw_K_warm hW₁ hX.2.2.2.2.2, by show gw_H _ _ _ T.heap; rw [hT]; exact hG, gx_env hK hb0 hS hT hW₁⟩
  rcases gx_run hM X₁ (g := { F0 (gw_m X) pc ls (As.reverse ++ .ref b :: rest) with stack := rest }) rfl (by rw [hX.2.2.1.1]; exact hL.1) (by rw [hX.2.1]; exact d) (lv_room hw) (X₁.named hnamed) (fun w hw9 => word_at hW₁ ((gw_cal_in hc) w hw9).2 (hws w ((gw_cal_in hc) w hw9).1)) (word_at hW₁ (gw_good _ hc.2.1) (hws _ hc.2.1)) hPc (by rw [hRm]; exact hR.1) (by rw [hRm]; exact hR.2) with ⟨v, σ', V, L', XV, hL', hp, hG', f1, f2, hsteps⟩ | ⟨x, E, cx, σ', V, L', XV, hL', hp, hG', f1, f2, hcx, hcv, hcl, hsteps⟩
  · have f1 : T.heap.size ≤ V.heap.size := f1
    have f2 : ∀ a : Nat, a < T.heap.size → ¬ gw_b X ≤ a → V.heap[a]? = T.heap[a]? := f2
    rw [hT] at f1 f2
    obtain ⟨t2, a1, b1⟩ := kk v σ' hp V.heap (locs ++ L') ls hG' ⟨Nat.le_trans hS.1 f1, fun a g1 g2 => (f2 a (Nat.lt_of_lt_of_le g1 hS.1) g2).trans (hS.2.1 a g1 g2), fun z hz => (List.mem_append.mp hz).elim (hS.2.2 z) (hL' z)⟩ hL V rfl XV
    exact ⟨t2, hstep₁ _ fun acts => by rw [doInvoke_state]; exact hsteps.trans a1, b1⟩
  · have f1 : T.heap.size ≤ V.heap.size := f1
    have f2 : ∀ a : Nat, a < T.heap.size → ¬ gw_b X ≤ a → V.heap[a]? = T.heap[a]? := f2
    rw [hT] at f1 f2
    have hcl9 : (gw_s X).vm.findClass E = some cx.cls := by
      have h9 := hcl
      rw [hW₁.alike.findClass] at h9
      exact h9
    obtain ⟨t2, a1, b1⟩ := kx E σ' hp V.heap (locs ++ L') ls hG' ⟨Nat.le_trans hS.1 f1, fun a g1 g2 => (f2 a (Nat.lt_of_lt_of_le g1 hS.1) g2).trans (hS.2.1 a g1 g2), fun z hz => (List.mem_append.mp hz).elim (hS.2.2 z) (hL' z)⟩ hL x cx hcx hcv hcl9 V rfl XV
    exact ⟨t2, hstep₁ _ fun acts => by rw [doInvoke_state]; exact hsteps.trans a1, b1⟩
theorem gx_callS (hX : gw_ok X cc own q) (hK : gx_K (gw_b X) (gw_s X)) (hb0 : gw_b X ≤ (gw_s X).heap.size) {idx n : Nat} {y : MethodName} {cb : ByteArray} {q' : gw_N} {ret : Option FieldType} (k : gw_sS own idx y cb q'.1 ret n) (hlk : Cond.methodLink own idx y ∈ gw_ws) {As rest : List Value} (hM : gx_M X.1.2.1 y cb q' ret (gw_z X) (gw_b X) σ As post px) (hn : As.length = n) (hst : st = As.reverse ++ rest) (hw : (rest.map fun v => v.category).sum ≤ 8) (d : decode cc pc = .ok (.invokestatic idx, 3)) (hR : gw_rm q q' ce sl)
    (kx : ∀ (E : String) (σ' : gw_S), px E σ' → gx_X X σ' (ce + q'.2.2.2.1) (sl + q'.2.2.2.2) pc L rest E)
    (kk : ∀ (v : Option Value) (σ' : gw_S), post v σ' → gw_W X σ' (ce + q'.2.2.2.1) (sl + q'.2.2.2.2) (pc + 3) L (v.toList ++ rest)) : gw_W X σ ce sl pc L st := by
  obtain ⟨hc, -, hs⟩ := k
  subst hst
  intro H locs ls hG hS hL T hT X0
  have hws := hX.2.2.2.2.1
  have hRm : X.1.2.2.2 = _ := hX.2.2.1.2.2.1
  obtain ⟨mk, hnamed⟩ := Cond.code_named (hws _ hc.1)
  obtain ⟨methM, cM, hmethM, -, -, -, -, -, -, hsigM⟩ := Cond.code_spec hnamed (hws _ hc.1)
  have hstatic : methM.isStatic = true := Cond.static_spec hnamed hmethM (hws _ hs)
  obtain ⟨kP, hkP, -⟩ := className_of_methodNamed hnamed
  have hinitP : kP.init = .initialized := Cond.initialized_spec (findClass_of_methodNamed hnamed) hkP (hws _ hc.2.1)
  have hlen : As.length = methM.sig.parameters.length := by
    have h2 := hc.2.2.2.2
    rw [hsigM] at h2
    exact hn.trans (Option.some.inj h2).symm
  obtain ⟨vm₁, X₁, hstep₁⟩ := X0.invokestatic hX.1 hX.2.2.2.1 (hws _ hlk) hnamed hmethM hstatic hkP hinitP ⟨hc.2.2.1, hc.2.2.2.1⟩ (g := F0 (gw_m X) pc ls (As.reverse ++ rest)) rfl (argsL := As) (rest := rest) hlen rfl (by rw [hX.2.1]; exact d)
  have hW₁ := X₁.warmed
  have hPc : gx_Pc (gw_z X) (gw_b X) σ As As.toArray (T.setVm vm₁) := ⟨rfl, gw_K_warm hW₁ hX.2.2.2.2.2, by show gw_H _ _ _ T.heap; rw [hT]; exact hG, gx_env hK hb0 hS hT hW₁⟩
  rcases gx_run hM X₁ (g := { F0 (gw_m X) pc ls (As.reverse ++ rest) with stack := rest }) rfl (by rw [hX.2.2.1.1]; exact hL.1) (by rw [hX.2.1]; exact d) (lv_room hw) (X₁.named hnamed) (fun w hw9 => word_at hW₁ ((gw_cal_in hc) w hw9).2 (hws w ((gw_cal_in hc) w hw9).1)) (word_at hW₁ (gw_good _ hc.2.1) (hws _ hc.2.1)) hPc (by rw [hRm]; exact hR.1) (by rw [hRm]; exact hR.2) with ⟨v, σ', V, L', XV, hL', hp, hG', f1, f2, hsteps⟩ | ⟨x, E, cx, σ', V, L', XV, hL', hp, hG', f1, f2, hcx, hcv, hcl, hsteps⟩
  · have f1 : T.heap.size ≤ V.heap.size := f1
    have f2 : ∀ a : Nat, a < T.heap.size → ¬ gw_b X ≤ a → V.heap[a]? = T.heap[a]? := f2
    rw [hT] at f1 f2
    obtain ⟨t2, a1, b1⟩ := kk v σ' hp V.heap (locs ++ L') ls hG' ⟨Nat.le_trans hS.1 f1, fun a g1 g2 => (f2 a (Nat.lt_of_lt_of_le g1 hS.1) g2).trans (hS.2.1 a g1 g2), fun z hz => (List.mem_append.mp hz).elim (hS.2.2 z) (hL' z)⟩ hL V rfl XV
    exact ⟨t2, hstep₁ _ fun acts => by rw [doInvoke_state]; exact hsteps.trans a1, b1⟩
  · have f1 : T.heap.size ≤ V.heap.size := f1
    have f2 : ∀ a : Nat, a < T.heap.size → ¬ gw_b X ≤ a → V.heap[a]? = T.heap[a]? := f2
    rw [hT] at f1 f2
    have hcl9 : (gw_s X).vm.findClass E = some cx.cls := by
      have h9 := hcl
      rw [hW₁.alike.findClass] at h9
      exact h9
    obtain ⟨t2, a1, b1⟩ := kx E σ' hp V.heap (locs ++ L') ls hG' ⟨Nat.le_trans hS.1 f1, fun a g1 g2 => (f2 a (Nat.lt_of_lt_of_le g1 hS.1) g2).trans (hS.2.1 a g1 g2), fun z hz => (List.mem_append.mp hz).elim (hS.2.2 z) (hL' z)⟩ hL x cx hcx hcv hcl9 V rfl XV
    exact ⟨t2, hstep₁ _ fun acts => by rw [doInvoke_state]; exact hsteps.trans a1, b1⟩
end GXC
end
section
/-! ===== a throw ===== -/
def gx_has (w : Cond) : Prop := w ∈ gw_ws ∨ w ∈ gx_tl ∨ w = .laysStatic Bundle.tN "UNASSIGNED_STACK" Bundle.steD ∨ w = .laysStatic Bundle.tN "SUPPRESSED_SENTINEL" Bundle.listD ∨ w = .isRef (.static Bundle.tN "UNASSIGNED_STACK" Bundle.steD) ∨ w = .isRef (.static Bundle.tN "SUPPRESSED_SENTINEL" Bundle.listD)
def gx_all : List Cond → Prop
  | [] => True
  | w :: r => gx_has w ∧ gx_all r
theorem gx_all_at : ∀ {ws : List Cond}, gx_all ws → ∀ w ∈ ws, gx_has w
  | [], _, _, h => by cases h
  | _ :: _, h, w, hw => (List.mem_cons.mp hw).elim (fun e => e ▸ h.1) (gx_all_at h.2 w)
def gx_up : List String := ["java/lang/RuntimeException", "java/lang/Exception"]
def gx_IA : String := "java/lang/IllegalArgumentException"
theorem gx_wIA : gx_all (Bundle.ownAtoms "LabelLearner" 69 gx_IA gx_up) := ⟨Or.inl (gw_in_t 10 (by decide +kernel) rfl), Or.inl (gw_in_t 332 (by decide +kernel) rfl), Or.inl (gw_in_t 341 (by decide +kernel) rfl), Or.inl (gw_in_t 345 (by decide +kernel) rfl), Or.inl (gw_in_t 348 (by decide +kernel) rfl), Or.inl (gw_in_t 350 (by decide +kernel) rfl), Or.inl (gw_in_t 333 (by decide +kernel) rfl), Or.inl (gw_in_t 334 (by decide +kernel) rfl), Or.inl (gw_in_t 22 (by decide +kernel) rfl), Or.inl (gw_in_t 23 (by decide +kernel) rfl), Or.inl (gw_in_t 335 (by decide +kernel) rfl), Or.inl (gw_in_t 340 (by decide +kernel) rfl), Or.inl (gw_in_t 346 (by decide +kernel) rfl), Or.inl (gw_in_t 366 (by decide +kernel) rfl), Or.inl (gw_in_t 322 (by decide +kernel) rfl), Or.inl (gw_in_t 367 (by decide +kernel) rfl), Or.inl (gw_in_t 324 (by decide +kernel) rfl), Or.inl (gw_in_t 368 (by decide +kernel) rfl), Or.inl (gw_in_t 326 (by decide +kernel) rfl), Or.inl (gw_in_t 336 (by decide +kernel) rfl), Or.inr (Or.inr (Or.inl rfl)), Or.inl (gw_in_t 338 (by decide +kernel) rfl), Or.inr (Or.inr (Or.inr (Or.inl rfl))), Or.inl (gw_in_t 328 (by decide +kernel) rfl), Or.inl (gw_in_t 362 (by decide +kernel) rfl), Or.inl (gw_in_t 363 (by decide +kernel) rfl), Or.inl (gw_in_t 365 (by decide +kernel) rfl), Or.inl (gw_in_t 328 (by decide +kernel) rfl), Or.inl (gw_in_t 353 (by decide +kernel) rfl), Or.inl (gw_in_t 354 (by decide +kernel) rfl), Or.inl (gw_in_t 355 (by decide +kernel) rfl), Or.inl (gw_in_t 356 (by decide +kernel) rfl), Or.inr (Or.inl (List.mem_filter.mpr ⟨List.mem_of_getElem? (show tables_1[314]? = _ by decide +kernel), rfl⟩)), Or.inl (gw_in_t 356 (by decide +kernel) rfl), Or.inl (gw_in_t 357 (by decide +kernel) rfl), Or.inl (gw_in_t 358 (by decide +kernel) rfl), Or.inl (gw_in_t 359 (by decide +kernel) rfl), Or.inr (Or.inl (List.mem_filter.mpr ⟨List.mem_of_getElem? (show tables_1[316]? = _ by decide +kernel), rfl⟩)), Or.inl (gw_in_t 359 (by decide +kernel) rfl), Or.inl (gw_in_t 360 (by decide +kernel) rfl), Or.inl (gw_in_t 361 (by decide +kernel) rfl), Or.inl (gw_in_t 362 (by decide +kernel) rfl), Or.inr (Or.inl (List.mem_filter.mpr ⟨List.mem_of_getElem? (show tables_1[318]? = _ by decide +kernel), rfl⟩)), Or.inl (gw_in_t 352 (by decide +kernel) rfl), Or.inl (gw_in_t 311 (by decide +kernel) rfl), Or.inr (Or.inl (List.mem_filter.mpr ⟨List.mem_of_getElem? (show tables_1[312]? = _ by decide +kernel), rfl⟩)), Or.inl (gw_in_t 319 (by decide +kernel) rfl), Or.inl (gw_in_t 320 (by decide +kernel) rfl), Or.inl (gw_in_t 321 (by decide +kernel) rfl), Or.inl (gw_in_t 323 (by decide +kernel) rfl), Or.inl (gw_in_t 325 (by decide +kernel) rfl), Or.inl (gw_in_t 327 (by decide +kernel) rfl), Or.inr (Or.inr (Or.inr (Or.inr (Or.inl rfl)))), Or.inr (Or.inr (Or.inr (Or.inr (Or.inr rfl)))), Or.inl (gw_in_t 331 (by decide +kernel) rfl), Or.inl (gw_in_t 330 (by decide +kernel) rfl), Or.inl (gw_in_t 329 (by decide +kernel) rfl), trivial⟩
def gx_IO : String := "java/lang/IndexOutOfBoundsException"
theorem gx_wIO : gx_all (Bundle.ownAtoms "LabelLearner" 103 gx_IO gx_up) := ⟨Or.inl (gw_in_t 10 (by decide +kernel) rfl), Or.inl (gw_in_t 332 (by decide +kernel) rfl), Or.inl (gw_in_t 341 (by decide +kernel) rfl), Or.inl (gw_in_t 345 (by decide +kernel) rfl), Or.inl (gw_in_t 348 (by decide +kernel) rfl), Or.inl (gw_in_t 350 (by decide +kernel) rfl), Or.inl (gw_in_t 333 (by decide +kernel) rfl), Or.inl (gw_in_t 334 (by decide +kernel) rfl), Or.inl (gw_in_t 22 (by decide +kernel) rfl), Or.inl (gw_in_t 23 (by decide +kernel) rfl), Or.inl (gw_in_t 335 (by decide +kernel) rfl), Or.inl (gw_in_t 340 (by decide +kernel) rfl), Or.inl (gw_in_t 346 (by decide +kernel) rfl), Or.inl (gw_in_t 366 (by decide +kernel) rfl), Or.inl (gw_in_t 322 (by decide +kernel) rfl), Or.inl (gw_in_t 367 (by decide +kernel) rfl), Or.inl (gw_in_t 324 (by decide +kernel) rfl), Or.inl (gw_in_t 368 (by decide +kernel) rfl), Or.inl (gw_in_t 326 (by decide +kernel) rfl), Or.inl (gw_in_t 336 (by decide +kernel) rfl), Or.inr (Or.inr (Or.inl rfl)), Or.inl (gw_in_t 338 (by decide +kernel) rfl), Or.inr (Or.inr (Or.inr (Or.inl rfl))), Or.inl (gw_in_t 328 (by decide +kernel) rfl), Or.inl (gw_in_t 362 (by decide +kernel) rfl), Or.inl (gw_in_t 363 (by decide +kernel) rfl), Or.inl (gw_in_t 365 (by decide +kernel) rfl), Or.inl (gw_in_t 328 (by decide +kernel) rfl), Or.inl (gw_in_t 421 (by decide +kernel) rfl), Or.inl (gw_in_t 422 (by decide +kernel) rfl), Or.inl (gw_in_t 423 (by decide +kernel) rfl), Or.inl (gw_in_t 356 (by decide +kernel) rfl), Or.inr (Or.inl (List.mem_filter.mpr ⟨List.mem_of_getElem? (show tables_1[314]? = _ by decide +kernel), rfl⟩)), Or.inl (gw_in_t 356 (by decide +kernel) rfl), Or.inl (gw_in_t 357 (by decide +kernel) rfl), Or.inl (gw_in_t 358 (by decide +kernel) rfl), Or.inl (gw_in_t 359 (by decide +kernel) rfl), Or.inr (Or.inl (List.mem_filter.mpr ⟨List.mem_of_getElem? (show tables_1[316]? = _ by decide +kernel), rfl⟩)), Or.inl (gw_in_t 359 (by decide +kernel) rfl), Or.inl (gw_in_t 360 (by decide +kernel) rfl), Or.inl (gw_in_t 361 (by decide +kernel) rfl), Or.inl (gw_in_t 362 (by decide +kernel) rfl), Or.inr (Or.inl (List.mem_filter.mpr ⟨List.mem_of_getElem? (show tables_1[318]? = _ by decide +kernel), rfl⟩)), Or.inl (gw_in_t 420 (by decide +kernel) rfl), Or.inl (gw_in_t 411 (by decide +kernel) rfl), Or.inr (Or.inl (List.mem_filter.mpr ⟨List.mem_of_getElem? (show tables_1[412]? = _ by decide +kernel), rfl⟩)), Or.inl (gw_in_t 413 (by decide +kernel) rfl), Or.inl (gw_in_t 344 (by decide +kernel) rfl), Or.inl (gw_in_t 414 (by decide +kernel) rfl), Or.inl (gw_in_t 415 (by decide +kernel) rfl), Or.inl (gw_in_t 416 (by decide +kernel) rfl), Or.inl (gw_in_t 417 (by decide +kernel) rfl), Or.inr (Or.inr (Or.inr (Or.inr (Or.inl rfl)))), Or.inr (Or.inr (Or.inr (Or.inr (Or.inr rfl)))), Or.inl (gw_in_t 331 (by decide +kernel) rfl), Or.inl (gw_in_t 330 (by decide +kernel) rfl), Or.inl (gw_in_t 418 (by decide +kernel) rfl), trivial⟩
def gx_IS : String := "java/lang/IllegalStateException"
theorem gx_wIS : gx_all (Bundle.ownAtoms "LabelLearner" 126 gx_IS gx_up) := ⟨Or.inl (gw_in_t 10 (by decide +kernel) rfl), Or.inl (gw_in_t 332 (by decide +kernel) rfl), Or.inl (gw_in_t 341 (by decide +kernel) rfl), Or.inl (gw_in_t 345 (by decide +kernel) rfl), Or.inl (gw_in_t 348 (by decide +kernel) rfl), Or.inl (gw_in_t 350 (by decide +kernel) rfl), Or.inl (gw_in_t 333 (by decide +kernel) rfl), Or.inl (gw_in_t 334 (by decide +kernel) rfl), Or.inl (gw_in_t 22 (by decide +kernel) rfl), Or.inl (gw_in_t 23 (by decide +kernel) rfl), Or.inl (gw_in_t 335 (by decide +kernel) rfl), Or.inl (gw_in_t 340 (by decide +kernel) rfl), Or.inl (gw_in_t 346 (by decide +kernel) rfl), Or.inl (gw_in_t 366 (by decide +kernel) rfl), Or.inl (gw_in_t 322 (by decide +kernel) rfl), Or.inl (gw_in_t 367 (by decide +kernel) rfl), Or.inl (gw_in_t 324 (by decide +kernel) rfl), Or.inl (gw_in_t 368 (by decide +kernel) rfl), Or.inl (gw_in_t 326 (by decide +kernel) rfl), Or.inl (gw_in_t 336 (by decide +kernel) rfl), Or.inr (Or.inr (Or.inl rfl)), Or.inl (gw_in_t 338 (by decide +kernel) rfl), Or.inr (Or.inr (Or.inr (Or.inl rfl))), Or.inl (gw_in_t 328 (by decide +kernel) rfl), Or.inl (gw_in_t 362 (by decide +kernel) rfl), Or.inl (gw_in_t 363 (by decide +kernel) rfl), Or.inl (gw_in_t 365 (by decide +kernel) rfl), Or.inl (gw_in_t 328 (by decide +kernel) rfl), Or.inl (gw_in_t 467 (by decide +kernel) rfl), Or.inl (gw_in_t 468 (by decide +kernel) rfl), Or.inl (gw_in_t 469 (by decide +kernel) rfl), Or.inl (gw_in_t 356 (by decide +kernel) rfl), Or.inr (Or.inl (List.mem_filter.mpr ⟨List.mem_of_getElem? (show tables_1[314]? = _ by decide +kernel), rfl⟩)), Or.inl (gw_in_t 356 (by decide +kernel) rfl), Or.inl (gw_in_t 357 (by decide +kernel) rfl), Or.inl (gw_in_t 358 (by decide +kernel) rfl), Or.inl (gw_in_t 359 (by decide +kernel) rfl), Or.inr (Or.inl (List.mem_filter.mpr ⟨List.mem_of_getElem? (show tables_1[316]? = _ by decide +kernel), rfl⟩)), Or.inl (gw_in_t 359 (by decide +kernel) rfl), Or.inl (gw_in_t 360 (by decide +kernel) rfl), Or.inl (gw_in_t 361 (by decide +kernel) rfl), Or.inl (gw_in_t 362 (by decide +kernel) rfl), Or.inr (Or.inl (List.mem_filter.mpr ⟨List.mem_of_getElem? (show tables_1[318]? = _ by decide +kernel), rfl⟩)), Or.inl (gw_in_t 466 (by decide +kernel) rfl), Or.inl (gw_in_t 457 (by decide +kernel) rfl), Or.inr (Or.inl (List.mem_filter.mpr ⟨List.mem_of_getElem? (show tables_1[458]? = _ by decide +kernel), rfl⟩)), Or.inl (gw_in_t 459 (by decide +kernel) rfl), Or.inl (gw_in_t 343 (by decide +kernel) rfl), Or.inl (gw_in_t 460 (by decide +kernel) rfl), Or.inl (gw_in_t 461 (by decide +kernel) rfl), Or.inl (gw_in_t 462 (by decide +kernel) rfl), Or.inl (gw_in_t 463 (by decide +kernel) rfl), Or.inr (Or.inr (Or.inr (Or.inr (Or.inl rfl)))), Or.inr (Or.inr (Or.inr (Or.inr (Or.inr rfl)))), Or.inl (gw_in_t 331 (by decide +kernel) rfl), Or.inl (gw_in_t 330 (by decide +kernel) rfl), Or.inl (gw_in_t 464 (by decide +kernel) rfl), trivial⟩
def gx_site (ic ik : Nat) (E : String) : Prop := Bundle.fit E = true ∧ gx_all (Bundle.ownAtoms "LabelLearner" ic E gx_up) ∧ Cond.classLink "LabelLearner" ik E ∈ gw_ws ∧ Cond.instantiable E 6 ∈ gw_ws ∧ Cond.initialized E ∈ gw_ws
theorem gx_sIA : gx_site 69 65 gx_IA := ⟨by decide, gx_wIA, gw_in_t 310 (by decide +kernel) rfl, gw_in_t 311 (by decide +kernel) rfl, gw_in_t 13 (by decide +kernel) rfl⟩
theorem gx_sIO : gx_site 103 99 gx_IO := ⟨by decide, gx_wIO, gw_in_t 410 (by decide +kernel) rfl, gw_in_t 411 (by decide +kernel) rfl, gw_in_t 14 (by decide +kernel) rfl⟩
theorem gx_sIS : gx_site 126 122 gx_IS := ⟨by decide, gx_wIS, gw_in_t 456 (by decide +kernel) rfl, gw_in_t 457 (by decide +kernel) rfl, gw_in_t 15 (by decide +kernel) rfl⟩
section GXD
variable {p : Program} {l : Launch} {e : Env} {R : Room} {s : State} {m : MethodId} {args : Array Value} {below : List Frame} {meth : Method} {c : Code} {T : State} {locs : List Loc} {cells slots : Nat}
/-- the same walk, as if the method had begun in the present heap -/
def gx_now (s T : State) : State := { s with heap := T.heap, slotsUsed := T.slotsUsed }
theorem gx_rebase (X : Stand p l e R s m args below meth c T locs cells slots) (h1 : cells ≤ R.cells) (h2 : slots ≤ R.slots) :
    Stand p l e { R with cells := R.cells - cells, slots := R.slots - slots } (gx_now s T) m args below meth c T [] 0 0 := by
  have hb := X.book
  have h3 := X.heapSize
  have h4 := X.used
  refine ⟨X.admits, X.cas, X.clock, X.frames, ?_, X.hears, X.method, X.code, X.here, X.tail, X.warmed, X.limits, X.bytes, ?_⟩
  · have hr := X.room
    simp only [State.hasRoom, Bool.and_eq_true, decide_eq_true_eq] at hr ⊢
    obtain ⟨⟨⟨⟨r1, r2⟩, r3⟩, r4⟩, r5⟩ := hr
    refine ⟨⟨⟨⟨r1, r2⟩, ?_⟩, ?_⟩, hb⟩
    · show T.heap.size + (R.cells - cells) ≤ _
      omega
    · show T.slotsUsed + (R.slots - slots) ≤ _
      omega
  · refine ⟨X.same.1, Nat.le_refl _, Nat.le_refl _, ?_, ?_, fun a c9 h => ⟨c9, h, rfl, rfl, fun _ _ => rfl⟩⟩
    · show T.slotsUsed = T.slotsUsed + ((T.heap.toList.drop T.heap.size).map (·.slots.size)).sum
      rw [show T.heap.toList.drop T.heap.size = [] from List.drop_eq_nil_of_le (by simp)]
      rfl
    · show ((T.heap.toList.drop T.heap.size).map (·.slots.size)).sum ≤ 0
      rw [show T.heap.toList.drop T.heap.size = [] from List.drop_eq_nil_of_le (by simp)]
      exact Nat.le_refl 0
theorem gx_rejoin (X : Stand p l e R s m args below meth c T locs cells slots) {U : State} {L' : List Loc} {c1 s1 : Nat} (h : (gx_now s T).sameButNew ({ U with vm := (gx_now s T).vm } : State) L' c1 s1) :
    s.sameButNew ({ U with vm := s.vm } : State) (locs ++ L') (cells + c1) (slots + s1) := by
  refine X.same.trans ⟨?_, h.2⟩
  refine h.1.trans (congrArg (fun z : State => ({ z with heap := U.heap, slotsUsed := U.slotsUsed } : State)) (?_ : (gx_now s T).setFrames U.frames = (T.setVm s.vm).setFrames U.frames))
  have h3 : T.setVm s.vm = (gx_now s T).setFrames T.frames := X.same.1
  rw [h3, State.setFrames_setFrames]
theorem gx_dup {cc : ByteArray} {pc : Nat} {ls : Array Slot} {va : Value} {rest : List Value} {t : State} (X : Stand p l e R s m args below meth c T locs cells slots) (hexec : p.tables.exec = Jvm.exec) (hb : c.code = cc) (hdg : decode cc pc = .ok (.dup, 1)) (hva : va.category = 1)
    (a : Steps p.tables e below (T.setTop (F0 m (pc + 1) ls (va :: va :: rest))) t) : Steps p.tables e below (T.setTop (F0 m pc ls (va :: rest))) t := by
  jvm_step X.here [X.here.top, hexec, hb, hdg, hva]
  exact a
end GXD
section GXE
variable {X : gw_C} {cc : ByteArray} {q : gw_N} {σ : gw_S} {ce sl pc : Nat} {L : List (Nat × Value)} {post : Option Value → gw_S → Prop} {px : String → gw_S → Prop} {mc ms : Nat}
theorem gx_words {b0 : Nat} {A : Array Value} {U : State} (hw : ∀ w ∈ gw_ws, w.before A U = true) (hE : gx_K b0 U) {w : Cond} (h : gx_has w) : w.before A U = true := by
  rcases h with h | h | rfl | rfl | rfl | rfl
  · exact hw w h
  · have h2 : gx_isT w = true := (List.mem_filter.mp h).2
    have h3 := hE.2.2.1 w h
    cases w with
    | castable a b => exact va_Nw.use rfl h3
    | declares x => exact va_Nw.use rfl h3
    | _ => cases h2
  · exact gx_S_lays hE.1 _
  · exact gx_S_lays hE.2.1 _
  · exact gx_S_ref hE.1 _
  · exact gx_S_ref hE.2.1 _
theorem gx_throw (hX : gw_ok X cc "LabelLearner" q) (hE : gx_ok X) (hQ : X.2.2.2.2 = gx_end X post px mc ms) {ic ik sn : Nat} {E tx : String} (hs : gx_site ic ik E) (hsn : (sn, tx) ∈ gx_sl) (d0 : decode cc pc = .ok (.new ik, 3)) (d1 : decode cc (pc + 3) = .ok (.dup, 1)) (d2 : decode cc (pc + 4) = .ok (.ldc sn, 2)) (d3 : decode cc (pc + 6) = .ok (.invokespecial ic, 3)) (d4 : decode cc (pc + 9) = .ok (.athrow, 1))
    (hf : 5 < q.2.1) (hl : 85 ≤ q.2.2.1) (hc : ce + 1 ≤ mc) (hs2 : sl + 6 ≤ ms) (hc1 : mc ≤ q.2.2.2.1) (hs1 : ms ≤ q.2.2.2.2) (hp : px E (σ.1 + 1, σ.2)) : gw_W X σ ce sl pc L [] := by
  have hb0 := hE.2.2.2
  intro H locs ls hG hS hL T hT X0
  have hRm : X.1.2.2.2 = _ := hX.2.2.1.2.2.1
  have Y0 := gx_rebase X0 (by rw [hRm]; show ce ≤ q.2.2.2.1; omega) (by rw [hRm]; show sl ≤ q.2.2.2.2; omega)
  have hWn : (gw_s X).WarmedH (gx_now (gw_s X) T).vm := State.WarmedH.refl _
  have hw : ∀ w ∈ gw_ws, w.before (gw_a X) (gx_now (gw_s X) T) = true := fun w h9 => word_at (U := gx_now (gw_s X) T) hWn (gw_good w h9) (hX.2.2.2.2.1 w h9)
  have hK : gx_K (gw_b X) (gx_now (gw_s X) T) := gx_K_mv hWn (fun a ha => by show T.heap[a]? = _; rw [hT]; exact hS.2.1 a (by omega) (by omega)) hE.1
  obtain ⟨vm', cC, kC, hfc, hkC, -, -, X1, st1⟩ := Y0.newCold hX.1 hX.2.2.2.1 (hw _ hs.2.2.1) (hw _ hs.2.2.2.1) (hw _ hs.2.2.2.2) (g := F0 (gw_m X) pc ls []) rfl (by rw [hX.2.1]; exact d0) (by rw [hRm]; show 0 + 1 ≤ q.2.2.2.1 - ce; omega) (by rw [hRm]; show 0 + 6 ≤ q.2.2.2.2 - sl; omega)
  obtain ⟨sa, hsa⟩ := hK.2.2.2.1 _ hsn
  have hsz : T.heap.size = σ.1 := by rw [hT]; exact hG.1
  have st2 := fun target => Stand.ldcString X1 hX.1 hX.2.2.2.1 (args := gw_a X) (text := tx) (index := sn) (a := sa) hsa.1 hsa.2 (g := F0 (gw_m X) (pc + 4) ls [.ref T.heap.size, .ref T.heap.size]) rfl (by rw [hX.2.1]; exact d2) target
  obtain ⟨U, st3, hrun, hend, hW, hsm, cx, hcx, hoc⟩ := X1.ctorThrowS hX.1 (by rw [X0.admits.platform]; exact hE.2.1) hX.2.2.2.1 (names := gx_up) (cls := E) (ic := ic) hs.1 (by decide) (fun w hw9 => gx_words hw hK (gx_all_at hs.2.1 w hw9)) (fun z hz => by cases hz) hfc hkC (a := T.heap.size) (State.heap_pushCell_size (T.setVm vm') _) (Nat.le_refl _) (msg := .ref sa) rfl (g := F0 (gw_m X) (pc + 6) ls [.ref sa, .ref T.heap.size, .ref T.heap.size]) rfl (by rw [hX.2.2.1.1]; exact hL.1) rfl rfl (rest := []) rfl (by rw [hX.2.1]; exact d3) (by rw [hX.2.1]; exact d4) (fun z hz => (hE.2.2.1 z hz).elim) (by rw [hRm]; show 2 + 3 < q.2.1; omega) (by rw [hRm]; show 2 * 0 + 1 + (13 * (2 + 1) + 42) ≤ q.2.2.1; omega) hX.2.2.1.2.2.2
  have hk : ∀ a : Nat, a < T.heap.size → U.heap[a]? = T.heap[a]? := by
    intro a ha
    obtain ⟨c9, hc9⟩ : ∃ c9, T.heap[a]? = some c9 := ⟨_, Array.getElem?_eq_getElem ha⟩
    obtain ⟨c8, e1, e2, e3, e4⟩ := hsm.2.2.2.2.2 a c9 hc9
    have e1 : U.heap[a]? = some c8 := e1
    rw [e1, hc9, e2, show c8.slots = c9.slots from Array.ext_getElem? fun i => e4 i (by simp)]
  have hU : U.heap.size = T.heap.size + 1 := by
    have e1 : U.heap.size ≤ T.heap.size + (0 + 1) := hsm.2.2.1
    have e2 := (Array.getElem?_eq_some_iff.mp hcx).1
    omega
  refine ⟨U, st1 _ ?_, ?_⟩
  · show Steps _ _ _ (((T.setVm vm').pushCell { cls := cC, slots := kC.instanceTypes.map defaultValue, vm := .none }).setTop (F0 (gw_m X) (pc + 3) ls [.ref T.heap.size])) U
    have h9 := st2 _ st3
    exact gx_dup X1 hX.1 hX.2.1 d1 rfl h9
  · rw [hQ]
    have hcl : (gw_s X).vm.findClass E = some cx.cls := hoc.cls
    refine ⟨.threw T.heap.size, hrun, hend, Or.inr ⟨T.heap.size, E, cx, locs ++ [], (σ.1 + 1, σ.2), rfl, hp, ⟨by rw [hU, hsz], ⟨Nat.le_succ_of_le hG.2.1.1, fun a cell ha hcell => ?_⟩, fun a e9 he9 => ?_⟩, ⟨?_, fun a g1 g2 => ?_⟩, hcx, hoc.vm, hcl, hW, (gx_rejoin X0 hsm).mono (by omega) (by omega), fun z hz => ?_⟩⟩
    · by_cases h9 : a = T.heap.size
      · subst h9
        cases hcx.symm.trans hcell
        rw [hoc.vm]; rfl
      · have h8 := (Array.getElem?_eq_some_iff.mp hcell).1
        exact hG.2.1.2 a cell ha (by rw [← hT, ← hk a (by omega)]; exact hcell)
    · have h8 := gw_H_lt hG he9
      exact ⟨(hG.2.2 a e9 he9).1, (hG.2.2 a e9 he9).2.kept (by rw [hk a (by omega), hT])⟩
    · show (gw_s X).heap.size ≤ U.heap.size
      have := hS.1
      rw [← hT] at this
      omega
    · show U.heap[a]? = _
      have := hS.1
      rw [← hT] at this
      rw [hk a (Nat.lt_of_lt_of_le g1 this), hT]
      exact hS.2.1 a g1 g2
    · rw [List.append_nil] at hz
      exact hS.2.2 z hz
end GXE
end
section
/-! ===== a catch whose class is resolved only then ===== -/
section GXF
theorem gx_go {e : Env} {s : State} {f : JFrame} {a : Addr} {x : ExceptionTableEntry} {t : List ExceptionTableEntry} {c : ClassId} {cell : Cell} {vm' : Vm} (hx : covers x f.pc = true) (h0 : x.catchType ≠ 0)
    (hg : (Jvm.resolveClass f.method.cls x.catchType).Gives e.toSetting s.vm (.ok c) vm') (hsz : vm'.classes.size ≤ s.vm.classes.size) (hcell : s.heap[a]? = some cell) (hobj : ∀ k, cell.vm ≠ .statics k)
    (hk : ∃ k, vm'.classes[cell.cls]? = some k) (hc : ∃ k, vm'.classes[c]? = some k) (Q : Handler → Pre) (E : CtlPost) (d : Bool) (acts : List Action) :
    wp (findHandler.go f a (x :: t)) Q E e d acts s ↔
      if vm'.assignable cell.cls c = true then Q (.found x.handlerPc) d acts (s.setVm vm') else wp (findHandler.go f a t) Q E e d acts (s.setVm vm') := by
  simp only [covers] at hx
  obtain ⟨ha, ht⟩ := hg.op (op := VmOp.resolveClass f.method.cls x.catchType) rfl
  have hcell' : (s.setVm vm').heap[a]? = some cell := hcell
  cases hfit : vm'.assignable cell.cls c <;>
    simp [findHandler.go, hx, h0, ha, ht, hsz, hcell, hcell', hobj, hk, hc, hfit, VmOp.dirties, VmOp.acts]
theorem gx_stepC {e : Env} {s s' : State} {a : Addr} {f : JFrame} {r : List Frame} {pc : Nat} (hfind : ∀ (Q : Handler → Pre) (E : CtlPost) (d : Bool) (acts : List Action), wp (findHandler f a) Q E e d acts s ↔ Q (.found pc) d acts s') :
    (stepThrowing e s a (.java f :: r)).Is (s'.setFrames (.java { f with pc := pc, stack := [.ref a] } :: r)) [] := by
  simp only [stepThrowing, searchFrame, vmDo]
  generalize hr : Sem.go _ e false [] s = res
  obtain ⟨as, rfl, ha⟩ := Sem.eq_ok_of hr (a := Handler.found pc) (s' := s') (acts' := []) (by simp [hfind _ _ _ _])
  exact ⟨rfl, ha⟩
theorem gx_caught {tb : Tables} {e : Env} {s target : State} {g : JFrame} {c : Code} {below : List Frame} {a : Addr} (h : At s g.method c below) {pc : Nat} {vm' : Vm} (hfind : ∀ (Q : Handler → Pre) (E : CtlPost) (d : Bool) (acts : List Action), wp (findHandler g a) Q E e d acts ((s.setTop g).pushFrame (.throwing a)) ↔ Q (.found pc) d acts (((s.setTop g).pushFrame (.throwing a)).setVm vm'))
    (hrest : Steps tb e below ((s.setVm vm').setTop { g with pc := pc, stack := [.ref a] }) target) :
    Steps tb e below ((s.setTop g).pushFrame (.throwing a)) target := by
  obtain ⟨hgo, hw⟩ := h.throwing a
  refine Steps.head hgo hw ?_
  rw [stepThread_throwing (frames_entered h.top _), (gx_stepC (s := (s.setTop g).pushFrame (.throwing a)) hfind).1]
  obtain ⟨g₀, hg⟩ := Option.isSome_iff_exists.mp h.top
  obtain ⟨r, hr⟩ := State.topJava?_eq_some.mp hg
  have e1 : (((s.setTop g).pushFrame (.throwing a)).setVm vm') = (((s.setVm vm').setTop g).pushFrame (.throwing a)) := by
    rw [State.setTop_of_frames _ hr, State.setTop_of_frames (s := s.setVm vm') _ hr]
    rfl
  have hr' : (s.setVm vm').frames = .java g₀ :: r := hr
  rw [e1, State.pushFrame, State.setFrames_setFrames, State.setTop_of_frames _ hr', State.setFrames_setFrames]
  rw [State.setTop_of_frames _ hr'] at hrest
  rw [hr]
  exact hrest
variable {p : Program} {l : Launch} {e : Env} {R : Room} {s : State} {m : MethodId} {args : Array Value} {below : List Frame} {meth : Method} {c : Code} {T : State} {locs : List Loc} {cells slots : Nat}
/-- the class of a row, resolved at the latest now -/
theorem gx_rowC (X : Stand p l e R s m args below meth c T locs cells slots) {own E : String} {idx : Nat} (hown : s.vm.findClass own = some m.cls) (hcl : (Cond.classLink own idx E).before args s = true) :
    ∃ (cC : ClassId) (vm' : Vm), s.vm.findClass E = some cC ∧ (Jvm.resolveClass m.cls idx).Gives e.toSetting T.vm (.ok cC) vm' ∧ vm'.classes.size ≤ T.vm.classes.size ∧ s.WarmedH vm' := by
  have hpl : e.platform.magicAccessors = ({} : Platform).magicAccessors := by rw [X.admits.platform]
  obtain ⟨cc, hfcc, hcl⟩ := Cond.classLink_spec hown hcl e.platform hpl
  obtain ⟨hg₁, hwarm₁, hready₁⟩ := State.classEntry (e := e) X.warmed hcl
  exact ⟨cc, _, hfcc, hg₁, by first | no_record | simp [Vm.noted], hwarm₁⟩
theorem gx_catch1 (X : Stand p l e R s m args below meth c T locs cells slots) {own E : String} {idx : Nat} (hown : s.vm.findClass own = some m.cls) (hcl : (Cond.classLink own idx E).before args s = true) {x : ExceptionTableEntry} {rest : List ExceptionTableEntry} (htab : c.exceptionTable.toList = x :: rest)
    {g : JFrame} (hg : g.method = m) (hx : covers x g.pc = true) (h0 : x.catchType ≠ 0) (hi : x.catchType = idx) {a : Addr} {cell : Cell} (hcell : T.heap[a]? = some cell) (hv : cell.vm = .none) (hc : s.vm.findClass E = some cell.cls) :
    ∃ vm', Stand p l e R s m args below meth c (T.setVm vm') locs cells slots ∧ ∀ target, Steps p.tables e below ((T.setVm vm').setTop { g with pc := x.handlerPc, stack := [.ref a] }) target → Steps p.tables e below ((T.setTop g).pushFrame (.throwing a)) target := by
  subst hi
  obtain ⟨cC, vm', hf, hgv, hsz, hW⟩ := gx_rowC X hown hcl
  cases hf.symm.trans hc
  obtain ⟨k0, hk0⟩ := Vm.classAt_of_findClass hf
  obtain ⟨k1, hk1, -⟩ := hW.alike.2.2 _ _ hk0
  refine ⟨vm', X.noted hW, fun target hrest => ?_⟩
  have h : At T g.method c below := by rw [hg]; exact X.here
  refine gx_caught h (vm' := vm') (pc := x.handlerPc) (fun Q E d acts => ?_) hrest
  have hm : ((T.setTop g).pushFrame (.throwing a)).vm.method? g.method = some meth := by rw [hg]; exact X.method'
  rw [W.findHandler_eq hm X.code, htab, gx_go (s := (T.setTop g).pushFrame (.throwing a)) hx h0 (by rw [hg]; exact hgv) hsz (show ((T.setTop g).pushFrame (.throwing a)).heap[a]? = some cell from hcell) (fun k h9 => by rw [hv] at h9; cases h9) ⟨_, hk1⟩ ⟨_, hk1⟩, if_pos (va_asg _ _)]
theorem gx_catch2 (X : Stand p l e R s m args below meth c T locs cells slots) {own E E' : String} {idx idx' : Nat} (hown : s.vm.findClass own = some m.cls) (hcl' : (Cond.classLink own idx' E').before args s = true) (hcl : (Cond.classLink own idx E).before args s = true) {x x' : ExceptionTableEntry} {rest : List ExceptionTableEntry} (htab : c.exceptionTable.toList = x' :: x :: rest)
    {g : JFrame} (hg : g.method = m) (hx : covers x g.pc = true) (h0 : x.catchType ≠ 0) (hi : x.catchType = idx) (hx' : covers x' g.pc = true) (h0' : x'.catchType ≠ 0) (hi' : x'.catchType = idx') {a : Addr} {cell : Cell} (hcell : T.heap[a]? = some cell) (hv : cell.vm = .none) (hc : s.vm.findClass E = some cell.cls) (hno : ∀ c', s.vm.findClass E' = some c' → s.vm.assignable cell.cls c' = false) :
    ∃ vm', Stand p l e R s m args below meth c (T.setVm vm') locs cells slots ∧ ∀ target, Steps p.tables e below ((T.setVm vm').setTop { g with pc := x.handlerPc, stack := [.ref a] }) target → Steps p.tables e below ((T.setTop g).pushFrame (.throwing a)) target := by
  subst hi; subst hi'
  obtain ⟨cC', vm1, hf', hgv', hsz', hW'⟩ := gx_rowC X hown hcl'
  have X1 := X.noted hW'
  obtain ⟨cC, vm', hf, hgv, hsz, hW⟩ := gx_rowC X1 hown hcl
  cases hf.symm.trans hc
  obtain ⟨k0, hk0⟩ := Vm.classAt_of_findClass hf
  obtain ⟨k1, hk1, -⟩ := hW.alike.2.2 _ _ hk0
  obtain ⟨k2, hk2, -⟩ := hW'.alike.2.2 _ _ hk0
  obtain ⟨k3, hk3⟩ := Vm.classAt_of_findClass hf'
  obtain ⟨k4, hk4, -⟩ := hW'.alike.2.2 _ _ hk3
  refine ⟨vm', X.noted hW, fun target hrest => ?_⟩
  have h : At T g.method c below := by rw [hg]; exact X.here
  refine gx_caught h (vm' := vm') (pc := x.handlerPc) (fun Q E d acts => ?_) hrest
  have hm : ((T.setTop g).pushFrame (.throwing a)).vm.method? g.method = some meth := by rw [hg]; exact X.method'
  have hn : vm1.assignable cell.cls cC' = false := by rw [hW'.alike.assignable]; exact hno _ hf'
  rw [W.findHandler_eq hm X.code, htab, gx_go (s := (T.setTop g).pushFrame (.throwing a)) hx' h0' (by rw [hg]; exact hgv') hsz' (show ((T.setTop g).pushFrame (.throwing a)).heap[a]? = some cell from hcell) (fun k h9 => by rw [hv] at h9; cases h9) ⟨_, hk2⟩ ⟨_, hk4⟩, if_neg (by rw [hn]; decide),
    gx_go (s := ((T.setTop g).pushFrame (.throwing a)).setVm vm1) hx h0 (by rw [hg]; exact hgv) hsz (show (((T.setTop g).pushFrame (.throwing a)).setVm vm1).heap[a]? = some cell from hcell) (fun k h9 => by rw [hv] at h9; cases h9) ⟨_, hk1⟩ ⟨_, hk1⟩, if_pos (va_asg _ _)]
  rfl
end GXF
end
section
/-! ===== the law's helpers, that catch ===== -/
def gy_M (l : Launch) (y : MethodName) (cc : ByteArray) (q : gw_N) (ret : Option FieldType) (hh : List (Nat × Nat × Nat × Nat)) (Z : gw_Z) (b0 : Nat) (σ : gw_S) (av : List Value) (post : Option Value → gw_S → Prop) (px : String → gw_S → Prop) : Prop :=
  MetFree l y (headSpec (.codeWith y cc q.1 ret hh :: gw_ws) { frames := q.2.1, cells := q.2.2.2.1, slots := q.2.2.2.2, locals := q.2.2.1 }) (gx_Pc Z b0 σ av) (fun _ _ _ _ _ => True) (gx_Q Z b0 post px q.2.2.2.1 q.2.2.2.2)
def gy_ok (X : gw_C) (hh : List (Nat × Nat × Nat × Nat)) : Prop := gx_K (gw_b X) (gw_s X) ∧ X.1.2.1.stackTraces = false ∧ X.2.2.1.2.exceptionTable.toList = tableOf hh ∧ gw_b X ≤ (gw_s X).heap.size
theorem gy_M_of {hh : List (Nat × Nat × Nat × Nat)} {l : Launch} {y : MethodName} {cc : ByteArray} {q : gw_N} {ret : Option FieldType} {Z : gw_Z} {b0 : Nat} {σ : gw_S} {av : List Value} {post : Option Value → gw_S → Prop} {px : String → gw_S → Prop} (hy : plainName y.cls = true) (ha : (lg_sl av).length ≤ q.1) (hl0 : l.stackTraces = false)
    (body : ∀ X : gw_C, gw_ok X cc y.cls q → X.1.2.1 = l → gw_z X = Z → gw_b X = b0 → X.2.2.1.1.sig.returnType = ret → X.2.2.1.1.name = y.name → X.2.2.2.2 = gx_end X post px q.2.2.2.1 q.2.2.2.2 → gy_ok X hh → gw_W X σ 0 0 0 (lv_args 0 av) []) : gy_M l y cc q ret hh Z b0 σ av post px := by
  refine MetFree.of_bodyS (code := cc) (maxLocals := q.1) (ret := ret) hy ?_ ?_
  · intro args s m h hn
    obtain ⟨m9, meth, c, hn9, h1, h2, h3, h4, -, h5, h6, -⟩ := Cond.codeWith_spec (atoms_spec (ws := .codeWith y cc q.1 ret hh :: gw_ws) h _ List.mem_cons_self)
    cases hn.symm.trans hn9
    exact ⟨meth, c, h1, h2, h3, h4, h5, h6⟩
  · intro p e s m args below meth c s₁ B hml hv _
    obtain ⟨rfl, hK, hG, hK9⟩ := hv
    have hts := atoms_spec (ws := .codeWith y cc q.1 ret hh :: gw_ws) B.pre
    have hl := lv_entry av (n := q.1) ha
    have hh0 : s₁.heap = s.heap := by rw [B.state]; rfl
    have htab : c.exceptionTable.toList = tableOf hh := by
      obtain ⟨m9, meth9, c9, hn9, h1, h2, -, -, h7, -, -, -⟩ := Cond.codeWith_spec (hts _ List.mem_cons_self)
      cases B.named.symm.trans hn9
      cases Option.some.inj (h1.symm.trans B.method)
      cases Option.some.inj (h2.symm.trans (Stand.of_body B).code)
      rw [← h7, table_eq]
    have h9 := body ((p, l, e, { frames := q.2.1, cells := q.2.2.2.1, slots := q.2.2.2.2, locals := q.2.2.1 }), (s, m, av.toArray, below), (meth, c), (Z, b0, q.1), fun t => ∃ o, t.status = .running ∧ Ended t below o ∧ gx_Q Z b0 post px q.2.2.2.1 q.2.2.2.2 av.toArray s o t)
      ⟨B.exec, B.bytes, ⟨hml, rfl, rfl, B.notSynchronized⟩, findClass_of_methodNamed B.named, fun w hw => hts w (List.mem_cons_of_mem _ hw), hK⟩ rfl rfl rfl B.returns (name_of_methodNamed B.named B.method).1 rfl ⟨hK9, hl0, htab, by show b0 ≤ s.heap.size; rw [hG.1]; exact hG.2.1.1⟩ s.heap [] _ hG va_S.rf hl
    rw [← lg_entry_eq] at h9
    obtain ⟨t, a1, o, b1, b2, b3⟩ := h9 s₁ hh0 (Stand.of_body B)
    exact ⟨t, o, a1, b1, b2, b3⟩
def gy_cal (y : MethodName) (cc : ByteArray) (maxL : Nat) (ret : Option FieldType) (hh : List (Nat × Nat × Nat × Nat)) (n : Nat) : Prop := Cond.codeWith y cc maxL ret hh ∈ gw_ws ∧ Cond.initialized y.cls ∈ gw_ws ∧ y.cls ≠ "java/lang/invoke/MethodHandle" ∧ y.cls ≠ "java/lang/invoke/VarHandle" ∧ (parseMethodDescriptor y.desc).map (fun d => d.parameters.length) = some n
theorem gy_cal_in {y : MethodName} {cb : ByteArray} {maxL n : Nat} {ret : Option FieldType} {hh : List (Nat × Nat × Nat × Nat)} (h : gy_cal y cb maxL ret hh n) : GoodIn gw_ws (.codeWith y cb maxL ret hh :: gw_ws) := fun w hw => by
  rcases List.mem_cons.mp hw with rfl | h1
  · exact ⟨h.1, gw_good _ h.1⟩
  · exact ⟨h1, gw_good _ h1⟩
def gy_sS (own : String) (idx : Nat) (y : MethodName) (cb : ByteArray) (maxL : Nat) (ret : Option FieldType) (hh : List (Nat × Nat × Nat × Nat)) (n : Nat) : Prop := gy_cal y cb maxL ret hh n ∧ Cond.static y ∈ gw_ws
section GYB
variable {p : Program} {l : Launch} {e : Env} {R : Room} {s : State} {m : MethodId} {args : Array Value} {below : List Frame} {meth : Method} {c : Code} {locs : List Loc} {cells slots : Nat}
/-- the callee's contract, used by a caller that stands at U with the arguments taken off its stack -/
theorem gy_run {hh : List (Nat × Nat × Nat × Nat)} {y : MethodName} {cb : ByteArray} {q : gw_N} {ret : Option FieldType} {Z : gw_Z} {b0 : Nat} {σ : gw_S} {av : List Value} {post : Option Value → gw_S → Prop} {px : String → gw_S → Prop} (hM : gy_M l y cb q ret hh Z b0 σ av post px)
    {U : State} (X : Stand p l e R s m args below meth c U locs cells slots) {g : JFrame} (hg : g.method = m) (hsize : g.locals.size = c.maxLocals) {ig : Instr} (hdg : decode c.code g.pc = .ok (ig, 3)) (hw : 2 * g.monitorRoom + (g.stack.map fun v => v.category).sum ≤ 8) {mk : MethodId} (hn : U.methodNamed? y = some mk)
    (hws : ∀ w ∈ (Cond.codeWith y cb q.1 ret hh :: gw_ws), w.before av.toArray U = true) (hini : (Cond.initialized y.cls).before av.toArray U = true) (hPc : gx_Pc Z b0 σ av av.toArray U) (hR : q.2.1 + 1 ≤ R.frames ∧ 8 + (q.1 + 11) + q.2.2.1 ≤ R.locals) (hc : cells + q.2.2.2.1 ≤ R.cells ∧ slots + q.2.2.2.2 ≤ R.slots) :
    (∃ (v : Option Value) (σ' : gw_S) (V : State) (L' : List Loc), Stand p l e R s m args below meth c V (locs ++ L') (cells + q.2.2.2.1) (slots + q.2.2.2.2) ∧ (∀ z ∈ L', b0 ≤ z.base) ∧ post v σ' ∧ gw_H Z b0 σ' V.heap ∧ U.heap.size ≤ V.heap.size ∧ (∀ a : Nat, a < U.heap.size → ¬ b0 ≤ a → V.heap[a]? = U.heap[a]?) ∧
      Steps p.tables e below (doInvoke e (U.setTop g) [] mk av.toArray).1 (V.setTop { g with pc := g.pc + 3, stack := v.toList ++ g.stack })) ∨
    (∃ (x : Addr) (E : String) (cx : Cell) (σ' : gw_S) (V : State) (L' : List Loc), Stand p l e R s m args below meth c V (locs ++ L') (cells + q.2.2.2.1) (slots + q.2.2.2.2) ∧ (∀ z ∈ L', b0 ≤ z.base) ∧ px E σ' ∧ gw_H Z b0 σ' V.heap ∧ U.heap.size ≤ V.heap.size ∧ (∀ a : Nat, a < U.heap.size → ¬ b0 ≤ a → V.heap[a]? = U.heap[a]?) ∧ V.heap[x]? = some cx ∧ cx.vm = .none ∧ U.vm.findClass E = some cx.cls ∧
      Steps p.tables e below (doInvoke e (U.setTop g) [] mk av.toArray).1 ((V.setTop g).pushFrame (.throwing x))) := by
  have h1 : (headSpec (.codeWith y cb q.1 ret hh :: gw_ws) { frames := q.2.1, cells := q.2.2.2.1, slots := q.2.2.2.2, locals := q.2.2.1 }).pre.before av.toArray U = true := atoms_intro hws
  obtain ⟨mY9, methY, cY, hn9, hmY, hcY, -, hlY, -, -, -, -⟩ := Cond.codeWith_spec (hws _ List.mem_cons_self)
  cases hn.symm.trans hn9
  obtain ⟨kY, hkY, -⟩ := className_of_methodNamed hn
  have hiY : kY.init = .initialized := Cond.initialized_spec (findClass_of_methodNamed hn) hkY hini
  have hA : At U g.method c below := by rw [hg]; exact X.here
  have happ := Spec.appliesLoose_calling (g := g) (args := av.toArray) hA hdg hn hkY hiY (X.room_calling (g := g) (R' := (headSpec (.codeWith y cb q.1 ret hh :: gw_ws) { frames := q.2.1, cells := q.2.2.2.1, slots := q.2.2.2.2, locals := q.2.2.1 }).room) hsize hmY hcY hR.1 (by rw [hlY]; exact Nat.le_trans (Nat.add_le_add_right (Nat.add_le_add_right hw _) _) hR.2) hc.1 hc.2) h1
  obtain ⟨mid, hmid⟩ := hA.above
  have hfr : (U.setTop g).frames = (.java g :: mid) ++ below := by rw [State.frames_setTop' g hA.top, hmid]; rfl
  obtain ⟨o, t, hsteps, -, hend, hq⟩ := Steps.callFree hM p X.admits X.cas X.clock (acts := []) hfr happ (gx_blind Z b0 σ av _ _ g mk hPc) trivial
  have hq : gx_Q Z b0 post px q.2.2.2.1 q.2.2.2.2 av.toArray (U.calling g mk av.toArray) o t := hq
  rw [State.frames_setTop' g hA.top] at hend
  obtain ⟨g₀, hg0⟩ := Option.isSome_iff_exists.mp hA.top
  obtain ⟨r, hr⟩ := State.topJava?_eq_some.mp hg0
  generalize hVe : ({ U with heap := t.heap, slotsUsed := t.slotsUsed } : State).setVm t.vm = V
  have hr' : V.frames = .java g₀ :: r := by rw [← hVe]; exact hr
  have hVh : V.heap = t.heap := by rw [← hVe]; rfl
  have back : ∀ L' : List Loc, U.WarmedH t.vm → (U.calling g mk av.toArray).sameButNew ({ t with vm := (U.calling g mk av.toArray).vm } : State) L' q.2.2.2.1 q.2.2.2.2 →
      Stand p l e R s m args below meth c V (locs ++ L') (cells + q.2.2.2.1) (slots + q.2.2.2.2) ∧ t = V.setFrames t.frames := by
    intro L' hW hsm
    obtain ⟨e2, q2, q3, q4, q5, q6⟩ := hsm
    have e3 : t = ({ (U.calling g mk av.toArray).setFrames t.frames with heap := t.heap, slotsUsed := t.slotsUsed } : State).setVm t.vm := by
      have h9 : t = ({ t with vm := (U.calling g mk av.toArray).vm } : State).setVm t.vm := rfl
      rw [e2] at h9
      exact h9
    have hsame : U.sameButNew ({ U with heap := t.heap, slotsUsed := t.slotsUsed } : State) L' q.2.2.2.1 q.2.2.2.2 := by
      refine ⟨?_, q2, q3, q4, q5, q6⟩
      obtain ⟨th, hth, -⟩ := State.frames_cons hr
      show ({ U with heap := t.heap, slotsUsed := t.slotsUsed } : State) = { U.setFrames U.frames with heap := t.heap, slotsUsed := t.slotsUsed }
      rw [State.setFrames_self hth]
    constructor
    · rw [← hVe]
      exact ⟨X.admits, X.cas, X.clock, X.frames, X.room, X.hears, X.method, X.code, (X.here.setHeapUsed t.heap t.slotsUsed).setVm hW.alike, X.tail, State.WarmedH.trans X.warmed hW, X.limits, X.bytes, X.same.trans (hsame.setVm s.vm)⟩
    · refine e3.trans ?_
      rw [State.calling_eq hA.top, State.setFrames_setFrames, ← hVe]
      rfl
  rcases hq with ⟨⟨v, σ', rfl, hp, hG, hF⟩, L', ⟨-, hW, hsm⟩, hL'⟩ | ⟨x, E, cx, L', σ', rfl, hp, hG, hF, hcx, hcv, hcl, hW, hsm, hL'⟩
  · obtain ⟨XV, ht⟩ := back L' hW hsm
    refine Or.inl ⟨v, σ', V, L', XV, hL', hp, by rw [hVh]; exact hG, by rw [hVh]; exact hF.1, fun a h1 h2 => by rw [hVh]; exact hF.2 a h1 h2, ?_⟩
    obtain ⟨c₂, i₂, n₂, hc₂, hd₂, hf₂⟩ := hend
    have hcc : c₂ = c := by
      have h9 : t.code? g.method = U.code? g.method := by
        rw [State.code?_eq, State.code?_eq, hW.alike.method?]
        rfl
      exact Option.some.inj (hc₂.symm.trans (h9.trans hA.code))
    subst hcc
    have hn2 : n₂ = 3 := by rw [hdg] at hd₂; cases hd₂; rfl
    subst hn2
    have hfin : t = V.setTop { g with pc := g.pc + 3, stack := v.toList ++ g.stack } := by
      rw [ht, hf₂, State.setTop_of_frames _ hr', hr]
      rfl
    rw [← hfin]
    exact hsteps
  · obtain ⟨XV, ht⟩ := back L' hW hsm
    refine Or.inr ⟨x, E, cx, σ', V, L', XV, hL', hp, by rw [hVh]; exact hG, by rw [hVh]; exact hF.1, fun a h1 h2 => by rw [hVh]; exact hF.2 a h1 h2, by rw [hVh]; exact hcx, hcv, hcl, ?_⟩
    have hf₂ : t.frames = .throwing x :: .java g :: U.frames.tail := hend
    have hfin : t = (V.setTop g).pushFrame (.throwing x) := by
      rw [ht, hf₂, State.pushFrame, State.frames_setTop _ hr', State.setTop_of_frames _ hr', State.setFrames_setFrames, hr]
      rfl
    rw [← hfin]
    exact hsteps
end GYB
section GYC
variable {X : gw_C} {cc : ByteArray} {own : String} {q : gw_N} {σ : gw_S} {ce sl pc : Nat} {L : List (Nat × Value)} {st : List Value} {post : Option Value → gw_S → Prop} {px : String → gw_S → Prop} {mc ms : Nat}
theorem gy_callS {hh : List (Nat × Nat × Nat × Nat)} (hX : gw_ok X cc own q) (hK : gx_K (gw_b X) (gw_s X)) (hb0 : gw_b X ≤ (gw_s X).heap.size) {idx n : Nat} {y : MethodName} {cb : ByteArray} {q' : gw_N} {ret : Option FieldType} (k : gy_sS own idx y cb q'.1 ret hh n) (hlk : Cond.methodLink own idx y ∈ gw_ws) {As rest : List Value} (hM : gy_M X.1.2.1 y cb q' ret hh (gw_z X) (gw_b X) σ As post px) (hn : As.length = n) (hst : st = As.reverse ++ rest) (hw : (rest.map fun v => v.category).sum ≤ 8) (d : decode cc pc = .ok (.invokestatic idx, 3)) (hR : gw_rm q q' ce sl)
    (kx : ∀ (E : String) (σ' : gw_S), px E σ' → gx_X X σ' (ce + q'.2.2.2.1) (sl + q'.2.2.2.2) pc L rest E)
    (kk : ∀ (v : Option Value) (σ' : gw_S), post v σ' → gw_W X σ' (ce + q'.2.2.2.1) (sl + q'.2.2.2.2) (pc + 3) L (v.toList ++ rest)) : gw_W X σ ce sl pc L st := by
  obtain ⟨hc, hs⟩ := k
  subst hst
  intro H locs ls hG hS hL T hT X0
  have hws := hX.2.2.2.2.1
  have hRm : X.1.2.2.2 = _ := hX.2.2.1.2.2.1
  obtain ⟨mk, methM, cM, hnamed, hmethM, -, -, -, -, -, -, hsigM⟩ := Cond.codeWith_spec (hws _ hc.1)
  have hstatic : methM.isStatic = true := Cond.static_spec hnamed hmethM (hws _ hs)
  obtain ⟨kP, hkP, -⟩ := className_of_methodNamed hnamed
  have hinitP : kP.init = .initialized := Cond.initialized_spec (findClass_of_methodNamed hnamed) hkP (hws _ hc.2.1)
  have hlen : As.length = methM.sig.parameters.length := by
    have h2 := hc.2.2.2.2
    rw [hsigM] at h2
    exact hn.trans (Option.some.inj h2).symm
  obtain ⟨vm₁, X₁, hstep₁⟩ := X0.invokestatic hX.1 hX.2.2.2.1 (hws _ hlk) hnamed hmethM hstatic hkP hinitP ⟨hc.2.2.1, hc.2.2.2.1⟩ (g := F0 (gw_m X) pc ls (As.reverse ++ rest)) rfl (argsL := As) (rest := rest) hlen rfl (by rw [hX.2.1]; exact d)
  have hW₁ := X₁.warmed
  have hPc : gx_Pc (gw_z X) (gw_b X) σ As As.toArray (T.setVm vm₁) := ⟨rfl, gw_K_warm hW₁ hX.2.2.2.2.2, by show gw_H _ _ _ T.heap; rw [hT]; exact hG, gx_env hK hb0 hS hT hW₁⟩
  rcases gy_run hM X₁ (g := { F0 (gw_m X) pc ls (As.reverse ++ rest) with stack := rest }) rfl (by rw [hX.2.2.1.1]; exact hL.1) (by rw [hX.2.1]; exact d) (lv_room hw) (X₁.named hnamed) (fun w hw9 => word_at hW₁ ((gy_cal_in hc) w hw9).2 (hws w ((gy_cal_in hc) w hw9).1)) (word_at hW₁ (gw_good _ hc.2.1) (hws _ hc.2.1)) hPc (by rw [hRm]; exact hR.1) (by rw [hRm]; exact hR.2) with ⟨v, σ', V, L', XV, hL', hp, hG', f1, f2, hsteps⟩ | ⟨x, E, cx, σ', V, L', XV, hL', hp, hG', f1, f2, hcx, hcv, hcl, hsteps⟩
  · have f1 : T.heap.size ≤ V.heap.size := f1
    have f2 : ∀ a : Nat, a < T.heap.size → ¬ gw_b X ≤ a → V.heap[a]? = T.heap[a]? := f2
    rw [hT] at f1 f2
    obtain ⟨t2, a1, b1⟩ := kk v σ' hp V.heap (locs ++ L') ls hG' ⟨Nat.le_trans hS.1 f1, fun a g1 g2 => (f2 a (Nat.lt_of_lt_of_le g1 hS.1) g2).trans (hS.2.1 a g1 g2), fun z hz => (List.mem_append.mp hz).elim (hS.2.2 z) (hL' z)⟩ hL V rfl XV
    exact ⟨t2, hstep₁ _ fun acts => by rw [doInvoke_state]; exact hsteps.trans a1, b1⟩
  · have f1 : T.heap.size ≤ V.heap.size := f1
    have f2 : ∀ a : Nat, a < T.heap.size → ¬ gw_b X ≤ a → V.heap[a]? = T.heap[a]? := f2
    rw [hT] at f1 f2
    have hcl9 : (gw_s X).vm.findClass E = some cx.cls := by
      have h9 := hcl
      rw [hW₁.alike.findClass] at h9
      exact h9
    obtain ⟨t2, a1, b1⟩ := kx E σ' hp V.heap (locs ++ L') ls hG' ⟨Nat.le_trans hS.1 f1, fun a g1 g2 => (f2 a (Nat.lt_of_lt_of_le g1 hS.1) g2).trans (hS.2.1 a g1 g2), fun z hz => (List.mem_append.mp hz).elim (hS.2.2 z) (hL' z)⟩ hL x cx hcx hcv hcl9 V rfl XV
    exact ⟨t2, hstep₁ _ fun acts => by rw [doInvoke_state]; exact hsteps.trans a1, b1⟩
/-- caught by the first row -/
theorem gy_catch1 (hX : gw_ok X cc own q) {lo hi hp idx : Nat} {rest : List (Nat × Nat × Nat × Nat)} (hE : gy_ok X ((lo, hi, hp, idx) :: rest)) {E : String} (hk : Cond.classLink own idx E ∈ gw_ws) (h1 : lo ≤ pc) (h2 : pc < hi) (h0 : idx ≠ 0) (kk : ∀ x : Nat, gw_W X σ ce sl hp L [.ref x]) : gx_X X σ ce sl pc L st E := by
  intro H locs ls hG hS hL x cx hx hv hcl T hT X0
  obtain ⟨vm', X1, st1⟩ := gx_catch1 X0 hX.2.2.2.1 (hX.2.2.2.2.1 _ hk) hE.2.2.1 (g := F0 (gw_m X) pc ls st) rfl (by simp [covers, F0]; exact ⟨h1, h2⟩) h0 rfl (a := x) (cell := cx) (by rw [hT]; exact hx) hv hcl
  obtain ⟨t, a1, b1⟩ := kk x H locs ls hG hS hL (T.setVm vm') hT X1
  exact ⟨t, st1 t a1, b1⟩
theorem gy_catch2 (hX : gw_ok X cc own q) {lo hi hp idx lo' hi' hp' idx' : Nat} {rest : List (Nat × Nat × Nat × Nat)} (hE : gy_ok X ((lo', hi', hp', idx') :: (lo, hi, hp, idx) :: rest)) {E E' : String} (hk' : Cond.classLink own idx' E' ∈ gw_ws) (hk : Cond.classLink own idx E ∈ gw_ws) (h1 : lo ≤ pc) (h2 : pc < hi) (h0 : idx ≠ 0) (h1' : lo' ≤ pc) (h2' : pc < hi') (h0' : idx' ≠ 0) (hno : ∀ c c', (gw_s X).vm.findClass E = some c → (gw_s X).vm.findClass E' = some c' → (gw_s X).vm.assignable c c' = false) (kk : ∀ x : Nat, gw_W X σ ce sl hp L [.ref x]) : gx_X X σ ce sl pc L st E := by
  intro H locs ls hG hS hL x cx hx hv hcl T hT X0
  obtain ⟨vm', X1, st1⟩ := gx_catch2 X0 hX.2.2.2.1 (hX.2.2.2.2.1 _ hk') (hX.2.2.2.2.1 _ hk) hE.2.2.1 (g := F0 (gw_m X) pc ls st) rfl (by simp [covers, F0]; exact ⟨h1, h2⟩) h0 rfl (by simp [covers, F0]; exact ⟨h1', h2'⟩) h0' rfl (a := x) (cell := cx) (by rw [hT]; exact hx) hv hcl (fun c' h9 => hno _ _ hcl h9)
  obtain ⟨t, a1, b1⟩ := kk x H locs ls hG hS hL (T.setVm vm') hT X1
  exact ⟨t, st1 t a1, b1⟩
end GYC
end
section
/-! pure: the best two of a row of scored labellings, an earlier one held better among equals -/
def tk_offer (r : List (Int × Nat)) (x : Int × Nat) : List (Int × Nat) := match r with
  | [] => [x]
  | [a] => if a.1 < x.1 then [x, a] else [a, x]
  | a :: b :: _ => if a.1 < x.1 then [x, a] else if b.1 < x.1 then [a, x] else [a, b]
def tk_all (r l : List (Int × Nat)) : List (Int × Nat) := l.foldl tk_offer r
def tk_ok (r : List (Int × Nat)) : Prop := match r with
  | [] => True
  | [_] => True
  | [a, b] => b.1 ≤ a.1
  | _ => False
theorem tk_all_nil (r : List (Int × Nat)) : tk_all r [] = r := rfl
theorem tk_all_cons (r : List (Int × Nat)) (x : Int × Nat) (l : List (Int × Nat)) : tk_all r (x :: l) = tk_all (tk_offer r x) l := rfl
theorem tk_all_app (r l k : List (Int × Nat)) : tk_all r (l ++ k) = tk_all (tk_all r l) k := by
  simp [tk_all, List.foldl_append]
theorem tk_cases {r : List (Int × Nat)} (hr : tk_ok r) : r = [] ∨ (∃ a, r = [a]) ∨ ∃ a b, r = [a, b] ∧ b.1 ≤ a.1 := by
  match r, hr with
  | [], _ => exact Or.inl rfl
  | [a], _ => exact Or.inr (Or.inl ⟨a, rfl⟩)
  | [a, b], h => exact Or.inr (Or.inr ⟨a, b, rfl, h⟩)
theorem tk_ok_offer {r : List (Int × Nat)} (hr : tk_ok r) (x : Int × Nat) : tk_ok (tk_offer r x) := by
  rcases tk_cases hr with rfl | ⟨a, rfl⟩ | ⟨a, b, rfl, h⟩
  · trivial
  · by_cases h1 : a.1 < x.1
    · simp [tk_offer, tk_ok, h1]; omega
    · simp [tk_offer, tk_ok, h1]; omega
  · by_cases h1 : a.1 < x.1
    · simp [tk_offer, tk_ok, h1]; omega
    · by_cases h2 : b.1 < x.1
      · simp [tk_offer, tk_ok, h1, h2]; omega
      · simp [tk_offer, tk_ok, h1, h2]; omega
theorem tk_ok_all {r : List (Int × Nat)} (l : List (Int × Nat)) (hr : tk_ok r) : tk_ok (tk_all r l) := by
  induction l generalizing r with
  | nil => exact hr
  | cons x l ih => exact ih (tk_ok_offer hr x)
theorem tk_of1 {a x : Int × Nat} (h : a.1 < x.1) : tk_offer [a] x = [x, a] := by simp [tk_offer, h]
theorem tk_of2 {a x : Int × Nat} (h : x.1 ≤ a.1) : tk_offer [a] x = [a, x] := by
  have : ¬ a.1 < x.1 := by omega
  simp [tk_offer, this]
theorem tk_of3 {a b x : Int × Nat} (h : a.1 < x.1) : tk_offer [a, b] x = [x, a] := by simp [tk_offer, h]
theorem tk_of4 {a b x : Int × Nat} (h : x.1 ≤ a.1) (h2 : b.1 < x.1) : tk_offer [a, b] x = [a, x] := by
  have : ¬ a.1 < x.1 := by omega
  simp [tk_offer, this, h2]
theorem tk_of5 {a b x : Int × Nat} (h : x.1 ≤ a.1) (h2 : x.1 ≤ b.1) : tk_offer [a, b] x = [a, b] := by
  have h1 : ¬ a.1 < x.1 := by omega
  have h3 : ¬ b.1 < x.1 := by omega
  simp [tk_offer, h1, h3]
theorem tk_swap {r : List (Int × Nat)} (hr : tk_ok r) {a x : Int × Nat} (h : a.1 < x.1) : tk_offer (tk_offer r x) a = tk_offer (tk_offer r a) x := by
  rcases tk_cases hr with rfl | ⟨u, rfl⟩ | ⟨u, v, rfl, hv⟩
  · show tk_offer [x] a = tk_offer [a] x
    rw [tk_of1 h, tk_of2 (Int.le_of_lt h)]
  · by_cases h1 : u.1 < x.1
    · rw [tk_of1 h1]
      by_cases h2 : u.1 < a.1
      · rw [tk_of4 (by omega) h2, tk_of1 h2, tk_of3 h]
      · rw [tk_of5 (by omega) (by omega), tk_of2 (by omega), tk_of3 h1]
    · rw [tk_of2 (by omega), tk_of5 (by omega) (by omega), tk_of2 (by omega), tk_of4 (by omega) h]
  · by_cases h1 : u.1 < x.1
    · rw [tk_of3 h1]
      by_cases h2 : u.1 < a.1
      · rw [tk_of4 (by omega) h2, tk_of3 h2, tk_of3 h]
      · rw [tk_of5 (by omega) (by omega)]
        by_cases h3 : v.1 < a.1
        · rw [tk_of4 (by omega) h3, tk_of3 h1]
        · rw [tk_of5 (by omega) (by omega), tk_of3 h1]
    · by_cases h2 : v.1 < x.1
      · rw [tk_of4 (by omega) h2, tk_of5 (by omega) (by omega)]
        by_cases h3 : v.1 < a.1
        · rw [tk_of4 (by omega) h3, tk_of4 (by omega) h]
        · rw [tk_of5 (by omega) (by omega), tk_of4 (by omega) h2]
      · rw [tk_of5 (by omega) (by omega), tk_of5 (by omega) (by omega), tk_of5 (by omega) (by omega)]
theorem tk_drop {r : List (Int × Nat)} (hr : tk_ok r) {a b x : Int × Nat} (h1 : b.1 ≤ a.1) (h2 : b.1 ≤ x.1) : tk_offer (tk_offer (tk_offer r x) a) b = tk_offer (tk_offer r x) a := by
  have key : ∃ u v, tk_offer (tk_offer r x) a = [u, v] ∧ b.1 ≤ u.1 ∧ b.1 ≤ v.1 := by
    rcases tk_cases hr with rfl | ⟨u, rfl⟩ | ⟨u, v, rfl, hv⟩
    · by_cases h3 : x.1 < a.1
      · exact ⟨a, x, tk_of1 h3, h1, h2⟩
      · exact ⟨x, a, tk_of2 (by omega), h2, h1⟩
    · by_cases h3 : u.1 < x.1
      · rw [tk_of1 h3]
        by_cases h4 : x.1 < a.1
        · exact ⟨a, x, tk_of3 h4, h1, h2⟩
        · by_cases h5 : u.1 < a.1
          · exact ⟨x, a, tk_of4 (by omega) h5, h2, h1⟩
          · exact ⟨x, u, tk_of5 (by omega) (by omega), h2, by omega⟩
      · rw [tk_of2 (by omega)]
        by_cases h4 : u.1 < a.1
        · exact ⟨a, u, tk_of3 h4, h1, by omega⟩
        · by_cases h5 : x.1 < a.1
          · exact ⟨u, a, tk_of4 (by omega) h5, by omega, h1⟩
          · exact ⟨u, x, tk_of5 (by omega) (by omega), by omega, h2⟩
    · by_cases h3 : u.1 < x.1
      · rw [tk_of3 h3]
        by_cases h4 : x.1 < a.1
        · exact ⟨a, x, tk_of3 h4, h1, h2⟩
        · by_cases h5 : u.1 < a.1
          · exact ⟨x, a, tk_of4 (by omega) h5, h2, h1⟩
          · exact ⟨x, u, tk_of5 (by omega) (by omega), h2, by omega⟩
      · by_cases h6 : v.1 < x.1
        · rw [tk_of4 (by omega) h6]
          by_cases h4 : u.1 < a.1
          · exact ⟨a, u, tk_of3 h4, h1, by omega⟩
          · by_cases h5 : x.1 < a.1
            · exact ⟨u, a, tk_of4 (by omega) h5, by omega, h1⟩
            · exact ⟨u, x, tk_of5 (by omega) (by omega), by omega, h2⟩
        · rw [tk_of5 (by omega) (by omega)]
          by_cases h4 : u.1 < a.1
          · exact ⟨a, u, tk_of3 h4, h1, by omega⟩
          · by_cases h5 : v.1 < a.1
            · exact ⟨u, a, tk_of4 (by omega) h5, by omega, h1⟩
            · exact ⟨u, v, tk_of5 (by omega) (by omega), by omega, by omega⟩
  obtain ⟨u, v, e, hu, hv⟩ := key
  rw [e, tk_of5 hu hv]
theorem tk_key {r t : List (Int × Nat)} (hr : tk_ok r) (ht : tk_ok t) (x : Int × Nat) : tk_all r (tk_offer t x) = tk_offer (tk_all r t) x := by
  rcases tk_cases ht with rfl | ⟨a, rfl⟩ | ⟨a, b, rfl, hab⟩
  · rfl
  · by_cases h1 : a.1 < x.1
    · rw [tk_of1 h1]
      exact tk_swap hr h1
    · rw [tk_of2 (by omega)]; rfl
  · by_cases h1 : a.1 < x.1
    · rw [tk_of3 h1]
      show tk_offer (tk_offer r x) a = tk_offer (tk_offer (tk_offer r a) b) x
      rw [← tk_swap (tk_ok_offer hr a) (show b.1 < x.1 by omega), ← tk_swap hr h1, tk_drop hr hab (by omega)]
    · by_cases h2 : b.1 < x.1
      · rw [tk_of4 (by omega) h2]
        show tk_offer (tk_offer r a) x = tk_offer (tk_offer (tk_offer r a) b) x
        rw [← tk_swap (tk_ok_offer hr a) h2, tk_drop hr (by omega) hab]
      · rw [tk_of5 (by omega) (by omega)]
        show tk_offer (tk_offer r a) b = tk_offer (tk_offer (tk_offer r a) b) x
        rw [tk_drop hr (by omega) (by omega)]
theorem tk_mid {r : List (Int × Nat)} (hr : tk_ok r) (l : List (Int × Nat)) : ∀ t, tk_ok t → tk_all r (tk_all t l) = tk_all (tk_all r t) l := by
  induction l with
  | nil => intro t _; rfl
  | cons x l ih =>
    intro t ht
    rw [tk_all_cons, ih _ (tk_ok_offer ht x), tk_key hr ht, tk_all_cons]
theorem tk_top {r : List (Int × Nat)} (hr : tk_ok r) (l : List (Int × Nat)) : tk_all r (tk_all [] l) = tk_all r l := tk_mid hr l [] trivial
/-- scores and codes moved by the same -/
def tk_sh (c : Int) (k : Nat) (p : Int × Nat) : Int × Nat := (p.1 + c, p.2 + k)
theorem tk_sh_offer (c : Int) (k : Nat) {r : List (Int × Nat)} (hr : tk_ok r) (x : Int × Nat) : (tk_offer r x).map (tk_sh c k) = tk_offer (r.map (tk_sh c k)) (tk_sh c k x) := by
  have e : ∀ p q : Int × Nat, (tk_sh c k p).1 < (tk_sh c k q).1 ↔ p.1 < q.1 := by
    intro p q
    simp only [tk_sh]; omega
  rcases tk_cases hr with rfl | ⟨a, rfl⟩ | ⟨a, b, rfl, hab⟩
  · rfl
  · by_cases h1 : a.1 < x.1
    · simp [tk_offer, h1, (e a x).mpr h1]
    · have h2 : ¬ (tk_sh c k a).1 < (tk_sh c k x).1 := fun h => h1 ((e a x).mp h)
      simp [tk_offer, h1, h2]
  · by_cases h1 : a.1 < x.1
    · simp [tk_offer, h1, (e a x).mpr h1]
    · have h2 : ¬ (tk_sh c k a).1 < (tk_sh c k x).1 := fun h => h1 ((e a x).mp h)
      by_cases h3 : b.1 < x.1
      · simp [tk_offer, h1, h2, h3, (e b x).mpr h3]
      · have h4 : ¬ (tk_sh c k b).1 < (tk_sh c k x).1 := fun h => h3 ((e b x).mp h)
        simp [tk_offer, h1, h2, h3, h4]
theorem tk_sh_all (c : Int) (k : Nat) (l : List (Int × Nat)) : ∀ r, tk_ok r → (tk_all r l).map (tk_sh c k) = tk_all (r.map (tk_sh c k)) (l.map (tk_sh c k)) := by
  induction l with
  | nil => intro r _; rfl
  | cons x l ih =>
    intro r hr
    rw [tk_all_cons, ih _ (tk_ok_offer hr x), tk_sh_offer c k hr, List.map_cons, tk_all_cons]
/-- a row of tails offered moved, or its best two alone: the same -/
theorem tk_group {r : List (Int × Nat)} (hr : tk_ok r) (c : Int) (k : Nat) (l : List (Int × Nat)) : tk_all r (l.map (tk_sh c k)) = tk_all r ((tk_all [] l).map (tk_sh c k)) := by
  rw [tk_sh_all c k l [] trivial]
  exact (tk_top hr _).symm
theorem tk_len (l : List (Int × Nat)) : ∀ r, tk_ok r → (tk_all r l).length = min 2 (r.length + l.length) := by
  induction l with
  | nil =>
    intro r hr
    rcases tk_cases hr with rfl | ⟨a, rfl⟩ | ⟨a, b, rfl, -⟩ <;> simp [tk_all]
  | cons x l ih =>
    intro r hr
    rw [tk_all_cons, ih _ (tk_ok_offer hr x)]
    rcases tk_cases hr with rfl | ⟨a, rfl⟩ | ⟨a, b, rfl, -⟩
    · simp [tk_offer]; omega
    · by_cases h1 : a.1 < x.1 <;> simp [tk_offer, h1] <;> omega
    · by_cases h1 : a.1 < x.1 <;> by_cases h2 : b.1 < x.1 <;> simp [tk_offer, h1, h2]
theorem tk_mem (l : List (Int × Nat)) : ∀ r, tk_ok r → ∀ x ∈ tk_all r l, x ∈ r ∨ x ∈ l := by
  induction l with
  | nil => intro r _ x hx; exact Or.inl hx
  | cons y l ih =>
    intro r hr x hx
    rw [tk_all_cons] at hx
    rcases ih _ (tk_ok_offer hr y) x hx with h | h
    · rcases tk_cases hr with rfl | ⟨a, rfl⟩ | ⟨a, b, rfl, -⟩
      · simp [tk_offer] at h; simp [h]
      · by_cases h1 : a.1 < y.1 <;> simp [tk_offer, h1] at h <;> rcases h with rfl | rfl <;> simp
      · by_cases h1 : a.1 < y.1 <;> by_cases h2 : b.1 < y.1 <;> simp [tk_offer, h1, h2] at h <;> rcases h with rfl | rfl <;> simp
    · exact Or.inr (List.mem_cons_of_mem _ h)
end
section
/-! pure: all labellings of a sentence of n words, in the order of their labels; S: what a word's label weighs, P: what two labels side by side weigh, F: the first label -/
def tl_T (n : Nat) (S P : Nat → Nat → Int) : Nat → Nat → List (Int × Nat)
  | 0, l => [(S (n - 1) l, l * 4 ^ (n - 1))]
  | m + 1, l => (List.range 4).flatMap (fun q => (tl_T n S P m q).map (tk_sh (S (n - 2 - m) l + P l q) (l * 4 ^ (n - 2 - m))))
def tl_A (n : Nat) (S P : Nat → Nat → Int) (F : Nat → Int) : List (Int × Nat) := (List.range 4).flatMap (fun q => (tl_T n S P (n - 1) q).map (tk_sh (F q) 0))
/-- one group more -/
theorem tl_more (L : Nat → List (Int × Nat)) (c : Nat → Int) (k q : Nat) :
    tk_all [] ((List.range (q + 1)).flatMap (fun i => (L i).map (tk_sh (c i) k))) = tk_all (tk_all [] ((List.range q).flatMap (fun i => (L i).map (tk_sh (c i) k)))) ((tk_all [] (L q)).map (tk_sh (c q) k)) := by
  rw [List.range_succ, List.flatMap_append, tk_all_app]
  simp only [List.flatMap_cons, List.flatMap_nil, List.append_nil]
  exact tk_group (tk_ok_all (r := []) _ trivial) _ _ _
def tl_s (n : Nat) (S P : Nat → Nat → Int) : Nat → Nat → Nat → Int
  | 0, l, _ => S (n - 1) l
  | m + 1, l, j => tl_s n S P m (j / 4 ^ m) (j % 4 ^ m) + (S (n - 2 - m) l + P l (j / 4 ^ m))
def tl_c (n : Nat) : Nat → Nat → Nat → Nat
  | 0, l, _ => l * 4 ^ (n - 1)
  | m + 1, l, j => tl_c n m (j / 4 ^ m) (j % 4 ^ m) + l * 4 ^ (n - 2 - m)
theorem tl_range {α : Type} (M : Nat) (f : Nat → α) : ∀ a : Nat, (List.range (a * M)).map f = (List.range a).flatMap (fun q => (List.range M).map (fun j => f (q * M + j))) := by
  intro a
  induction a with
  | zero => simp
  | succ a ih =>
    rw [Nat.succ_mul, List.range_add, List.map_append, ih, List.range_succ, List.flatMap_append]
    simp only [List.flatMap_cons, List.flatMap_nil, List.append_nil, List.map_map]
    rfl
theorem tl_T_eq (n : Nat) (S P : Nat → Nat → Int) : ∀ m l, tl_T n S P m l = (List.range (4 ^ m)).map (fun j => (tl_s n S P m l j, tl_c n m l j)) := by
  intro m
  induction m with
  | zero => intro l; simp [tl_T, tl_s, tl_c, List.range_succ]
  | succ m ih =>
    intro l
    have hM : 0 < 4 ^ m := Nat.pow_pos (by decide)
    rw [show 4 ^ (m + 1) = 4 * 4 ^ m by rw [Nat.pow_succ, Nat.mul_comm], tl_range, tl_T]
    congr 1
    funext q
    rw [ih, List.map_map]
    apply List.map_congr_left
    intro j hj
    have hj : j < 4 ^ m := List.mem_range.mp hj
    have e1 : (q * 4 ^ m + j) / 4 ^ m = q := by
      rw [Nat.mul_comm, Nat.mul_add_div hM, Nat.div_eq_of_lt hj, Nat.add_zero]
    have e2 : (q * 4 ^ m + j) % 4 ^ m = j := by
      rw [Nat.mul_comm, Nat.mul_add_mod, Nat.mod_eq_of_lt hj]
    show tk_sh _ _ _ = (_, _)
    simp only [tk_sh, tl_s, tl_c, e1, e2]
theorem tl_A_eq (k : Nat) (S P : Nat → Nat → Int) (F : Nat → Int) : tl_A (k + 1) S P F = (List.range (4 ^ (k + 1))).map (fun j => (tl_s (k + 1) S P k (j / 4 ^ k) (j % 4 ^ k) + F (j / 4 ^ k), tl_c (k + 1) k (j / 4 ^ k) (j % 4 ^ k))) := by
  have hM : 0 < 4 ^ k := Nat.pow_pos (by decide)
  rw [show 4 ^ (k + 1) = 4 * 4 ^ k by rw [Nat.pow_succ, Nat.mul_comm], tl_range, tl_A, Nat.add_sub_cancel]
  congr 1
  funext q
  rw [tl_T_eq, List.map_map]
  apply List.map_congr_left
  intro j hj
  have hj : j < 4 ^ k := List.mem_range.mp hj
  have e1 : (q * 4 ^ k + j) / 4 ^ k = q := by
    rw [Nat.mul_comm, Nat.mul_add_div hM, Nat.div_eq_of_lt hj, Nat.add_zero]
  have e2 : (q * 4 ^ k + j) % 4 ^ k = j := by
    rw [Nat.mul_comm, Nat.mul_add_mod, Nat.mod_eq_of_lt hj]
  show tk_sh _ _ _ = (_, _)
  simp only [tk_sh, e1, e2, Nat.add_zero]
/-- the label of word w in the labelling number j -/
def tl_g (n j w : Nat) : Nat := j / 4 ^ (n - 1 - w) % 4
/-- sums from the first word on, as they are made one word after another -/
def tl_m (S P : Nat → Nat → Int) (F : Nat → Int) (g : Nat → Nat) : Nat → Int
  | 0 => 0
  | w + 1 => tl_m S P F g w + ((if w = 0 then F (g w) else 0) + S w (g w)) + (if w = 0 then 0 else P (g (w - 1)) (g w))
/-- the code of labels -/
def tl_d (g : Nat → Nat) : Nat → Nat
  | 0 => 0
  | w + 1 => tl_d g w + g w * 4 ^ w
theorem tl_sum (k j : Nat) (S P : Nat → Nat → Int) (F : Nat → Int) : ∀ m, m ≤ k →
    tl_m S P F (tl_g (k + 1) j) (k - m) + (if k - m = 0 then F (tl_g (k + 1) j (k - m)) else P (tl_g (k + 1) j (k - m - 1)) (tl_g (k + 1) j (k - m))) + tl_s (k + 1) S P m (tl_g (k + 1) j (k - m)) (j % 4 ^ m) = tl_m S P F (tl_g (k + 1) j) (k + 1) := by
  intro m
  induction m with
  | zero =>
    intro _
    rw [Nat.sub_zero, tl_m, tl_s, Nat.add_sub_cancel]
    by_cases h : k = 0
    · simp [h]; omega
    · simp [h]; omega
  | succ m ih =>
    intro hm
    have ih := ih (by omega)
    rw [← ih]
    have e0 : k - m = (k - (m + 1)) + 1 := by omega
    have e1 : j % 4 ^ (m + 1) / 4 ^ m = tl_g (k + 1) j (k - m) := by
      rw [tl_g, Nat.pow_succ, Nat.mod_mul_right_div_self]
      congr 3
      omega
    have e2 : j % 4 ^ (m + 1) % 4 ^ m = j % 4 ^ m := Nat.mod_mod_of_dvd _ ⟨4, Nat.pow_succ 4 m⟩
    have e3 : k + 1 - 2 - m = k - (m + 1) := by omega
    rw [tl_s, e1, e2, e3]
    have e4 : tl_m S P F (tl_g (k + 1) j) (k - m) = tl_m S P F (tl_g (k + 1) j) (k - (m + 1)) + ((if k - (m + 1) = 0 then F (tl_g (k + 1) j (k - (m + 1))) else 0) + S (k - (m + 1)) (tl_g (k + 1) j (k - (m + 1)))) + (if k - (m + 1) = 0 then 0 else P (tl_g (k + 1) j (k - (m + 1) - 1)) (tl_g (k + 1) j (k - (m + 1)))) := by
      rw [e0, tl_m]
    rw [e4, if_neg (show ¬ k - m = 0 by omega), show k - m - 1 = k - (m + 1) by omega]
    by_cases h : k - (m + 1) = 0
    · simp only [h, if_true]; omega
    · simp only [h, if_false]; omega
theorem tl_code (k j : Nat) : ∀ m, m ≤ k → tl_d (tl_g (k + 1) j) (k - m) + tl_c (k + 1) m (tl_g (k + 1) j (k - m)) (j % 4 ^ m) = tl_d (tl_g (k + 1) j) (k + 1) := by
  intro m
  induction m with
  | zero =>
    intro _
    rw [Nat.sub_zero, tl_c, tl_d, Nat.add_sub_cancel]
  | succ m ih =>
    intro hm
    have ih := ih (by omega)
    rw [← ih]
    have e0 : k - m = (k - (m + 1)) + 1 := by omega
    have e1 : j % 4 ^ (m + 1) / 4 ^ m = tl_g (k + 1) j (k - m) := by
      rw [tl_g, Nat.pow_succ, Nat.mod_mul_right_div_self]
      congr 3
      omega
    have e2 : j % 4 ^ (m + 1) % 4 ^ m = j % 4 ^ m := Nat.mod_mod_of_dvd _ ⟨4, Nat.pow_succ 4 m⟩
    have e3 : k + 1 - 2 - m = k - (m + 1) := by omega
    have e4 : tl_d (tl_g (k + 1) j) (k - m) = tl_d (tl_g (k + 1) j) (k - (m + 1)) + tl_g (k + 1) j (k - (m + 1)) * 4 ^ (k - (m + 1)) := by
      rw [e0, tl_d]
    rw [tl_c, e1, e2, e3, e4]
    omega
/-- the labelling number j: score and code as they are made from its labels -/
def tl_x (n : Nat) (S P : Nat → Nat → Int) (F : Nat → Int) (j : Nat) : Int × Nat := (tl_m S P F (tl_g n j) n, tl_d (tl_g n j) n)
theorem tl_A_x (k : Nat) (S P : Nat → Nat → Int) (F : Nat → Int) : tl_A (k + 1) S P F = (List.range (4 ^ (k + 1))).map (tl_x (k + 1) S P F) := by
  rw [tl_A_eq]
  apply List.map_congr_left
  intro j hj
  have hj : j < 4 ^ (k + 1) := List.mem_range.mp hj
  have e0 : tl_g (k + 1) j 0 = j / 4 ^ k := by
    rw [tl_g, Nat.sub_zero, Nat.add_sub_cancel]
    refine Nat.mod_eq_of_lt ?_
    rw [Nat.div_lt_iff_lt_mul (Nat.pow_pos (by decide))]
    rw [Nat.pow_succ] at hj
    omega
  have h1 := tl_sum k j S P F k (Nat.le_refl _)
  have h2 := tl_code k j k (Nat.le_refl _)
  rw [Nat.sub_self, e0] at h1 h2
  simp only [if_true] at h1
  show (_, _) = (_, _)
  rw [← h1, ← h2]
  simp only [tl_m, tl_d, Prod.mk.injEq]
  omega
/-! codes -/
theorem tl_d_lt {g : Nat → Nat} : ∀ n, (∀ w, w < n → g w < 4) → tl_d g n < 4 ^ n := by
  intro n
  induction n with
  | zero => intro _; simp [tl_d]
  | succ n ih =>
    intro h
    have h1 := ih (fun w hw => h w (by omega))
    have h2 := h n (by omega)
    rw [tl_d, Nat.pow_succ]
    have h3 : g n * 4 ^ n ≤ 3 * 4 ^ n := Nat.mul_le_mul_right _ (by omega)
    omega
theorem tl_d_at {g : Nat → Nat} : ∀ n, (∀ w, w < n → g w < 4) → ∀ w, w < n → tl_d g n / 4 ^ w % 4 = g w := by
  intro n
  induction n with
  | zero => intro _ w hw; omega
  | succ n ih =>
    intro h w hw
    have hp : 0 < 4 ^ w := Nat.pow_pos (by decide)
    have h1 := tl_d_lt n (fun w hw => h w (by omega))
    by_cases e : w = n
    · subst e
      rw [tl_d, Nat.add_mul_div_right _ _ hp, Nat.div_eq_of_lt h1, Nat.zero_add]
      exact Nat.mod_eq_of_lt (h w (by omega))
    · have hlt : w < n := by omega
      have h2 := ih (fun w hw => h w (by omega)) w hlt
      obtain ⟨d, rfl⟩ : ∃ d, n = w + 1 + d := ⟨n - w - 1, by omega⟩
      rw [tl_d, show g (w + 1 + d) * 4 ^ (w + 1 + d) = (g (w + 1 + d) * 4 ^ d * 4) * 4 ^ w by rw [Nat.pow_add, Nat.pow_succ]; simp only [Nat.mul_assoc, Nat.mul_comm, Nat.mul_left_comm], Nat.add_mul_div_right _ _ hp, Nat.add_mul_mod_self_right]
      exact h2
theorem tl_g_lt (n j w : Nat) : tl_g n j w < 4 := Nat.mod_lt _ (by decide)
theorem tl_d_congr {g h : Nat → Nat} : ∀ n, (∀ w, w < n → g w = h w) → tl_d g n = tl_d h n := by
  intro n
  induction n with
  | zero => intro _; rfl
  | succ n ih =>
    intro e
    rw [tl_d, tl_d, ih (fun w hw => e w (by omega)), e n (by omega)]
theorem tl_m_congr {S P : Nat → Nat → Int} {F : Nat → Int} {g h : Nat → Nat} : ∀ n, (∀ w, w < n → g w = h w) → tl_m S P F g n = tl_m S P F h n := by
  intro n
  induction n with
  | zero => intro _; rfl
  | succ n ih =>
    intro e
    rw [tl_m, tl_m, ih (fun w hw => e w (by omega)), e n (by omega)]
    by_cases h0 : n = 0
    · simp [h0]
    · rw [e (n - 1) (by omega)]
/-- a code's own labels give it back -/
theorem tl_d_of {c : Nat} : ∀ n, c < 4 ^ n → tl_d (fun w => c / 4 ^ w % 4) n = c := by
  intro n
  induction n generalizing c with
  | zero => intro h; simp [tl_d] at h ⊢; omega
  | succ n ih =>
    intro h
    have hp : 0 < 4 ^ n := Nat.pow_pos (by decide)
    have h1 : c % 4 ^ n < 4 ^ n := Nat.mod_lt _ hp
    have h2 := ih h1
    rw [tl_d]
    have e : tl_d (fun w => c / 4 ^ w % 4) n = tl_d (fun w => c % 4 ^ n / 4 ^ w % 4) n := by
      refine tl_d_congr n fun w hw => ?_
      obtain ⟨d, rfl⟩ : ∃ d, n = w + (d + 1) := ⟨n - w - 1, by omega⟩
      rw [Nat.pow_add, Nat.mod_mul_right_div_self, Nat.mod_mod_of_dvd _ ⟨4 ^ d, by rw [Nat.pow_succ, Nat.mul_comm]⟩]
    have h3 : c / 4 ^ n < 4 := by
      rw [Nat.div_lt_iff_lt_mul hp]
      rw [Nat.pow_succ] at h
      omega
    rw [e, h2, Nat.mod_eq_of_lt h3]
    have := Nat.mod_add_div c (4 ^ n)
    rw [Nat.mul_comm] at this
    exact this
/-- an or that is a sum -/
theorem tl_or {a b w : Nat} (h : a < 4 ^ w) : a ||| b * 4 ^ w = a + b * 4 ^ w := by
  have h4 : (4 : Nat) ^ w = 2 ^ (2 * w) := by rw [Nat.pow_mul]
  rw [h4] at h ⊢
  rw [Nat.or_comm, ← Nat.shiftLeft_eq, ← Nat.shiftLeft_add_eq_or_of_lt h, Nat.add_comm]
theorem tl_or' {a b w : Nat} (h : a < 4 ^ w) : b * 4 ^ w ||| a = b * 4 ^ w + a := by
  rw [Nat.or_comm, tl_or h, Nat.add_comm]
/-- a tail's code is a multiple -/
theorem tl_T_code (n : Nat) (S P : Nat → Nat → Int) : ∀ m, m < n → ∀ l x, x ∈ tl_T n S P m l → ∃ d, x.2 = d * 4 ^ (n - 1 - m) := by
  intro m
  induction m with
  | zero =>
    intro _ l x hx
    simp only [tl_T, List.mem_singleton] at hx
    subst hx
    exact ⟨l, rfl⟩
  | succ m ih =>
    intro hm l x hx
    simp only [tl_T, List.mem_flatMap, List.mem_map] at hx
    obtain ⟨q, -, y, hy, rfl⟩ := hx
    obtain ⟨d, hd⟩ := ih (by omega) q y hy
    refine ⟨d * 4 + l, ?_⟩
    simp only [tk_sh, hd]
    have e : n - 1 - m = (n - 2 - m) + 1 := by omega
    have e2 : n - 1 - (m + 1) = n - 2 - m := by omega
    rw [e, e2, Nat.pow_succ, Nat.add_mul]
    simp only [Nat.mul_assoc, Nat.mul_comm, Nat.mul_left_comm]
/-- how large scores may be -/
theorem tl_T_abs (n : Nat) (S P : Nat → Nat → Int) (B : Int) (hS : ∀ w l, l < 4 → -B ≤ S w l ∧ S w l ≤ B) (hP : ∀ l q, l < 4 → q < 4 → -B ≤ P l q ∧ P l q ≤ B) : ∀ m l, l < 4 → ∀ x ∈ tl_T n S P m l, -((2 * m + 1 : Nat) * B) ≤ x.1 ∧ x.1 ≤ (2 * m + 1 : Nat) * B := by
  intro m
  induction m with
  | zero =>
    intro l hl x hx
    simp only [tl_T, List.mem_singleton] at hx
    subst hx
    have := hS (n - 1) l hl
    simp
    omega
  | succ m ih =>
    intro l hl x hx
    simp only [tl_T, List.mem_flatMap, List.mem_map, List.mem_range] at hx
    obtain ⟨q, hq, y, hy, rfl⟩ := hx
    have h1 := ih q hq y hy
    have h2 := hS (n - 2 - m) l hl
    have h3 := hP l q hl hq
    have e : ((2 * (m + 1) + 1 : Nat) : Int) * B = ((2 * m + 1 : Nat) : Int) * B + B + B := by
      rw [show (2 * (m + 1) + 1 : Nat) = (2 * m + 1) + 1 + 1 by omega]
      push_cast
      rw [Int.add_mul, Int.add_mul, Int.one_mul]
    rw [e]
    simp only [tk_sh]
    omega
end
section
/-! pure: the text, read -/
/-- the first place from i on where p doesn't hold; f: no more places than that hold it -/
def px_run (p : Nat → Bool) : Nat → Nat → Nat
  | 0, i => i
  | f + 1, i => if p i then px_run p f (i + 1) else i
/-- k ends the run of p from i -/
def px_end (p : Nat → Bool) (i k : Nat) : Prop := i ≤ k ∧ (∀ j, i ≤ j → j < k → p j = true) ∧ p k = false
theorem px_end_un {p : Nat → Bool} {i k k' : Nat} (h : px_end p i k) (h' : px_end p i k') : k = k' := by
  obtain ⟨a1, a2, a3⟩ := h
  obtain ⟨b1, b2, b3⟩ := h'
  rcases Nat.lt_trichotomy k k' with h | h | h
  · exact absurd (b2 k a1 h) (by rw [a3]; decide)
  · exact h
  · exact absurd (a2 k' b1 h) (by rw [b3]; decide)
theorem px_run_end {p : Nat → Bool} {M : Nat} (hp : ∀ j, p j = true → j < M) : ∀ f i, M ≤ i + f → px_end p i (px_run p f i) := by
  intro f
  induction f with
  | zero =>
    intro i h
    refine ⟨Nat.le_refl _, fun j h1 h2 => ?_, ?_⟩
    · simp only [px_run] at h2; omega
    · cases h3 : p i with
      | false => simp [px_run, h3]
      | true => exact absurd (hp i h3) (by omega)
  | succ f ih =>
    intro i h
    cases h3 : p i with
    | false =>
      simp only [px_run, h3]
      exact ⟨Nat.le_refl _, fun j h1 h2 => by simp at h2; omega, by simpa using h3⟩
    | true =>
      obtain ⟨a1, a2, a3⟩ := ih (i + 1) (by omega)
      simp only [px_run, h3, if_true]
      refine ⟨by omega, fun j h1 h2 => ?_, a3⟩
      by_cases e : j = i
      · rw [e]; exact h3
      · exact a2 j (by omega) h2
def px_lt (len : Nat) (ch : Nat → Nat) (i : Nat) : Bool := decide (i < len) && (decide (97 ≤ ch i) && decide (ch i ≤ 122))
def px_is (len : Nat) (ch : Nat → Nat) (c i : Nat) : Bool := decide (i < len) && decide (ch i = c)
theorem px_lt_iff {len : Nat} {ch : Nat → Nat} {i : Nat} : px_lt len ch i = true ↔ i < len ∧ 97 ≤ ch i ∧ ch i ≤ 122 := by
  simp [px_lt]
theorem px_is_iff {len : Nat} {ch : Nat → Nat} {c i : Nat} : px_is len ch c i = true ↔ i < len ∧ ch i = c := by
  simp [px_is]
def px_skip (len : Nat) (ch : Nat → Nat) (i : Nat) : Nat := px_run (px_is len ch 32) len i
def px_word (len : Nat) (ch : Nat → Nat) (i : Nat) : Nat := px_run (px_lt len ch) len i
theorem px_skip_end (len : Nat) (ch : Nat → Nat) (i : Nat) : px_end (px_is len ch 32) i (px_skip len ch i) := px_run_end (M := len) (fun j h => (px_is_iff.mp h).1) len i (by omega)
theorem px_word_end (len : Nat) (ch : Nat → Nat) (i : Nat) : px_end (px_lt len ch) i (px_word len ch i) := px_run_end (M := len) (fun j h => (px_lt_iff.mp h).1) len i (by omega)
theorem px_skip_of {len : Nat} {ch : Nat → Nat} {i k : Nat} (h : px_end (px_is len ch 32) i k) : px_skip len ch i = k := px_end_un (px_skip_end len ch i) h
theorem px_word_of {len : Nat} {ch : Nat → Nat} {i k : Nat} (h : px_end (px_lt len ch) i k) : px_word len ch i = k := px_end_un (px_word_end len ch i) h
theorem px_end_le {p : Nat → Bool} {M i k : Nat} (hp : ∀ j, p j = true → j < M) (h : px_end p i k) (hi : i ≤ M) : k ≤ M := by
  obtain ⟨a1, a2, -⟩ := h
  by_cases e : k = i
  · omega
  · have := hp (k - 1) (a2 (k - 1) (by omega) (by omega))
    omega
/-! numbers of words -/
def px_h (ch : Nat → Nat) (h : Int32) (i : Nat) : Nat → Int32
  | 0 => h
  | m + 1 => 31 * px_h ch h i m + nI (ch (i + m))
def px_b (h : Int32) : Int32 := (h ^^^ (h.toUInt32 >>> ((15 : Int32).toUInt32 &&& Int32.toUInt32 31)).toInt32) &&& 31
def px_B (h : Int32) : Nat := (px_b h).toBitVec.toNat
/-- a word: its three buckets and its label -/
abbrev px_W : Type := Nat × Nat × Nat × Nat
def px_f (ch : Nat → Nat) (i e b be lab : Nat) : px_W :=
  (px_B (px_h ch 7 i (e - i)), px_B (px_h ch (31 * 7 + 45) (if e - i > 1 then e - 2 else i) (e - (if e - i > 1 then e - 2 else i))), px_B (px_h ch (31 * 7 + 60) b (be - b)), lab)
/-- words from i on, wd of them read before, the last one from b to be -/
def px_go (len : Nat) (ch : Nat → Nat) (lb : Bool) : Nat → Nat → Nat → Nat → List px_W → Option (Nat × List px_W)
  | 0, _, _, _, _ => none
  | f + 1, i, b, be, acc =>
    if px_lt len ch i then
      let e := px_word len ch i
      if e - i > 6 ∨ acc.length = 6 then none else
      if lb then
        if px_is len ch 47 e ∧ e + 1 < len ∧ 65 ≤ ch (e + 1) ∧ ch (e + 1) ≤ 68 then
          let k := px_skip len ch (e + 2)
          if k = e + 2 ∧ px_lt len ch (e + 2) then none else px_go len ch lb f k i e (acc ++ [px_f ch i e b be (ch (e + 1) - 65)])
        else none
      else
        px_go len ch lb f (px_skip len ch e) i e (acc ++ [px_f ch i e b be 0])
    else some (i, acc)
def px_S (len : Nat) (ch : Nat → Nat) (lb : Bool) (i : Nat) : Option (Nat × List px_W) :=
  match px_go len ch lb 8 (px_skip len ch i) (px_skip len ch i) (px_skip len ch i) [] with
  | some (k, ws) => if ws = [] then none else some (k, ws)
  | none => none
/-- sentences: at most f more -/
def px_C (len : Nat) (ch : Nat → Nat) : Nat → Nat → List (List px_W) → Option (List (List px_W))
  | 0, _, _ => none
  | f + 1, i, acc => match px_S len ch true i with
    | none => none
    | some (k, ws) => if px_is len ch 59 k then px_C len ch f (k + 1) (acc ++ [ws]) else if k = len then some (acc ++ [ws]) else none
end
section
/-! pure: c added at each place of a row of places -/
def ct_ad (w : Nat → Int) (c : Int) (is : List Nat) : Nat → Int := fun j => w j + c * (is.count j : Nat)
theorem ct_ad_nil (w : Nat → Int) (c : Int) : ct_ad w c [] = w := by
  funext j; simp [ct_ad]
theorem ct_ad_snoc (w : Nat → Int) (c : Int) (is : List Nat) (i : Nat) : ct_ad w c (is ++ [i]) = fun j => if j = i then ct_ad w c is i + c else ct_ad w c is j := by
  funext j
  by_cases h : j = i
  · subst h
    simp only [ct_ad, List.count_append, List.count_singleton, if_true, beq_self_eq_true]
    push_cast
    rw [Int.mul_add, Int.mul_one]
    omega
  · have h1 : ¬ (i == j) = true := by simp; exact fun e => h e.symm
    simp [ct_ad, List.count_append, List.count_singleton, h, h1]
theorem ct_ad_app (w : Nat → Int) (c : Int) (is js : List Nat) : ct_ad (ct_ad w c is) c js = ct_ad w c (is ++ js) := by
  funext j
  simp only [ct_ad, List.count_append]
  push_cast
  rw [Int.mul_add]
  omega
/-- the place of a word's first weight (its label first, or behind the label before) -/
def ct_r (g : Nat → Nat) (w : Nat) : Nat := (if w = 0 then 32 else 33 + g (w - 1)) * 4 + g w
/-- the places of n words in the order of the class, and of the reference -/
def ct_C (b : Nat → Nat → Nat) (g : Nat → Nat) (n : Nat) : List Nat := (List.range n).flatMap (fun w => [ct_r g w, b w 0 * 4 + g w, b w 1 * 4 + g w, b w 2 * 4 + g w])
def ct_M (b : Nat → Nat → Nat) (g : Nat → Nat) (n : Nat) : List Nat := (List.range n).flatMap (fun w => [b w 0 * 4 + g w, b w 1 * 4 + g w, b w 2 * 4 + g w, ct_r g w])
theorem ct_C_succ (b : Nat → Nat → Nat) (g : Nat → Nat) (n : Nat) : ct_C b g (n + 1) = ct_C b g n ++ [ct_r g n, b n 0 * 4 + g n, b n 1 * 4 + g n, b n 2 * 4 + g n] := by
  simp [ct_C, List.range_succ, List.flatMap_append]
theorem ct_M_succ (b : Nat → Nat → Nat) (g : Nat → Nat) (n : Nat) : ct_M b g (n + 1) = ct_M b g n ++ [b n 0 * 4 + g n, b n 1 * 4 + g n, b n 2 * 4 + g n, ct_r g n] := by
  simp [ct_M, List.range_succ, List.flatMap_append]
theorem ct_same (b : Nat → Nat → Nat) (g : Nat → Nat) (n j : Nat) : (ct_C b g n).count j = (ct_M b g n).count j := by
  induction n with
  | zero => rfl
  | succ n ih =>
    rw [ct_C_succ, ct_M_succ, List.count_append, List.count_append, ih]
    simp only [List.count_cons, List.count_nil]
    omega
theorem ct_ad_same (w : Nat → Int) (c : Int) (b : Nat → Nat → Nat) (g : Nat → Nat) (n : Nat) : ct_ad w c (ct_C b g n) = ct_ad w c (ct_M b g n) := by
  funext j
  simp only [ct_ad, ct_same]
theorem ct_C_congr {b b' : Nat → Nat → Nat} {g g' : Nat → Nat} : ∀ n, (∀ w, w < n → g w = g' w) → (∀ w k, w < n → k < 3 → b w k = b' w k) → ct_C b g n = ct_C b' g' n := by
  intro n
  induction n with
  | zero => intro _ _; rfl
  | succ n ih =>
    intro h1 h2
    have e : ct_r g n = ct_r g' n := by
      unfold ct_r
      by_cases h0 : n = 0
      · simp [h0]; rw [← h0]; exact h1 n (by omega)
      · simp [h0]; rw [h1 n (by omega), h1 (n - 1) (by omega)]
    rw [ct_C_succ, ct_C_succ, ih (fun w hw => h1 w (by omega)) (fun w k hw hk => h2 w k (by omega) hk), e, h1 n (by omega), h2 n 0 (by omega) (by omega), h2 n 1 (by omega) (by omega), h2 n 2 (by omega) (by omega)]
theorem ct_len (b : Nat → Nat → Nat) (g : Nat → Nat) (n : Nat) : (ct_C b g n).length = 4 * n := by
  induction n with
  | zero => rfl
  | succ n ih => rw [ct_C_succ, List.length_append, ih]; simp; omega
theorem ct_abs {w : Nat → Int} {B : Int} {is : List Nat} (c : Int) (hc : c = 1 ∨ c = -1) (h : ∀ j, -B ≤ w j ∧ w j ≤ B) (hl : is.length ≤ 24) : ∀ j, -(B + 24) ≤ ct_ad w c is j ∧ ct_ad w c is j ≤ B + 24 := by
  intro j
  have h1 := h j
  have h2 : is.count j ≤ 24 := Nat.le_trans List.count_le_length hl
  simp only [ct_ad]
  rcases hc with rfl | rfl <;> constructor <;> omega
end
section
/-! longs that are whole numbers -/
def iL (z : Int) : Int64 := Int64.ofInt z
theorem iL_add (a b : Int) : iL a + iL b = iL (a + b) := (Int64.ofInt_add a b).symm
theorem iL_0 : iL 0 = 0 := rfl
theorem iL_toInt {a : Int} (h : -4611686018427387904 ≤ a) (h2 : a ≤ 4611686018427387904) : (iL a).toInt = a := Int64.toInt_ofInt_of_le (by omega) (by omega)
theorem iL_lt {a b : Int} (h : -4611686018427387904 ≤ a) (h2 : a ≤ 4611686018427387904) (h3 : -4611686018427387904 ≤ b) (h4 : b ≤ 4611686018427387904) : iL a < iL b ↔ a < b := by
  rw [Int64.lt_iff_toInt_lt, iL_toInt h h2, iL_toInt h3 h4]
theorem iL_le {a b : Int} (h : -4611686018427387904 ≤ a) (h2 : a ≤ 4611686018427387904) (h3 : -4611686018427387904 ≤ b) (h4 : b ≤ 4611686018427387904) : iL a ≤ iL b ↔ a ≤ b := by
  rw [Int64.le_iff_toInt_le, iL_toInt h h2, iL_toInt h3 h4]
end
section
/-! labels in the bits of an int; sums of weights -/
def lb_at (x : Int32) (w : Nat) : Nat := x.toBitVec.toNat / 2 ^ (2 * w) % 4
theorem lb_sh : ∀ w, w < 16 → (((nI (2 * w)).toUInt32 &&& Int32.toUInt32 31).toBitVec % 32).toNat = 2 * w := by decide
theorem lb_u (x : Int32) {w : Nat} (hw : w < 16) : ((x.toUInt32 >>> ((nI (2 * w)).toUInt32 &&& Int32.toUInt32 31)).toInt32 &&& nI 3) = nI (lb_at x w) := by
  rw [pk_and _ (m := nI 3) 2 (by decide), pk_ushr x (nI (2 * w)) (2 * w) (lb_sh w hw)]
  rfl
theorem lb_lt (x : Int32) (w : Nat) : lb_at x w < 4 := Nat.mod_lt _ (by decide)
theorem lb_nI {c : Nat} (h : c < 4294967296) (w : Nat) : lb_at (nI c) w = c / 4 ^ w % 4 := by
  rw [lb_at, pk_tn (by omega), Nat.pow_mul]
theorem lb_ss : ∀ w, w < 16 → ((nI (2 * w) &&& 31).toBitVec.smod 32).toNat = 2 * w := by decide
theorem lb_cond (y : Int32) : y.toInt = (y.toBitVec.toNat : Int) ∨ y.toInt = (y.toBitVec.toNat : Int) - 4294967296 := by
  rw [← Int32.toInt_toBitVec, BitVec.toInt_eq_toNat_cond]
  by_cases h : 2 * y.toBitVec.toNat < 2 ^ 32
  · simp [h]
  · simp [h]
theorem lb_s (x : Int32) {w : Nat} (hw : w < 6) : ((x >>> (nI (2 * w) &&& 31)) &&& nI 3) = nI (lb_at x w) := by
  rw [pk_and _ (m := nI 3) 2 (by decide)]
  congr 1
  have h1 := pk_shr x (nI (2 * w) &&& 31) (2 * w) (lb_ss w (by omega))
  have h2 := lb_cond (x >>> (nI (2 * w) &&& 31))
  have h3 := lb_cond x
  rw [Int.shiftRight_eq_div_pow] at h1
  simp only [lb_at]
  generalize (x >>> (nI (2 * w) &&& 31)).toInt = a at h1 h2
  generalize (x >>> (nI (2 * w) &&& 31)).toBitVec.toNat = b at h2 ⊢
  generalize x.toInt = c at h1 h3
  generalize x.toBitVec.toNat = e at h3 ⊢
  have h4 : w = 0 ∨ w = 1 ∨ w = 2 ∨ w = 3 ∨ w = 4 ∨ w = 5 := by omega
  rcases h4 with rfl | rfl | rfl | rfl | rfl | rfl <;> simp at h1 ⊢ <;> omega
/-- what a word's label weighs, k features of it -/
def wd_S (wt : Nat → Int) (B : Nat → Nat) (l : Nat) : Nat → Int
  | 0 => 0
  | k + 1 => wd_S wt B l k + wt (B k * 4 + l)
def wd_W (wt : Nat → Int) (B : Nat → Nat) (w l : Nat) : Int := wd_S wt (fun k => B (w * 3 + k)) l 3
/-- the row of the first weight of word w -/
def wd_r (g : Nat → Nat) (w : Nat) : Nat := if w = 0 then 32 else 33 + g (w - 1)
/-- what labels weigh -/
def wd_T (wt : Nat → Int) (B : Nat → Nat) (g : Nat → Nat) : Nat → Int
  | 0 => 0
  | w + 1 => wd_T wt B g w + (wt (wd_r g w * 4 + g w) + wd_W wt B w (g w))
theorem wd_r_s (g : Nat → Nat) (w : Nat) : wd_r g (w + 1) = 33 + g w := by simp [wd_r]
theorem wd_r_lt {g : Nat → Nat} (hg : ∀ w, g w < 4) (w : Nat) : wd_r g w < 37 := by
  unfold wd_r
  by_cases h : w = 0
  · simp [h]
  · have := hg (w - 1)
    simp [h]; omega
theorem ct_r_eq (g : Nat → Nat) (w : Nat) : ct_r g w = wd_r g w * 4 + g w := rfl
end
section
/-- in how many of N words two labellings differ -/
def df_n (x y : Int32) : Nat → Nat
  | 0 => 0
  | w + 1 => if lb_at x w = lb_at y w then df_n x y w else df_n x y w + 1
theorem df_le (x y : Int32) : ∀ n, df_n x y n ≤ n := by
  intro n
  induction n with
  | zero => exact Nat.le_refl _
  | succ n ih =>
    simp only [df_n]
    split <;> omega
/-- arrays that agree on their places are the same cell -/
theorem gw_arr_ext (cA : ClassId) (n : Nat) {f g : Nat → Value} (h : ∀ j, j < n → f j = g j) : arrV cA n f = arrV cA n g := by
  unfold arrV
  congr 1
  apply Array.ext
  · simp
  · intro j h1 h2
    simp only [Array.getElem_ofFn]
    exact h j (by simpa using h1)
section GWX
variable {X : gw_C} {σ : gw_S} {ce sl pc : Nat} {L : List (Nat × Value)} {st : List Value}
/-- an array told by another list of the same contents -/
theorem gw_extI {a n : Nat} {f g : Nat → Int32} (h : σ.2 a = some (gw_I (gw_z X) n f)) (he : ∀ j, j < n → f j = g j) (kk : gw_W X (gw_up σ a (gw_I (gw_z X) n g)) ce sl pc L st) : gw_W X σ ce sl pc L st := by
  intro H locs ls hG hS hL
  refine kk H locs ls (gw_H_up hG h ?_ rfl (fun _ _ => rfl)) hS hL
  have h1 : H[a]? = some (vp_cell _ _) := (hG.2.2 a _ h).2
  show H[a]? = some (vp_cell _ _)
  rw [h1, vp_cell_i, vp_cell_i, gw_arr_ext _ _ (fun j hj => by rw [he j hj])]
theorem gw_extC {a n : Nat} {f g : Nat → Int32} (h : σ.2 a = some (gw_Ch (gw_z X) n f)) (he : ∀ j, j < n → f j = g j) (kk : gw_W X (gw_up σ a (gw_Ch (gw_z X) n g)) ce sl pc L st) : gw_W X σ ce sl pc L st := by
  intro H locs ls hG hS hL
  refine kk H locs ls (gw_H_up hG h ?_ rfl (fun _ _ => rfl)) hS hL
  have h1 : H[a]? = some (vp_cell _ _) := (hG.2.2 a _ h).2
  show H[a]? = some (vp_cell _ _)
  rw [h1, vp_cell_i, vp_cell_i, gw_arr_ext _ _ (fun j hj => by rw [he j hj])]
theorem gw_extJ {a n : Nat} {f g : Nat → Int64} (h : σ.2 a = some (gw_J (gw_z X) n f)) (he : ∀ j, j < n → f j = g j) (kk : gw_W X (gw_up σ a (gw_J (gw_z X) n g)) ce sl pc L st) : gw_W X σ ce sl pc L st := by
  intro H locs ls hG hS hL
  refine kk H locs ls (gw_H_up hG h ?_ rfl (fun _ _ => rfl)) hS hL
  have h1 : H[a]? = some (vp_cell _ _) := (hG.2.2 a _ h).2
  show H[a]? = some (vp_cell _ _)
  rw [h1, vp_cell_l, vp_cell_l, gw_arr_ext _ _ (fun j hj => by rw [he j hj])]
end GWX
end
section
/-! rankings as they lie in the heap -/
def rk_at (σ : gw_S) (Z : gw_Z) (r : Nat) (R : List (Int × Nat)) : Prop := ∃ (fs : Nat → Int64) (fl : Nat → Int32), σ.2 r = some (.inr (4, [.ref (r + 1), .ref (r + 2), .int (nI R.length)])) ∧ σ.2 (r + 1) = some (gw_J Z 2 fs) ∧ σ.2 (r + 2) = some (gw_I Z 2 fl) ∧ ∀ (i : Nat) (x : Int × Nat), R[i]? = some x → fs i = iL x.1 ∧ fl i = nI x.2
/-- some ranking or other -/
def rk_any (σ : gw_S) (Z : gw_Z) (r : Nat) : Prop := ∃ (k : Int32) (fs : Nat → Int64) (fl : Nat → Int32), σ.2 r = some (.inr (4, [.ref (r + 1), .ref (r + 2), .int k])) ∧ σ.2 (r + 1) = some (gw_J Z 2 fs) ∧ σ.2 (r + 2) = some (gw_I Z 2 fl)
theorem rk_at_any {σ : gw_S} {Z : gw_Z} {r : Nat} {R : List (Int × Nat)} (h : rk_at σ Z r R) : rk_any σ Z r := by
  obtain ⟨fs, fl, h0, h1, h2, -⟩ := h
  exact ⟨_, fs, fl, h0, h1, h2⟩
theorem rk_at_fr {σ σ' : gw_S} {Z : gw_Z} {r lo hi : Nat} {R : List (Int × Nat)} (h : rk_at σ Z r R) (f : gw_fr σ σ' lo hi) (d : r + 3 ≤ lo ∨ hi ≤ r) : rk_at σ' Z r R := by
  obtain ⟨fs, fl, h0, h1, h2, h3⟩ := h
  exact ⟨fs, fl, (f.2 r (by omega)).trans h0, (f.2 (r + 1) (by omega)).trans h1, (f.2 (r + 2) (by omega)).trans h2, h3⟩
theorem rk_any_fr {σ σ' : gw_S} {Z : gw_Z} {r lo hi : Nat} (h : rk_any σ Z r) (f : gw_fr σ σ' lo hi) (d : r + 3 ≤ lo ∨ hi ≤ r) : rk_any σ' Z r := by
  obtain ⟨k, fs, fl, h0, h1, h2⟩ := h
  exact ⟨k, fs, fl, (f.2 r (by omega)).trans h0, (f.2 (r + 1) (by omega)).trans h1, (f.2 (r + 2) (by omega)).trans h2⟩
/-- scores that can be compared as whole numbers -/
def rk_bd (R : List (Int × Nat)) : Prop := ∀ x ∈ R, -4611686018427387904 ≤ x.1 ∧ x.1 ≤ 4611686018427387904
theorem rk_one {a : Int × Nat} {fs : Nat → Int64} {fl : Nat → Int32} (h0 : fs 0 = iL a.1) (h1 : fl 0 = nI a.2) : ∀ (i : Nat) (x : Int × Nat), [a][i]? = some x → fs i = iL x.1 ∧ fl i = nI x.2 := by
  intro i x hx
  match i, hx with
  | 0, hx => cases hx; exact ⟨h0, h1⟩
  | i + 1, hx => simp at hx
theorem rk_two {a b : Int × Nat} {fs : Nat → Int64} {fl : Nat → Int32} (h0 : fs 0 = iL a.1) (h1 : fl 0 = nI a.2) (h2 : fs 1 = iL b.1) (h3 : fl 1 = nI b.2) : ∀ (i : Nat) (x : Int × Nat), [a, b][i]? = some x → fs i = iL x.1 ∧ fl i = nI x.2 := by
  intro i x hx
  match i, hx with
  | 0, hx => cases hx; exact ⟨h0, h1⟩
  | 1, hx => cases hx; exact ⟨h2, h3⟩
  | i + 2, hx => simp at hx
theorem rk_cmp {a b : Int} (ha : -4611686018427387904 ≤ a ∧ a ≤ 4611686018427387904) (hb : -4611686018427387904 ≤ b ∧ b ≤ 4611686018427387904) : lg_cmp (iL a) (iL b) ≤ 0 ↔ a ≤ b := by
  have h1 := iL_lt hb.1 hb.2 ha.1 ha.2
  unfold lg_cmp
  by_cases h : b < a
  · have h2 : iL a > iL b := h1.mpr h
    rw [if_pos h2]
    constructor
    · intro q; exact absurd q (by decide)
    · intro q; omega
  · have h2 : ¬ iL a > iL b := fun q => h (h1.mp q)
    rw [if_neg h2]
    constructor
    · intro _; omega
    · intro _
      by_cases h3 : iL a = iL b
      · rw [if_pos h3]; decide
      · rw [if_neg h3]; decide
theorem rk_bd_offer {R : List (Int × Nat)} (hR : tk_ok R) (h : rk_bd R) {x : Int × Nat} (hx : -4611686018427387904 ≤ x.1 ∧ x.1 ≤ 4611686018427387904) : rk_bd (tk_offer R x) := by
  intro y hy
  rcases tk_mem [x] R hR y hy with h1 | h1
  · exact h y h1
  · rw [List.mem_singleton.mp h1]; exact hx
theorem rk_bd_all {R l : List (Int × Nat)} (hR : tk_ok R) (h : rk_bd R) (hl : rk_bd l) : rk_bd (tk_all R l) := by
  intro y hy
  rcases tk_mem l R hR y hy with h1 | h1
  · exact h y h1
  · exact hl y h1
theorem rk_take {T : List (Int × Nat)} {i : Nat} {x : Int × Nat} (h : T[i]? = some x) (R : List (Int × Nat)) (c : Int) (k : Nat) : tk_offer (tk_all R ((T.take i).map (tk_sh c k))) (x.1 + c, x.2 + k) = tk_all R ((T.take (i + 1)).map (tk_sh c k)) := by
  have h1 : T.take (i + 1) = T.take i ++ [x] := by
    rw [List.take_add_one, h]; rfl
  rw [h1, List.map_append, tk_all_app]
  rfl
/-! places of the changed weights, one word's -/
def ct_P (b : Nat → Nat → Nat) (g : Nat → Nat) (w k : Nat) : List Nat := ct_C b g w ++ (ct_r g w :: (List.range k).map (fun i => b w i * 4 + g w))
theorem ct_P0 (b : Nat → Nat → Nat) (g : Nat → Nat) (w : Nat) : ct_C b g w ++ [ct_r g w] = ct_P b g w 0 := rfl
theorem ct_Ps (b : Nat → Nat → Nat) (g : Nat → Nat) (w k : Nat) : ct_P b g w k ++ [b w k * 4 + g w] = ct_P b g w (k + 1) := by
  simp [ct_P, List.range_succ]
theorem ct_P3 (b : Nat → Nat → Nat) (g : Nat → Nat) (w : Nat) : ct_P b g w 3 = ct_C b g (w + 1) := by
  rw [ct_C_succ]; rfl
theorem ct_upd (wt : Nat → Int) (c : Int) (is : List Nat) (i : Nat) : vp_updL (fun j => iL (ct_ad wt c is j)) i (iL (ct_ad wt c is i) + iL c) = fun j => iL (ct_ad wt c (is ++ [i]) j) := by
  funext j
  rw [ct_ad_snoc, iL_add]
  simp only [vp_updL]
  split
  · rfl
  · rfl
end
section
/-! what a decoding stands on: the decoder at d, weights at a, a sentence of N words at s -/
def dc_E (σ : gw_S) (Z : gw_Z) (d a s : Nat) (wt : Nat → Int) (b : Nat → Int32) (lab : Int32) (N : Nat) : Prop :=
  σ.2 d = some (.inr (3, [.ref (d + 1), .ref (d + 2)])) ∧ σ.2 (d + 1) = some (gw_Q4 Z 24 (fun i => some (d + 5 + 3 * i))) ∧ σ.2 a = some (.inr (7, [.ref (a + 1)])) ∧ σ.2 (a + 1) = some (gw_J Z 148 (fun j => iL (wt j))) ∧ σ.2 s = some (.inr (5, [.ref (s + 1), .int lab, .int (nI N)])) ∧ σ.2 (s + 1) = some (gw_I Z 18 b) ∧ rk_any σ Z (d + 2) ∧ ∀ i, i < 24 → rk_any σ Z (d + 5 + 3 * i)
/-- they lie apart -/
abbrev dc_D (d a s : Nat) : Prop := (a + 2 ≤ d ∨ d + 77 ≤ a) ∧ (s + 2 ≤ d ∨ d + 77 ≤ s)
theorem dc_E_tail {σ σ' : gw_S} {Z : gw_Z} {d a s : Nat} {wt : Nat → Int} {b : Nat → Int32} {lab : Int32} {N : Nat} (h : dc_E σ Z d a s wt b lab N) (hd : dc_D d a s) {i : Nat} (hi : i < 24) (f : gw_fr σ σ' (d + 5 + 3 * i) (d + 5 + 3 * i + 3)) (k : rk_any σ' Z (d + 5 + 3 * i)) : dc_E σ' Z d a s wt b lab N := by
  obtain ⟨h1, h2, h3, h4, h5, h6, h7, h8⟩ := h
  refine ⟨(f.2 _ (by omega)).trans h1, (f.2 _ (by omega)).trans h2, (f.2 _ (by omega)).trans h3, (f.2 _ (by omega)).trans h4, (f.2 _ (by omega)).trans h5, (f.2 _ (by omega)).trans h6, rk_any_fr h7 f (by omega), fun j hj => ?_⟩
  by_cases e : j = i
  · rw [e]; exact k
  · exact rk_any_fr (h8 j hj) f (by omega)
theorem dc_E_whole {σ σ' : gw_S} {Z : gw_Z} {d a s : Nat} {wt : Nat → Int} {b : Nat → Int32} {lab : Int32} {N : Nat} (h : dc_E σ Z d a s wt b lab N) (hd : dc_D d a s) (f : gw_fr σ σ' (d + 2) (d + 2 + 3)) (k : rk_any σ' Z (d + 2)) : dc_E σ' Z d a s wt b lab N := by
  obtain ⟨h1, h2, h3, h4, h5, h6, h7, h8⟩ := h
  exact ⟨(f.2 _ (by omega)).trans h1, (f.2 _ (by omega)).trans h2, (f.2 _ (by omega)).trans h3, (f.2 _ (by omega)).trans h4, (f.2 _ (by omega)).trans h5, (f.2 _ (by omega)).trans h6, k, fun j hj => rk_any_fr (h8 j hj) f (by omega)⟩
/-- what two labels side by side weigh, what the first one weighs -/
def dc_P (wt : Nat → Int) (l q : Nat) : Int := wt ((33 + l) * 4 + q)
def dc_F (wt : Nat → Int) (q : Nat) : Int := wt (32 * 4 + q)
/-- weights of this size can't run over -/
abbrev dc_B (wt : Nat → Int) : Prop := ∀ j, -1099511627776 ≤ wt j ∧ wt j ≤ 1099511627776
theorem dc_S_bd {wt : Nat → Int} (h : dc_B wt) (B : Nat → Nat) (w l : Nat) : -3298534883328 ≤ wd_W wt B w l ∧ wd_W wt B w l ≤ 3298534883328 := by
  have h0 := h (B (w * 3 + 0) * 4 + l)
  have h1 := h (B (w * 3 + 1) * 4 + l)
  have h2 := h (B (w * 3 + 2) * 4 + l)
  simp only [wd_W, wd_S]
  omega
theorem dc_T_bd {wt : Nat → Int} (h : dc_B wt) (B : Nat → Nat) (N m l : Nat) (hm : m ≤ 5) (hl : l < 4) : ∀ x ∈ tl_T N (wd_W wt B) (dc_P wt) m l, -36283883716608 ≤ x.1 ∧ x.1 ≤ 36283883716608 := by
  intro x hx
  have h1 := tl_T_abs N (wd_W wt B) (dc_P wt) 3298534883328 (fun w l _ => dc_S_bd h B w l) (fun l q _ _ => by have := h ((33 + l) * 4 + q); simp only [dc_P]; omega) m l hl x hx
  omega
theorem dc_top_bd {wt : Nat → Int} (h : dc_B wt) (B : Nat → Nat) (N m l : Nat) (hm : m ≤ 5) (hl : l < 4) : ∀ x ∈ tk_all [] (tl_T N (wd_W wt B) (dc_P wt) m l), -36283883716608 ≤ x.1 ∧ x.1 ≤ 36283883716608 := by
  intro x hx
  rcases tk_mem _ [] trivial x hx with h1 | h1
  · cases h1
  · exact dc_T_bd h B N m l hm hl x h1
theorem nI_or (a b : Nat) : nI a ||| nI b = nI (a ||| b) := by
  apply Int32.toBitVec_inj.mp
  show BitVec.ofNat 32 a ||| BitVec.ofNat 32 b = BitVec.ofNat 32 (a ||| b)
  apply BitVec.eq_of_toNat_eq
  simp only [BitVec.toNat_or, BitVec.toNat_ofNat]
  exact (Nat.or_mod_two_pow).symm
theorem dc_or {wt : Nat → Int} (B : Nat → Nat) (N m l w : Nat) (hm : m < N) (hw : N - 1 - m = w + 1) {lb : Nat} (hlb : lb < 4) : ∀ x ∈ tk_all [] (tl_T N (wd_W wt B) (dc_P wt) m l), nI x.2 ||| nI (lb * 4 ^ w) = nI (x.2 + lb * 4 ^ w) := by
  intro x hx
  rcases tk_mem _ [] trivial x hx with h1 | h1
  · cases h1
  · obtain ⟨e, he⟩ := tl_T_code N _ _ m hm l x h1
    rw [hw] at he
    rw [nI_or, he, tl_or']
    rw [Nat.pow_succ]
    have : lb * 4 ^ w ≤ 3 * 4 ^ w := Nat.mul_le_mul_right _ (by omega)
    have h4 : 0 < 4 ^ w := Nat.pow_pos (by decide)
    omega
theorem lb_shl {lb w : Nat} (hlb : lb < 4) (hw : w < 6) : nI lb <<< (nI (2 * w) &&& 31) = nI (lb * 4 ^ w) := by
  have e : (2 : Nat) ^ (2 * w) = 4 ^ w := by rw [Nat.pow_mul]
  rw [pk_shlN (nI (2 * w) &&& 31) (2 * w) (lb_ss w (by omega)), e]
  rw [e]
  have h1 : 4 ^ w ≤ 4 ^ 5 := Nat.pow_le_pow_right (by decide) (by omega)
  have h2 : lb * 4 ^ w ≤ 3 * 4 ^ 5 := Nat.mul_le_mul (by omega) h1
  omega
theorem dc_len (N : Nat) (S P : Nat → Nat → Int) (m l : Nat) : (tk_all [] (tl_T N S P m l)).length ≤ 2 := by
  rw [tk_len _ [] trivial]; omega
end
section
/-! the text as it lies in the heap; its characters -/
def tx_at (σ : gw_S) (Z : gw_Z) (t len k : Nat) (ch : Nat → Nat) : Prop := σ.2 t = some (.inr (6, [.ref (t + 1), .int (nI len), .int (nI k)])) ∧ σ.2 (t + 1) = some (gw_Ch Z 240 (fun j => nI (ch j)))
theorem tx_at_fr {σ σ' : gw_S} {Z : gw_Z} {t len k lo hi : Nat} {ch : Nat → Nat} (h : tx_at σ Z t len k ch) (f : gw_fr σ σ' lo hi) (d : t + 2 ≤ lo ∨ hi ≤ t) : tx_at σ' Z t len k ch := ⟨(f.2 _ (by omega)).trans h.1, (f.2 _ (by omega)).trans h.2⟩
def tx_c (len : Nat) (ch : Nat → Nat) (k : Nat) : Int32 := if k < len then nI (ch k) else (-1)
def tx_l (x : Int32) : Nat := if x < nI 97 ∨ nI 122 < x then 0 else 1
theorem tx_l_c {len : Nat} {ch : Nat → Nat} (hch : ∀ j, ch j < 127) (k : Nat) : tx_l (tx_c len ch k) = if px_lt len ch k then 1 else 0 := by
  unfold tx_l tx_c px_lt
  by_cases h : k < len
  · have h1 := hch k
    have e1 : nI (ch k) < nI 97 ↔ ch k < 97 := nI_ltI (by omega) (by omega)
    have e2 : nI 122 < nI (ch k) ↔ 122 < ch k := nI_ltI (by omega) (by omega)
    simp only [h, if_true, e1, e2, decide_true, Bool.true_and]
    by_cases h2 : 97 ≤ ch k
    · by_cases h3 : ch k ≤ 122
      · rw [if_neg (by omega), if_pos (by simp [h2, h3])]
      · rw [if_pos (by omega), if_neg (by simp [h3])]
    · rw [if_pos (by omega), if_neg (by simp [h2])]
  · simp only [h, if_false, decide_false, Bool.false_and]
    rw [if_pos (Or.inl (by decide))]
    rfl
theorem tx_c_eq {len : Nat} {ch : Nat → Nat} (hch : ∀ j, ch j < 127) (k : Nat) {c : Nat} (hc : c < 127) : tx_c len ch k = nI c ↔ px_is len ch c k = true := by
  unfold tx_c px_is
  by_cases h : k < len
  · have h1 := hch k
    simp only [h, if_true, decide_true, Bool.true_and, decide_eq_true_eq]
    exact nI_eq (by omega) (by omega)
  · simp only [h, if_false, decide_false, Bool.false_and]
    constructor
    · intro q
      have h2 := nI_toInt (show c < 2 ^ 31 by omega)
      rw [← q] at h2
      exact absurd h2 (by have : ((-1 : Int32)).toInt = -1 := by decide
                          rw [this]; omega)
    · intro q; cases q
def by_at (w : Int64) (i : Nat) : Nat := w.toBitVec.toNat / 2 ^ (8 * i) % 256
theorem by_lt (w : Int64) (i : Nat) : by_at w i < 256 := Nat.mod_lt _ (by decide)
theorem by_sh : ∀ i, i < 8 → ((nI (8 * i)).toInt64.toUInt64 &&& Int64.toUInt64 63) = UInt64.ofNat (8 * i) := by decide
theorem by_l2i (u : UInt64) : u.toInt64.toInt32.toBitVec.toNat = u.toNat % 4294967296 := by
  have e : u.toInt64 = lN u.toNat := by
    apply Int64.toBitVec_inj.mp
    show u.toBitVec = BitVec.ofNat 64 u.toBitVec.toNat
    rw [BitVec.ofNat_toNat, BitVec.setWidth_eq]
  rw [e, lN_i]
  show (BitVec.ofNat 32 u.toNat).toNat = _
  rw [BitVec.toNat_ofNat]
theorem by_u (w : Int64) {i : Nat} (hi : i < 8) : ((w.toUInt64 >>> ((nI (8 * i)).toInt64.toUInt64 &&& Int64.toUInt64 63)).toInt64.toInt32 &&& nI 255) = nI (by_at w i) := by
  rw [pk_and _ (m := nI 255) 8 (by decide), by_sh i hi, by_l2i, UInt64.toNat_shiftRight]
  congr 1
  have h1 : (UInt64.ofNat (8 * i)).toNat = 8 * i := UInt64.toNat_ofNat_of_lt' (by show 8 * i < 18446744073709551616; omega)
  rw [h1, Nat.mod_eq_of_lt (show 8 * i < 64 by omega), Nat.shiftRight_eq_div_pow]
  show w.toBitVec.toNat / 2 ^ (8 * i) % 4294967296 % 2 ^ 8 = _
  rw [by_at]
  omega
theorem px_b_nI (h : Int32) : px_b h = nI (px_B h) := by
  unfold px_B
  apply Int32.toBitVec_inj.mp
  show (px_b h).toBitVec = BitVec.ofNat 32 (px_b h).toBitVec.toNat
  rw [BitVec.ofNat_toNat, BitVec.setWidth_eq]
theorem px_B_lt (h : Int32) : px_B h < 32 := by
  obtain ⟨j, hj, e⟩ := pk_andE (h ^^^ (h.toUInt32 >>> ((15 : Int32).toUInt32 &&& Int32.toUInt32 31)).toInt32) (m := 31) 5 (by decide)
  have e2 : px_b h = nI j := e
  rw [px_B, e2, pk_tn (by omega)]
  exact hj
/-- Math.max -/
theorem kx_l : Cond.methodLink "LabelLearner$Text" 72 Lib.Math.max.name ∈ gw_ws := gw_in_t 285 (by decide +kernel) rfl
theorem kx_s : Cond.static Lib.Math.max.name ∈ gw_ws := gw_in_t 286 (by decide +kernel) rfl
theorem kx_c : Cond.code Lib.Math.max.name Lib.Math.max.code 2 (some .int) ∈ gw_ws := gw_in_t 287 (by decide +kernel) rfl
theorem kx_i : Cond.initialized "java/lang/Math" ∈ gw_ws := gw_in_t 9 (by decide +kernel) rfl
theorem gw_max {X : gw_C} {cc : ByteArray} {q : gw_N} {σ : gw_S} {ce sl pc : Nat} {L : List (Nat × Value)} {st : List Value} (hX : gw_ok X cc "LabelLearner$Text" q) (d : decode cc pc = .ok (.invokestatic 72, 3)) {x y : Int32} (h1 : 1 ≤ q.2.1) (h2 : (st.map fun v => v.category).sum + 13 ≤ q.2.2.1) (h3 : ce ≤ q.2.2.2.1) (h4 : sl ≤ q.2.2.2.2) (kk : gw_W X σ ce sl (pc + 3) L (.int (if x < y then y else x) :: st)) : gw_W X σ ce sl pc L (.int y :: .int x :: st) := by
  intro H locs ls hG hS hL
  have hw := hX.2.2.2.2.1
  have hR : X.1.2.2.2 = _ := hX.2.2.1.2.2.1
  exact va_mmax hX.1 hX.2.1 (hX.2.2.1.1.trans hL.1.symm) hX.2.2.2.1 (hw _ kx_l) (hw _ kx_s) (hw _ kx_i) (hw _ kx_c) (by rw [hR]; exact h1) (by rw [hR]; exact h2) (by rw [hR]; exact h3) (by rw [hR]; exact h4) d (kk H locs ls hG hS hL)
end
section
set_option maxRecDepth 100000 in
set_option maxHeartbeats 4000000 in
theorem ct_Se_bucketOf (l : Launch) (Z : gw_Z) (b0 : Nat) (σ : gw_S) (a w k : Nat) (f : Nat → Int32) (lab sz : Int32) (h0 : σ.2 a = some (.inr (5, [.ref (a + 1), .int lab, .int sz]))) (h1 : σ.2 (a + 1) = some (gw_I Z 18 f)) (hk : w * 3 + k < 18) : gw_M l ny_Se_bucketOf nc_Se_bucketOf (3, 0, 0, 0, 0) (some .int) Z b0 σ [.ref a, .int (nI w), .int (nI k)] (fun v σ' => v = some (.int (f (w * 3 + k))) ∧ σ' = σ) := by
  refine gw_M_of rfl (Nat.le_of_ble_eq_true rfl) ?_
  intro X hX hl hz hb0 hr hnm hQ
  subst hz hb0 hl
  have hX : gw_ok X nc_Se_bucketOf "LabelLearner$Sentence" (3, 0, 0, 0, 0) := hX
  show gw_W X σ 0 0 0 [(0, .ref a), (1, .int (nI w)), (2, .int (nI k))] []
  refine gw_aload_n hX nd_Se_bucketOf_0 rfl 0 rfl ?_
  refine gw_get hX kf_Se_9 nd_Se_bucketOf_1 h0 rfl ?_
  refine gw_iload_n hX nd_Se_bucketOf_4 rfl 1 rfl ?_
  refine gw_iconst (v := nI 3) hX nd_Se_bucketOf_5 rfl ?_
  refine gw_imul hX nd_Se_bucketOf_6 ?_
  refine gw_topi (y := nI (w * 3)) (pk_mul _ _) ?_
  refine gw_iload_n hX nd_Se_bucketOf_7 rfl 2 rfl ?_
  refine gw_iadd hX nd_Se_bucketOf_8 ?_
  refine gw_topi (y := nI (w * 3 + k)) (nI_add _ _) ?_
  refine gw_iald hX nd_Se_bucketOf_9 h1 (w * 3 + k) rfl (by omega) (by decide) ?_
  exact gw_iret hX hQ hr nd_Se_bucketOf_10 (by decide) (by decide) ⟨rfl, rfl⟩
set_option maxRecDepth 100000 in
set_option maxHeartbeats 4000000 in
theorem ct_Se_setBucket (l : Launch) (Z : gw_Z) (b0 : Nat) (σ : gw_S) (a w k : Nat) (x : Int32) (f : Nat → Int32) (lab sz : Int32) (h0 : σ.2 a = some (.inr (5, [.ref (a + 1), .int lab, .int sz]))) (h1 : σ.2 (a + 1) = some (gw_I Z 18 f)) (hk : w * 3 + k < 18) : gw_M l ny_Se_setBucket nc_Se_setBucket (4, 0, 0, 0, 0) none Z b0 σ [.ref a, .int (nI w), .int (nI k), .int x] (fun v σ' => v = none ∧ σ'.2 a = some (.inr (5, [.ref (a + 1), .int lab, .int sz])) ∧ σ'.2 (a + 1) = some (gw_I Z 18 (upd f (w * 3 + k) x)) ∧ gw_fr σ σ' a (a + 2)) := by
  refine gw_M_of rfl (Nat.le_of_ble_eq_true rfl) ?_
  intro X hX hl hz hb0 hr hnm hQ
  subst hz hb0 hl
  have hX : gw_ok X nc_Se_setBucket "LabelLearner$Sentence" (4, 0, 0, 0, 0) := hX
  show gw_W X σ 0 0 0 [(0, .ref a), (1, .int (nI w)), (2, .int (nI k)), (3, .int x)] []
  have fr : gw_fr σ σ a (a + 2) := gw_fr_rf _ _ _
  refine gw_aload_n hX nd_Se_setBucket_0 rfl 0 rfl ?_
  refine gw_get hX kf_Se_9 nd_Se_setBucket_1 h0 rfl ?_
  refine gw_iload_n hX nd_Se_setBucket_4 rfl 1 rfl ?_
  refine gw_iconst (v := nI 3) hX nd_Se_setBucket_5 rfl ?_
  refine gw_imul hX nd_Se_setBucket_6 ?_
  refine gw_topi (y := nI (w * 3)) (pk_mul _ _) ?_
  refine gw_iload_n hX nd_Se_setBucket_7 rfl 2 rfl ?_
  refine gw_iadd hX nd_Se_setBucket_8 ?_
  refine gw_topi (y := nI (w * 3 + k)) (nI_add _ _) ?_
  refine gw_iload_n hX nd_Se_setBucket_9 rfl 3 rfl ?_
  refine gw_iast hX nd_Se_setBucket_10 h1 (w * 3 + k) rfl (by omega) (by decide) ?_
  obtain ⟨σ1, eσ1⟩ : ∃ hp_, hp_ = gw_up σ (a + 1) ((gw_I (gw_z X) 18 (upd f (w * 3 + k) x))) := ⟨_, rfl⟩
  refine gw_heap eσ1.symm ?_
  have h0 : σ1.2 a = some (.inr (5, [.ref (a + 1), .int lab, .int sz])) := by rw [eσ1, gw_up_ne (by omega)]; exact h0
  have h1 : σ1.2 (a + 1) = some ((gw_I (gw_z X) 18 (upd f (w * 3 + k) x))) := by rw [eσ1]; exact gw_up_eq _ _ _
  have fr : gw_fr σ σ1 a (a + 2) := gw_fr_tr fr (show gw_fr _ σ1 a (a + 2) by rw [eσ1]; exact gw_fr_up _ _ _ (by omega) (by omega))
  exact gw_vret hX hQ hr nd_Se_setBucket_11 (by decide) (by decide) ⟨rfl, h0, h1, fr⟩
set_option maxRecDepth 100000 in
set_option maxHeartbeats 4000000 in
theorem ct_Se_clear (l : Launch) (Z : gw_Z) (b0 : Nat) (σ : gw_S) (a : Nat) (lab sz : Int32) (f : Nat → Int32) (h0 : σ.2 a = some (.inr (5, [.ref (a + 1), .int lab, .int sz]))) (h1 : σ.2 (a + 1) = some (gw_I Z 18 f)) : gw_M l ny_Se_clear nc_Se_clear (1, 0, 0, 0, 0) none Z b0 σ [.ref a] (fun v σ' => v = none ∧ σ'.2 a = some (.inr (5, [.ref (a + 1), .int (nI 0), .int (nI 0)])) ∧ σ'.2 (a + 1) = some (gw_I Z 18 f) ∧ gw_fr σ σ' a (a + 2)) := by
  refine gw_M_of rfl (Nat.le_of_ble_eq_true rfl) ?_
  intro X hX hl hz hb0 hr hnm hQ
  subst hz hb0 hl
  have hX : gw_ok X nc_Se_clear "LabelLearner$Sentence" (1, 0, 0, 0, 0) := hX
  show gw_W X σ 0 0 0 [(0, .ref a)] []
  have fr : gw_fr σ σ a (a + 2) := gw_fr_rf _ _ _
  refine gw_aload_n hX nd_Se_clear_0 rfl 0 rfl ?_
  refine gw_iconst (v := nI 0) hX nd_Se_clear_1 rfl ?_
  refine gw_put hX kf_Se_15 nd_Se_clear_2 h0 rfl rfl (Nat.le_of_ble_eq_true rfl) (e' := .inr (5, [.ref (a + 1), .int lab, .int (nI 0)])) rfl ?_
  obtain ⟨σ1, eσ1⟩ : ∃ hp_, hp_ = gw_up σ a (.inr (5, [.ref (a + 1), .int lab, .int (nI 0)])) := ⟨_, rfl⟩
  refine gw_heap eσ1.symm ?_
  have h0 : σ1.2 a = some (.inr (5, [.ref (a + 1), .int lab, .int (nI 0)])) := by rw [eσ1]; exact gw_up_eq _ _ _
  have h1 : σ1.2 (a + 1) = some ((gw_I (gw_z X) 18 f)) := by rw [eσ1, gw_up_ne (by omega)]; exact h1
  have fr : gw_fr σ σ1 a (a + 2) := gw_fr_tr fr (show gw_fr _ σ1 a (a + 2) by rw [eσ1]; exact gw_fr_up _ _ _ (by omega) (by omega))
  refine gw_aload_n hX nd_Se_clear_5 rfl 0 rfl ?_
  refine gw_iconst (v := nI 0) hX nd_Se_clear_6 rfl ?_
  refine gw_put hX kf_Se_19 nd_Se_clear_7 h0 rfl rfl (Nat.le_of_ble_eq_true rfl) (e' := .inr (5, [.ref (a + 1), .int (nI 0), .int (nI 0)])) rfl ?_
  obtain ⟨σ2, eσ2⟩ : ∃ hp_, hp_ = gw_up σ1 a (.inr (5, [.ref (a + 1), .int (nI 0), .int (nI 0)])) := ⟨_, rfl⟩
  refine gw_heap eσ2.symm ?_
  have h0 : σ2.2 a = some (.inr (5, [.ref (a + 1), .int (nI 0), .int (nI 0)])) := by rw [eσ2]; exact gw_up_eq _ _ _
  have h1 : σ2.2 (a + 1) = some ((gw_I (gw_z X) 18 f)) := by rw [eσ2, gw_up_ne (by omega)]; exact h1
  have fr : gw_fr σ σ2 a (a + 2) := gw_fr_tr fr (show gw_fr _ σ2 a (a + 2) by rw [eσ2]; exact gw_fr_up _ _ _ (by omega) (by omega))
  exact gw_vret hX hQ hr nd_Se_clear_10 (by decide) (by decide) ⟨rfl, h0, h1, fr⟩
set_option maxRecDepth 100000 in
set_option maxHeartbeats 4000000 in
theorem ct_We_at (l : Launch) (Z : gw_Z) (b0 : Nat) (σ : gw_S) (a w k : Nat) (f : Nat → Int64) (h0 : σ.2 a = some (.inr (7, [.ref (a + 1)]))) (h1 : σ.2 (a + 1) = some (gw_J Z 148 f)) (hk : w * 4 + k < 148) : gw_M l ny_We_at nc_We_at (3, 0, 0, 0, 0) (some .long) Z b0 σ [.ref a, .int (nI w), .int (nI k)] (fun v σ' => v = some (.long (f (w * 4 + k))) ∧ σ' = σ) := by
  refine gw_M_of rfl (Nat.le_of_ble_eq_true rfl) ?_
  intro X hX hl hz hb0 hr hnm hQ
  subst hz hb0 hl
  have hX : gw_ok X nc_We_at "LabelLearner$Weights" (3, 0, 0, 0, 0) := hX
  show gw_W X σ 0 0 0 [(0, .ref a), (1, .int (nI w)), (2, .int (nI k))] []
  refine gw_aload_n hX nd_We_at_0 rfl 0 rfl ?_
  refine gw_get hX kf_We_9 nd_We_at_1 h0 rfl ?_
  refine gw_iload_n hX nd_We_at_4 rfl 1 rfl ?_
  refine gw_iconst (v := nI 4) hX nd_We_at_5 rfl ?_
  refine gw_imul hX nd_We_at_6 ?_
  refine gw_topi (y := nI (w * 4)) (pk_mul _ _) ?_
  refine gw_iload_n hX nd_We_at_7 rfl 2 rfl ?_
  refine gw_iadd hX nd_We_at_8 ?_
  refine gw_topi (y := nI (w * 4 + k)) (nI_add _ _) ?_
  refine gw_lald hX nd_We_at_9 h1 (w * 4 + k) rfl (by omega) (by decide) ?_
  exact gw_lret hX hQ hr nd_We_at_10 (by decide) (by decide) ⟨rfl, rfl⟩
set_option maxRecDepth 100000 in
set_option maxHeartbeats 4000000 in
theorem ct_We_add (l : Launch) (Z : gw_Z) (b0 : Nat) (σ : gw_S) (a w k : Nat) (x : Int64) (f : Nat → Int64) (h0 : σ.2 a = some (.inr (7, [.ref (a + 1)]))) (h1 : σ.2 (a + 1) = some (gw_J Z 148 f)) (hk : w * 4 + k < 148) : gw_M l ny_We_add nc_We_add (5, 0, 0, 0, 0) none Z b0 σ [.ref a, .int (nI w), .int (nI k), .long x] (fun v σ' => v = none ∧ σ'.2 a = some (.inr (7, [.ref (a + 1)])) ∧ σ'.2 (a + 1) = some (gw_J Z 148 (vp_updL f (w * 4 + k) (f (w * 4 + k) + x))) ∧ gw_fr σ σ' a (a + 2)) := by
  refine gw_M_of rfl (Nat.le_of_ble_eq_true rfl) ?_
  intro X hX hl hz hb0 hr hnm hQ
  subst hz hb0 hl
  have hX : gw_ok X nc_We_add "LabelLearner$Weights" (5, 0, 0, 0, 0) := hX
  show gw_W X σ 0 0 0 [(0, .ref a), (1, .int (nI w)), (2, .int (nI k)), (3, .long x)] []
  have fr : gw_fr σ σ a (a + 2) := gw_fr_rf _ _ _
  refine gw_aload_n hX nd_We_add_0 rfl 0 rfl ?_
  refine gw_get hX kf_We_9 nd_We_add_1 h0 rfl ?_
  refine gw_iload_n hX nd_We_add_4 rfl 1 rfl ?_
  refine gw_iconst (v := nI 4) hX nd_We_add_5 rfl ?_
  refine gw_imul hX nd_We_add_6 ?_
  refine gw_topi (y := nI (w * 4)) (pk_mul _ _) ?_
  refine gw_iload_n hX nd_We_add_7 rfl 2 rfl ?_
  refine gw_iadd hX nd_We_add_8 ?_
  refine gw_topi (y := nI (w * 4 + k)) (nI_add _ _) ?_
  refine gw_dup2_11 hX nd_We_add_9 rfl rfl ?_
  refine gw_lald hX nd_We_add_10 h1 (w * 4 + k) rfl (by omega) (by decide) ?_
  refine gw_lload_n hX nd_We_add_11 rfl 3 rfl ?_
  refine gw_ladd hX nd_We_add_12 ?_
  refine gw_last hX nd_We_add_13 h1 (w * 4 + k) rfl (by omega) (by decide) ?_
  obtain ⟨σ1, eσ1⟩ : ∃ hp_, hp_ = gw_up σ (a + 1) ((gw_J (gw_z X) 148 (vp_updL f (w * 4 + k) ((f (w * 4 + k)) + x)))) := ⟨_, rfl⟩
  refine gw_heap eσ1.symm ?_
  have h0 : σ1.2 a = some (.inr (7, [.ref (a + 1)])) := by rw [eσ1, gw_up_ne (by omega)]; exact h0
  have h1 : σ1.2 (a + 1) = some ((gw_J (gw_z X) 148 (vp_updL f (w * 4 + k) ((f (w * 4 + k)) + x)))) := by rw [eσ1]; exact gw_up_eq _ _ _
  have fr : gw_fr σ σ1 a (a + 2) := gw_fr_tr fr (show gw_fr _ σ1 a (a + 2) by rw [eσ1]; exact gw_fr_up _ _ _ (by omega) (by omega))
  exact gw_vret hX hQ hr nd_We_add_14 (by decide) (by decide) ⟨rfl, h0, h1, fr⟩
end
section
set_option maxRecDepth 100000 in
set_option maxHeartbeats 4000000 in
theorem ct_LL_labelIn (l : Launch) (Z : gw_Z) (b0 : Nat) (σ : gw_S) (x : Int32) (w : Nat) (hw : w < 6) : gw_M l ny_LL_labelIn nc_LL_labelIn (2, 0, 0, 0, 0) (some .int) Z b0 σ [.int x, .int (nI w)] (fun v σ' => v = some (.int (nI (lb_at x w))) ∧ σ' = σ) := by
  refine gw_M_of rfl (Nat.le_of_ble_eq_true rfl) ?_
  intro X hX hl hz hb0 hr hnm hQ
  subst hz hb0 hl
  have hX : gw_ok X nc_LL_labelIn "LabelLearner" (2, 0, 0, 0, 0) := hX
  show gw_W X σ 0 0 0 [(0, .int x), (1, .int (nI w))] []
  refine gw_iload_n hX nd_LL_labelIn_0 rfl 0 rfl ?_
  refine gw_iconst (v := nI 2) hX nd_LL_labelIn_1 rfl ?_
  refine gw_iload_n hX nd_LL_labelIn_2 rfl 1 rfl ?_
  refine gw_imul hX nd_LL_labelIn_3 ?_
  refine gw_topi (y := nI (2 * w)) (pk_mul _ _) ?_
  refine gw_iushr hX nd_LL_labelIn_4 ?_
  refine gw_iconst (v := nI 3) hX nd_LL_labelIn_5 rfl ?_
  refine gw_iand hX nd_LL_labelIn_6 ?_
  refine gw_topi (y := nI (lb_at x w)) (lb_u x (by omega)) ?_
  exact gw_iret hX hQ hr nd_LL_labelIn_7 (by decide) (by decide) ⟨rfl, rfl⟩
set_option maxRecDepth 100000 in
set_option maxHeartbeats 4000000 in
theorem lp_LL_differences {X : gw_C} {σ : gw_S} (N : Nat) (x y : Int32) (hN : N ≤ 6) (hX : gw_ok X nc_LL_differences "LabelLearner" (5, 1, 21, 0, 0)) (hQ : X.2.2.2.2 = gw_end X (fun v σ' => v = some (.int (nI (df_n x y N))) ∧ σ' = σ) 0 0) (hr : X.2.2.1.1.sig.returnType = (some .int)) : ∀ (m : Nat) (w : Nat), w + m = N → gw_W X σ 0 0 5 [(4, .int (nI w)), (3, .int (nI (df_n x y w))), (0, .int (nI N)), (1, .int x), (2, .int y)] [] := by
  intro m
  induction m using Nat.strongRecOn with
  | ind m ih =>
    intro w
    intro hm
    have hl1 := lb_lt x w
    have hl2 := lb_lt y w
    refine gw_iload hX nd_LL_differences_5 0 rfl ?_
    refine gw_iload_n hX nd_LL_differences_7 rfl 2 rfl ?_
    refine gw_icmp_ge (tgt := 35) hX nd_LL_differences_8 rfl (fun hb => ?_) (fun hb => ?_)
    · have hb : N ≤ w := (nI_leI (a := N) (b := w) (by omega) (by omega)).mp hb
      refine gw_iload_n hX nd_LL_differences_35 rfl 1 rfl ?_
      exact gw_iret hX hQ hr nd_LL_differences_36 (by decide) (by decide) ⟨by rw [show w = N by omega], rfl⟩
    · have hb : ¬ N ≤ w := fun h => hb ((nI_leI (a := N) (b := w) (by omega) (by omega)).mpr h)
      refine gw_iload_n hX nd_LL_differences_11 rfl 3 rfl ?_
      refine gw_iload hX nd_LL_differences_12 0 rfl ?_
      refine gw_callS (rest := []) hX ks_LL_111 (ct_LL_labelIn X.1.2.1 (gw_z X) (gw_b X) σ x w (by omega)) rfl rfl (Nat.le_of_ble_eq_true rfl) nd_LL_differences_14 (by decide) ?_
      rintro v_ s_ ⟨hv_, hs_⟩
      have hs_ := hs_.symm
      subst hs_ hv_
      show gw_W X σ 0 0 17 [(4, .int (nI w)), (3, .int (nI (df_n x y w))), (0, .int (nI N)), (1, .int x), (2, .int y)] [.int (nI (lb_at x w))]
      refine gw_iload_n hX nd_LL_differences_17 rfl 4 rfl ?_
      refine gw_iload hX nd_LL_differences_18 0 rfl ?_
      refine gw_callS (rest := [.int (nI (lb_at x w))]) hX ks_LL_111 (ct_LL_labelIn X.1.2.1 (gw_z X) (gw_b X) σ y w (by omega)) rfl rfl (Nat.le_of_ble_eq_true rfl) nd_LL_differences_20 (by decide) ?_
      rintro v_ s_ ⟨hv_, hs_⟩
      have hs_ := hs_.symm
      subst hs_ hv_
      show gw_W X σ 0 0 23 [(4, .int (nI w)), (3, .int (nI (df_n x y w))), (0, .int (nI N)), (1, .int x), (2, .int y)] [.int (nI (lb_at y w)), .int (nI (lb_at x w))]
      refine gw_icmp_eq (tgt := 29) hX nd_LL_differences_23 rfl (fun hb => ?_) (fun hb => ?_)
      · have hb : lb_at x w = lb_at y w := (nI_eq (a := lb_at x w) (b := lb_at y w) (by omega) (by omega)).mp hb
        have hd : df_n x y (w + 1) = df_n x y w := by simp [df_n, hb]
        rw [← hd]
        refine gw_iinc hX nd_LL_differences_29 0 rfl (v := nI (w + 1)) (show nI w + nI 1 = nI (w + 1) from nI_add _ _) (by decide) (L' := [(4, .int (nI (w + 1))), (3, .int (nI (df_n x y (w + 1)))), (0, .int (nI N)), (1, .int x), (2, .int y)]) rfl ?_
        refine gw_goto (tgt := 5) hX nd_LL_differences_32 rfl ?_
        exact ih (m - 1) (by omega) (w + 1) (by omega)
      · have hb : ¬ lb_at x w = lb_at y w := fun h => hb ((nI_eq (a := lb_at x w) (b := lb_at y w) (by omega) (by omega)).mpr h)
        refine gw_iinc hX nd_LL_differences_26 1 rfl (v := nI (df_n x y (w + 1))) (show nI (df_n x y w) + nI 1 = nI (df_n x y (w + 1)) by rw [nI_add]; simp [df_n, hb]) (by decide) (L' := [(3, .int (nI (df_n x y (w + 1)))), (4, .int (nI w)), (0, .int (nI N)), (1, .int x), (2, .int y)]) rfl ?_
        refine gw_iinc hX nd_LL_differences_29 1 rfl (v := nI (w + 1)) (show nI w + nI 1 = nI (w + 1) from nI_add _ _) (by decide) (L' := [(4, .int (nI (w + 1))), (3, .int (nI (df_n x y (w + 1)))), (0, .int (nI N)), (1, .int x), (2, .int y)]) rfl ?_
        refine gw_goto (tgt := 5) hX nd_LL_differences_32 rfl ?_
        exact ih (m - 1) (by omega) (w + 1) (by omega)
set_option maxRecDepth 100000 in
set_option maxHeartbeats 4000000 in
theorem ct_LL_differences (l : Launch) (Z : gw_Z) (b0 : Nat) (σ : gw_S) (N : Nat) (x y : Int32) (hN : N ≤ 6) : gw_M l ny_LL_differences nc_LL_differences (5, 1, 21, 0, 0) (some .int) Z b0 σ [.int (nI N), .int x, .int y] (fun v σ' => v = some (.int (nI (df_n x y N))) ∧ σ' = σ) := by
  refine gw_M_of rfl (Nat.le_of_ble_eq_true rfl) ?_
  intro X hX hl hz hb0 hr hnm hQ
  subst hz hb0 hl
  have hX : gw_ok X nc_LL_differences "LabelLearner" (5, 1, 21, 0, 0) := hX
  show gw_W X σ 0 0 0 [(0, .int (nI N)), (1, .int x), (2, .int y)] []
  refine gw_iconst (v := nI 0) hX nd_LL_differences_0 rfl ?_
  refine gw_istore_n hX nd_LL_differences_1 rfl (by decide) (L' := [(3, .int (nI 0)), (0, .int (nI N)), (1, .int x), (2, .int y)]) rfl ?_
  refine gw_iconst (v := nI 0) hX nd_LL_differences_2 rfl ?_
  refine gw_istore hX nd_LL_differences_3 (by decide) (L' := [(4, .int (nI 0)), (3, .int (nI 0)), (0, .int (nI N)), (1, .int x), (2, .int y)]) rfl ?_
  exact lp_LL_differences N x y hN hX hQ hr N 0 (by omega)
set_option maxRecDepth 100000 in
set_option maxHeartbeats 4000000 in
theorem lp_We_clear {X : gw_C} (a : Nat) (σ0 : gw_S) (hX : gw_ok X nc_We_clear "LabelLearner$Weights" (2, 0, 0, 0, 0)) (hQ : X.2.2.2.2 = gw_end X (fun v σ' => v = none ∧ σ'.2 a = some (.inr (7, [.ref (a + 1)])) ∧ σ'.2 (a + 1) = some (gw_J (gw_z X) 148 (fun _ => iL 0)) ∧ gw_fr σ0 σ' a (a + 2)) 0 0) (hr : X.2.2.1.1.sig.returnType = none) : ∀ (m : Nat) (k : Nat) (σ : gw_S) (f : Nat → Int64), k + m = 148 → (∀ j, j < k → f j = iL 0) → σ.2 a = some (.inr (7, [.ref (a + 1)])) → σ.2 (a + 1) = some (gw_J (gw_z X) 148 f) → gw_fr σ0 σ a (a + 2) → gw_W X σ 0 0 2 [(1, .int (nI k)), (0, .ref a)] [] := by
  intro m
  induction m using Nat.strongRecOn with
  | ind m ih =>
    intro k σ f
    intro hm hz h0 h1 fr
    refine gw_iload_n hX nd_We_clear_2 rfl 0 rfl ?_
    refine gw_aload_n hX nd_We_clear_3 rfl 1 rfl ?_
    refine gw_get hX kf_We_9 nd_We_clear_4 h0 rfl ?_
    refine gw_alen hX nd_We_clear_7 (t := 1) h1 rfl (v := nI 148) rfl ?_
    refine gw_icmp_ge (tgt := 24) hX nd_We_clear_8 rfl (fun hb => ?_) (fun hb => ?_)
    · have hb : 148 ≤ k := (nI_leI (a := 148) (b := k) (by omega) (by omega)).mp hb
      refine gw_extJ h1 (g := fun _ => iL 0) (fun j hj => hz j (by omega)) ?_
      obtain ⟨σ1, eσ1⟩ : ∃ hp_, hp_ = gw_up σ (a + 1) ((gw_J (gw_z X) 148 (fun _ => iL 0))) := ⟨_, rfl⟩
      refine gw_heap eσ1.symm ?_
      have h0 : σ1.2 a = some (.inr (7, [.ref (a + 1)])) := by rw [eσ1, gw_up_ne (by omega)]; exact h0
      have h1 : σ1.2 (a + 1) = some ((gw_J (gw_z X) 148 (fun _ => iL 0))) := by rw [eσ1]; exact gw_up_eq _ _ _
      have fr : gw_fr σ0 σ1 a (a + 2) := gw_fr_tr fr (show gw_fr _ σ1 a (a + 2) by rw [eσ1]; exact gw_fr_up _ _ _ (by omega) (by omega))
      exact gw_vret hX hQ hr nd_We_clear_24 (by decide) (by decide) ⟨rfl, h0, h1, fr⟩
    · have hb : ¬ 148 ≤ k := fun h => hb ((nI_leI (a := 148) (b := k) (by omega) (by omega)).mpr h)
      refine gw_aload_n hX nd_We_clear_11 rfl 1 rfl ?_
      refine gw_get hX kf_We_9 nd_We_clear_12 h0 rfl ?_
      refine gw_iload_n hX nd_We_clear_15 rfl 0 rfl ?_
      refine gw_lconst (v := 0) hX nd_We_clear_16 rfl ?_
      refine gw_last hX nd_We_clear_17 h1 k rfl (by omega) (by decide) ?_
      obtain ⟨σ2, eσ2⟩ : ∃ hp_, hp_ = gw_up σ (a + 1) ((gw_J (gw_z X) 148 (vp_updL f k 0))) := ⟨_, rfl⟩
      refine gw_heap eσ2.symm ?_
      have h0 : σ2.2 a = some (.inr (7, [.ref (a + 1)])) := by rw [eσ2, gw_up_ne (by omega)]; exact h0
      have h1 : σ2.2 (a + 1) = some ((gw_J (gw_z X) 148 (vp_updL f k 0))) := by rw [eσ2]; exact gw_up_eq _ _ _
      have fr : gw_fr σ0 σ2 a (a + 2) := gw_fr_tr fr (show gw_fr _ σ2 a (a + 2) by rw [eσ2]; exact gw_fr_up _ _ _ (by omega) (by omega))
      refine gw_iinc hX nd_We_clear_18 0 rfl (v := nI (k + 1)) (show nI k + nI 1 = nI (k + 1) from nI_add _ _) (by decide) (L' := [(1, .int (nI (k + 1))), (0, .ref a)]) rfl ?_
      refine gw_goto (tgt := 2) hX nd_We_clear_21 rfl ?_
      refine ih (m - 1) (by omega) (k + 1) σ2 _ (by omega) ?_ h0 h1 fr
      intro j hj
      by_cases e : j = k
      · rw [e]; exact pk_uLs
      · rw [pk_uLn e]; exact hz j (by omega)
set_option maxRecDepth 100000 in
set_option maxHeartbeats 4000000 in
theorem ct_We_clear (l : Launch) (Z : gw_Z) (b0 : Nat) (σ : gw_S) (a : Nat) (f : Nat → Int64) (h0 : σ.2 a = some (.inr (7, [.ref (a + 1)]))) (h1 : σ.2 (a + 1) = some (gw_J Z 148 f)) : gw_M l ny_We_clear nc_We_clear (2, 0, 0, 0, 0) none Z b0 σ [.ref a] (fun v σ' => v = none ∧ σ'.2 a = some (.inr (7, [.ref (a + 1)])) ∧ σ'.2 (a + 1) = some (gw_J Z 148 (fun _ => iL 0)) ∧ gw_fr σ σ' a (a + 2)) := by
  refine gw_M_of rfl (Nat.le_of_ble_eq_true rfl) ?_
  intro X hX hl hz hb0 hr hnm hQ
  subst hz hb0 hl
  have hX : gw_ok X nc_We_clear "LabelLearner$Weights" (2, 0, 0, 0, 0) := hX
  show gw_W X σ 0 0 0 [(0, .ref a)] []
  refine gw_iconst (v := nI 0) hX nd_We_clear_0 rfl ?_
  refine gw_istore_n hX nd_We_clear_1 rfl (by decide) (L' := [(1, .int (nI 0)), (0, .ref a)]) rfl ?_
  exact lp_We_clear a σ hX hQ hr 148 0 σ f (by omega) (fun j hj => absurd hj (by omega)) h0 h1 (gw_fr_rf _ _ _)
set_option maxRecDepth 100000 in
set_option maxHeartbeats 4000000 in
theorem lp_We_addAll {X : gw_C} (a b : Nat) (σ0 : gw_S) (wt tt : Nat → Int) (hab : a + 2 ≤ b ∨ b + 2 ≤ a) (hX : gw_ok X nc_We_addAll "LabelLearner$Weights" (3, 0, 0, 0, 0)) (hQ : X.2.2.2.2 = gw_end X (fun v σ' => v = none ∧ σ'.2 a = some (.inr (7, [.ref (a + 1)])) ∧ σ'.2 (a + 1) = some (gw_J (gw_z X) 148 (fun j => iL (tt j + wt j))) ∧ gw_fr σ0 σ' a (a + 2)) 0 0) (hr : X.2.2.1.1.sig.returnType = none) : ∀ (m : Nat) (k : Nat) (σ : gw_S) (f : Nat → Int64), k + m = 148 → (∀ j, j < k → f j = iL (tt j + wt j)) → (∀ j, k ≤ j → f j = iL (tt j)) → σ.2 a = some (.inr (7, [.ref (a + 1)])) → σ.2 (a + 1) = some (gw_J (gw_z X) 148 f) → σ.2 b = some (.inr (7, [.ref (b + 1)])) → σ.2 (b + 1) = some (gw_J (gw_z X) 148 (fun j => iL (wt j))) → gw_fr σ0 σ a (a + 2) → gw_W X σ 0 0 2 [(2, .int (nI k)), (0, .ref a), (1, .ref b)] [] := by
  intro m
  induction m using Nat.strongRecOn with
  | ind m ih =>
    intro k σ f
    intro hm hz hy h0 h1 g0 g1 fr
    refine gw_iload_n hX nd_We_addAll_2 rfl 0 rfl ?_
    refine gw_aload_n hX nd_We_addAll_3 rfl 1 rfl ?_
    refine gw_get hX kf_We_9 nd_We_addAll_4 h0 rfl ?_
    refine gw_alen hX nd_We_addAll_7 (t := 1) h1 rfl (v := nI 148) rfl ?_
    refine gw_icmp_ge (tgt := 32) hX nd_We_addAll_8 rfl (fun hb => ?_) (fun hb => ?_)
    · have hb : 148 ≤ k := (nI_leI (a := 148) (b := k) (by omega) (by omega)).mp hb
      refine gw_extJ h1 (g := fun j => iL (tt j + wt j)) (fun j hj => hz j (by omega)) ?_
      obtain ⟨σ1, eσ1⟩ : ∃ hp_, hp_ = gw_up σ (a + 1) ((gw_J (gw_z X) 148 (fun j => iL (tt j + wt j)))) := ⟨_, rfl⟩
      refine gw_heap eσ1.symm ?_
      have h0 : σ1.2 a = some (.inr (7, [.ref (a + 1)])) := by rw [eσ1, gw_up_ne (by omega)]; exact h0
      have h1 : σ1.2 (a + 1) = some ((gw_J (gw_z X) 148 (fun j => iL (tt j + wt j)))) := by rw [eσ1]; exact gw_up_eq _ _ _
      have g0 : σ1.2 b = some (.inr (7, [.ref (b + 1)])) := by rw [eσ1, gw_up_ne (by omega)]; exact g0
      have g1 : σ1.2 (b + 1) = some ((gw_J (gw_z X) 148 (fun j => iL (wt j)))) := by rw [eσ1, gw_up_ne (by omega)]; exact g1
      have fr : gw_fr σ0 σ1 a (a + 2) := gw_fr_tr fr (show gw_fr _ σ1 a (a + 2) by rw [eσ1]; exact gw_fr_up _ _ _ (by omega) (by omega))
      exact gw_vret hX hQ hr nd_We_addAll_32 (by decide) (by decide) ⟨rfl, h0, h1, fr⟩
    · have hb : ¬ 148 ≤ k := fun h => hb ((nI_leI (a := 148) (b := k) (by omega) (by omega)).mpr h)
      refine gw_aload_n hX nd_We_addAll_11 rfl 1 rfl ?_
      refine gw_get hX kf_We_9 nd_We_addAll_12 h0 rfl ?_
      refine gw_iload_n hX nd_We_addAll_15 rfl 0 rfl ?_
      refine gw_dup2_11 hX nd_We_addAll_16 rfl rfl ?_
      refine gw_lald hX nd_We_addAll_17 h1 k rfl (by omega) (by decide) ?_
      refine gw_topl (y := iL (tt k)) (hy k (Nat.le_refl _)) ?_
      refine gw_aload_n hX nd_We_addAll_18 rfl 2 rfl ?_
      refine gw_get hX kf_We_9 nd_We_addAll_19 g0 rfl ?_
      refine gw_iload_n hX nd_We_addAll_22 rfl 0 rfl ?_
      refine gw_lald hX nd_We_addAll_23 g1 k rfl (by omega) (by decide) ?_
      refine gw_topl (y := iL (wt k)) rfl ?_
      refine gw_ladd hX nd_We_addAll_24 ?_
      refine gw_topl (y := iL (tt k + wt k)) (iL_add _ _) ?_
      refine gw_last hX nd_We_addAll_25 h1 k rfl (by omega) (by decide) ?_
      obtain ⟨σ2, eσ2⟩ : ∃ hp_, hp_ = gw_up σ (a + 1) ((gw_J (gw_z X) 148 (vp_updL f k (iL (tt k + wt k))))) := ⟨_, rfl⟩
      refine gw_heap eσ2.symm ?_
      have h0 : σ2.2 a = some (.inr (7, [.ref (a + 1)])) := by rw [eσ2, gw_up_ne (by omega)]; exact h0
      have h1 : σ2.2 (a + 1) = some ((gw_J (gw_z X) 148 (vp_updL f k (iL (tt k + wt k))))) := by rw [eσ2]; exact gw_up_eq _ _ _
      have g0 : σ2.2 b = some (.inr (7, [.ref (b + 1)])) := by rw [eσ2, gw_up_ne (by omega)]; exact g0
      have g1 : σ2.2 (b + 1) = some ((gw_J (gw_z X) 148 (fun j => iL (wt j)))) := by rw [eσ2, gw_up_ne (by omega)]; exact g1
      have fr : gw_fr σ0 σ2 a (a + 2) := gw_fr_tr fr (show gw_fr _ σ2 a (a + 2) by rw [eσ2]; exact gw_fr_up _ _ _ (by omega) (by omega))
      refine gw_iinc hX nd_We_addAll_26 0 rfl (v := nI (k + 1)) (show nI k + nI 1 = nI (k + 1) from nI_add _ _) (by decide) (L' := [(2, .int (nI (k + 1))), (0, .ref a), (1, .ref b)]) rfl ?_
      refine gw_goto (tgt := 2) hX nd_We_addAll_29 rfl ?_
      refine ih (m - 1) (by omega) (k + 1) σ2 _ (by omega) ?_ ?_ h0 h1 g0 g1 fr
      · intro j hj
        by_cases e : j = k
        · rw [e]; exact pk_uLs
        · rw [pk_uLn e]; exact hz j (by omega)
      · intro j hj
        rw [pk_uLn (by omega)]; exact hy j (by omega)
set_option maxRecDepth 100000 in
set_option maxHeartbeats 4000000 in
theorem ct_We_addAll (l : Launch) (Z : gw_Z) (b0 : Nat) (σ : gw_S) (a b : Nat) (wt tt : Nat → Int) (hab : a + 2 ≤ b ∨ b + 2 ≤ a) (h0 : σ.2 a = some (.inr (7, [.ref (a + 1)]))) (h1 : σ.2 (a + 1) = some (gw_J Z 148 (fun j => iL (tt j)))) (g0 : σ.2 b = some (.inr (7, [.ref (b + 1)]))) (g1 : σ.2 (b + 1) = some (gw_J Z 148 (fun j => iL (wt j)))) : gw_M l ny_We_addAll nc_We_addAll (3, 0, 0, 0, 0) none Z b0 σ [.ref a, .ref b] (fun v σ' => v = none ∧ σ'.2 a = some (.inr (7, [.ref (a + 1)])) ∧ σ'.2 (a + 1) = some (gw_J Z 148 (fun j => iL (tt j + wt j))) ∧ gw_fr σ σ' a (a + 2)) := by
  refine gw_M_of rfl (Nat.le_of_ble_eq_true rfl) ?_
  intro X hX hl hz hb0 hr hnm hQ
  subst hz hb0 hl
  have hX : gw_ok X nc_We_addAll "LabelLearner$Weights" (3, 0, 0, 0, 0) := hX
  show gw_W X σ 0 0 0 [(0, .ref a), (1, .ref b)] []
  refine gw_iconst (v := nI 0) hX nd_We_addAll_0 rfl ?_
  refine gw_istore_n hX nd_We_addAll_1 rfl (by decide) (L' := [(2, .int (nI 0)), (0, .ref a), (1, .ref b)]) rfl ?_
  exact lp_We_addAll a b σ wt tt hab hX hQ hr 148 0 σ _ (by omega) (fun j hj => absurd hj (by omega)) (fun j _ => rfl) h0 h1 g0 g1 (gw_fr_rf _ _ _)
set_option maxRecDepth 100000 in
set_option maxHeartbeats 4000000 in
theorem lp_We_ofWord {X : gw_C} {σ : gw_S} (a s : Nat) (wt : Nat → Int) (b : Nat → Int32) (B : Nat → Nat) (lab sz : Int32) (w lb : Nat) (hB : ∀ k, k < 3 → b (w * 3 + k) = nI (B k) ∧ B k < 37) (hw : w < 6) (hlb : lb < 4) (h0 : σ.2 a = some (.inr (7, [.ref (a + 1)]))) (h1 : σ.2 (a + 1) = some (gw_J (gw_z X) 148 (fun j => iL (wt j)))) (g0 : σ.2 s = some (.inr (5, [.ref (s + 1), .int lab, .int sz]))) (g1 : σ.2 (s + 1) = some (gw_I (gw_z X) 18 b)) (hX : gw_ok X nc_We_ofWord "LabelLearner$Weights" (7, 1, 22, 0, 0)) (hQ : X.2.2.2.2 = gw_end X (fun v σ' => v = some (.long (iL (wd_S wt B lb 3))) ∧ σ' = σ) 0 0) (hr : X.2.2.1.1.sig.returnType = (some .long)) : ∀ (m : Nat) (k : Nat), k + m = 3 → gw_W X σ 0 0 6 [(6, .int (nI k)), (4, .long (iL (wd_S wt B lb k))), (0, .ref a), (1, .ref s), (2, .int (nI w)), (3, .int (nI lb))] [] := by
  intro m
  induction m using Nat.strongRecOn with
  | ind m ih =>
    intro k
    intro hm
    refine gw_iload hX nd_We_ofWord_6 0 rfl ?_
    refine gw_iconst (v := nI 3) hX nd_We_ofWord_8 rfl ?_
    refine gw_icmp_ge (tgt := 35) hX nd_We_ofWord_9 rfl (fun hb => ?_) (fun hb => ?_)
    · have hb : 3 ≤ k := (nI_leI (a := 3) (b := k) (by omega) (by omega)).mp hb
      refine gw_lload hX nd_We_ofWord_35 1 rfl ?_
      exact gw_lret hX hQ hr nd_We_ofWord_37 (by decide) (by decide) ⟨by rw [show k = 3 by omega], rfl⟩
    · have hb : ¬ 3 ≤ k := fun h => hb ((nI_leI (a := 3) (b := k) (by omega) (by omega)).mpr h)
      have hBk := hB k (by omega)
      refine gw_lload hX nd_We_ofWord_12 1 rfl ?_
      refine gw_aload_n hX nd_We_ofWord_14 rfl 2 rfl ?_
      refine gw_aload_n hX nd_We_ofWord_15 rfl 3 rfl ?_
      refine gw_iload_n hX nd_We_ofWord_16 rfl 4 rfl ?_
      refine gw_iload hX nd_We_ofWord_17 0 rfl ?_
      refine gw_callV (rest := [.ref a, .long (iL (wd_S wt B lb k))]) hX ks_We_15 (ct_Se_bucketOf X.1.2.1 (gw_z X) (gw_b X) σ s w k b lab sz g0 g1 (by omega)) g0 rfl rfl (Nat.le_of_ble_eq_true rfl) nd_We_ofWord_19 (by decide) ?_
      rintro v_ s_ ⟨hv_, hs_⟩
      have hs_ := hs_.symm
      subst hs_ hv_
      show gw_W X σ 0 0 22 [(6, .int (nI k)), (4, .long (iL (wd_S wt B lb k))), (0, .ref a), (1, .ref s), (2, .int (nI w)), (3, .int (nI lb))] [.int (b (w * 3 + k)), .ref a, .long (iL (wd_S wt B lb k))]
      rw [hBk.1]
      refine gw_iload_n hX nd_We_ofWord_22 rfl 5 rfl ?_
      refine gw_callV (rest := [.long (iL (wd_S wt B lb k))]) hX ks_We_21 (ct_We_at X.1.2.1 (gw_z X) (gw_b X) σ a (B k) lb (fun j => iL (wt j)) h0 h1 (by omega)) h0 rfl rfl (Nat.le_of_ble_eq_true rfl) nd_We_ofWord_23 (by decide) ?_
      rintro v_ s_ ⟨hv_, hs_⟩
      have hs_ := hs_.symm
      subst hs_ hv_
      show gw_W X σ 0 0 26 [(6, .int (nI k)), (4, .long (iL (wd_S wt B lb k))), (0, .ref a), (1, .ref s), (2, .int (nI w)), (3, .int (nI lb))] [.long (iL (wt (B k * 4 + lb))), .long (iL (wd_S wt B lb k))]
      refine gw_ladd hX nd_We_ofWord_26 ?_
      refine gw_topl (y := iL (wd_S wt B lb (k + 1))) (iL_add _ _) ?_
      refine gw_lstore hX nd_We_ofWord_27 (by decide) (L' := [(4, .long (iL (wd_S wt B lb (k + 1)))), (6, .int (nI k)), (0, .ref a), (1, .ref s), (2, .int (nI w)), (3, .int (nI lb))]) rfl ?_
      refine gw_iinc hX nd_We_ofWord_29 1 rfl (v := nI (k + 1)) (show nI k + nI 1 = nI (k + 1) from nI_add _ _) (by decide) (L' := [(6, .int (nI (k + 1))), (4, .long (iL (wd_S wt B lb (k + 1)))), (0, .ref a), (1, .ref s), (2, .int (nI w)), (3, .int (nI lb))]) rfl ?_
      refine gw_goto (tgt := 6) hX nd_We_ofWord_32 rfl ?_
      exact ih (m - 1) (by omega) (k + 1) (by omega)
set_option maxRecDepth 100000 in
set_option maxHeartbeats 4000000 in
theorem ct_We_ofWord (l : Launch) (Z : gw_Z) (b0 : Nat) (σ : gw_S) (a s : Nat) (wt : Nat → Int) (b : Nat → Int32) (B : Nat → Nat) (lab sz : Int32) (w lb : Nat) (hB : ∀ k, k < 3 → b (w * 3 + k) = nI (B k) ∧ B k < 37) (hw : w < 6) (hlb : lb < 4) (h0 : σ.2 a = some (.inr (7, [.ref (a + 1)]))) (h1 : σ.2 (a + 1) = some (gw_J Z 148 (fun j => iL (wt j)))) (g0 : σ.2 s = some (.inr (5, [.ref (s + 1), .int lab, .int sz]))) (g1 : σ.2 (s + 1) = some (gw_I Z 18 b)) : gw_M l ny_We_ofWord nc_We_ofWord (7, 1, 22, 0, 0) (some .long) Z b0 σ [.ref a, .ref s, .int (nI w), .int (nI lb)] (fun v σ' => v = some (.long (iL (wd_S wt B lb 3))) ∧ σ' = σ) := by
  refine gw_M_of rfl (Nat.le_of_ble_eq_true rfl) ?_
  intro X hX hl hz hb0 hr hnm hQ
  subst hz hb0 hl
  have hX : gw_ok X nc_We_ofWord "LabelLearner$Weights" (7, 1, 22, 0, 0) := hX
  show gw_W X σ 0 0 0 [(0, .ref a), (1, .ref s), (2, .int (nI w)), (3, .int (nI lb))] []
  refine gw_lconst (v := 0) hX nd_We_ofWord_0 rfl ?_
  refine gw_topl rfl ?_
  refine gw_lstore hX nd_We_ofWord_1 (by decide) (L' := [(4, .long (iL (wd_S wt B lb 0))), (0, .ref a), (1, .ref s), (2, .int (nI w)), (3, .int (nI lb))]) rfl ?_
  refine gw_iconst (v := nI 0) hX nd_We_ofWord_3 rfl ?_
  refine gw_istore hX nd_We_ofWord_4 (by decide) (L' := [(6, .int (nI 0)), (4, .long (iL (wd_S wt B lb 0))), (0, .ref a), (1, .ref s), (2, .int (nI w)), (3, .int (nI lb))]) rfl ?_
  exact lp_We_ofWord a s wt b B lab sz w lb hB hw hlb h0 h1 g0 g1 hX hQ hr 3 0 (by omega)
end
section
set_option maxRecDepth 100000 in
set_option maxHeartbeats 4000000 in
theorem lp_We_sum {X : gw_C} {σ : gw_S} (a s : Nat) (wt : Nat → Int) (b : Nat → Int32) (B : Nat → Nat) (lab x : Int32) (N : Nat) (hB : ∀ j, j < N * 3 → b j = nI (B j) ∧ B j < 32) (hN : N ≤ 6) (h0 : σ.2 a = some (.inr (7, [.ref (a + 1)]))) (h1 : σ.2 (a + 1) = some (gw_J (gw_z X) 148 (fun j => iL (wt j)))) (g0 : σ.2 s = some (.inr (5, [.ref (s + 1), .int lab, .int (nI N)]))) (g1 : σ.2 (s + 1) = some (gw_I (gw_z X) 18 b)) (hX : gw_ok X nc_We_sum "LabelLearner$Weights" (8, 2, 48, 0, 0)) (hQ : X.2.2.2.2 = gw_end X (fun v σ' => v = some (.long (iL (wd_T wt B (lb_at x) N))) ∧ σ' = σ) 0 0) (hr : X.2.2.1.1.sig.returnType = (some .long)) : ∀ (m : Nat) (w : Nat), w + m = N → gw_W X σ 0 0 9 [(6, .int (nI w)), (5, .int (nI (wd_r (lb_at x) w))), (3, .long (iL (wd_T wt B (lb_at x) w))), (0, .ref a), (1, .ref s), (2, .int x)] [] := by
  intro m
  induction m using Nat.strongRecOn with
  | ind m ih =>
    intro w
    intro hm
    have hl1 := lb_lt x w
    have hl2 := wd_r_lt (lb_lt x) w
    refine gw_iload hX nd_We_sum_9 0 rfl ?_
    refine gw_aload_n hX nd_We_sum_11 rfl 4 rfl ?_
    refine gw_get hX kf_We_25 nd_We_sum_12 g0 rfl ?_
    refine gw_icmp_ge (tgt := 60) hX nd_We_sum_15 rfl (fun hb => ?_) (fun hb => ?_)
    · have hb : N ≤ w := (nI_leI (a := N) (b := w) (by omega) (by omega)).mp hb
      refine gw_lload_n hX nd_We_sum_60 rfl 2 rfl ?_
      exact gw_lret hX hQ hr nd_We_sum_61 (by decide) (by decide) ⟨by rw [show w = N by omega], rfl⟩
    · have hb : ¬ N ≤ w := fun h => hb ((nI_leI (a := N) (b := w) (by omega) (by omega)).mpr h)
      refine gw_iload_n hX nd_We_sum_18 rfl 5 rfl ?_
      refine gw_iload hX nd_We_sum_19 0 rfl ?_
      refine gw_callS (rest := []) hX ks_We_29 (ct_LL_labelIn X.1.2.1 (gw_z X) (gw_b X) σ x w (by omega)) rfl rfl (Nat.le_of_ble_eq_true rfl) nd_We_sum_21 (by decide) ?_
      rintro v_ s_ ⟨hv_, hs_⟩
      have hs_ := hs_.symm
      subst hs_ hv_
      show gw_W X σ 0 0 24 [(6, .int (nI w)), (5, .int (nI (wd_r (lb_at x) w))), (3, .long (iL (wd_T wt B (lb_at x) w))), (0, .ref a), (1, .ref s), (2, .int x)] [.int (nI (lb_at x w))]
      refine gw_istore hX nd_We_sum_24 (by decide) (L' := [(7, .int (nI (lb_at x w))), (6, .int (nI w)), (5, .int (nI (wd_r (lb_at x) w))), (3, .long (iL (wd_T wt B (lb_at x) w))), (0, .ref a), (1, .ref s), (2, .int x)]) rfl ?_
      refine gw_lload_n hX nd_We_sum_26 rfl 3 rfl ?_
      refine gw_aload_n hX nd_We_sum_27 rfl 4 rfl ?_
      refine gw_iload hX nd_We_sum_28 2 rfl ?_
      refine gw_iload hX nd_We_sum_30 0 rfl ?_
      refine gw_callV (rest := [.long (iL (wd_T wt B (lb_at x) w))]) hX ks_We_21 (ct_We_at X.1.2.1 (gw_z X) (gw_b X) σ a (wd_r (lb_at x) w) (lb_at x w) (fun j => iL (wt j)) h0 h1 (by omega)) h0 rfl rfl (Nat.le_of_ble_eq_true rfl) nd_We_sum_32 (by decide) ?_
      rintro v_ s_ ⟨hv_, hs_⟩
      have hs_ := hs_.symm
      subst hs_ hv_
      show gw_W X σ 0 0 35 [(7, .int (nI (lb_at x w))), (6, .int (nI w)), (5, .int (nI (wd_r (lb_at x) w))), (3, .long (iL (wd_T wt B (lb_at x) w))), (0, .ref a), (1, .ref s), (2, .int x)] [.long (iL (wt (wd_r (lb_at x) w * 4 + lb_at x w))), .long (iL (wd_T wt B (lb_at x) w))]
      refine gw_aload_n hX nd_We_sum_35 rfl 4 rfl ?_
      refine gw_aload_n hX nd_We_sum_36 rfl 5 rfl ?_
      refine gw_iload hX nd_We_sum_37 1 rfl ?_
      refine gw_iload hX nd_We_sum_39 0 rfl ?_
      refine gw_callV (rest := [.long (iL (wt (wd_r (lb_at x) w * 4 + lb_at x w))), .long (iL (wd_T wt B (lb_at x) w))]) hX ks_We_32 (ct_We_ofWord X.1.2.1 (gw_z X) (gw_b X) σ a s wt b (fun k => B (w * 3 + k)) lab (nI N) w (lb_at x w) (fun k hk => ⟨(hB _ (by omega)).1, Nat.lt_trans (hB _ (by omega)).2 (by decide)⟩) (by omega) hl1 h0 h1 g0 g1) h0 rfl rfl (Nat.le_of_ble_eq_true rfl) nd_We_sum_41 (by decide) ?_
      rintro v_ s_ ⟨hv_, hs_⟩
      have hs_ := hs_.symm
      subst hs_ hv_
      show gw_W X σ 0 0 44 [(7, .int (nI (lb_at x w))), (6, .int (nI w)), (5, .int (nI (wd_r (lb_at x) w))), (3, .long (iL (wd_T wt B (lb_at x) w))), (0, .ref a), (1, .ref s), (2, .int x)] [.long (iL (wd_W wt B w (lb_at x w))), .long (iL (wt (wd_r (lb_at x) w * 4 + lb_at x w))), .long (iL (wd_T wt B (lb_at x) w))]
      refine gw_ladd hX nd_We_sum_44 ?_
      refine gw_topl (y := iL (wt (wd_r (lb_at x) w * 4 + lb_at x w) + wd_W wt B w (lb_at x w))) (iL_add _ _) ?_
      refine gw_ladd hX nd_We_sum_45 ?_
      refine gw_topl (y := iL (wd_T wt B (lb_at x) (w + 1))) (iL_add _ _) ?_
      refine gw_lstore_n hX nd_We_sum_46 rfl (by decide) (L' := [(3, .long (iL (wd_T wt B (lb_at x) (w + 1)))), (7, .int (nI (lb_at x w))), (6, .int (nI w)), (5, .int (nI (wd_r (lb_at x) w))), (0, .ref a), (1, .ref s), (2, .int x)]) rfl ?_
      refine gw_bipush (v := nI 33) hX nd_We_sum_47 rfl ?_
      refine gw_iload hX nd_We_sum_49 1 rfl ?_
      refine gw_iadd hX nd_We_sum_51 ?_
      refine gw_topi (y := nI (33 + (lb_at x w))) (nI_add _ _) ?_
      refine gw_istore hX nd_We_sum_52 (by decide) (L' := [(5, .int (nI (33 + (lb_at x w)))), (3, .long (iL (wd_T wt B (lb_at x) (w + 1)))), (7, .int (nI (lb_at x w))), (6, .int (nI w)), (0, .ref a), (1, .ref s), (2, .int x)]) rfl ?_
      refine gw_iinc hX nd_We_sum_54 3 rfl (v := nI (w + 1)) (show nI w + nI 1 = nI (w + 1) from nI_add _ _) (by decide) (L' := [(6, .int (nI (w + 1))), (5, .int (nI (33 + (lb_at x w)))), (3, .long (iL (wd_T wt B (lb_at x) (w + 1)))), (7, .int (nI (lb_at x w))), (0, .ref a), (1, .ref s), (2, .int x)]) rfl ?_
      refine gw_goto (tgt := 9) hX nd_We_sum_57 rfl ?_
      refine gw_cut (ks := [0, 1, 2, 4, 5, 6]) (L' := [(6, .int (nI (w + 1))), (5, .int (nI (33 + (lb_at x w)))), (3, .long (iL (wd_T wt B (lb_at x) (w + 1)))), (0, .ref a), (1, .ref s), (2, .int x)]) rfl ?_
      rw [← wd_r_s]
      exact ih (m - 1) (by omega) (w + 1) (by omega)
set_option maxRecDepth 100000 in
set_option maxHeartbeats 4000000 in
theorem ct_We_sum (l : Launch) (Z : gw_Z) (b0 : Nat) (σ : gw_S) (a s : Nat) (wt : Nat → Int) (b : Nat → Int32) (B : Nat → Nat) (lab x : Int32) (N : Nat) (hB : ∀ j, j < N * 3 → b j = nI (B j) ∧ B j < 32) (hN : N ≤ 6) (h0 : σ.2 a = some (.inr (7, [.ref (a + 1)]))) (h1 : σ.2 (a + 1) = some (gw_J Z 148 (fun j => iL (wt j)))) (g0 : σ.2 s = some (.inr (5, [.ref (s + 1), .int lab, .int (nI N)]))) (g1 : σ.2 (s + 1) = some (gw_I Z 18 b)) : gw_M l ny_We_sum nc_We_sum (8, 2, 48, 0, 0) (some .long) Z b0 σ [.ref a, .ref s, .int x] (fun v σ' => v = some (.long (iL (wd_T wt B (lb_at x) N))) ∧ σ' = σ) := by
  refine gw_M_of rfl (Nat.le_of_ble_eq_true rfl) ?_
  intro X hX hl hz hb0 hr hnm hQ
  subst hz hb0 hl
  have hX : gw_ok X nc_We_sum "LabelLearner$Weights" (8, 2, 48, 0, 0) := hX
  show gw_W X σ 0 0 0 [(0, .ref a), (1, .ref s), (2, .int x)] []
  refine gw_lconst (v := 0) hX nd_We_sum_0 rfl ?_
  refine gw_topl rfl ?_
  refine gw_lstore_n hX nd_We_sum_1 rfl (by decide) (L' := [(3, .long (iL (wd_T wt B (lb_at x) 0))), (0, .ref a), (1, .ref s), (2, .int x)]) rfl ?_
  
  refine gw_bipush (v := nI 32) hX nd_We_sum_2 rfl ?_
  refine gw_istore hX nd_We_sum_4 (by decide) (L' := [(5, .int (nI 32)), (3, .long (iL (wd_T wt B (lb_at x) 0))), (0, .ref a), (1, .ref s), (2, .int x)]) rfl ?_
  refine gw_iconst (v := nI 0) hX nd_We_sum_6 rfl ?_
  refine gw_istore hX nd_We_sum_7 (by decide) (L' := [(6, .int (nI 0)), (5, .int (nI 32)), (3, .long (iL (wd_T wt B (lb_at x) 0))), (0, .ref a), (1, .ref s), (2, .int x)]) rfl ?_
  exact lp_We_sum a s wt b B lab x N hB hN h0 h1 g0 g1 hX hQ hr N 0 (by omega)
set_option maxRecDepth 100000 in
set_option maxHeartbeats 4000000 in
theorem lp_We_change2 {X : gw_C} (a s : Nat) (σ0 : gw_S) (wt : Nat → Int) (c : Int) (b : Nat → Int32) (B : Nat → Nat) (lab x : Int32) (N : Nat) (hB : ∀ j, j < N * 3 → b j = nI (B j) ∧ B j < 32) (hN : N ≤ 6) (has : a + 2 ≤ s ∨ s + 2 ≤ a) (w : Nat) (hw : w < N) (kk : ∀ σ : gw_S, σ.2 a = some (.inr (7, [.ref (a + 1)])) → σ.2 (a + 1) = some (gw_J (gw_z X) 148 (fun j => iL (ct_ad wt c (ct_P (fun w k => B (w * 3 + k)) (lb_at x) w 3) j))) → σ.2 s = some (.inr (5, [.ref (s + 1), .int lab, .int (nI N)])) → σ.2 (s + 1) = some (gw_I (gw_z X) 18 b) → gw_fr σ0 σ a (a + 2) → gw_W X σ 0 0 63 [(7, .int (nI (lb_at x w))), (6, .int (nI w)), (5, .int (nI (wd_r (lb_at x) w))), (0, .ref a), (1, .ref s), (2, .int x), (3, .long (iL c))] []) (hX : gw_ok X nc_We_change "LabelLearner$Weights" (9, 1, 24, 0, 0))  : ∀ (m : Nat) (k : Nat) (σ : gw_S), k + m = 3 → σ.2 a = some (.inr (7, [.ref (a + 1)])) → σ.2 (a + 1) = some (gw_J (gw_z X) 148 (fun j => iL (ct_ad wt c (ct_P (fun w k => B (w * 3 + k)) (lb_at x) w k) j))) → σ.2 s = some (.inr (5, [.ref (s + 1), .int lab, .int (nI N)])) → σ.2 (s + 1) = some (gw_I (gw_z X) 18 b) → gw_fr σ0 σ a (a + 2) → gw_W X σ 0 0 36 [(8, .int (nI k)), (7, .int (nI (lb_at x w))), (6, .int (nI w)), (5, .int (nI (wd_r (lb_at x) w))), (0, .ref a), (1, .ref s), (2, .int x), (3, .long (iL c))] [] := by
  intro m
  induction m using Nat.strongRecOn with
  | ind m ih =>
    intro k σ
    intro hm h0 h1 g0 g1 fr
    have hl1 := lb_lt x w
    refine gw_iload hX nd_We_change_36 0 rfl ?_
    refine gw_iconst (v := nI 3) hX nd_We_change_38 rfl ?_
    refine gw_icmp_ge (tgt := 63) hX nd_We_change_39 rfl (fun hb => ?_) (fun hb => ?_)
    · have hb : 3 ≤ k := (nI_leI (a := 3) (b := k) (by omega) (by omega)).mp hb
      refine gw_cut (ks := [1, 2, 3, 4, 5, 6, 7]) (L' := [(7, .int (nI (lb_at x w))), (6, .int (nI w)), (5, .int (nI (wd_r (lb_at x) w))), (0, .ref a), (1, .ref s), (2, .int x), (3, .long (iL c))]) rfl ?_
      have hk : k = 3 := by omega
      subst hk
      exact kk σ h0 h1 g0 g1 fr
    · have hb : ¬ 3 ≤ k := fun h => hb ((nI_leI (a := 3) (b := k) (by omega) (by omega)).mpr h)
      have hBk := hB (w * 3 + k) (by omega)
      refine gw_aload_n hX nd_We_change_42 rfl 4 rfl ?_
      refine gw_aload_n hX nd_We_change_43 rfl 5 rfl ?_
      refine gw_iload hX nd_We_change_44 2 rfl ?_
      refine gw_iload hX nd_We_change_46 0 rfl ?_
      refine gw_callV (rest := [.ref a]) hX ks_We_15 (ct_Se_bucketOf X.1.2.1 (gw_z X) (gw_b X) σ s w k b lab (nI N) g0 g1 (by omega)) g0 rfl rfl (Nat.le_of_ble_eq_true rfl) nd_We_change_48 (by decide) ?_
      rintro v_ s_ ⟨hv_, hs_⟩
      have hs_ := hs_.symm
      subst hs_ hv_
      show gw_W X σ 0 0 51 [(8, .int (nI k)), (7, .int (nI (lb_at x w))), (6, .int (nI w)), (5, .int (nI (wd_r (lb_at x) w))), (0, .ref a), (1, .ref s), (2, .int x), (3, .long (iL c))] [.int (b (w * 3 + k)), .ref a]
      rw [hBk.1]
      refine gw_iload hX nd_We_change_51 1 rfl ?_
      refine gw_lload_n hX nd_We_change_53 rfl 7 rfl ?_
      refine gw_callV (rest := []) hX ks_We_36 (ct_We_add X.1.2.1 (gw_z X) (gw_b X) σ a (B (w * 3 + k)) (lb_at x w) (iL c) _ h0 h1 (by omega)) h0 rfl rfl (Nat.le_of_ble_eq_true rfl) nd_We_change_54 (by decide) ?_
      rintro _ σ1 ⟨rfl, h0, h1, hf⟩
      have h1 : σ1.2 (a + 1) = some (gw_J (gw_z X) 148 (fun j => iL (ct_ad wt c (ct_P (fun w k => B (w * 3 + k)) (lb_at x) w (k + 1)) j))) := by rw [h1]; exact congrArg (fun y => some (gw_J (gw_z X) 148 y)) ((ct_upd wt c _ _).trans (by rw [← ct_Ps]))
      have g0 : σ1.2 s = some (.inr (5, [.ref (s + 1), .int lab, .int (nI N)])) := (hf.2 s (by omega)).trans g0
      have g1 : σ1.2 (s + 1) = some ((gw_I (gw_z X) 18 b)) := (hf.2 (s + 1) (by omega)).trans g1
      have fr : gw_fr σ0 σ1 a (a + 2) := gw_fr_tr fr hf
      show gw_W X σ1 0 0 57 [(8, .int (nI k)), (7, .int (nI (lb_at x w))), (6, .int (nI w)), (5, .int (nI (wd_r (lb_at x) w))), (0, .ref a), (1, .ref s), (2, .int x), (3, .long (iL c))] []
      refine gw_iinc hX nd_We_change_57 0 rfl (v := nI (k + 1)) (show nI k + nI 1 = nI (k + 1) from nI_add _ _) (by decide) (L' := [(8, .int (nI (k + 1))), (7, .int (nI (lb_at x w))), (6, .int (nI w)), (5, .int (nI (wd_r (lb_at x) w))), (0, .ref a), (1, .ref s), (2, .int x), (3, .long (iL c))]) rfl ?_
      refine gw_goto (tgt := 36) hX nd_We_change_60 rfl ?_
      refine gw_cut (ks := [0, 1, 2, 3, 4, 5, 6, 7]) (L' := [(8, .int (nI (k + 1))), (7, .int (nI (lb_at x w))), (6, .int (nI w)), (5, .int (nI (wd_r (lb_at x) w))), (0, .ref a), (1, .ref s), (2, .int x), (3, .long (iL c))]) rfl ?_
      exact ih (m - 1) (by omega) (k + 1) σ1 (by omega) h0 h1 g0 g1 fr
set_option maxRecDepth 100000 in
set_option maxHeartbeats 4000000 in
theorem lp_We_change {X : gw_C} (a s : Nat) (σ0 : gw_S) (wt : Nat → Int) (c : Int) (b : Nat → Int32) (B : Nat → Nat) (lab x : Int32) (N : Nat) (hB : ∀ j, j < N * 3 → b j = nI (B j) ∧ B j < 32) (hN : N ≤ 6) (has : a + 2 ≤ s ∨ s + 2 ≤ a) (hX : gw_ok X nc_We_change "LabelLearner$Weights" (9, 1, 24, 0, 0)) (hQ : X.2.2.2.2 = gw_end X (fun v σ' => v = none ∧ σ'.2 a = some (.inr (7, [.ref (a + 1)])) ∧ σ'.2 (a + 1) = some (gw_J (gw_z X) 148 (fun j => iL (ct_ad wt c (ct_C (fun w k => B (w * 3 + k)) (lb_at x) N) j))) ∧ gw_fr σ0 σ' a (a + 2)) 0 0) (hr : X.2.2.1.1.sig.returnType = none) : ∀ (m : Nat) (w : Nat) (σ : gw_S), w + m = N → σ.2 a = some (.inr (7, [.ref (a + 1)])) → σ.2 (a + 1) = some (gw_J (gw_z X) 148 (fun j => iL (ct_ad wt c (ct_C (fun w k => B (w * 3 + k)) (lb_at x) w) j))) → σ.2 s = some (.inr (5, [.ref (s + 1), .int lab, .int (nI N)])) → σ.2 (s + 1) = some (gw_I (gw_z X) 18 b) → gw_fr σ0 σ a (a + 2) → gw_W X σ 0 0 7 [(6, .int (nI w)), (5, .int (nI (wd_r (lb_at x) w))), (0, .ref a), (1, .ref s), (2, .int x), (3, .long (iL c))] [] := by
  intro m
  induction m using Nat.strongRecOn with
  | ind m ih =>
    intro w σ
    intro hm h0 h1 g0 g1 fr
    have hl1 := lb_lt x w
    have hl2 := wd_r_lt (lb_lt x) w
    refine gw_iload hX nd_We_change_7 0 rfl ?_
    refine gw_aload_n hX nd_We_change_9 rfl 3 rfl ?_
    refine gw_get hX kf_We_25 nd_We_change_10 g0 rfl ?_
    refine gw_icmp_ge (tgt := 76) hX nd_We_change_13 rfl (fun hb => ?_) (fun hb => ?_)
    · have hb : N ≤ w := (nI_leI (a := N) (b := w) (by omega) (by omega)).mp hb
      have hk : w = N := by omega
      subst hk
      exact gw_vret hX hQ hr nd_We_change_76 (by decide) (by decide) ⟨rfl, h0, h1, fr⟩
    · have hb : ¬ N ≤ w := fun h => hb ((nI_leI (a := N) (b := w) (by omega) (by omega)).mpr h)
      refine gw_iload_n hX nd_We_change_16 rfl 4 rfl ?_
      refine gw_iload hX nd_We_change_17 0 rfl ?_
      refine gw_callS (rest := []) hX ks_We_29 (ct_LL_labelIn X.1.2.1 (gw_z X) (gw_b X) σ x w (by omega)) rfl rfl (Nat.le_of_ble_eq_true rfl) nd_We_change_19 (by decide) ?_
      rintro v_ s_ ⟨hv_, hs_⟩
      have hs_ := hs_.symm
      subst hs_ hv_
      show gw_W X σ 0 0 22 [(6, .int (nI w)), (5, .int (nI (wd_r (lb_at x) w))), (0, .ref a), (1, .ref s), (2, .int x), (3, .long (iL c))] [.int (nI (lb_at x w))]
      refine gw_istore hX nd_We_change_22 (by decide) (L' := [(7, .int (nI (lb_at x w))), (6, .int (nI w)), (5, .int (nI (wd_r (lb_at x) w))), (0, .ref a), (1, .ref s), (2, .int x), (3, .long (iL c))]) rfl ?_
      refine gw_aload_n hX nd_We_change_24 rfl 3 rfl ?_
      refine gw_iload hX nd_We_change_25 2 rfl ?_
      refine gw_iload hX nd_We_change_27 0 rfl ?_
      refine gw_lload_n hX nd_We_change_29 rfl 6 rfl ?_
      refine gw_callV (rest := []) hX ks_We_36 (ct_We_add X.1.2.1 (gw_z X) (gw_b X) σ a (wd_r (lb_at x) w) (lb_at x w) (iL c) _ h0 h1 (by omega)) h0 rfl rfl (Nat.le_of_ble_eq_true rfl) nd_We_change_30 (by decide) ?_
      rintro _ σ1 ⟨rfl, h0, h1, hf⟩
      have h1 : σ1.2 (a + 1) = some (gw_J (gw_z X) 148 (fun j => iL (ct_ad wt c (ct_P (fun w k => B (w * 3 + k)) (lb_at x) w 0) j))) := by rw [h1]; exact congrArg (fun y => some (gw_J (gw_z X) 148 y)) ((ct_upd wt c _ _).trans (by rw [← ct_P0, ct_r_eq]))
      have g0 : σ1.2 s = some (.inr (5, [.ref (s + 1), .int lab, .int (nI N)])) := (hf.2 s (by omega)).trans g0
      have g1 : σ1.2 (s + 1) = some ((gw_I (gw_z X) 18 b)) := (hf.2 (s + 1) (by omega)).trans g1
      have fr : gw_fr σ0 σ1 a (a + 2) := gw_fr_tr fr hf
      show gw_W X σ1 0 0 33 [(7, .int (nI (lb_at x w))), (6, .int (nI w)), (5, .int (nI (wd_r (lb_at x) w))), (0, .ref a), (1, .ref s), (2, .int x), (3, .long (iL c))] []
      refine gw_iconst (v := nI 0) hX nd_We_change_33 rfl ?_
      refine gw_istore hX nd_We_change_34 (by decide) (L' := [(8, .int (nI 0)), (7, .int (nI (lb_at x w))), (6, .int (nI w)), (5, .int (nI (wd_r (lb_at x) w))), (0, .ref a), (1, .ref s), (2, .int x), (3, .long (iL c))]) rfl ?_
      refine gw_cut (ks := [0, 1, 2, 3, 4, 5, 6, 7]) (L' := [(8, .int (nI 0)), (7, .int (nI (lb_at x w))), (6, .int (nI w)), (5, .int (nI (wd_r (lb_at x) w))), (0, .ref a), (1, .ref s), (2, .int x), (3, .long (iL c))]) rfl ?_
      refine lp_We_change2 a s σ0 wt c b B lab x N hB hN has w (by omega) ?_ hX 3 0 σ1 (by omega) h0 h1 g0 g1 fr
      clear h0 h1 g0 g1 fr
      intro σ h0 h1 g0 g1 fr
      rw [ct_P3] at h1
      refine gw_bipush (v := nI 33) hX nd_We_change_63 rfl ?_
      refine gw_iload hX nd_We_change_65 0 rfl ?_
      refine gw_iadd hX nd_We_change_67 ?_
      refine gw_topi (y := nI (33 + (lb_at x w))) (nI_add _ _) ?_
      refine gw_istore hX nd_We_change_68 (by decide) (L' := [(5, .int (nI (33 + (lb_at x w)))), (7, .int (nI (lb_at x w))), (6, .int (nI w)), (0, .ref a), (1, .ref s), (2, .int x), (3, .long (iL c))]) rfl ?_
      refine gw_iinc hX nd_We_change_70 2 rfl (v := nI (w + 1)) (show nI w + nI 1 = nI (w + 1) from nI_add _ _) (by decide) (L' := [(6, .int (nI (w + 1))), (5, .int (nI (33 + (lb_at x w)))), (7, .int (nI (lb_at x w))), (0, .ref a), (1, .ref s), (2, .int x), (3, .long (iL c))]) rfl ?_
      refine gw_goto (tgt := 7) hX nd_We_change_73 rfl ?_
      refine gw_cut (ks := [0, 1, 3, 4, 5, 6]) (L' := [(6, .int (nI (w + 1))), (5, .int (nI (33 + (lb_at x w)))), (0, .ref a), (1, .ref s), (2, .int x), (3, .long (iL c))]) rfl ?_
      rw [← wd_r_s]
      exact ih (m - 1) (by omega) (w + 1) σ (by omega) h0 h1 g0 g1 fr
set_option maxRecDepth 100000 in
set_option maxHeartbeats 4000000 in
theorem ct_We_change (l : Launch) (Z : gw_Z) (b0 : Nat) (σ : gw_S) (a s : Nat) (wt : Nat → Int) (c : Int) (b : Nat → Int32) (B : Nat → Nat) (lab x : Int32) (N : Nat) (hB : ∀ j, j < N * 3 → b j = nI (B j) ∧ B j < 32) (hN : N ≤ 6) (has : a + 2 ≤ s ∨ s + 2 ≤ a) (h0 : σ.2 a = some (.inr (7, [.ref (a + 1)]))) (h1 : σ.2 (a + 1) = some (gw_J Z 148 (fun j => iL (wt j)))) (g0 : σ.2 s = some (.inr (5, [.ref (s + 1), .int lab, .int (nI N)]))) (g1 : σ.2 (s + 1) = some (gw_I Z 18 b)) : gw_M l ny_We_change nc_We_change (9, 1, 24, 0, 0) none Z b0 σ [.ref a, .ref s, .int x, .long (iL c)] (fun v σ' => v = none ∧ σ'.2 a = some (.inr (7, [.ref (a + 1)])) ∧ σ'.2 (a + 1) = some (gw_J Z 148 (fun j => iL (ct_ad wt c (ct_C (fun w k => B (w * 3 + k)) (lb_at x) N) j))) ∧ gw_fr σ σ' a (a + 2)) := by
  refine gw_M_of rfl (Nat.le_of_ble_eq_true rfl) ?_
  intro X hX hl hz hb0 hr hnm hQ
  subst hz hb0 hl
  have hX : gw_ok X nc_We_change "LabelLearner$Weights" (9, 1, 24, 0, 0) := hX
  show gw_W X σ 0 0 0 [(0, .ref a), (1, .ref s), (2, .int x), (3, .long (iL c))] []
  refine gw_bipush (v := nI 32) hX nd_We_change_0 rfl ?_
  refine gw_istore hX nd_We_change_2 (by decide) (L' := [(5, .int (nI 32)), (0, .ref a), (1, .ref s), (2, .int x), (3, .long (iL c))]) rfl ?_
  refine gw_iconst (v := nI 0) hX nd_We_change_4 rfl ?_
  refine gw_istore hX nd_We_change_5 (by decide) (L' := [(6, .int (nI 0)), (5, .int (nI 32)), (0, .ref a), (1, .ref s), (2, .int x), (3, .long (iL c))]) rfl ?_
  exact lp_We_change a s σ wt c b B lab x N hB hN has hX hQ hr N 0 σ (by omega) h0 (by rw [h1]; exact congrArg (fun y => some (gw_J (gw_z X) 148 y)) (by funext j; rw [show ct_C (fun w k => B (w * 3 + k)) (lb_at x) 0 = [] from rfl, ct_ad_nil])) g0 g1 (gw_fr_rf _ _ _)
end
section
set_option maxRecDepth 100000 in
set_option maxHeartbeats 4000000 in
theorem ct_Ra_clear (l : Launch) (Z : gw_Z) (b0 : Nat) (σ : gw_S) (a : Nat) (h : rk_any σ Z a) : gw_M l ny_Ra_clear nc_Ra_clear (1, 0, 0, 0, 0) none Z b0 σ [.ref a] (fun v σ' => v = none ∧ rk_at σ' Z a [] ∧ gw_fr σ σ' a (a + 3)) := by
  refine gw_M_of rfl (Nat.le_of_ble_eq_true rfl) ?_
  intro X hX hl hz hb0 hr hnm hQ
  subst hz hb0 hl
  have hX : gw_ok X nc_Ra_clear "LabelLearner$Ranking" (1, 0, 0, 0, 0) := hX
  show gw_W X σ 0 0 0 [(0, .ref a)] []
  have fr : gw_fr σ σ a (a + 3) := gw_fr_rf _ _ _
  obtain ⟨k0, fs, fl, h0, h1, h2⟩ := h
  refine gw_aload_n hX nd_Ra_clear_0 rfl 0 rfl ?_
  refine gw_iconst (v := nI 0) hX nd_Ra_clear_1 rfl ?_
  refine gw_put hX kf_Ra_19 nd_Ra_clear_2 h0 rfl rfl (Nat.le_of_ble_eq_true rfl) (e' := .inr (4, [.ref (a + 1), .ref (a + 2), .int (nI 0)])) rfl ?_
  obtain ⟨σ1, eσ1⟩ : ∃ hp_, hp_ = gw_up σ a (.inr (4, [.ref (a + 1), .ref (a + 2), .int (nI 0)])) := ⟨_, rfl⟩
  refine gw_heap eσ1.symm ?_
  have h0 : σ1.2 a = some (.inr (4, [.ref (a + 1), .ref (a + 2), .int (nI 0)])) := by rw [eσ1]; exact gw_up_eq _ _ _
  have h1 : σ1.2 (a + 1) = some ((gw_J (gw_z X) 2 fs)) := by rw [eσ1, gw_up_ne (by omega)]; exact h1
  have h2 : σ1.2 (a + 2) = some ((gw_I (gw_z X) 2 fl)) := by rw [eσ1, gw_up_ne (by omega)]; exact h2
  have fr : gw_fr σ σ1 a (a + 3) := gw_fr_tr fr (show gw_fr _ σ1 a (a + 3) by rw [eσ1]; exact gw_fr_up _ _ _ (by omega) (by omega))
  exact gw_vret hX hQ hr nd_Ra_clear_5 (by decide) (by decide) ⟨rfl, ⟨fs, fl, h0, h1, h2, fun i x hx => by simp at hx⟩, fr⟩
set_option maxRecDepth 100000 in
set_option maxHeartbeats 4000000 in
theorem co_Ra_offer0 (l : Launch) (Z : gw_Z) (b0 : Nat) (σ : gw_S) (a : Nat) (s : Int) (c : Nat) (fs : Nat → Int64) (fl : Nat → Int32) (hs : -4611686018427387904 ≤ s ∧ s ≤ 4611686018427387904) (h0 : σ.2 a = some (.inr (4, [.ref (a + 1), .ref (a + 2), .int (nI 0)]))) (h1 : σ.2 (a + 1) = some (gw_J Z 2 fs)) (h2 : σ.2 (a + 2) = some (gw_I Z 2 fl)) : gw_M l ny_Ra_offer nc_Ra_offer (4, 0, 0, 0, 0) none Z b0 σ [.ref a, .long (iL s), .int (nI c)] (fun v σ' => v = none ∧ rk_at σ' Z a (tk_offer [] (s, c)) ∧ gw_fr σ σ' a (a + 3)) := by
  refine gw_M_of rfl (Nat.le_of_ble_eq_true rfl) ?_
  intro X hX hl hz hb0 hr hnm hQ
  subst hz hb0 hl
  have hX : gw_ok X nc_Ra_offer "LabelLearner$Ranking" (4, 0, 0, 0, 0) := hX
  show gw_W X σ 0 0 0 [(0, .ref a), (1, .long (iL s)), (3, .int (nI c))] []
  have fr : gw_fr σ σ a (a + 3) := gw_fr_rf _ _ _
  refine gw_aload_n hX nd_Ra_offer_0 rfl 0 rfl ?_
  refine gw_get hX kf_Ra_19 nd_Ra_offer_1 h0 rfl ?_
  refine gw_if_eq (tgt := 18) hX nd_Ra_offer_4 rfl (fun hb => ?_) (fun hb => ?_)
  · have hb : 0 = 0 := (nI_eq (a := 0) (b := 0) (by omega) (by omega)).mp hb
    refine gw_aload_n hX nd_Ra_offer_18 rfl 0 rfl ?_
    refine gw_get hX kf_Ra_9 nd_Ra_offer_19 h0 rfl ?_
    refine gw_iconst (v := nI 1) hX nd_Ra_offer_22 rfl ?_
    refine gw_aload_n hX nd_Ra_offer_23 rfl 0 rfl ?_
    refine gw_get hX kf_Ra_9 nd_Ra_offer_24 h0 rfl ?_
    refine gw_iconst (v := nI 0) hX nd_Ra_offer_27 rfl ?_
    refine gw_lald hX nd_Ra_offer_28 h1 0 rfl (by omega) (by decide) ?_
    refine gw_last hX nd_Ra_offer_29 h1 1 rfl (by omega) (by decide) ?_
    obtain ⟨σ1, eσ1⟩ : ∃ hp_, hp_ = gw_up σ (a + 1) ((gw_J (gw_z X) 2 (vp_updL fs 1 (fs 0)))) := ⟨_, rfl⟩
    refine gw_heap eσ1.symm ?_
    have h0 : σ1.2 a = some (.inr (4, [.ref (a + 1), .ref (a + 2), .int (nI 0)])) := by rw [eσ1, gw_up_ne (by omega)]; exact h0
    have h1 : σ1.2 (a + 1) = some ((gw_J (gw_z X) 2 (vp_updL fs 1 (fs 0)))) := by rw [eσ1]; exact gw_up_eq _ _ _
    have h2 : σ1.2 (a + 2) = some ((gw_I (gw_z X) 2 fl)) := by rw [eσ1, gw_up_ne (by omega)]; exact h2
    have fr : gw_fr σ σ1 a (a + 3) := gw_fr_tr fr (show gw_fr _ σ1 a (a + 3) by rw [eσ1]; exact gw_fr_up _ _ _ (by omega) (by omega))
    refine gw_aload_n hX nd_Ra_offer_30 rfl 0 rfl ?_
    refine gw_get hX kf_Ra_15 nd_Ra_offer_31 h0 rfl ?_
    refine gw_iconst (v := nI 1) hX nd_Ra_offer_34 rfl ?_
    refine gw_aload_n hX nd_Ra_offer_35 rfl 0 rfl ?_
    refine gw_get hX kf_Ra_15 nd_Ra_offer_36 h0 rfl ?_
    refine gw_iconst (v := nI 0) hX nd_Ra_offer_39 rfl ?_
    refine gw_iald hX nd_Ra_offer_40 h2 0 rfl (by omega) (by decide) ?_
    refine gw_iast hX nd_Ra_offer_41 h2 1 rfl (by omega) (by decide) ?_
    obtain ⟨σ2, eσ2⟩ : ∃ hp_, hp_ = gw_up σ1 (a + 2) ((gw_I (gw_z X) 2 (upd fl 1 (fl 0)))) := ⟨_, rfl⟩
    refine gw_heap eσ2.symm ?_
    have h0 : σ2.2 a = some (.inr (4, [.ref (a + 1), .ref (a + 2), .int (nI 0)])) := by rw [eσ2, gw_up_ne (by omega)]; exact h0
    have h1 : σ2.2 (a + 1) = some ((gw_J (gw_z X) 2 (vp_updL fs 1 (fs 0)))) := by rw [eσ2, gw_up_ne (by omega)]; exact h1
    have h2 : σ2.2 (a + 2) = some ((gw_I (gw_z X) 2 (upd fl 1 (fl 0)))) := by rw [eσ2]; exact gw_up_eq _ _ _
    have fr : gw_fr σ σ2 a (a + 3) := gw_fr_tr fr (show gw_fr _ σ2 a (a + 3) by rw [eσ2]; exact gw_fr_up _ _ _ (by omega) (by omega))
    refine gw_aload_n hX nd_Ra_offer_42 rfl 0 rfl ?_
    refine gw_get hX kf_Ra_9 nd_Ra_offer_43 h0 rfl ?_
    refine gw_iconst (v := nI 0) hX nd_Ra_offer_46 rfl ?_
    refine gw_lload_n hX nd_Ra_offer_47 rfl 1 rfl ?_
    refine gw_last hX nd_Ra_offer_48 h1 0 rfl (by omega) (by decide) ?_
    obtain ⟨σ3, eσ3⟩ : ∃ hp_, hp_ = gw_up σ2 (a + 1) ((gw_J (gw_z X) 2 (vp_updL (vp_updL fs 1 (fs 0)) 0 (iL s)))) := ⟨_, rfl⟩
    refine gw_heap eσ3.symm ?_
    have h0 : σ3.2 a = some (.inr (4, [.ref (a + 1), .ref (a + 2), .int (nI 0)])) := by rw [eσ3, gw_up_ne (by omega)]; exact h0
    have h1 : σ3.2 (a + 1) = some ((gw_J (gw_z X) 2 (vp_updL (vp_updL fs 1 (fs 0)) 0 (iL s)))) := by rw [eσ3]; exact gw_up_eq _ _ _
    have h2 : σ3.2 (a + 2) = some ((gw_I (gw_z X) 2 (upd fl 1 (fl 0)))) := by rw [eσ3, gw_up_ne (by omega)]; exact h2
    have fr : gw_fr σ σ3 a (a + 3) := gw_fr_tr fr (show gw_fr _ σ3 a (a + 3) by rw [eσ3]; exact gw_fr_up _ _ _ (by omega) (by omega))
    refine gw_aload_n hX nd_Ra_offer_49 rfl 0 rfl ?_
    refine gw_get hX kf_Ra_15 nd_Ra_offer_50 h0 rfl ?_
    refine gw_iconst (v := nI 0) hX nd_Ra_offer_53 rfl ?_
    refine gw_iload_n hX nd_Ra_offer_54 rfl 2 rfl ?_
    refine gw_iast hX nd_Ra_offer_55 h2 0 rfl (by omega) (by decide) ?_
    obtain ⟨σ4, eσ4⟩ : ∃ hp_, hp_ = gw_up σ3 (a + 2) ((gw_I (gw_z X) 2 (upd (upd fl 1 (fl 0)) 0 (nI c)))) := ⟨_, rfl⟩
    refine gw_heap eσ4.symm ?_
    have h0 : σ4.2 a = some (.inr (4, [.ref (a + 1), .ref (a + 2), .int (nI 0)])) := by rw [eσ4, gw_up_ne (by omega)]; exact h0
    have h1 : σ4.2 (a + 1) = some ((gw_J (gw_z X) 2 (vp_updL (vp_updL fs 1 (fs 0)) 0 (iL s)))) := by rw [eσ4, gw_up_ne (by omega)]; exact h1
    have h2 : σ4.2 (a + 2) = some ((gw_I (gw_z X) 2 (upd (upd fl 1 (fl 0)) 0 (nI c)))) := by rw [eσ4]; exact gw_up_eq _ _ _
    have fr : gw_fr σ σ4 a (a + 3) := gw_fr_tr fr (show gw_fr _ σ4 a (a + 3) by rw [eσ4]; exact gw_fr_up _ _ _ (by omega) (by omega))
    refine gw_goto (tgt := 92) hX nd_Ra_offer_56 rfl ?_
    refine gw_aload_n hX nd_Ra_offer_92 rfl 0 rfl ?_
    refine gw_get hX kf_Ra_19 nd_Ra_offer_93 h0 rfl ?_
    refine gw_iconst (v := nI 2) hX nd_Ra_offer_96 rfl ?_
    refine gw_icmp_ge (tgt := 110) hX nd_Ra_offer_97 rfl (fun hb => ?_) (fun hb => ?_)
    · have hb : 2 ≤ 0 := (nI_leI (a := 2) (b := 0) (by omega) (by omega)).mp hb
      exfalso; omega
    · have hb : ¬ 2 ≤ 0 := fun h => hb ((nI_leI (a := 2) (b := 0) (by omega) (by omega)).mpr h)
      refine gw_aload_n hX nd_Ra_offer_100 rfl 0 rfl ?_
      refine gw_dup hX nd_Ra_offer_101 rfl ?_
      refine gw_get hX kf_Ra_19 nd_Ra_offer_102 h0 rfl ?_
      refine gw_iconst (v := nI 1) hX nd_Ra_offer_105 rfl ?_
      refine gw_iadd hX nd_Ra_offer_106 ?_
      refine gw_topi (y := nI 1) (nI_add _ _) ?_
      refine gw_put hX kf_Ra_19 nd_Ra_offer_107 h0 rfl rfl (Nat.le_of_ble_eq_true rfl) (e' := .inr (4, [.ref (a + 1), .ref (a + 2), .int (nI 1)])) rfl ?_
      obtain ⟨σ5, eσ5⟩ : ∃ hp_, hp_ = gw_up σ4 a (.inr (4, [.ref (a + 1), .ref (a + 2), .int (nI 1)])) := ⟨_, rfl⟩
      refine gw_heap eσ5.symm ?_
      have h0 : σ5.2 a = some (.inr (4, [.ref (a + 1), .ref (a + 2), .int (nI 1)])) := by rw [eσ5]; exact gw_up_eq _ _ _
      have h1 : σ5.2 (a + 1) = some ((gw_J (gw_z X) 2 (vp_updL (vp_updL fs 1 (fs 0)) 0 (iL s)))) := by rw [eσ5, gw_up_ne (by omega)]; exact h1
      have h2 : σ5.2 (a + 2) = some ((gw_I (gw_z X) 2 (upd (upd fl 1 (fl 0)) 0 (nI c)))) := by rw [eσ5, gw_up_ne (by omega)]; exact h2
      have fr : gw_fr σ σ5 a (a + 3) := gw_fr_tr fr (show gw_fr _ σ5 a (a + 3) by rw [eσ5]; exact gw_fr_up _ _ _ (by omega) (by omega))
      exact gw_vret hX hQ hr nd_Ra_offer_110 (by decide) (by decide) ⟨rfl, ⟨_, _, h0, h1, h2, rk_one (by simp [vp_updL, upd]) (by simp [vp_updL, upd])⟩, fr⟩
  · have hb : ¬ 0 = 0 := fun h => hb ((nI_eq (a := 0) (b := 0) (by omega) (by omega)).mpr h)
    exfalso; omega
set_option maxRecDepth 100000 in
set_option maxHeartbeats 4000000 in
theorem co_Ra_offer1 (l : Launch) (Z : gw_Z) (b0 : Nat) (σ : gw_S) (a : Nat) (s : Int) (c : Nat) (fs : Nat → Int64) (fl : Nat → Int32) (hs : -4611686018427387904 ≤ s ∧ s ≤ 4611686018427387904) (u : Int × Nat) (hu : -4611686018427387904 ≤ u.1 ∧ u.1 ≤ 4611686018427387904) (e0 : fs 0 = iL u.1) (e1 : fl 0 = nI u.2) (h0 : σ.2 a = some (.inr (4, [.ref (a + 1), .ref (a + 2), .int (nI 1)]))) (h1 : σ.2 (a + 1) = some (gw_J Z 2 fs)) (h2 : σ.2 (a + 2) = some (gw_I Z 2 fl)) : gw_M l ny_Ra_offer nc_Ra_offer (4, 0, 0, 0, 0) none Z b0 σ [.ref a, .long (iL s), .int (nI c)] (fun v σ' => v = none ∧ rk_at σ' Z a (tk_offer [u] (s, c)) ∧ gw_fr σ σ' a (a + 3)) := by
  refine gw_M_of rfl (Nat.le_of_ble_eq_true rfl) ?_
  intro X hX hl hz hb0 hr hnm hQ
  subst hz hb0 hl
  have hX : gw_ok X nc_Ra_offer "LabelLearner$Ranking" (4, 0, 0, 0, 0) := hX
  show gw_W X σ 0 0 0 [(0, .ref a), (1, .long (iL s)), (3, .int (nI c))] []
  have fr : gw_fr σ σ a (a + 3) := gw_fr_rf _ _ _
  refine gw_aload_n hX nd_Ra_offer_0 rfl 0 rfl ?_
  refine gw_get hX kf_Ra_19 nd_Ra_offer_1 h0 rfl ?_
  refine gw_if_eq (tgt := 18) hX nd_Ra_offer_4 rfl (fun hb => ?_) (fun hb => ?_)
  · have hb : 1 = 0 := (nI_eq (a := 1) (b := 0) (by omega) (by omega)).mp hb
    exfalso; omega
  · have hb : ¬ 1 = 0 := fun h => hb ((nI_eq (a := 1) (b := 0) (by omega) (by omega)).mpr h)
    refine gw_lload_n hX nd_Ra_offer_7 rfl 1 rfl ?_
    refine gw_aload_n hX nd_Ra_offer_8 rfl 0 rfl ?_
    refine gw_get hX kf_Ra_9 nd_Ra_offer_9 h0 rfl ?_
    refine gw_iconst (v := nI 0) hX nd_Ra_offer_12 rfl ?_
    refine gw_lald hX nd_Ra_offer_13 h1 0 rfl (by omega) (by decide) ?_
    refine gw_topl (y := iL u.1) e0 ?_
    refine gw_lcmp hX nd_Ra_offer_14 ?_
    refine gw_if_le (tgt := 59) hX nd_Ra_offer_15 rfl (fun hb => ?_) (fun hb => ?_)
    · skip
      have hb : s ≤ u.1 := (rk_cmp hs hu).mp hb
      refine gw_aload_n hX nd_Ra_offer_59 rfl 0 rfl ?_
      refine gw_get hX kf_Ra_19 nd_Ra_offer_60 h0 rfl ?_
      refine gw_iconst (v := nI 1) hX nd_Ra_offer_63 rfl ?_
      refine gw_icmp_eq (tgt := 78) hX nd_Ra_offer_64 rfl (fun hb => ?_) (fun hb => ?_)
      · have hb : 1 = 1 := (nI_eq (a := 1) (b := 1) (by omega) (by omega)).mp hb
        refine gw_aload_n hX nd_Ra_offer_78 rfl 0 rfl ?_
        refine gw_get hX kf_Ra_9 nd_Ra_offer_79 h0 rfl ?_
        refine gw_iconst (v := nI 1) hX nd_Ra_offer_82 rfl ?_
        refine gw_lload_n hX nd_Ra_offer_83 rfl 1 rfl ?_
        refine gw_last hX nd_Ra_offer_84 h1 1 rfl (by omega) (by decide) ?_
        obtain ⟨σ1, eσ1⟩ : ∃ hp_, hp_ = gw_up σ (a + 1) ((gw_J (gw_z X) 2 (vp_updL fs 1 (iL s)))) := ⟨_, rfl⟩
        refine gw_heap eσ1.symm ?_
        have h0 : σ1.2 a = some (.inr (4, [.ref (a + 1), .ref (a + 2), .int (nI 1)])) := by rw [eσ1, gw_up_ne (by omega)]; exact h0
        have h1 : σ1.2 (a + 1) = some ((gw_J (gw_z X) 2 (vp_updL fs 1 (iL s)))) := by rw [eσ1]; exact gw_up_eq _ _ _
        have h2 : σ1.2 (a + 2) = some ((gw_I (gw_z X) 2 fl)) := by rw [eσ1, gw_up_ne (by omega)]; exact h2
        have fr : gw_fr σ σ1 a (a + 3) := gw_fr_tr fr (show gw_fr _ σ1 a (a + 3) by rw [eσ1]; exact gw_fr_up _ _ _ (by omega) (by omega))
        refine gw_aload_n hX nd_Ra_offer_85 rfl 0 rfl ?_
        refine gw_get hX kf_Ra_15 nd_Ra_offer_86 h0 rfl ?_
        refine gw_iconst (v := nI 1) hX nd_Ra_offer_89 rfl ?_
        refine gw_iload_n hX nd_Ra_offer_90 rfl 2 rfl ?_
        refine gw_iast hX nd_Ra_offer_91 h2 1 rfl (by omega) (by decide) ?_
        obtain ⟨σ2, eσ2⟩ : ∃ hp_, hp_ = gw_up σ1 (a + 2) ((gw_I (gw_z X) 2 (upd fl 1 (nI c)))) := ⟨_, rfl⟩
        refine gw_heap eσ2.symm ?_
        have h0 : σ2.2 a = some (.inr (4, [.ref (a + 1), .ref (a + 2), .int (nI 1)])) := by rw [eσ2, gw_up_ne (by omega)]; exact h0
        have h1 : σ2.2 (a + 1) = some ((gw_J (gw_z X) 2 (vp_updL fs 1 (iL s)))) := by rw [eσ2, gw_up_ne (by omega)]; exact h1
        have h2 : σ2.2 (a + 2) = some ((gw_I (gw_z X) 2 (upd fl 1 (nI c)))) := by rw [eσ2]; exact gw_up_eq _ _ _
        have fr : gw_fr σ σ2 a (a + 3) := gw_fr_tr fr (show gw_fr _ σ2 a (a + 3) by rw [eσ2]; exact gw_fr_up _ _ _ (by omega) (by omega))
        refine gw_aload_n hX nd_Ra_offer_92 rfl 0 rfl ?_
        refine gw_get hX kf_Ra_19 nd_Ra_offer_93 h0 rfl ?_
        refine gw_iconst (v := nI 2) hX nd_Ra_offer_96 rfl ?_
        refine gw_icmp_ge (tgt := 110) hX nd_Ra_offer_97 rfl (fun hb => ?_) (fun hb => ?_)
        · have hb : 2 ≤ 1 := (nI_leI (a := 2) (b := 1) (by omega) (by omega)).mp hb
          exfalso; omega
        · have hb : ¬ 2 ≤ 1 := fun h => hb ((nI_leI (a := 2) (b := 1) (by omega) (by omega)).mpr h)
          refine gw_aload_n hX nd_Ra_offer_100 rfl 0 rfl ?_
          refine gw_dup hX nd_Ra_offer_101 rfl ?_
          refine gw_get hX kf_Ra_19 nd_Ra_offer_102 h0 rfl ?_
          refine gw_iconst (v := nI 1) hX nd_Ra_offer_105 rfl ?_
          refine gw_iadd hX nd_Ra_offer_106 ?_
          refine gw_topi (y := nI 2) (nI_add _ _) ?_
          refine gw_put hX kf_Ra_19 nd_Ra_offer_107 h0 rfl rfl (Nat.le_of_ble_eq_true rfl) (e' := .inr (4, [.ref (a + 1), .ref (a + 2), .int (nI 2)])) rfl ?_
          obtain ⟨σ3, eσ3⟩ : ∃ hp_, hp_ = gw_up σ2 a (.inr (4, [.ref (a + 1), .ref (a + 2), .int (nI 2)])) := ⟨_, rfl⟩
          refine gw_heap eσ3.symm ?_
          have h0 : σ3.2 a = some (.inr (4, [.ref (a + 1), .ref (a + 2), .int (nI 2)])) := by rw [eσ3]; exact gw_up_eq _ _ _
          have h1 : σ3.2 (a + 1) = some ((gw_J (gw_z X) 2 (vp_updL fs 1 (iL s)))) := by rw [eσ3, gw_up_ne (by omega)]; exact h1
          have h2 : σ3.2 (a + 2) = some ((gw_I (gw_z X) 2 (upd fl 1 (nI c)))) := by rw [eσ3, gw_up_ne (by omega)]; exact h2
          have fr : gw_fr σ σ3 a (a + 3) := gw_fr_tr fr (show gw_fr _ σ3 a (a + 3) by rw [eσ3]; exact gw_fr_up _ _ _ (by omega) (by omega))
          exact gw_vret hX hQ hr nd_Ra_offer_110 (by decide) (by decide) ⟨rfl, by rw [tk_of2 (x := (s, c)) (a := u) (by show s ≤ u.1; omega)]; exact ⟨_, _, h0, h1, h2, rk_two (by simp [vp_updL, upd, e0]) (by simp [vp_updL, upd, e1]) (by simp [vp_updL, upd]) (by simp [vp_updL, upd])⟩, fr⟩
      · have hb : ¬ 1 = 1 := fun h => hb ((nI_eq (a := 1) (b := 1) (by omega) (by omega)).mpr h)
        exfalso; omega
    · skip
      have hb : ¬ s ≤ u.1 := fun h => hb ((rk_cmp hs hu).mpr h)
      refine gw_aload_n hX nd_Ra_offer_18 rfl 0 rfl ?_
      refine gw_get hX kf_Ra_9 nd_Ra_offer_19 h0 rfl ?_
      refine gw_iconst (v := nI 1) hX nd_Ra_offer_22 rfl ?_
      refine gw_aload_n hX nd_Ra_offer_23 rfl 0 rfl ?_
      refine gw_get hX kf_Ra_9 nd_Ra_offer_24 h0 rfl ?_
      refine gw_iconst (v := nI 0) hX nd_Ra_offer_27 rfl ?_
      refine gw_lald hX nd_Ra_offer_28 h1 0 rfl (by omega) (by decide) ?_
      refine gw_last hX nd_Ra_offer_29 h1 1 rfl (by omega) (by decide) ?_
      obtain ⟨σ4, eσ4⟩ : ∃ hp_, hp_ = gw_up σ (a + 1) ((gw_J (gw_z X) 2 (vp_updL fs 1 (fs 0)))) := ⟨_, rfl⟩
      refine gw_heap eσ4.symm ?_
      have h0 : σ4.2 a = some (.inr (4, [.ref (a + 1), .ref (a + 2), .int (nI 1)])) := by rw [eσ4, gw_up_ne (by omega)]; exact h0
      have h1 : σ4.2 (a + 1) = some ((gw_J (gw_z X) 2 (vp_updL fs 1 (fs 0)))) := by rw [eσ4]; exact gw_up_eq _ _ _
      have h2 : σ4.2 (a + 2) = some ((gw_I (gw_z X) 2 fl)) := by rw [eσ4, gw_up_ne (by omega)]; exact h2
      have fr : gw_fr σ σ4 a (a + 3) := gw_fr_tr fr (show gw_fr _ σ4 a (a + 3) by rw [eσ4]; exact gw_fr_up _ _ _ (by omega) (by omega))
      refine gw_aload_n hX nd_Ra_offer_30 rfl 0 rfl ?_
      refine gw_get hX kf_Ra_15 nd_Ra_offer_31 h0 rfl ?_
      refine gw_iconst (v := nI 1) hX nd_Ra_offer_34 rfl ?_
      refine gw_aload_n hX nd_Ra_offer_35 rfl 0 rfl ?_
      refine gw_get hX kf_Ra_15 nd_Ra_offer_36 h0 rfl ?_
      refine gw_iconst (v := nI 0) hX nd_Ra_offer_39 rfl ?_
      refine gw_iald hX nd_Ra_offer_40 h2 0 rfl (by omega) (by decide) ?_
      refine gw_iast hX nd_Ra_offer_41 h2 1 rfl (by omega) (by decide) ?_
      obtain ⟨σ5, eσ5⟩ : ∃ hp_, hp_ = gw_up σ4 (a + 2) ((gw_I (gw_z X) 2 (upd fl 1 (fl 0)))) := ⟨_, rfl⟩
      refine gw_heap eσ5.symm ?_
      have h0 : σ5.2 a = some (.inr (4, [.ref (a + 1), .ref (a + 2), .int (nI 1)])) := by rw [eσ5, gw_up_ne (by omega)]; exact h0
      have h1 : σ5.2 (a + 1) = some ((gw_J (gw_z X) 2 (vp_updL fs 1 (fs 0)))) := by rw [eσ5, gw_up_ne (by omega)]; exact h1
      have h2 : σ5.2 (a + 2) = some ((gw_I (gw_z X) 2 (upd fl 1 (fl 0)))) := by rw [eσ5]; exact gw_up_eq _ _ _
      have fr : gw_fr σ σ5 a (a + 3) := gw_fr_tr fr (show gw_fr _ σ5 a (a + 3) by rw [eσ5]; exact gw_fr_up _ _ _ (by omega) (by omega))
      refine gw_aload_n hX nd_Ra_offer_42 rfl 0 rfl ?_
      refine gw_get hX kf_Ra_9 nd_Ra_offer_43 h0 rfl ?_
      refine gw_iconst (v := nI 0) hX nd_Ra_offer_46 rfl ?_
      refine gw_lload_n hX nd_Ra_offer_47 rfl 1 rfl ?_
      refine gw_last hX nd_Ra_offer_48 h1 0 rfl (by omega) (by decide) ?_
      obtain ⟨σ6, eσ6⟩ : ∃ hp_, hp_ = gw_up σ5 (a + 1) ((gw_J (gw_z X) 2 (vp_updL (vp_updL fs 1 (fs 0)) 0 (iL s)))) := ⟨_, rfl⟩
      refine gw_heap eσ6.symm ?_
      have h0 : σ6.2 a = some (.inr (4, [.ref (a + 1), .ref (a + 2), .int (nI 1)])) := by rw [eσ6, gw_up_ne (by omega)]; exact h0
      have h1 : σ6.2 (a + 1) = some ((gw_J (gw_z X) 2 (vp_updL (vp_updL fs 1 (fs 0)) 0 (iL s)))) := by rw [eσ6]; exact gw_up_eq _ _ _
      have h2 : σ6.2 (a + 2) = some ((gw_I (gw_z X) 2 (upd fl 1 (fl 0)))) := by rw [eσ6, gw_up_ne (by omega)]; exact h2
      have fr : gw_fr σ σ6 a (a + 3) := gw_fr_tr fr (show gw_fr _ σ6 a (a + 3) by rw [eσ6]; exact gw_fr_up _ _ _ (by omega) (by omega))
      refine gw_aload_n hX nd_Ra_offer_49 rfl 0 rfl ?_
      refine gw_get hX kf_Ra_15 nd_Ra_offer_50 h0 rfl ?_
      refine gw_iconst (v := nI 0) hX nd_Ra_offer_53 rfl ?_
      refine gw_iload_n hX nd_Ra_offer_54 rfl 2 rfl ?_
      refine gw_iast hX nd_Ra_offer_55 h2 0 rfl (by omega) (by decide) ?_
      obtain ⟨σ7, eσ7⟩ : ∃ hp_, hp_ = gw_up σ6 (a + 2) ((gw_I (gw_z X) 2 (upd (upd fl 1 (fl 0)) 0 (nI c)))) := ⟨_, rfl⟩
      refine gw_heap eσ7.symm ?_
      have h0 : σ7.2 a = some (.inr (4, [.ref (a + 1), .ref (a + 2), .int (nI 1)])) := by rw [eσ7, gw_up_ne (by omega)]; exact h0
      have h1 : σ7.2 (a + 1) = some ((gw_J (gw_z X) 2 (vp_updL (vp_updL fs 1 (fs 0)) 0 (iL s)))) := by rw [eσ7, gw_up_ne (by omega)]; exact h1
      have h2 : σ7.2 (a + 2) = some ((gw_I (gw_z X) 2 (upd (upd fl 1 (fl 0)) 0 (nI c)))) := by rw [eσ7]; exact gw_up_eq _ _ _
      have fr : gw_fr σ σ7 a (a + 3) := gw_fr_tr fr (show gw_fr _ σ7 a (a + 3) by rw [eσ7]; exact gw_fr_up _ _ _ (by omega) (by omega))
      refine gw_goto (tgt := 92) hX nd_Ra_offer_56 rfl ?_
      refine gw_aload_n hX nd_Ra_offer_92 rfl 0 rfl ?_
      refine gw_get hX kf_Ra_19 nd_Ra_offer_93 h0 rfl ?_
      refine gw_iconst (v := nI 2) hX nd_Ra_offer_96 rfl ?_
      refine gw_icmp_ge (tgt := 110) hX nd_Ra_offer_97 rfl (fun hb => ?_) (fun hb => ?_)
      · have hb : 2 ≤ 1 := (nI_leI (a := 2) (b := 1) (by omega) (by omega)).mp hb
        exfalso; omega
      · have hb : ¬ 2 ≤ 1 := fun h => hb ((nI_leI (a := 2) (b := 1) (by omega) (by omega)).mpr h)
        refine gw_aload_n hX nd_Ra_offer_100 rfl 0 rfl ?_
        refine gw_dup hX nd_Ra_offer_101 rfl ?_
        refine gw_get hX kf_Ra_19 nd_Ra_offer_102 h0 rfl ?_
        refine gw_iconst (v := nI 1) hX nd_Ra_offer_105 rfl ?_
        refine gw_iadd hX nd_Ra_offer_106 ?_
        refine gw_topi (y := nI 2) (nI_add _ _) ?_
        refine gw_put hX kf_Ra_19 nd_Ra_offer_107 h0 rfl rfl (Nat.le_of_ble_eq_true rfl) (e' := .inr (4, [.ref (a + 1), .ref (a + 2), .int (nI 2)])) rfl ?_
        obtain ⟨σ8, eσ8⟩ : ∃ hp_, hp_ = gw_up σ7 a (.inr (4, [.ref (a + 1), .ref (a + 2), .int (nI 2)])) := ⟨_, rfl⟩
        refine gw_heap eσ8.symm ?_
        have h0 : σ8.2 a = some (.inr (4, [.ref (a + 1), .ref (a + 2), .int (nI 2)])) := by rw [eσ8]; exact gw_up_eq _ _ _
        have h1 : σ8.2 (a + 1) = some ((gw_J (gw_z X) 2 (vp_updL (vp_updL fs 1 (fs 0)) 0 (iL s)))) := by rw [eσ8, gw_up_ne (by omega)]; exact h1
        have h2 : σ8.2 (a + 2) = some ((gw_I (gw_z X) 2 (upd (upd fl 1 (fl 0)) 0 (nI c)))) := by rw [eσ8, gw_up_ne (by omega)]; exact h2
        have fr : gw_fr σ σ8 a (a + 3) := gw_fr_tr fr (show gw_fr _ σ8 a (a + 3) by rw [eσ8]; exact gw_fr_up _ _ _ (by omega) (by omega))
        exact gw_vret hX hQ hr nd_Ra_offer_110 (by decide) (by decide) ⟨rfl, by rw [tk_of1 (x := (s, c)) (a := u) (by show u.1 < s; omega)]; exact ⟨_, _, h0, h1, h2, rk_two (by simp [vp_updL, upd]) (by simp [vp_updL, upd]) (by simp [vp_updL, upd, e0]) (by simp [vp_updL, upd, e1])⟩, fr⟩
set_option maxRecDepth 100000 in
set_option maxHeartbeats 4000000 in
theorem co_Ra_offer2 (l : Launch) (Z : gw_Z) (b0 : Nat) (σ : gw_S) (a : Nat) (s : Int) (c : Nat) (fs : Nat → Int64) (fl : Nat → Int32) (hs : -4611686018427387904 ≤ s ∧ s ≤ 4611686018427387904) (u : Int × Nat) (hu : -4611686018427387904 ≤ u.1 ∧ u.1 ≤ 4611686018427387904) (e0 : fs 0 = iL u.1) (e1 : fl 0 = nI u.2) (w : Int × Nat) (hw : -4611686018427387904 ≤ w.1 ∧ w.1 ≤ 4611686018427387904) (e2 : fs 1 = iL w.1) (e3 : fl 1 = nI w.2) (h0 : σ.2 a = some (.inr (4, [.ref (a + 1), .ref (a + 2), .int (nI 2)]))) (h1 : σ.2 (a + 1) = some (gw_J Z 2 fs)) (h2 : σ.2 (a + 2) = some (gw_I Z 2 fl)) : gw_M l ny_Ra_offer nc_Ra_offer (4, 0, 0, 0, 0) none Z b0 σ [.ref a, .long (iL s), .int (nI c)] (fun v σ' => v = none ∧ rk_at σ' Z a (tk_offer [u, w] (s, c)) ∧ gw_fr σ σ' a (a + 3)) := by
  refine gw_M_of rfl (Nat.le_of_ble_eq_true rfl) ?_
  intro X hX hl hz hb0 hr hnm hQ
  subst hz hb0 hl
  have hX : gw_ok X nc_Ra_offer "LabelLearner$Ranking" (4, 0, 0, 0, 0) := hX
  show gw_W X σ 0 0 0 [(0, .ref a), (1, .long (iL s)), (3, .int (nI c))] []
  have fr : gw_fr σ σ a (a + 3) := gw_fr_rf _ _ _
  refine gw_aload_n hX nd_Ra_offer_0 rfl 0 rfl ?_
  refine gw_get hX kf_Ra_19 nd_Ra_offer_1 h0 rfl ?_
  refine gw_if_eq (tgt := 18) hX nd_Ra_offer_4 rfl (fun hb => ?_) (fun hb => ?_)
  · have hb : 2 = 0 := (nI_eq (a := 2) (b := 0) (by omega) (by omega)).mp hb
    exfalso; omega
  · have hb : ¬ 2 = 0 := fun h => hb ((nI_eq (a := 2) (b := 0) (by omega) (by omega)).mpr h)
    refine gw_lload_n hX nd_Ra_offer_7 rfl 1 rfl ?_
    refine gw_aload_n hX nd_Ra_offer_8 rfl 0 rfl ?_
    refine gw_get hX kf_Ra_9 nd_Ra_offer_9 h0 rfl ?_
    refine gw_iconst (v := nI 0) hX nd_Ra_offer_12 rfl ?_
    refine gw_lald hX nd_Ra_offer_13 h1 0 rfl (by omega) (by decide) ?_
    refine gw_topl (y := iL u.1) e0 ?_
    refine gw_lcmp hX nd_Ra_offer_14 ?_
    refine gw_if_le (tgt := 59) hX nd_Ra_offer_15 rfl (fun hb => ?_) (fun hb => ?_)
    · skip
      have hb : s ≤ u.1 := (rk_cmp hs hu).mp hb
      refine gw_aload_n hX nd_Ra_offer_59 rfl 0 rfl ?_
      refine gw_get hX kf_Ra_19 nd_Ra_offer_60 h0 rfl ?_
      refine gw_iconst (v := nI 1) hX nd_Ra_offer_63 rfl ?_
      refine gw_icmp_eq (tgt := 78) hX nd_Ra_offer_64 rfl (fun hb => ?_) (fun hb => ?_)
      · have hb : 2 = 1 := (nI_eq (a := 2) (b := 1) (by omega) (by omega)).mp hb
        exfalso; omega
      · have hb : ¬ 2 = 1 := fun h => hb ((nI_eq (a := 2) (b := 1) (by omega) (by omega)).mpr h)
        have hb0 : s ≤ u.1 := by omega
        refine gw_lload_n hX nd_Ra_offer_67 rfl 1 rfl ?_
        refine gw_aload_n hX nd_Ra_offer_68 rfl 0 rfl ?_
        refine gw_get hX kf_Ra_9 nd_Ra_offer_69 h0 rfl ?_
        refine gw_iconst (v := nI 1) hX nd_Ra_offer_72 rfl ?_
        refine gw_lald hX nd_Ra_offer_73 h1 1 rfl (by omega) (by decide) ?_
        refine gw_topl (y := iL w.1) e2 ?_
        refine gw_lcmp hX nd_Ra_offer_74 ?_
        refine gw_if_le (tgt := 92) hX nd_Ra_offer_75 rfl (fun hb => ?_) (fun hb => ?_)
        · skip
          have hb9 : s ≤ w.1 := (rk_cmp hs hw).mp hb
          refine gw_aload_n hX nd_Ra_offer_92 rfl 0 rfl ?_
          refine gw_get hX kf_Ra_19 nd_Ra_offer_93 h0 rfl ?_
          refine gw_iconst (v := nI 2) hX nd_Ra_offer_96 rfl ?_
          refine gw_icmp_ge (tgt := 110) hX nd_Ra_offer_97 rfl (fun hb => ?_) (fun hb => ?_)
          · have hb : 2 ≤ 2 := (nI_leI (a := 2) (b := 2) (by omega) (by omega)).mp hb
            exact gw_vret hX hQ hr nd_Ra_offer_110 (by decide) (by decide) ⟨rfl, by rw [tk_of5 (x := (s, c)) (a := u) (b := w) (by show s ≤ u.1; omega) (by show s ≤ w.1; omega)]; exact ⟨_, _, h0, h1, h2, rk_two e0 e1 e2 e3⟩, fr⟩
          · have hb : ¬ 2 ≤ 2 := fun h => hb ((nI_leI (a := 2) (b := 2) (by omega) (by omega)).mpr h)
            exfalso; omega
        · skip
          have hb9 : ¬ s ≤ w.1 := fun h => hb ((rk_cmp hs hw).mpr h)
          refine gw_aload_n hX nd_Ra_offer_78 rfl 0 rfl ?_
          refine gw_get hX kf_Ra_9 nd_Ra_offer_79 h0 rfl ?_
          refine gw_iconst (v := nI 1) hX nd_Ra_offer_82 rfl ?_
          refine gw_lload_n hX nd_Ra_offer_83 rfl 1 rfl ?_
          refine gw_last hX nd_Ra_offer_84 h1 1 rfl (by omega) (by decide) ?_
          obtain ⟨σ1, eσ1⟩ : ∃ hp_, hp_ = gw_up σ (a + 1) ((gw_J (gw_z X) 2 (vp_updL fs 1 (iL s)))) := ⟨_, rfl⟩
          refine gw_heap eσ1.symm ?_
          have h0 : σ1.2 a = some (.inr (4, [.ref (a + 1), .ref (a + 2), .int (nI 2)])) := by rw [eσ1, gw_up_ne (by omega)]; exact h0
          have h1 : σ1.2 (a + 1) = some ((gw_J (gw_z X) 2 (vp_updL fs 1 (iL s)))) := by rw [eσ1]; exact gw_up_eq _ _ _
          have h2 : σ1.2 (a + 2) = some ((gw_I (gw_z X) 2 fl)) := by rw [eσ1, gw_up_ne (by omega)]; exact h2
          have fr : gw_fr σ σ1 a (a + 3) := gw_fr_tr fr (show gw_fr _ σ1 a (a + 3) by rw [eσ1]; exact gw_fr_up _ _ _ (by omega) (by omega))
          refine gw_aload_n hX nd_Ra_offer_85 rfl 0 rfl ?_
          refine gw_get hX kf_Ra_15 nd_Ra_offer_86 h0 rfl ?_
          refine gw_iconst (v := nI 1) hX nd_Ra_offer_89 rfl ?_
          refine gw_iload_n hX nd_Ra_offer_90 rfl 2 rfl ?_
          refine gw_iast hX nd_Ra_offer_91 h2 1 rfl (by omega) (by decide) ?_
          obtain ⟨σ2, eσ2⟩ : ∃ hp_, hp_ = gw_up σ1 (a + 2) ((gw_I (gw_z X) 2 (upd fl 1 (nI c)))) := ⟨_, rfl⟩
          refine gw_heap eσ2.symm ?_
          have h0 : σ2.2 a = some (.inr (4, [.ref (a + 1), .ref (a + 2), .int (nI 2)])) := by rw [eσ2, gw_up_ne (by omega)]; exact h0
          have h1 : σ2.2 (a + 1) = some ((gw_J (gw_z X) 2 (vp_updL fs 1 (iL s)))) := by rw [eσ2, gw_up_ne (by omega)]; exact h1
          have h2 : σ2.2 (a + 2) = some ((gw_I (gw_z X) 2 (upd fl 1 (nI c)))) := by rw [eσ2]; exact gw_up_eq _ _ _
          have fr : gw_fr σ σ2 a (a + 3) := gw_fr_tr fr (show gw_fr _ σ2 a (a + 3) by rw [eσ2]; exact gw_fr_up _ _ _ (by omega) (by omega))
          refine gw_aload_n hX nd_Ra_offer_92 rfl 0 rfl ?_
          refine gw_get hX kf_Ra_19 nd_Ra_offer_93 h0 rfl ?_
          refine gw_iconst (v := nI 2) hX nd_Ra_offer_96 rfl ?_
          refine gw_icmp_ge (tgt := 110) hX nd_Ra_offer_97 rfl (fun hb => ?_) (fun hb => ?_)
          · have hb : 2 ≤ 2 := (nI_leI (a := 2) (b := 2) (by omega) (by omega)).mp hb
            exact gw_vret hX hQ hr nd_Ra_offer_110 (by decide) (by decide) ⟨rfl, by rw [tk_of4 (x := (s, c)) (a := u) (b := w) (by show s ≤ u.1; omega) (by show w.1 < s; omega)]; exact ⟨_, _, h0, h1, h2, rk_two (by simp [vp_updL, upd, e0]) (by simp [vp_updL, upd, e1]) (by simp [vp_updL, upd]) (by simp [vp_updL, upd])⟩, fr⟩
          · have hb : ¬ 2 ≤ 2 := fun h => hb ((nI_leI (a := 2) (b := 2) (by omega) (by omega)).mpr h)
            exfalso; omega
    · skip
      have hb : ¬ s ≤ u.1 := fun h => hb ((rk_cmp hs hu).mpr h)
      refine gw_aload_n hX nd_Ra_offer_18 rfl 0 rfl ?_
      refine gw_get hX kf_Ra_9 nd_Ra_offer_19 h0 rfl ?_
      refine gw_iconst (v := nI 1) hX nd_Ra_offer_22 rfl ?_
      refine gw_aload_n hX nd_Ra_offer_23 rfl 0 rfl ?_
      refine gw_get hX kf_Ra_9 nd_Ra_offer_24 h0 rfl ?_
      refine gw_iconst (v := nI 0) hX nd_Ra_offer_27 rfl ?_
      refine gw_lald hX nd_Ra_offer_28 h1 0 rfl (by omega) (by decide) ?_
      refine gw_last hX nd_Ra_offer_29 h1 1 rfl (by omega) (by decide) ?_
      obtain ⟨σ3, eσ3⟩ : ∃ hp_, hp_ = gw_up σ (a + 1) ((gw_J (gw_z X) 2 (vp_updL fs 1 (fs 0)))) := ⟨_, rfl⟩
      refine gw_heap eσ3.symm ?_
      have h0 : σ3.2 a = some (.inr (4, [.ref (a + 1), .ref (a + 2), .int (nI 2)])) := by rw [eσ3, gw_up_ne (by omega)]; exact h0
      have h1 : σ3.2 (a + 1) = some ((gw_J (gw_z X) 2 (vp_updL fs 1 (fs 0)))) := by rw [eσ3]; exact gw_up_eq _ _ _
      have h2 : σ3.2 (a + 2) = some ((gw_I (gw_z X) 2 fl)) := by rw [eσ3, gw_up_ne (by omega)]; exact h2
      have fr : gw_fr σ σ3 a (a + 3) := gw_fr_tr fr (show gw_fr _ σ3 a (a + 3) by rw [eσ3]; exact gw_fr_up _ _ _ (by omega) (by omega))
      refine gw_aload_n hX nd_Ra_offer_30 rfl 0 rfl ?_
      refine gw_get hX kf_Ra_15 nd_Ra_offer_31 h0 rfl ?_
      refine gw_iconst (v := nI 1) hX nd_Ra_offer_34 rfl ?_
      refine gw_aload_n hX nd_Ra_offer_35 rfl 0 rfl ?_
      refine gw_get hX kf_Ra_15 nd_Ra_offer_36 h0 rfl ?_
      refine gw_iconst (v := nI 0) hX nd_Ra_offer_39 rfl ?_
      refine gw_iald hX nd_Ra_offer_40 h2 0 rfl (by omega) (by decide) ?_
      refine gw_iast hX nd_Ra_offer_41 h2 1 rfl (by omega) (by decide) ?_
      obtain ⟨σ4, eσ4⟩ : ∃ hp_, hp_ = gw_up σ3 (a + 2) ((gw_I (gw_z X) 2 (upd fl 1 (fl 0)))) := ⟨_, rfl⟩
      refine gw_heap eσ4.symm ?_
      have h0 : σ4.2 a = some (.inr (4, [.ref (a + 1), .ref (a + 2), .int (nI 2)])) := by rw [eσ4, gw_up_ne (by omega)]; exact h0
      have h1 : σ4.2 (a + 1) = some ((gw_J (gw_z X) 2 (vp_updL fs 1 (fs 0)))) := by rw [eσ4, gw_up_ne (by omega)]; exact h1
      have h2 : σ4.2 (a + 2) = some ((gw_I (gw_z X) 2 (upd fl 1 (fl 0)))) := by rw [eσ4]; exact gw_up_eq _ _ _
      have fr : gw_fr σ σ4 a (a + 3) := gw_fr_tr fr (show gw_fr _ σ4 a (a + 3) by rw [eσ4]; exact gw_fr_up _ _ _ (by omega) (by omega))
      refine gw_aload_n hX nd_Ra_offer_42 rfl 0 rfl ?_
      refine gw_get hX kf_Ra_9 nd_Ra_offer_43 h0 rfl ?_
      refine gw_iconst (v := nI 0) hX nd_Ra_offer_46 rfl ?_
      refine gw_lload_n hX nd_Ra_offer_47 rfl 1 rfl ?_
      refine gw_last hX nd_Ra_offer_48 h1 0 rfl (by omega) (by decide) ?_
      obtain ⟨σ5, eσ5⟩ : ∃ hp_, hp_ = gw_up σ4 (a + 1) ((gw_J (gw_z X) 2 (vp_updL (vp_updL fs 1 (fs 0)) 0 (iL s)))) := ⟨_, rfl⟩
      refine gw_heap eσ5.symm ?_
      have h0 : σ5.2 a = some (.inr (4, [.ref (a + 1), .ref (a + 2), .int (nI 2)])) := by rw [eσ5, gw_up_ne (by omega)]; exact h0
      have h1 : σ5.2 (a + 1) = some ((gw_J (gw_z X) 2 (vp_updL (vp_updL fs 1 (fs 0)) 0 (iL s)))) := by rw [eσ5]; exact gw_up_eq _ _ _
      have h2 : σ5.2 (a + 2) = some ((gw_I (gw_z X) 2 (upd fl 1 (fl 0)))) := by rw [eσ5, gw_up_ne (by omega)]; exact h2
      have fr : gw_fr σ σ5 a (a + 3) := gw_fr_tr fr (show gw_fr _ σ5 a (a + 3) by rw [eσ5]; exact gw_fr_up _ _ _ (by omega) (by omega))
      refine gw_aload_n hX nd_Ra_offer_49 rfl 0 rfl ?_
      refine gw_get hX kf_Ra_15 nd_Ra_offer_50 h0 rfl ?_
      refine gw_iconst (v := nI 0) hX nd_Ra_offer_53 rfl ?_
      refine gw_iload_n hX nd_Ra_offer_54 rfl 2 rfl ?_
      refine gw_iast hX nd_Ra_offer_55 h2 0 rfl (by omega) (by decide) ?_
      obtain ⟨σ6, eσ6⟩ : ∃ hp_, hp_ = gw_up σ5 (a + 2) ((gw_I (gw_z X) 2 (upd (upd fl 1 (fl 0)) 0 (nI c)))) := ⟨_, rfl⟩
      refine gw_heap eσ6.symm ?_
      have h0 : σ6.2 a = some (.inr (4, [.ref (a + 1), .ref (a + 2), .int (nI 2)])) := by rw [eσ6, gw_up_ne (by omega)]; exact h0
      have h1 : σ6.2 (a + 1) = some ((gw_J (gw_z X) 2 (vp_updL (vp_updL fs 1 (fs 0)) 0 (iL s)))) := by rw [eσ6, gw_up_ne (by omega)]; exact h1
      have h2 : σ6.2 (a + 2) = some ((gw_I (gw_z X) 2 (upd (upd fl 1 (fl 0)) 0 (nI c)))) := by rw [eσ6]; exact gw_up_eq _ _ _
      have fr : gw_fr σ σ6 a (a + 3) := gw_fr_tr fr (show gw_fr _ σ6 a (a + 3) by rw [eσ6]; exact gw_fr_up _ _ _ (by omega) (by omega))
      refine gw_goto (tgt := 92) hX nd_Ra_offer_56 rfl ?_
      refine gw_aload_n hX nd_Ra_offer_92 rfl 0 rfl ?_
      refine gw_get hX kf_Ra_19 nd_Ra_offer_93 h0 rfl ?_
      refine gw_iconst (v := nI 2) hX nd_Ra_offer_96 rfl ?_
      refine gw_icmp_ge (tgt := 110) hX nd_Ra_offer_97 rfl (fun hb => ?_) (fun hb => ?_)
      · have hb : 2 ≤ 2 := (nI_leI (a := 2) (b := 2) (by omega) (by omega)).mp hb
        exact gw_vret hX hQ hr nd_Ra_offer_110 (by decide) (by decide) ⟨rfl, by rw [tk_of3 (x := (s, c)) (a := u) (b := w) (by show u.1 < s; omega)]; exact ⟨_, _, h0, h1, h2, rk_two (by simp [vp_updL, upd]) (by simp [vp_updL, upd]) (by simp [vp_updL, upd, e0]) (by simp [vp_updL, upd, e1])⟩, fr⟩
      · have hb : ¬ 2 ≤ 2 := fun h => hb ((nI_leI (a := 2) (b := 2) (by omega) (by omega)).mpr h)
        exfalso; omega
theorem ct_Ra_offer (l : Launch) (Z : gw_Z) (b0 : Nat) (σ : gw_S) (a : Nat) (s : Int) (c : Nat) (R : List (Int × Nat)) (hR : tk_ok R) (hs : -4611686018427387904 ≤ s ∧ s ≤ 4611686018427387904) (hb : rk_bd R) (h : rk_at σ Z a R) : gw_M l ny_Ra_offer nc_Ra_offer (4, 0, 0, 0, 0) none Z b0 σ [.ref a, .long (iL s), .int (nI c)] (fun v σ' => v = none ∧ rk_at σ' Z a (tk_offer R (s, c)) ∧ gw_fr σ σ' a (a + 3)) := by
  obtain ⟨fs, fl, h0, h1, h2, h3⟩ := h
  rcases tk_cases hR with rfl | ⟨u, rfl⟩ | ⟨u, w, rfl, hv⟩
  · exact co_Ra_offer0 l Z b0 σ a s c fs fl hs h0 h1 h2
  · have e := h3 0 u rfl
    exact co_Ra_offer1 l Z b0 σ a s c fs fl hs u (hb u (by simp)) e.1 e.2 h0 h1 h2
  · have e := h3 0 u rfl
    have e' := h3 1 w rfl
    exact co_Ra_offer2 l Z b0 σ a s c fs fl hs u (hb u (by simp)) e.1 e.2 w (hb w (by simp)) e'.1 e'.2 h0 h1 h2
set_option maxRecDepth 100000 in
set_option maxHeartbeats 4000000 in
theorem lp_Ra_offerLonger {X : gw_C} (a t : Nat) (R T : List (Int × Nat)) (mo : Int) (k : Nat) (hat : a + 3 ≤ t ∨ t + 3 ≤ a) (hR : tk_ok R) (hT : T.length ≤ 2) (hbR : rk_bd R) (hbT : rk_bd (T.map (tk_sh mo k))) (hor : ∀ x ∈ T, nI x.2 ||| nI k = nI (x.2 + k)) (σ0 : gw_S) (hX : gw_ok X nc_Ra_offerLonger "LabelLearner$Ranking" (6, 1, 23, 0, 0)) (hQ : X.2.2.2.2 = gw_end X (fun v σ' => v = none ∧ rk_at σ' (gw_z X) a (tk_all R (T.map (tk_sh mo k))) ∧ gw_fr σ0 σ' a (a + 3)) 0 0) (hr : X.2.2.1.1.sig.returnType = none) : ∀ (m : Nat) (j : Nat) (σ : gw_S), j + m = T.length → rk_at σ (gw_z X) a (tk_all R ((T.take j).map (tk_sh mo k))) → rk_at σ (gw_z X) t T → gw_fr σ0 σ a (a + 3) → gw_W X σ 0 0 3 [(5, .int (nI j)), (0, .ref a), (1, .ref t), (2, .long (iL mo)), (4, .int (nI k))] [] := by
  intro m
  induction m using Nat.strongRecOn with
  | ind m ih =>
    intro j σ
    intro hm ha ht fr
    obtain ⟨gs, gl, g0, g1, g2, g3⟩ := ht
    refine gw_iload hX nd_Ra_offerLonger_3 0 rfl ?_
    refine gw_aload_n hX nd_Ra_offerLonger_5 rfl 2 rfl ?_
    refine gw_get hX kf_Ra_19 nd_Ra_offerLonger_6 g0 rfl ?_
    refine gw_icmp_ge (tgt := 41) hX nd_Ra_offerLonger_9 rfl (fun hb => ?_) (fun hb => ?_)
    · have hb : T.length ≤ j := (nI_leI (a := T.length) (b := j) (by omega) (by omega)).mp hb
      rw [show j = T.length by omega, List.take_length] at ha
      exact gw_vret hX hQ hr nd_Ra_offerLonger_41 (by decide) (by decide) ⟨rfl, ha, fr⟩
    · have hb : ¬ T.length ≤ j := fun h => hb ((nI_leI (a := T.length) (b := j) (by omega) (by omega)).mpr h)
      obtain ⟨x, hx⟩ : ∃ x, T[j]? = some x := ⟨_, List.getElem?_eq_getElem (by omega)⟩
      have hm9 : x ∈ T := List.mem_of_getElem? hx
      have hx3 := g3 j x hx
      have hx4 := hbT (tk_sh mo k x) (List.mem_map_of_mem hm9)
      have hx5 := hor x hm9
      refine gw_aload_n hX nd_Ra_offerLonger_12 rfl 1 rfl ?_
      refine gw_aload_n hX nd_Ra_offerLonger_13 rfl 2 rfl ?_
      refine gw_get hX kf_Ra_9 nd_Ra_offerLonger_14 g0 rfl ?_
      refine gw_iload hX nd_Ra_offerLonger_17 0 rfl ?_
      refine gw_lald hX nd_Ra_offerLonger_19 g1 j rfl (by omega) (by decide) ?_
      refine gw_topl (y := iL x.1) hx3.1 ?_
      refine gw_lload_n hX nd_Ra_offerLonger_20 rfl 3 rfl ?_
      refine gw_ladd hX nd_Ra_offerLonger_21 ?_
      refine gw_topl (y := iL (x.1 + mo)) (iL_add _ _) ?_
      refine gw_aload_n hX nd_Ra_offerLonger_22 rfl 2 rfl ?_
      refine gw_get hX kf_Ra_15 nd_Ra_offerLonger_23 g0 rfl ?_
      refine gw_iload hX nd_Ra_offerLonger_26 0 rfl ?_
      refine gw_iald hX nd_Ra_offerLonger_28 g2 j rfl (by omega) (by decide) ?_
      refine gw_topi (y := nI x.2) hx3.2 ?_
      refine gw_iload hX nd_Ra_offerLonger_29 4 rfl ?_
      refine gw_ior hX nd_Ra_offerLonger_31 ?_
      refine gw_topi (y := nI (x.2 + k)) hx5 ?_
      obtain ⟨fs9, fl9, ha9, -⟩ := id ha
      refine gw_callV (rest := []) hX ks_Ra_23 (ct_Ra_offer X.1.2.1 (gw_z X) (gw_b X) σ a (x.1 + mo) (x.2 + k) _ (tk_ok_all _ hR) hx4 (rk_bd_all hR hbR (fun y hy => hbT y (by obtain ⟨z, hz, rfl⟩ := List.mem_map.mp hy; exact List.mem_map_of_mem (List.mem_of_mem_take hz)))) ha) ha9 rfl rfl (Nat.le_of_ble_eq_true rfl) nd_Ra_offerLonger_32 (by decide) ?_
      rintro _ σ1 ⟨rfl, ha, hf⟩
      have g0 : σ1.2 t = some (.inr (4, [.ref (t + 1), .ref (t + 2), .int (nI T.length)])) := (hf.2 t (by omega)).trans g0
      have g1 : σ1.2 (t + 1) = some ((gw_J (gw_z X) 2 gs)) := (hf.2 (t + 1) (by omega)).trans g1
      have g2 : σ1.2 (t + 2) = some ((gw_I (gw_z X) 2 gl)) := (hf.2 (t + 2) (by omega)).trans g2
      have fr : gw_fr σ0 σ1 a (a + 3) := gw_fr_tr fr hf
      rw [rk_take hx] at ha
      show gw_W X σ1 0 0 35 [(5, .int (nI j)), (0, .ref a), (1, .ref t), (2, .long (iL mo)), (4, .int (nI k))] []
      refine gw_iinc hX nd_Ra_offerLonger_35 0 rfl (v := nI (j + 1)) (show nI j + nI 1 = nI (j + 1) from nI_add _ _) (by decide) (L' := [(5, .int (nI (j + 1))), (0, .ref a), (1, .ref t), (2, .long (iL mo)), (4, .int (nI k))]) rfl ?_
      refine gw_goto (tgt := 3) hX nd_Ra_offerLonger_38 rfl ?_
      refine gw_cut (ks := [0, 1, 2, 3, 4]) (L' := [(5, .int (nI (j + 1))), (0, .ref a), (1, .ref t), (2, .long (iL mo)), (4, .int (nI k))]) rfl ?_
      exact ih (m - 1) (by omega) (j + 1) σ1 (by omega) ha ⟨gs, gl, g0, g1, g2, g3⟩ fr
set_option maxRecDepth 100000 in
set_option maxHeartbeats 4000000 in
theorem ct_Ra_offerLonger (l : Launch) (Z : gw_Z) (b0 : Nat) (σ : gw_S) (a t : Nat) (R T : List (Int × Nat)) (mo : Int) (k : Nat) (hat : a + 3 ≤ t ∨ t + 3 ≤ a) (hR : tk_ok R) (hT : T.length ≤ 2) (hbR : rk_bd R) (hbT : rk_bd (T.map (tk_sh mo k))) (hor : ∀ x ∈ T, nI x.2 ||| nI k = nI (x.2 + k)) (h : rk_at σ Z a R) (ht : rk_at σ Z t T) : gw_M l ny_Ra_offerLonger nc_Ra_offerLonger (6, 1, 23, 0, 0) none Z b0 σ [.ref a, .ref t, .long (iL mo), .int (nI k)] (fun v σ' => v = none ∧ rk_at σ' Z a (tk_all R (T.map (tk_sh mo k))) ∧ gw_fr σ σ' a (a + 3)) := by
  refine gw_M_of rfl (Nat.le_of_ble_eq_true rfl) ?_
  intro X hX hl hz hb0 hr hnm hQ
  subst hz hb0 hl
  have hX : gw_ok X nc_Ra_offerLonger "LabelLearner$Ranking" (6, 1, 23, 0, 0) := hX
  show gw_W X σ 0 0 0 [(0, .ref a), (1, .ref t), (2, .long (iL mo)), (4, .int (nI k))] []
  refine gw_iconst (v := nI 0) hX nd_Ra_offerLonger_0 rfl ?_
  refine gw_istore hX nd_Ra_offerLonger_1 (by decide) (L' := [(5, .int (nI 0)), (0, .ref a), (1, .ref t), (2, .long (iL mo)), (4, .int (nI k))]) rfl ?_
  exact lp_Ra_offerLonger a t R T mo k hat hR hT hbR hbT hor σ hX hQ hr T.length 0 σ (by omega) h ht (gw_fr_rf _ _ _)
end
section
set_option maxRecDepth 100000 in
set_option maxHeartbeats 4000000 in
theorem ct_De_tailsFrom (l : Launch) (Z : gw_Z) (b0 : Nat) (σ : gw_S) (d w k : Nat) (h0 : σ.2 d = some (.inr (3, [.ref (d + 1), .ref (d + 2)]))) (h1 : σ.2 (d + 1) = some (gw_Q4 Z 24 (fun i => some (d + 5 + 3 * i)))) (hk : w * 4 + k < 24) : gw_M l ny_De_tailsFrom nc_De_tailsFrom (3, 0, 0, 0, 0) (some (.object "LabelLearner$Ranking")) Z b0 σ [.ref d, .int (nI w), .int (nI k)] (fun v σ' => v = some (.ref (d + 5 + 3 * (w * 4 + k))) ∧ σ' = σ) := by
  refine gw_M_of rfl (Nat.le_of_ble_eq_true rfl) ?_
  intro X hX hl hz hb0 hr hnm hQ
  subst hz hb0 hl
  have hX : gw_ok X nc_De_tailsFrom "LabelLearner$Decoder" (3, 0, 0, 0, 0) := hX
  show gw_W X σ 0 0 0 [(0, .ref d), (1, .int (nI w)), (2, .int (nI k))] []
  refine gw_aload_n hX nd_De_tailsFrom_0 rfl 0 rfl ?_
  refine gw_get hX kf_De_11 nd_De_tailsFrom_1 h0 rfl ?_
  refine gw_iload_n hX nd_De_tailsFrom_4 rfl 1 rfl ?_
  refine gw_iconst (v := nI 4) hX nd_De_tailsFrom_5 rfl ?_
  refine gw_imul hX nd_De_tailsFrom_6 ?_
  refine gw_topi (y := nI (w * 4)) (pk_mul _ _) ?_
  refine gw_iload_n hX nd_De_tailsFrom_7 rfl 2 rfl ?_
  refine gw_iadd hX nd_De_tailsFrom_8 ?_
  refine gw_topi (y := nI (w * 4 + k)) (nI_add _ _) ?_
  refine gw_ald4 hX nd_De_tailsFrom_9 h1 (w * 4 + k) rfl (by omega) (by decide) (r := d + 5 + 3 * (w * 4 + k)) rfl ?_
  exact gw_aret hX hQ hr nd_De_tailsFrom_10 (by decide) (by decide) ⟨rfl, rfl⟩
theorem dc_b1 {wt : Nat → Int} (hwt : dc_B wt) (B : Nat → Nat) (N w lb q : Nat) (hN : N ≤ 6) (hlb : lb < 4) (hq : q ≤ 4) : rk_bd (tk_all [] ((List.range q).flatMap (fun i => (tl_T N (wd_W wt B) (dc_P wt) (N - 2 - w) i).map (tk_sh (wd_W wt B w lb + dc_P wt lb i) (lb * 4 ^ w))))) := by
  intro x hx
  rcases tk_mem _ [] trivial x hx with h1 | h1
  · cases h1
  · obtain ⟨i, hi, h2⟩ := List.mem_flatMap.mp h1
    have hi := List.mem_range.mp hi
    obtain ⟨y, hy, rfl⟩ := List.mem_map.mp h2
    have h3 := dc_T_bd hwt B N (N - 2 - w) i (by omega) (by omega) y hy
    have h4 := dc_S_bd hwt B w lb
    have h5 := hwt ((33 + lb) * 4 + i)
    simp only [tk_sh, dc_P]
    omega
theorem dc_b2 {wt : Nat → Int} (hwt : dc_B wt) (B : Nat → Nat) (N w lb q : Nat) (hN : N ≤ 6) (hlb : lb < 4) (hq : q < 4) : rk_bd ((tk_all [] (tl_T N (wd_W wt B) (dc_P wt) (N - 2 - w) q)).map (tk_sh (wd_W wt B w lb + dc_P wt lb q) (lb * 4 ^ w))) := by
  intro x hx
  obtain ⟨y, hy, rfl⟩ := List.mem_map.mp hx
  have h3 := dc_top_bd hwt B N (N - 2 - w) q (by omega) hq y hy
  have h4 := dc_S_bd hwt B w lb
  have h5 := hwt ((33 + lb) * 4 + q)
  simp only [tk_sh, dc_P]
  omega
theorem dc_b3 {wt : Nat → Int} (hwt : dc_B wt) (B : Nat → Nat) (N q : Nat) (hN : N ≤ 6) (hq : q ≤ 4) : rk_bd (tk_all [] ((List.range q).flatMap (fun i => (tl_T N (wd_W wt B) (dc_P wt) (N - 1) i).map (tk_sh (dc_F wt i) 0)))) := by
  intro x hx
  rcases tk_mem _ [] trivial x hx with h1 | h1
  · cases h1
  · obtain ⟨i, hi, h2⟩ := List.mem_flatMap.mp h1
    have hi := List.mem_range.mp hi
    obtain ⟨y, hy, rfl⟩ := List.mem_map.mp h2
    have h3 := dc_T_bd hwt B N (N - 1) i (by omega) (by omega) y hy
    have h5 := hwt (32 * 4 + i)
    simp only [tk_sh, dc_F]
    omega
theorem dc_b4 {wt : Nat → Int} (hwt : dc_B wt) (B : Nat → Nat) (N q : Nat) (hN : N ≤ 6) (hq : q < 4) : rk_bd ((tk_all [] (tl_T N (wd_W wt B) (dc_P wt) (N - 1) q)).map (tk_sh (dc_F wt q) 0)) := by
  intro x hx
  obtain ⟨y, hy, rfl⟩ := List.mem_map.mp hx
  have h3 := dc_top_bd hwt B N (N - 1) q (by omega) hq y hy
  have h5 := hwt (32 * 4 + q)
  simp only [tk_sh, dc_F]
  omega
set_option maxRecDepth 100000 in
set_option maxHeartbeats 4000000 in
theorem lp_De_rankTails {X : gw_C} (d a s : Nat) (wt : Nat → Int) (b : Nat → Int32) (B : Nat → Nat) (lab : Int32) (N : Nat) (hB : ∀ j, j < N * 3 → b j = nI (B j) ∧ B j < 32) (hN : N ≤ 6) (hwt : dc_B wt) (hd : dc_D d a s) (w lb : Nat) (hw : w < N) (hlb : lb < 4) (hw1 : w + 1 < N) (σ0 : gw_S) (hX : gw_ok X nc_De_rankTails "LabelLearner$Decoder" (10, 2, 48, 0, 0)) (hQ : X.2.2.2.2 = gw_end X (fun v σ' => v = none ∧ rk_at σ' (gw_z X) (d + 5 + 3 * (w * 4 + lb)) (tk_all [] (tl_T N (wd_W wt B) (dc_P wt) (N - 1 - w) lb)) ∧ gw_fr σ0 σ' (d + 5 + 3 * (w * 4 + lb)) (d + 5 + 3 * (w * 4 + lb) + 3)) 0 0) (hr : X.2.2.1.1.sig.returnType = none) : ∀ (m : Nat) (q : Nat) (σ : gw_S), q + m = 4 → dc_E σ (gw_z X) d a s wt b lab N → rk_at σ (gw_z X) (d + 5 + 3 * (w * 4 + lb)) (tk_all [] ((List.range q).flatMap (fun i => (tl_T N (wd_W wt B) (dc_P wt) (N - 2 - w) i).map (tk_sh (wd_W wt B w lb + dc_P wt lb i) (lb * 4 ^ w))))) → (∀ q, q < 4 → rk_at σ (gw_z X) (d + 5 + 3 * ((w + 1) * 4 + q)) (tk_all [] (tl_T N (wd_W wt B) (dc_P wt) (N - 2 - w) q))) → gw_fr σ0 σ (d + 5 + 3 * (w * 4 + lb)) (d + 5 + 3 * (w * 4 + lb) + 3) → gw_W X σ 0 0 55 [(9, .int (nI q)), (8, .int (nI (lb * 4 ^ w))), (6, .long (iL (wd_W wt B w lb))), (5, .ref (d + 5 + 3 * (w * 4 + lb))), (0, .ref d), (1, .ref s), (2, .ref a), (3, .int (nI w)), (4, .int (nI lb))] [] := by
  intro m
  induction m using Nat.strongRecOn with
  | ind m ih =>
    intro q σ
    intro hm hE hk hn fr
    obtain ⟨z1, z2, z3, z4, z5, z6, z7, z8⟩ := id hE
    refine gw_iload hX nd_De_rankTails_55 0 rfl ?_
    refine gw_iconst (v := nI 4) hX nd_De_rankTails_57 rfl ?_
    refine gw_icmp_ge (tgt := 97) hX nd_De_rankTails_58 rfl (fun hb => ?_) (fun hb => ?_)
    · have hb : 4 ≤ q := (nI_leI (a := 4) (b := q) (by omega) (by omega)).mp hb
      have hq : q = 4 := by omega
      subst hq
      exact gw_vret hX hQ hr nd_De_rankTails_97 (by decide) (by decide) ⟨rfl, by rw [show N - 1 - w = (N - 2 - w) + 1 by omega, tl_T, show N - 2 - (N - 2 - w) = w by omega]; exact hk, fr⟩
    · have hb : ¬ 4 ≤ q := fun h => hb ((nI_leI (a := 4) (b := q) (by omega) (by omega)).mpr h)
      refine gw_aload hX nd_De_rankTails_61 3 rfl ?_
      refine gw_aload_n hX nd_De_rankTails_63 rfl 4 rfl ?_
      refine gw_iload_n hX nd_De_rankTails_64 rfl 7 rfl ?_
      refine gw_iconst (v := nI 1) hX nd_De_rankTails_65 rfl ?_
      refine gw_iadd hX nd_De_rankTails_66 ?_
      refine gw_topi (y := nI (w + 1)) (nI_add _ _) ?_
      refine gw_iload hX nd_De_rankTails_67 0 rfl ?_
      refine gw_callV (rest := [.ref (d + 5 + 3 * (w * 4 + lb))]) hX ks_De_35 (ct_De_tailsFrom X.1.2.1 (gw_z X) (gw_b X) σ d (w + 1) q z1 z2 (by omega)) z1 rfl rfl (Nat.le_of_ble_eq_true rfl) nd_De_rankTails_69 (by decide) ?_
      rintro v_ s_ ⟨hv_, hs_⟩
      have hs_ := hs_.symm
      subst hs_ hv_
      show gw_W X σ 0 0 72 [(9, .int (nI q)), (8, .int (nI (lb * 4 ^ w))), (6, .long (iL (wd_W wt B w lb))), (5, .ref (d + 5 + 3 * (w * 4 + lb))), (0, .ref d), (1, .ref s), (2, .ref a), (3, .int (nI w)), (4, .int (nI lb))] [.ref (d + 5 + 3 * ((w + 1) * 4 + q)), .ref (d + 5 + 3 * (w * 4 + lb))]
      refine gw_lload hX nd_De_rankTails_72 2 rfl ?_
      refine gw_aload_n hX nd_De_rankTails_74 rfl 6 rfl ?_
      refine gw_bipush (v := nI 33) hX nd_De_rankTails_75 rfl ?_
      refine gw_iload hX nd_De_rankTails_77 8 rfl ?_
      refine gw_iadd hX nd_De_rankTails_79 ?_
      refine gw_topi (y := nI (33 + lb)) (nI_add _ _) ?_
      refine gw_iload hX nd_De_rankTails_80 0 rfl ?_
      refine gw_callV (rest := [.long (iL (wd_W wt B w lb)), .ref (d + 5 + 3 * ((w + 1) * 4 + q)), .ref (d + 5 + 3 * (w * 4 + lb))]) hX ks_De_39 (ct_We_at X.1.2.1 (gw_z X) (gw_b X) σ a (33 + lb) q (fun j => iL (wt j)) z3 z4 (by omega)) z3 rfl rfl (Nat.le_of_ble_eq_true rfl) nd_De_rankTails_82 (by decide) ?_
      rintro v_ s_ ⟨hv_, hs_⟩
      have hs_ := hs_.symm
      subst hs_ hv_
      show gw_W X σ 0 0 85 [(9, .int (nI q)), (8, .int (nI (lb * 4 ^ w))), (6, .long (iL (wd_W wt B w lb))), (5, .ref (d + 5 + 3 * (w * 4 + lb))), (0, .ref d), (1, .ref s), (2, .ref a), (3, .int (nI w)), (4, .int (nI lb))] [.long (iL (dc_P wt lb q)), .long (iL (wd_W wt B w lb)), .ref (d + 5 + 3 * ((w + 1) * 4 + q)), .ref (d + 5 + 3 * (w * 4 + lb))]
      refine gw_ladd hX nd_De_rankTails_85 ?_
      refine gw_topl (y := iL (wd_W wt B w lb + dc_P wt lb q)) (iL_add _ _) ?_
      refine gw_iload hX nd_De_rankTails_86 1 rfl ?_
      obtain ⟨fs9, fl9, k9, -⟩ := id hk
      refine gw_callV (rest := []) hX ks_De_45 (ct_Ra_offerLonger X.1.2.1 (gw_z X) (gw_b X) σ (d + 5 + 3 * (w * 4 + lb)) (d + 5 + 3 * ((w + 1) * 4 + q)) _ (tk_all [] (tl_T N (wd_W wt B) (dc_P wt) (N - 2 - w) q)) (wd_W wt B w lb + dc_P wt lb q) (lb * 4 ^ w) (by omega) (tk_ok_all (r := []) _ trivial) (dc_len _ _ _ _ _) (dc_b1 hwt B N w lb q hN hlb (by omega)) (dc_b2 hwt B N w lb q hN hlb (by omega)) (dc_or B N (N - 2 - w) q w (by omega) (by omega) hlb) hk (hn q (by omega))) k9 rfl rfl (Nat.le_of_ble_eq_true rfl) nd_De_rankTails_88 (by decide) ?_
      rintro _ σ1 ⟨rfl, hk, hf⟩
      have hk : rk_at σ1 (gw_z X) (d + 5 + 3 * (w * 4 + lb)) (tk_all [] ((List.range (q + 1)).flatMap (fun i => (tl_T N (wd_W wt B) (dc_P wt) (N - 2 - w) i).map (tk_sh (wd_W wt B w lb + dc_P wt lb i) (lb * 4 ^ w))))) := by rw [tl_more]; exact hk
      have hE : dc_E σ1 (gw_z X) d a s wt b lab N := dc_E_tail hE hd (i := w * 4 + lb) (by omega) hf (rk_at_any hk)
      have hn : ∀ q, q < 4 → rk_at σ1 (gw_z X) (d + 5 + 3 * ((w + 1) * 4 + q)) (tk_all [] (tl_T N (wd_W wt B) (dc_P wt) (N - 2 - w) q)) := fun q hq => rk_at_fr (hn q hq) hf (by omega)
      have fr : gw_fr σ0 σ1 (d + 5 + 3 * (w * 4 + lb)) (d + 5 + 3 * (w * 4 + lb) + 3) := gw_fr_tr fr hf
      show gw_W X σ1 0 0 91 [(9, .int (nI q)), (8, .int (nI (lb * 4 ^ w))), (6, .long (iL (wd_W wt B w lb))), (5, .ref (d + 5 + 3 * (w * 4 + lb))), (0, .ref d), (1, .ref s), (2, .ref a), (3, .int (nI w)), (4, .int (nI lb))] []
      refine gw_iinc hX nd_De_rankTails_91 0 rfl (v := nI (q + 1)) (show nI q + nI 1 = nI (q + 1) from nI_add _ _) (by decide) (L' := [(9, .int (nI (q + 1))), (8, .int (nI (lb * 4 ^ w))), (6, .long (iL (wd_W wt B w lb))), (5, .ref (d + 5 + 3 * (w * 4 + lb))), (0, .ref d), (1, .ref s), (2, .ref a), (3, .int (nI w)), (4, .int (nI lb))]) rfl ?_
      refine gw_goto (tgt := 55) hX nd_De_rankTails_94 rfl ?_
      refine gw_cut (ks := [0, 1, 2, 3, 4, 5, 6, 7, 8]) (L' := [(9, .int (nI (q + 1))), (8, .int (nI (lb * 4 ^ w))), (6, .long (iL (wd_W wt B w lb))), (5, .ref (d + 5 + 3 * (w * 4 + lb))), (0, .ref d), (1, .ref s), (2, .ref a), (3, .int (nI w)), (4, .int (nI lb))]) rfl ?_
      exact ih (m - 1) (by omega) (q + 1) σ1 (by omega) hE hk hn fr
set_option maxRecDepth 100000 in
set_option maxHeartbeats 4000000 in
theorem ct_De_rankTails (l : Launch) (Z : gw_Z) (b0 : Nat) (σ : gw_S) (d a s : Nat) (wt : Nat → Int) (b : Nat → Int32) (B : Nat → Nat) (lab : Int32) (N : Nat) (hB : ∀ j, j < N * 3 → b j = nI (B j) ∧ B j < 32) (hN : N ≤ 6) (hwt : dc_B wt) (hd : dc_D d a s) (w lb : Nat) (hw : w < N) (hlb : lb < 4) (hE : dc_E σ Z d a s wt b lab N) (hn : w + 1 < N → ∀ q, q < 4 → rk_at σ Z (d + 5 + 3 * ((w + 1) * 4 + q)) (tk_all [] (tl_T N (wd_W wt B) (dc_P wt) (N - 2 - w) q))) : gw_M l ny_De_rankTails nc_De_rankTails (10, 2, 48, 0, 0) none Z b0 σ [.ref d, .ref s, .ref a, .int (nI w), .int (nI lb)] (fun v σ' => v = none ∧ rk_at σ' Z (d + 5 + 3 * (w * 4 + lb)) (tk_all [] (tl_T N (wd_W wt B) (dc_P wt) (N - 1 - w) lb)) ∧ gw_fr σ σ' (d + 5 + 3 * (w * 4 + lb)) (d + 5 + 3 * (w * 4 + lb) + 3)) := by
  refine gw_M_of rfl (Nat.le_of_ble_eq_true rfl) ?_
  intro X hX hl hz hb0 hr hnm hQ
  subst hz hb0 hl
  have hX : gw_ok X nc_De_rankTails "LabelLearner$Decoder" (10, 2, 48, 0, 0) := hX
  show gw_W X σ 0 0 0 [(0, .ref d), (1, .ref s), (2, .ref a), (3, .int (nI w)), (4, .int (nI lb))] []
  obtain ⟨z1, z2, z3, z4, z5, z6, z7, z8⟩ := id hE
  refine gw_aload_n hX nd_De_rankTails_0 rfl 0 rfl ?_
  refine gw_iload_n hX nd_De_rankTails_1 rfl 3 rfl ?_
  refine gw_iload hX nd_De_rankTails_2 4 rfl ?_
  refine gw_callV (rest := []) hX ks_De_35 (ct_De_tailsFrom X.1.2.1 (gw_z X) (gw_b X) σ d w lb z1 z2 (by omega)) z1 rfl rfl (Nat.le_of_ble_eq_true rfl) nd_De_rankTails_4 (by decide) ?_
  rintro v_ s_ ⟨hv_, hs_⟩
  have hs_ := hs_.symm
  subst hs_ hv_
  show gw_W X σ 0 0 7 [(0, .ref d), (1, .ref s), (2, .ref a), (3, .int (nI w)), (4, .int (nI lb))] [.ref (d + 5 + 3 * (w * 4 + lb))]
  refine gw_astore hX nd_De_rankTails_7 (by decide) (L' := [(5, .ref (d + 5 + 3 * (w * 4 + lb))), (0, .ref d), (1, .ref s), (2, .ref a), (3, .int (nI w)), (4, .int (nI lb))]) rfl ?_
  refine gw_aload_n hX nd_De_rankTails_9 rfl 3 rfl ?_
  refine gw_aload_n hX nd_De_rankTails_10 rfl 2 rfl ?_
  refine gw_iload_n hX nd_De_rankTails_11 rfl 4 rfl ?_
  refine gw_iload hX nd_De_rankTails_12 5 rfl ?_
  refine gw_callV (rest := []) hX ks_De_49 (ct_We_ofWord X.1.2.1 (gw_z X) (gw_b X) σ a s wt b (fun k => B (w * 3 + k)) lab (nI N) w lb (fun k hk => ⟨(hB _ (by omega)).1, Nat.lt_trans (hB _ (by omega)).2 (by decide)⟩) (by omega) hlb z3 z4 z5 z6) z3 rfl rfl (Nat.le_of_ble_eq_true rfl) nd_De_rankTails_14 (by decide) ?_
  rintro v_ s_ ⟨hv_, hs_⟩
  have hs_ := hs_.symm
  subst hs_ hv_
  show gw_W X σ 0 0 17 [(5, .ref (d + 5 + 3 * (w * 4 + lb))), (0, .ref d), (1, .ref s), (2, .ref a), (3, .int (nI w)), (4, .int (nI lb))] [.long (iL (wd_W wt B w lb))]
  refine gw_lstore hX nd_De_rankTails_17 (by decide) (L' := [(6, .long (iL (wd_W wt B w lb))), (5, .ref (d + 5 + 3 * (w * 4 + lb))), (0, .ref d), (1, .ref s), (2, .ref a), (3, .int (nI w)), (4, .int (nI lb))]) rfl ?_
  refine gw_iload hX nd_De_rankTails_19 6 rfl ?_
  refine gw_iconst (v := nI 2) hX nd_De_rankTails_21 rfl ?_
  refine gw_iload_n hX nd_De_rankTails_22 rfl 5 rfl ?_
  refine gw_imul hX nd_De_rankTails_23 ?_
  refine gw_topi (y := nI (2 * w)) (pk_mul _ _) ?_
  refine gw_ishl hX nd_De_rankTails_24 ?_
  refine gw_topi (y := nI (lb * 4 ^ w)) (lb_shl hlb (by omega)) ?_
  refine gw_istore hX nd_De_rankTails_25 (by decide) (L' := [(8, .int (nI (lb * 4 ^ w))), (6, .long (iL (wd_W wt B w lb))), (5, .ref (d + 5 + 3 * (w * 4 + lb))), (0, .ref d), (1, .ref s), (2, .ref a), (3, .int (nI w)), (4, .int (nI lb))]) rfl ?_
  refine gw_aload hX nd_De_rankTails_27 2 rfl ?_
  have k0 := z8 (w * 4 + lb) (by omega)
  obtain ⟨kk9, fs9, fl9, k9, -⟩ := id k0
  refine gw_callV (rest := []) hX ks_De_32 (ct_Ra_clear X.1.2.1 (gw_z X) (gw_b X) σ (d + 5 + 3 * (w * 4 + lb)) k0) k9 rfl rfl (Nat.le_of_ble_eq_true rfl) nd_De_rankTails_29 (by decide) ?_
  rintro _ σ1 ⟨rfl, hk, hf⟩
  have hE : dc_E σ1 (gw_z X) d a s wt b lab N := dc_E_tail hE hd (i := w * 4 + lb) (by omega) hf (rk_at_any hk)
  have hn : w + 1 < N → ∀ q, q < 4 → rk_at σ1 (gw_z X) (d + 5 + 3 * ((w + 1) * 4 + q)) (tk_all [] (tl_T N (wd_W wt B) (dc_P wt) (N - 2 - w) q)) := fun h1 q hq => rk_at_fr (hn h1 q hq) hf (by omega)
  obtain ⟨z1, z2, z3, z4, z5, z6, z7, z8⟩ := id hE
  show gw_W X σ1 0 0 32 [(8, .int (nI (lb * 4 ^ w))), (6, .long (iL (wd_W wt B w lb))), (5, .ref (d + 5 + 3 * (w * 4 + lb))), (0, .ref d), (1, .ref s), (2, .ref a), (3, .int (nI w)), (4, .int (nI lb))] []
  refine gw_iload_n hX nd_De_rankTails_32 rfl 6 rfl ?_
  refine gw_aload_n hX nd_De_rankTails_33 rfl 4 rfl ?_
  refine gw_get hX kf_De_22 nd_De_rankTails_34 z5 rfl ?_
  refine gw_iconst (v := nI 1) hX nd_De_rankTails_37 rfl ?_
  refine gw_isub hX nd_De_rankTails_38 ?_
  refine gw_topi (y := nI (N - 1)) (pk_sub (by omega)) ?_
  refine gw_icmp_ne (tgt := 52) hX nd_De_rankTails_39 rfl (fun hb => ?_) (fun hb => ?_)
  · have hb : ¬ w = N - 1 := fun h => hb ((nI_eq (a := w) (b := N - 1) (by omega) (by omega)).mpr h)
    refine gw_iconst (v := nI 0) hX nd_De_rankTails_52 rfl ?_
    refine gw_istore hX nd_De_rankTails_53 (by decide) (L' := [(9, .int (nI 0)), (8, .int (nI (lb * 4 ^ w))), (6, .long (iL (wd_W wt B w lb))), (5, .ref (d + 5 + 3 * (w * 4 + lb))), (0, .ref d), (1, .ref s), (2, .ref a), (3, .int (nI w)), (4, .int (nI lb))]) rfl ?_
    exact lp_De_rankTails d a s wt b B lab N hB hN hwt hd w lb hw hlb (by omega) σ hX hQ hr 4 0 σ1 (by omega) hE hk (hn (by omega)) hf
  · have hb : w = N - 1 := (nI_eq (a := w) (b := N - 1) (by omega) (by omega)).mp hb
    refine gw_aload hX nd_De_rankTails_42 2 rfl ?_
    refine gw_lload hX nd_De_rankTails_44 1 rfl ?_
    refine gw_iload hX nd_De_rankTails_46 0 rfl ?_
    obtain ⟨fs8, fl8, k8, -⟩ := id hk
    refine gw_callV (rest := []) hX ks_De_53 (ct_Ra_offer X.1.2.1 (gw_z X) (gw_b X) σ1 (d + 5 + 3 * (w * 4 + lb)) (wd_W wt B w lb) (lb * 4 ^ w) [] trivial (by have := dc_S_bd hwt B w lb; omega) (fun x hx => by cases hx) hk) k8 rfl rfl (Nat.le_of_ble_eq_true rfl) nd_De_rankTails_48 (by decide) ?_
    rintro _ σ2 ⟨rfl, hk2, hf2⟩
    show gw_W X σ2 0 0 51 [(8, .int (nI (lb * 4 ^ w))), (6, .long (iL (wd_W wt B w lb))), (5, .ref (d + 5 + 3 * (w * 4 + lb))), (0, .ref d), (1, .ref s), (2, .ref a), (3, .int (nI w)), (4, .int (nI lb))] []
    exact gw_vret hX hQ hr nd_De_rankTails_51 (by decide) (by decide) ⟨rfl, by rw [show N - 1 - w = 0 by omega, tl_T, show N - 1 = w by omega]; exact hk2, gw_fr_tr hf hf2⟩
end
section
theorem dc_m1 (n : Nat) : nI n - nI 1 = nI n + (-1) := by
  rw [Int32.sub_eq_add_neg]; rfl
set_option maxRecDepth 100000 in
set_option maxHeartbeats 4000000 in
theorem lp_De_rank3 {X : gw_C} (d a s : Nat) (wt : Nat → Int) (b : Nat → Int32) (B : Nat → Nat) (lab : Int32) (N : Nat) (hB : ∀ j, j < N * 3 → b j = nI (B j) ∧ B j < 32) (hN : N ≤ 6) (hwt : dc_B wt) (hd : dc_D d a s) (σ0 : gw_S) (hX : gw_ok X nc_De_rank "LabelLearner$Decoder" (5, 3, 77, 0, 0)) (hQ : X.2.2.2.2 = gw_end X (fun v σ' => v = some (.ref (d + 2)) ∧ rk_at σ' (gw_z X) (d + 2) (tk_all [] (tl_A N (wd_W wt B) (dc_P wt) (dc_F wt))) ∧ dc_E σ' (gw_z X) d a s wt b lab N ∧ gw_fr σ0 σ' (d + 2) (d + 77)) 0 0) (hr : X.2.2.1.1.sig.returnType = (some (.object "LabelLearner$Ranking"))) : ∀ (m : Nat) (q : Nat) (σ : gw_S), q + m = 4 → dc_E σ (gw_z X) d a s wt b lab N → rk_at σ (gw_z X) (d + 2) (tk_all [] ((List.range q).flatMap (fun i => (tl_T N (wd_W wt B) (dc_P wt) (N - 1) i).map (tk_sh (dc_F wt i) 0)))) → (∀ q, q < 4 → rk_at σ (gw_z X) (d + 5 + 3 * (0 * 4 + q)) (tk_all [] (tl_T N (wd_W wt B) (dc_P wt) (N - 1) q))) → gw_fr σ0 σ (d + 2) (d + 77) → gw_W X σ 0 0 50 [(3, .int (nI q)), (0, .ref d), (1, .ref s), (2, .ref a)] [] := by
  intro m
  induction m using Nat.strongRecOn with
  | ind m ih =>
    intro q σ
    intro hm hE hk hn fr
    obtain ⟨z1, z2, z3, z4, z5, z6, z7, z8⟩ := id hE
    refine gw_iload_n hX nd_De_rank_50 rfl 0 rfl ?_
    refine gw_iconst (v := nI 4) hX nd_De_rank_51 rfl ?_
    refine gw_icmp_ge (tgt := 82) hX nd_De_rank_52 rfl (fun hb => ?_) (fun hb => ?_)
    · have hb : 4 ≤ q := (nI_leI (a := 4) (b := q) (by omega) (by omega)).mp hb
      refine gw_aload_n hX nd_De_rank_82 rfl 1 rfl ?_
      refine gw_get hX kf_De_18 nd_De_rank_83 z1 rfl ?_
      have hq : q = 4 := by omega
      subst hq
      exact gw_aret hX hQ hr nd_De_rank_86 (by decide) (by decide) ⟨rfl, hk, hE, fr⟩
    · have hb : ¬ 4 ≤ q := fun h => hb ((nI_leI (a := 4) (b := q) (by omega) (by omega)).mpr h)
      refine gw_aload_n hX nd_De_rank_55 rfl 1 rfl ?_
      refine gw_get hX kf_De_18 nd_De_rank_56 z1 rfl ?_
      refine gw_aload_n hX nd_De_rank_59 rfl 1 rfl ?_
      refine gw_iconst (v := nI 0) hX nd_De_rank_60 rfl ?_
      refine gw_iload_n hX nd_De_rank_61 rfl 0 rfl ?_
      refine gw_callV (rest := [.ref (d + 2)]) hX ks_De_35 (ct_De_tailsFrom X.1.2.1 (gw_z X) (gw_b X) σ d 0 q z1 z2 (by omega)) z1 rfl rfl (Nat.le_of_ble_eq_true rfl) nd_De_rank_62 (by decide) ?_
      rintro v_ s_ ⟨hv_, hs_⟩
      have hs_ := hs_.symm
      subst hs_ hv_
      show gw_W X σ 0 0 65 [(3, .int (nI q)), (0, .ref d), (1, .ref s), (2, .ref a)] [.ref (d + 5 + 3 * (0 * 4 + q)), .ref (d + 2)]
      refine gw_aload_n hX nd_De_rank_65 rfl 3 rfl ?_
      refine gw_bipush (v := nI 32) hX nd_De_rank_66 rfl ?_
      refine gw_iload_n hX nd_De_rank_68 rfl 0 rfl ?_
      refine gw_callV (rest := [.ref (d + 5 + 3 * (0 * 4 + q)), .ref (d + 2)]) hX ks_De_39 (ct_We_at X.1.2.1 (gw_z X) (gw_b X) σ a 32 q (fun j => iL (wt j)) z3 z4 (by omega)) z3 rfl rfl (Nat.le_of_ble_eq_true rfl) nd_De_rank_69 (by decide) ?_
      rintro v_ s_ ⟨hv_, hs_⟩
      have hs_ := hs_.symm
      subst hs_ hv_
      show gw_W X σ 0 0 72 [(3, .int (nI q)), (0, .ref d), (1, .ref s), (2, .ref a)] [.long (iL (dc_F wt q)), .ref (d + 5 + 3 * (0 * 4 + q)), .ref (d + 2)]
      refine gw_iconst (v := nI 0) hX nd_De_rank_72 rfl ?_
      obtain ⟨fs9, fl9, k9, -⟩ := id hk
      refine gw_callV (rest := []) hX ks_De_45 (ct_Ra_offerLonger X.1.2.1 (gw_z X) (gw_b X) σ (d + 2) (d + 5 + 3 * (0 * 4 + q)) _ (tk_all [] (tl_T N (wd_W wt B) (dc_P wt) (N - 1) q)) (dc_F wt q) 0 (by omega) (tk_ok_all (r := []) _ trivial) (dc_len _ _ _ _ _) (dc_b3 hwt B N q hN (by omega)) (dc_b4 hwt B N q hN (by omega)) (fun x _ => by rw [nI_or, Nat.or_zero, Nat.add_zero]) hk (hn q (by omega))) k9 rfl rfl (Nat.le_of_ble_eq_true rfl) nd_De_rank_73 (by decide) ?_
      rintro _ σ1 ⟨rfl, hk, hf⟩
      have hk : rk_at σ1 (gw_z X) (d + 2) (tk_all [] ((List.range (q + 1)).flatMap (fun i => (tl_T N (wd_W wt B) (dc_P wt) (N - 1) i).map (tk_sh (dc_F wt i) 0)))) := by rw [tl_more]; exact hk
      have hE : dc_E σ1 (gw_z X) d a s wt b lab N := dc_E_whole hE hd hf (rk_at_any hk)
      have hn : ∀ q, q < 4 → rk_at σ1 (gw_z X) (d + 5 + 3 * (0 * 4 + q)) (tk_all [] (tl_T N (wd_W wt B) (dc_P wt) (N - 1) q)) := fun q hq => rk_at_fr (hn q hq) hf (by omega)
      have fr : gw_fr σ0 σ1 (d + 2) (d + 77) := gw_fr_tr fr hf
      show gw_W X σ1 0 0 76 [(3, .int (nI q)), (0, .ref d), (1, .ref s), (2, .ref a)] []
      refine gw_iinc hX nd_De_rank_76 0 rfl (v := nI (q + 1)) (show nI q + nI 1 = nI (q + 1) from nI_add _ _) (by decide) (L' := [(3, .int (nI (q + 1))), (0, .ref d), (1, .ref s), (2, .ref a)]) rfl ?_
      refine gw_goto (tgt := 50) hX nd_De_rank_79 rfl ?_
      refine gw_cut (ks := [0, 1, 2, 3]) (L' := [(3, .int (nI (q + 1))), (0, .ref d), (1, .ref s), (2, .ref a)]) rfl ?_
      exact ih (m - 1) (by omega) (q + 1) σ1 (by omega) hE hk hn fr
set_option maxRecDepth 100000 in
set_option maxHeartbeats 4000000 in
theorem lp_De_rank2 {X : gw_C} (d a s : Nat) (wt : Nat → Int) (b : Nat → Int32) (B : Nat → Nat) (lab : Int32) (N : Nat) (hB : ∀ j, j < N * 3 → b j = nI (B j) ∧ B j < 32) (hN : N ≤ 6) (hwt : dc_B wt) (hd : dc_D d a s) (σ0 : gw_S) (w : Nat) (hw : w < N) (kk : ∀ σ : gw_S, dc_E σ (gw_z X) d a s wt b lab N → (∀ p, p < 4 → rk_at σ (gw_z X) (d + 5 + 3 * (w * 4 + p)) (tk_all [] (tl_T N (wd_W wt B) (dc_P wt) (N - 1 - w) p))) → gw_fr σ0 σ (d + 2) (d + 77) → gw_W X σ 0 0 35 [(3, .int (nI w)), (0, .ref d), (1, .ref s), (2, .ref a)] []) (hX : gw_ok X nc_De_rank "LabelLearner$Decoder" (5, 3, 77, 0, 0))  : ∀ (m : Nat) (q : Nat) (σ : gw_S), q + m = 4 → dc_E σ (gw_z X) d a s wt b lab N → (∀ p, p < q → rk_at σ (gw_z X) (d + 5 + 3 * (w * 4 + p)) (tk_all [] (tl_T N (wd_W wt B) (dc_P wt) (N - 1 - w) p))) → (w + 1 < N → ∀ q, q < 4 → rk_at σ (gw_z X) (d + 5 + 3 * ((w + 1) * 4 + q)) (tk_all [] (tl_T N (wd_W wt B) (dc_P wt) (N - 2 - w) q))) → gw_fr σ0 σ (d + 2) (d + 77) → gw_W X σ 0 0 14 [(4, .int (nI q)), (3, .int (nI w)), (0, .ref d), (1, .ref s), (2, .ref a)] [] := by
  intro m
  induction m using Nat.strongRecOn with
  | ind m ih =>
    intro q σ
    intro hm hE ho hn fr
    obtain ⟨z1, z2, z3, z4, z5, z6, z7, z8⟩ := id hE
    refine gw_iload hX nd_De_rank_14 0 rfl ?_
    refine gw_iconst (v := nI 4) hX nd_De_rank_16 rfl ?_
    refine gw_icmp_ge (tgt := 35) hX nd_De_rank_17 rfl (fun hb => ?_) (fun hb => ?_)
    · have hb : 4 ≤ q := (nI_leI (a := 4) (b := q) (by omega) (by omega)).mp hb
      refine gw_cut (ks := [1, 2, 3, 4]) (L' := [(3, .int (nI w)), (0, .ref d), (1, .ref s), (2, .ref a)]) rfl ?_
      have hq : q = 4 := by omega
      subst hq
      exact kk σ hE ho fr
    · have hb : ¬ 4 ≤ q := fun h => hb ((nI_leI (a := 4) (b := q) (by omega) (by omega)).mpr h)
      refine gw_aload_n hX nd_De_rank_20 rfl 2 rfl ?_
      refine gw_aload_n hX nd_De_rank_21 rfl 3 rfl ?_
      refine gw_aload_n hX nd_De_rank_22 rfl 4 rfl ?_
      refine gw_iload_n hX nd_De_rank_23 rfl 1 rfl ?_
      refine gw_iload hX nd_De_rank_24 0 rfl ?_
      refine gw_callV (rest := []) hX ks_De_28 (ct_De_rankTails X.1.2.1 (gw_z X) (gw_b X) σ d a s wt b B lab N hB hN hwt hd w q hw (by omega) hE hn) z1 rfl rfl (Nat.le_of_ble_eq_true rfl) nd_De_rank_26 (by decide) ?_
      rintro _ σ1 ⟨rfl, hk, hf⟩
      have hE : dc_E σ1 (gw_z X) d a s wt b lab N := dc_E_tail hE hd (i := w * 4 + q) (by omega) hf (rk_at_any hk)
      have ho : (∀ p, p < (q + 1) → rk_at σ1 (gw_z X) (d + 5 + 3 * (w * 4 + p)) (tk_all [] (tl_T N (wd_W wt B) (dc_P wt) (N - 1 - w) p))) := by
        intro p hp
        by_cases e : p = q
        · rw [e]; exact hk
        · exact rk_at_fr (ho p (by omega)) hf (by omega)
      have hn : (w + 1 < N → ∀ q, q < 4 → rk_at σ1 (gw_z X) (d + 5 + 3 * ((w + 1) * 4 + q)) (tk_all [] (tl_T N (wd_W wt B) (dc_P wt) (N - 2 - w) q))) := fun h1 p hp => rk_at_fr (hn h1 p hp) hf (by omega)
      have fr : gw_fr σ0 σ1 (d + 2) (d + 77) := gw_fr_tr fr hf
      show gw_W X σ1 0 0 29 [(4, .int (nI q)), (3, .int (nI w)), (0, .ref d), (1, .ref s), (2, .ref a)] []
      refine gw_iinc hX nd_De_rank_29 0 rfl (v := nI (q + 1)) (show nI q + nI 1 = nI (q + 1) from nI_add _ _) (by decide) (L' := [(4, .int (nI (q + 1))), (3, .int (nI w)), (0, .ref d), (1, .ref s), (2, .ref a)]) rfl ?_
      refine gw_goto (tgt := 14) hX nd_De_rank_32 rfl ?_
      refine gw_cut (ks := [0, 1, 2, 3, 4]) (L' := [(4, .int (nI (q + 1))), (3, .int (nI w)), (0, .ref d), (1, .ref s), (2, .ref a)]) rfl ?_
      exact ih (m - 1) (by omega) (q + 1) σ1 (by omega) hE ho hn fr
set_option maxRecDepth 100000 in
set_option maxHeartbeats 4000000 in
theorem lp_De_rank1 {X : gw_C} (d a s : Nat) (wt : Nat → Int) (b : Nat → Int32) (B : Nat → Nat) (lab : Int32) (N : Nat) (hB : ∀ j, j < N * 3 → b j = nI (B j) ∧ B j < 32) (hN : N ≤ 6) (hwt : dc_B wt) (hd : dc_D d a s) (hN1 : 1 ≤ N) (σ0 : gw_S) (hX : gw_ok X nc_De_rank "LabelLearner$Decoder" (5, 3, 77, 0, 0)) (hQ : X.2.2.2.2 = gw_end X (fun v σ' => v = some (.ref (d + 2)) ∧ rk_at σ' (gw_z X) (d + 2) (tk_all [] (tl_A N (wd_W wt B) (dc_P wt) (dc_F wt))) ∧ dc_E σ' (gw_z X) d a s wt b lab N ∧ gw_fr σ0 σ' (d + 2) (d + 77)) 0 0) (hr : X.2.2.1.1.sig.returnType = (some (.object "LabelLearner$Ranking"))) : ∀ (c : Nat) (σ : gw_S), c ≤ N → dc_E σ (gw_z X) d a s wt b lab N → (c < N → ∀ q, q < 4 → rk_at σ (gw_z X) (d + 5 + 3 * (c * 4 + q)) (tk_all [] (tl_T N (wd_W wt B) (dc_P wt) (N - 1 - c) q))) → gw_fr σ0 σ (d + 2) (d + 77) → gw_W X σ 0 0 7 [(3, .int (nI c + (-1))), (0, .ref d), (1, .ref s), (2, .ref a)] [] := by
  intro c
  induction c with
  | zero =>
    intro σ hc hE hn fr
    obtain ⟨z1, z2, z3, z4, z5, z6, z7, z8⟩ := id hE
    refine gw_iload_n hX nd_De_rank_7 rfl 0 rfl ?_
    refine gw_if_lt (tgt := 41) hX nd_De_rank_8 rfl (fun hb => ?_) (fun hb => ?_)
    · skip
      refine gw_aload_n hX nd_De_rank_41 rfl 1 rfl ?_
      refine gw_get hX kf_De_18 nd_De_rank_42 z1 rfl ?_
      obtain ⟨kk9, fs9, fl9, k9, -⟩ := id z7
      refine gw_callV (rest := []) hX ks_De_32 (ct_Ra_clear X.1.2.1 (gw_z X) (gw_b X) σ (d + 2) z7) k9 rfl rfl (Nat.le_of_ble_eq_true rfl) nd_De_rank_45 (by decide) ?_
      rintro _ σ1 ⟨rfl, hk, hf⟩
      have hE : dc_E σ1 (gw_z X) d a s wt b lab N := dc_E_whole hE hd hf (rk_at_any hk)
      have fr : gw_fr σ0 σ1 (d + 2) (d + 77) := gw_fr_tr fr hf
      have hn : ∀ q, q < 4 → rk_at σ1 (gw_z X) (d + 5 + 3 * (0 * 4 + q)) (tk_all [] (tl_T N (wd_W wt B) (dc_P wt) (N - 1) q)) := fun q hq => rk_at_fr (hn (by omega) q hq) hf (by omega)
      show gw_W X σ1 0 0 48 [(3, .int (nI 0 + (-1))), (0, .ref d), (1, .ref s), (2, .ref a)] []
      refine gw_iconst (v := nI 0) hX nd_De_rank_48 rfl ?_
      refine gw_istore_n hX nd_De_rank_49 rfl (by decide) (L' := [(3, .int (nI 0)), (0, .ref d), (1, .ref s), (2, .ref a)]) rfl ?_
      refine gw_cut (ks := [0, 1, 2, 3]) (L' := [(3, .int (nI 0)), (0, .ref d), (1, .ref s), (2, .ref a)]) rfl ?_
      exact lp_De_rank3 d a s wt b B lab N hB hN hwt hd σ0 hX hQ hr 4 0 σ1 (by omega) hE hk hn fr
    · skip
      exact absurd (by decide) hb
  | succ c ih =>
    intro σ hc hE hn fr
    obtain ⟨z1, z2, z3, z4, z5, z6, z7, z8⟩ := id hE
    rw [pk_m1]
    refine gw_iload_n hX nd_De_rank_7 rfl 0 rfl ?_
    refine gw_if_lt (tgt := 41) hX nd_De_rank_8 rfl (fun hb => ?_) (fun hb => ?_)
    · have hb : c < 0 := (nI_ltI (a := c) (b := 0) (by omega) (by omega)).mp hb
      exfalso; omega
    · have hb : ¬ c < 0 := fun h => hb ((nI_ltI (a := c) (b := 0) (by omega) (by omega)).mpr h)
      refine gw_iconst (v := nI 0) hX nd_De_rank_11 rfl ?_
      refine gw_istore hX nd_De_rank_12 (by decide) (L' := [(4, .int (nI 0)), (3, .int (nI c)), (0, .ref d), (1, .ref s), (2, .ref a)]) rfl ?_
      refine gw_cut (ks := [0, 1, 2, 3, 4]) (L' := [(4, .int (nI 0)), (3, .int (nI c)), (0, .ref d), (1, .ref s), (2, .ref a)]) rfl ?_
      refine lp_De_rank2 d a s wt b B lab N hB hN hwt hd σ0 c (by omega) ?_ hX 4 0 σ (by omega) hE (fun p hp => absurd hp (by omega)) (fun h1 q hq => by have h9 := hn h1 q hq; rw [show N - 1 - (c + 1) = N - 2 - c by omega] at h9; exact h9) fr
      clear hE hn fr z1 z2 z3 z4 z5 z6 z7 z8
      intro σ hE ho fr
      refine gw_iinc hX nd_De_rank_35 0 rfl (v := (nI c + (-1))) (congrArg (fun y => nI c + y) (by decide : Int32.ofInt (-1) = (-1 : Int32))) (by decide) (L' := [(3, .int (nI c + (-1))), (0, .ref d), (1, .ref s), (2, .ref a)]) rfl ?_
      refine gw_goto (tgt := 7) hX nd_De_rank_38 rfl ?_
      refine gw_cut (ks := [0, 1, 2, 3]) (L' := [(3, .int (nI c + (-1))), (0, .ref d), (1, .ref s), (2, .ref a)]) rfl ?_
      exact ih σ (by omega) hE (fun _ => ho) fr
set_option maxRecDepth 100000 in
set_option maxHeartbeats 4000000 in
theorem ct_De_rank (l : Launch) (Z : gw_Z) (b0 : Nat) (σ : gw_S) (d a s : Nat) (wt : Nat → Int) (b : Nat → Int32) (B : Nat → Nat) (lab : Int32) (N : Nat) (hB : ∀ j, j < N * 3 → b j = nI (B j) ∧ B j < 32) (hN : N ≤ 6) (hwt : dc_B wt) (hd : dc_D d a s) (hN1 : 1 ≤ N) (hE : dc_E σ Z d a s wt b lab N) : gw_M l ny_De_rank nc_De_rank (5, 3, 77, 0, 0) (some (.object "LabelLearner$Ranking")) Z b0 σ [.ref d, .ref s, .ref a] (fun v σ' => v = some (.ref (d + 2)) ∧ rk_at σ' Z (d + 2) (tk_all [] (tl_A N (wd_W wt B) (dc_P wt) (dc_F wt))) ∧ dc_E σ' Z d a s wt b lab N ∧ gw_fr σ σ' (d + 2) (d + 77)) := by
  refine gw_M_of rfl (Nat.le_of_ble_eq_true rfl) ?_
  intro X hX hl hz hb0 hr hnm hQ
  subst hz hb0 hl
  have hX : gw_ok X nc_De_rank "LabelLearner$Decoder" (5, 3, 77, 0, 0) := hX
  show gw_W X σ 0 0 0 [(0, .ref d), (1, .ref s), (2, .ref a)] []
  obtain ⟨z1, z2, z3, z4, z5, z6, z7, z8⟩ := id hE
  refine gw_aload_n hX nd_De_rank_0 rfl 1 rfl ?_
  refine gw_get hX kf_De_22 nd_De_rank_1 z5 rfl ?_
  refine gw_iconst (v := nI 1) hX nd_De_rank_4 rfl ?_
  refine gw_isub hX nd_De_rank_5 ?_
  refine gw_topi (y := (nI N + (-1))) (dc_m1 N) ?_
  refine gw_istore_n hX nd_De_rank_6 rfl (by decide) (L' := [(3, .int (nI N + (-1))), (0, .ref d), (1, .ref s), (2, .ref a)]) rfl ?_
  refine gw_cut (ks := [0, 1, 2, 3]) (L' := [(3, .int (nI N + (-1))), (0, .ref d), (1, .ref s), (2, .ref a)]) rfl ?_
  exact lp_De_rank1 d a s wt b B lab N hB hN hwt hd hN1 σ hX hQ hr N σ (Nat.le_refl _) hE (fun h => absurd h (by omega)) (gw_fr_rf _ _ _)
end
section
set_option maxRecDepth 100000 in
set_option maxHeartbeats 4000000 in
theorem ct_Te_byteOf (l : Launch) (Z : gw_Z) (b0 : Nat) (σ : gw_S) (w : Int64) (j : Nat) (hj : j < 8) : gw_M l ny_Te_byteOf nc_Te_byteOf (3, 0, 0, 0, 0) (some .int) Z b0 σ [.long w, .int (nI j)] (fun v σ' => v = some (.int (nI (by_at w j))) ∧ σ' = σ) := by
  refine gw_M_of rfl (Nat.le_of_ble_eq_true rfl) ?_
  intro X hX hl hz hb0 hr hnm hQ
  subst hz hb0 hl
  have hX : gw_ok X nc_Te_byteOf "LabelLearner$Text" (3, 0, 0, 0, 0) := hX
  show gw_W X σ 0 0 0 [(0, .long w), (2, .int (nI j))] []
  refine gw_lload_n hX nd_Te_byteOf_0 rfl 0 rfl ?_
  refine gw_bipush (v := nI 8) hX nd_Te_byteOf_1 rfl ?_
  refine gw_iload_n hX nd_Te_byteOf_3 rfl 1 rfl ?_
  refine gw_imul hX nd_Te_byteOf_4 ?_
  refine gw_topi (y := nI (8 * j)) (pk_mul _ _) ?_
  refine gw_lushr hX nd_Te_byteOf_5 ?_
  refine gw_topl (y := (w.toUInt64 >>> ((nI (8 * j)).toInt64.toUInt64 &&& Int64.toUInt64 63)).toInt64) rfl ?_
  refine gw_l2i hX nd_Te_byteOf_6 ?_
  refine gw_topi (y := ((w.toUInt64 >>> ((nI (8 * j)).toInt64.toUInt64 &&& Int64.toUInt64 63)).toInt64.toInt32)) rfl ?_
  refine gw_sipush (v := nI 255) hX nd_Te_byteOf_7 rfl ?_
  refine gw_iand hX nd_Te_byteOf_10 ?_
  refine gw_topi (y := nI (by_at w j)) (by_u w hj) ?_
  exact gw_iret hX hQ hr nd_Te_byteOf_11 (by decide) (by decide) ⟨rfl, rfl⟩
set_option maxRecDepth 100000 in
set_option maxHeartbeats 4000000 in
theorem ct_Te_mix (l : Launch) (Z : gw_Z) (b0 : Nat) (σ : gw_S) (h : Int32) (c : Nat) : gw_M l ny_Te_mix nc_Te_mix (2, 0, 0, 0, 0) (some .int) Z b0 σ [.int h, .int (nI c)] (fun v σ' => v = some (.int (31 * h + nI c)) ∧ σ' = σ) := by
  refine gw_M_of rfl (Nat.le_of_ble_eq_true rfl) ?_
  intro X hX hl hz hb0 hr hnm hQ
  subst hz hb0 hl
  have hX : gw_ok X nc_Te_mix "LabelLearner$Text" (2, 0, 0, 0, 0) := hX
  show gw_W X σ 0 0 0 [(0, .int h), (1, .int (nI c))] []
  refine gw_bipush (v := nI 31) hX nd_Te_mix_0 rfl ?_
  refine gw_iload_n hX nd_Te_mix_2 rfl 0 rfl ?_
  refine gw_imul hX nd_Te_mix_3 ?_
  refine gw_iload_n hX nd_Te_mix_4 rfl 1 rfl ?_
  refine gw_iadd hX nd_Te_mix_5 ?_
  exact gw_iret hX hQ hr nd_Te_mix_6 (by decide) (by decide) ⟨rfl, rfl⟩
set_option maxRecDepth 100000 in
set_option maxHeartbeats 4000000 in
theorem ct_Te_bucket (l : Launch) (Z : gw_Z) (b0 : Nat) (σ : gw_S) (h : Int32) : gw_M l ny_Te_bucket nc_Te_bucket (1, 0, 0, 0, 0) (some .int) Z b0 σ [.int h] (fun v σ' => v = some (.int (nI (px_B h))) ∧ σ' = σ) := by
  refine gw_M_of rfl (Nat.le_of_ble_eq_true rfl) ?_
  intro X hX hl hz hb0 hr hnm hQ
  subst hz hb0 hl
  have hX : gw_ok X nc_Te_bucket "LabelLearner$Text" (1, 0, 0, 0, 0) := hX
  show gw_W X σ 0 0 0 [(0, .int h)] []
  refine gw_iload_n hX nd_Te_bucket_0 rfl 0 rfl ?_
  refine gw_iload_n hX nd_Te_bucket_1 rfl 0 rfl ?_
  refine gw_bipush (v := nI 15) hX nd_Te_bucket_2 rfl ?_
  refine gw_iushr hX nd_Te_bucket_4 ?_
  refine gw_ixor hX nd_Te_bucket_5 ?_
  refine gw_bipush (v := nI 31) hX nd_Te_bucket_6 rfl ?_
  refine gw_iand hX nd_Te_bucket_8 ?_
  refine gw_topi (y := nI (px_B h)) (px_b_nI h) ?_
  exact gw_iret hX hQ hr nd_Te_bucket_9 (by decide) (by decide) ⟨rfl, rfl⟩
set_option maxRecDepth 100000 in
set_option maxHeartbeats 4000000 in
theorem ct_Te_isLetter (l : Launch) (Z : gw_Z) (b0 : Nat) (σ : gw_S) (x : Int32) : gw_M l ny_Te_isLetter nc_Te_isLetter (1, 0, 0, 0, 0) (some .boolean) Z b0 σ [.int x] (fun v σ' => v = some (.int (nI (tx_l x))) ∧ σ' = σ) := by
  refine gw_M_of rfl (Nat.le_of_ble_eq_true rfl) ?_
  intro X hX hl hz hb0 hr hnm hQ
  subst hz hb0 hl
  have hX : gw_ok X nc_Te_isLetter "LabelLearner$Text" (1, 0, 0, 0, 0) := hX
  show gw_W X σ 0 0 0 [(0, .int x)] []
  refine gw_iload_n hX nd_Te_isLetter_0 rfl 0 rfl ?_
  refine gw_bipush (v := nI 97) hX nd_Te_isLetter_1 rfl ?_
  refine gw_icmp_lt (tgt := 16) hX nd_Te_isLetter_3 rfl (fun hb => ?_) (fun hb => ?_)
  · skip
    refine gw_iconst (v := nI 0) hX nd_Te_isLetter_16 rfl ?_
    exact gw_zret hX hQ hr nd_Te_isLetter_17 rfl (by decide) (by decide) ⟨by rw [show tx_l x = 0 from if_pos (Or.inl hb)], rfl⟩
  · skip
    have hb0 := hb
    refine gw_iload_n hX nd_Te_isLetter_6 rfl 0 rfl ?_
    refine gw_bipush (v := nI 122) hX nd_Te_isLetter_7 rfl ?_
    refine gw_icmp_gt (tgt := 16) hX nd_Te_isLetter_9 rfl (fun hb => ?_) (fun hb => ?_)
    · skip
      refine gw_iconst (v := nI 0) hX nd_Te_isLetter_16 rfl ?_
      exact gw_zret hX hQ hr nd_Te_isLetter_17 rfl (by decide) (by decide) ⟨by rw [show tx_l x = 0 from if_pos (Or.inr hb)], rfl⟩
    · skip
      refine gw_iconst (v := nI 1) hX nd_Te_isLetter_12 rfl ?_
      refine gw_goto (tgt := 17) hX nd_Te_isLetter_13 rfl ?_
      exact gw_zret hX hQ hr nd_Te_isLetter_17 rfl (by decide) (by decide) ⟨by rw [show tx_l x = 1 from if_neg (fun h => h.elim hb0 hb)], rfl⟩
set_option maxRecDepth 100000 in
set_option maxHeartbeats 4000000 in
theorem ct_Te_current (l : Launch) (Z : gw_Z) (b0 : Nat) (σ : gw_S) (t len k : Nat) (ch : Nat → Nat) (hlen : len ≤ 240) (hk : k ≤ 240) (hch : ∀ j, ch j < 127) (h : tx_at σ Z t len k ch) : gw_M l ny_Te_current nc_Te_current (1, 0, 0, 0, 0) (some .int) Z b0 σ [.ref t] (fun v σ' => v = some (.int (tx_c len ch k)) ∧ σ' = σ) := by
  refine gw_M_of rfl (Nat.le_of_ble_eq_true rfl) ?_
  intro X hX hl hz hb0 hr hnm hQ
  subst hz hb0 hl
  have hX : gw_ok X nc_Te_current "LabelLearner$Text" (1, 0, 0, 0, 0) := hX
  show gw_W X σ 0 0 0 [(0, .ref t)] []
  obtain ⟨h0, h1⟩ := id h
  refine gw_aload_n hX nd_Te_current_0 rfl 0 rfl ?_
  refine gw_get hX kf_Te_23 nd_Te_current_1 h0 rfl ?_
  refine gw_aload_n hX nd_Te_current_4 rfl 0 rfl ?_
  refine gw_get hX kf_Te_15 nd_Te_current_5 h0 rfl ?_
  refine gw_icmp_ge (tgt := 23) hX nd_Te_current_8 rfl (fun hb => ?_) (fun hb => ?_)
  · have hb : len ≤ k := (nI_leI (a := len) (b := k) (by omega) (by omega)).mp hb
    refine gw_iconst (v := (-1)) hX nd_Te_current_23 rfl ?_
    exact gw_iret hX hQ hr nd_Te_current_24 (by decide) (by decide) ⟨by rw [show tx_c len ch k = (-1) from if_neg (by omega)], rfl⟩
  · have hb : ¬ len ≤ k := fun h => hb ((nI_leI (a := len) (b := k) (by omega) (by omega)).mpr h)
    refine gw_aload_n hX nd_Te_current_11 rfl 0 rfl ?_
    refine gw_get hX kf_Te_9 nd_Te_current_12 h0 rfl ?_
    refine gw_aload_n hX nd_Te_current_15 rfl 0 rfl ?_
    refine gw_get hX kf_Te_23 nd_Te_current_16 h0 rfl ?_
    refine gw_cald hX nd_Te_current_19 h1 k rfl (by omega) (by decide) ?_
    refine gw_topi (y := nI (ch k)) rfl ?_
    refine gw_goto (tgt := 24) hX nd_Te_current_20 rfl ?_
    exact gw_iret hX hQ hr nd_Te_current_24 (by decide) (by decide) ⟨by rw [show tx_c len ch k = nI (ch k) from if_pos (by omega)], rfl⟩
set_option maxRecDepth 100000 in
set_option maxHeartbeats 4000000 in
theorem ct_Te_take (l : Launch) (Z : gw_Z) (b0 : Nat) (σ : gw_S) (t len k : Nat) (ch : Nat → Nat) (hlen : len ≤ 240) (hk : k ≤ 240) (hch : ∀ j, ch j < 127) (hk1 : k < 240 ∨ len ≤ k) (c : Nat) (hc : c < 127) (h : tx_at σ Z t len k ch) : gw_M l ny_Te_take nc_Te_take (2, 1, 20, 0, 0) (some .boolean) Z b0 σ [.ref t, .int (nI c)] (fun v σ' => v = some (.int (nI (if px_is len ch c k then 1 else 0))) ∧ tx_at σ' Z t len (if px_is len ch c k then k + 1 else k) ch ∧ gw_fr σ σ' t (t + 2)) := by
  refine gw_M_of rfl (Nat.le_of_ble_eq_true rfl) ?_
  intro X hX hl hz hb0 hr hnm hQ
  subst hz hb0 hl
  have hX : gw_ok X nc_Te_take "LabelLearner$Text" (2, 1, 20, 0, 0) := hX
  show gw_W X σ 0 0 0 [(0, .ref t), (1, .int (nI c))] []
  have fr : gw_fr σ σ t (t + 2) := gw_fr_rf _ _ _
  obtain ⟨h0, h1⟩ := id h
  refine gw_aload_n hX nd_Te_take_0 rfl 0 rfl ?_
  refine gw_callV (rest := []) hX ks_Te_52 (ct_Te_current X.1.2.1 (gw_z X) (gw_b X) σ t len k ch hlen (by omega) hch ⟨h0, h1⟩) h0 rfl rfl (Nat.le_of_ble_eq_true rfl) nd_Te_take_1 (by decide) ?_
  rintro v_ s_ ⟨hv_, hs_⟩
  have hs_ := hs_.symm
  subst hs_ hv_
  show gw_W X σ 0 0 4 [(0, .ref t), (1, .int (nI c))] [.int (tx_c len ch k)]
  refine gw_iload_n hX nd_Te_take_4 rfl 1 rfl ?_
  refine gw_icmp_eq (tgt := 10) hX nd_Te_take_5 rfl (fun hb => ?_) (fun hb => ?_)
  · skip
    have hb := (tx_c_eq hch k hc).mp hb
    refine gw_aload_n hX nd_Te_take_10 rfl 0 rfl ?_
    refine gw_dup hX nd_Te_take_11 rfl ?_
    refine gw_get hX kf_Te_23 nd_Te_take_12 h0 rfl ?_
    refine gw_iconst (v := nI 1) hX nd_Te_take_15 rfl ?_
    refine gw_iadd hX nd_Te_take_16 ?_
    refine gw_topi (y := nI (k + 1)) (nI_add _ _) ?_
    refine gw_put hX kf_Te_23 nd_Te_take_17 h0 rfl rfl (Nat.le_of_ble_eq_true rfl) (e' := .inr (6, [.ref (t + 1), .int (nI len), .int (nI (k + 1))])) rfl ?_
    obtain ⟨σ1, eσ1⟩ : ∃ hp_, hp_ = gw_up σ t (.inr (6, [.ref (t + 1), .int (nI len), .int (nI (k + 1))])) := ⟨_, rfl⟩
    refine gw_heap eσ1.symm ?_
    have h0 : σ1.2 t = some (.inr (6, [.ref (t + 1), .int (nI len), .int (nI (k + 1))])) := by rw [eσ1]; exact gw_up_eq _ _ _
    have h1 : σ1.2 (t + 1) = some ((gw_Ch (gw_z X) 240 (fun j => nI (ch j)))) := by rw [eσ1, gw_up_ne (by omega)]; exact h1
    have fr : gw_fr σ σ1 t (t + 2) := gw_fr_tr fr (show gw_fr _ σ1 t (t + 2) by rw [eσ1]; exact gw_fr_up _ _ _ (by omega) (by omega))
    refine gw_iconst (v := nI 1) hX nd_Te_take_20 rfl ?_
    exact gw_zret hX hQ hr nd_Te_take_21 rfl (by decide) (by decide) ⟨by rw [hb]; rfl, by rw [hb]; exact ⟨h0, h1⟩, fr⟩
  · skip
    have hb : px_is len ch c k = false := by
      cases e : px_is len ch c k with
      | false => rfl
      | true => exact absurd ((tx_c_eq hch k hc).mpr e) hb
    refine gw_iconst (v := nI 0) hX nd_Te_take_8 rfl ?_
    exact gw_zret hX hQ hr nd_Te_take_9 rfl (by decide) (by decide) ⟨by rw [hb]; rfl, by rw [hb]; exact ⟨h0, h1⟩, fr⟩
set_option maxRecDepth 100000 in
set_option maxHeartbeats 4000000 in
theorem lp_Te_skipSpaces {X : gw_C} (t len k0 : Nat) (ch : Nat → Nat) (hlen : len ≤ 240) (hch : ∀ j, ch j < 127) (σ0 : gw_S) (hX : gw_ok X nc_Te_skipSpaces "LabelLearner$Text" (2, 1, 20, 0, 0)) (hQ : X.2.2.2.2 = gw_end X (fun v σ' => v = some (.int (nI (if k0 < px_skip len ch k0 then 1 else 0))) ∧ tx_at σ' (gw_z X) t len (px_skip len ch k0) ch ∧ gw_fr σ0 σ' t (t + 2)) 0 0) (hr : X.2.2.1.1.sig.returnType = (some .boolean)) : ∀ (m : Nat) (k : Nat) (σ : gw_S), m + k = 240 → k0 ≤ k → (∀ j, k0 ≤ j → j < k → px_is len ch 32 j = true) → tx_at σ (gw_z X) t len k ch → gw_fr σ0 σ t (t + 2) → gw_W X σ 0 0 5 [(1, .int (nI k0)), (0, .ref t)] [] := by
  intro m
  induction m using Nat.strongRecOn with
  | ind m ih =>
    intro k σ
    intro hm hk0 hsp h fr
    obtain ⟨h0, h1⟩ := id h
    refine gw_aload_n hX nd_Te_skipSpaces_5 rfl 1 rfl ?_
    refine gw_get hX kf_Te_23 nd_Te_skipSpaces_6 h0 rfl ?_
    refine gw_aload_n hX nd_Te_skipSpaces_9 rfl 1 rfl ?_
    refine gw_get hX kf_Te_15 nd_Te_skipSpaces_10 h0 rfl ?_
    refine gw_icmp_ge (tgt := 38) hX nd_Te_skipSpaces_13 rfl (fun hb => ?_) (fun hb => ?_)
    · have hb : len ≤ k := (nI_leI (a := len) (b := k) (by omega) (by omega)).mp hb
      have he : px_skip len ch k0 = k := px_skip_of ⟨hk0, hsp, by cases e : px_is len ch 32 k with
        | false => rfl
        | true => exact absurd (px_is_iff.mp e).1 (by omega)⟩
      refine gw_aload_n hX nd_Te_skipSpaces_38 rfl 1 rfl ?_
      refine gw_get hX kf_Te_23 nd_Te_skipSpaces_39 h0 rfl ?_
      refine gw_iload_n hX nd_Te_skipSpaces_42 rfl 0 rfl ?_
      refine gw_icmp_le (tgt := 50) hX nd_Te_skipSpaces_43 rfl (fun hb => ?_) (fun hb => ?_)
      · have hb : k ≤ k0 := (nI_leI (a := k) (b := k0) (by omega) (by omega)).mp hb
        refine gw_iconst (v := nI 0) hX nd_Te_skipSpaces_50 rfl ?_
        exact gw_zret hX hQ hr nd_Te_skipSpaces_51 rfl (by decide) (by decide) ⟨by rw [he, if_neg (by omega)], by rw [he]; exact ⟨h0, h1⟩, fr⟩
      · have hb : ¬ k ≤ k0 := fun h => hb ((nI_leI (a := k) (b := k0) (by omega) (by omega)).mpr h)
        refine gw_iconst (v := nI 1) hX nd_Te_skipSpaces_46 rfl ?_
        refine gw_goto (tgt := 51) hX nd_Te_skipSpaces_47 rfl ?_
        exact gw_zret hX hQ hr nd_Te_skipSpaces_51 rfl (by decide) (by decide) ⟨by rw [he, if_pos (by omega)], by rw [he]; exact ⟨h0, h1⟩, fr⟩
    · have hb : ¬ len ≤ k := fun h => hb ((nI_leI (a := len) (b := k) (by omega) (by omega)).mpr h)
      have hb1 := hb
      refine gw_aload_n hX nd_Te_skipSpaces_16 rfl 1 rfl ?_
      refine gw_callV (rest := []) hX ks_Te_52 (ct_Te_current X.1.2.1 (gw_z X) (gw_b X) σ t len k ch hlen (by omega) hch ⟨h0, h1⟩) h0 rfl rfl (Nat.le_of_ble_eq_true rfl) nd_Te_skipSpaces_17 (by decide) ?_
      rintro v_ s_ ⟨hv_, hs_⟩
      have hs_ := hs_.symm
      subst hs_ hv_
      show gw_W X σ 0 0 20 [(1, .int (nI k0)), (0, .ref t)] [.int (tx_c len ch k)]
      refine gw_bipush (v := nI 32) hX nd_Te_skipSpaces_20 rfl ?_
      refine gw_icmp_ne (tgt := 38) hX nd_Te_skipSpaces_22 rfl (fun hb => ?_) (fun hb => ?_)
      · skip
        have hb2 : px_is len ch 32 k = false := by
          cases e : px_is len ch 32 k with
          | false => rfl
          | true => exact absurd ((tx_c_eq hch k (by decide)).mpr e) hb
        have he : px_skip len ch k0 = k := px_skip_of ⟨hk0, hsp, hb2⟩
        refine gw_aload_n hX nd_Te_skipSpaces_38 rfl 1 rfl ?_
        refine gw_get hX kf_Te_23 nd_Te_skipSpaces_39 h0 rfl ?_
        refine gw_iload_n hX nd_Te_skipSpaces_42 rfl 0 rfl ?_
        refine gw_icmp_le (tgt := 50) hX nd_Te_skipSpaces_43 rfl (fun hb => ?_) (fun hb => ?_)
        · have hb : k ≤ k0 := (nI_leI (a := k) (b := k0) (by omega) (by omega)).mp hb
          refine gw_iconst (v := nI 0) hX nd_Te_skipSpaces_50 rfl ?_
          exact gw_zret hX hQ hr nd_Te_skipSpaces_51 rfl (by decide) (by decide) ⟨by rw [he, if_neg (by omega)], by rw [he]; exact ⟨h0, h1⟩, fr⟩
        · have hb : ¬ k ≤ k0 := fun h => hb ((nI_leI (a := k) (b := k0) (by omega) (by omega)).mpr h)
          refine gw_iconst (v := nI 1) hX nd_Te_skipSpaces_46 rfl ?_
          refine gw_goto (tgt := 51) hX nd_Te_skipSpaces_47 rfl ?_
          exact gw_zret hX hQ hr nd_Te_skipSpaces_51 rfl (by decide) (by decide) ⟨by rw [he, if_pos (by omega)], by rw [he]; exact ⟨h0, h1⟩, fr⟩
      · skip
        have hb2 := (tx_c_eq hch k (by decide)).mp hb
        refine gw_aload_n hX nd_Te_skipSpaces_25 rfl 1 rfl ?_
        refine gw_dup hX nd_Te_skipSpaces_26 rfl ?_
        refine gw_get hX kf_Te_23 nd_Te_skipSpaces_27 h0 rfl ?_
        refine gw_iconst (v := nI 1) hX nd_Te_skipSpaces_30 rfl ?_
        refine gw_iadd hX nd_Te_skipSpaces_31 ?_
        refine gw_topi (y := nI (k + 1)) (nI_add _ _) ?_
        refine gw_put hX kf_Te_23 nd_Te_skipSpaces_32 h0 rfl rfl (Nat.le_of_ble_eq_true rfl) (e' := .inr (6, [.ref (t + 1), .int (nI len), .int (nI (k + 1))])) rfl ?_
        obtain ⟨σ1, eσ1⟩ : ∃ hp_, hp_ = gw_up σ t (.inr (6, [.ref (t + 1), .int (nI len), .int (nI (k + 1))])) := ⟨_, rfl⟩
        refine gw_heap eσ1.symm ?_
        have h0 : σ1.2 t = some (.inr (6, [.ref (t + 1), .int (nI len), .int (nI (k + 1))])) := by rw [eσ1]; exact gw_up_eq _ _ _
        have h1 : σ1.2 (t + 1) = some ((gw_Ch (gw_z X) 240 (fun j => nI (ch j)))) := by rw [eσ1, gw_up_ne (by omega)]; exact h1
        have fr : gw_fr σ0 σ1 t (t + 2) := gw_fr_tr fr (show gw_fr _ σ1 t (t + 2) by rw [eσ1]; exact gw_fr_up _ _ _ (by omega) (by omega))
        refine gw_goto (tgt := 5) hX nd_Te_skipSpaces_35 rfl ?_
        refine gw_cut (ks := [0, 1]) (L' := [(1, .int (nI k0)), (0, .ref t)]) rfl ?_
        refine ih (m - 1) (by omega) (k + 1) σ1 (by omega) (by omega) ?_ ⟨h0, h1⟩ fr
        intro j h1 h2
        by_cases e : j = k
        · rw [e]; exact hb2
        · exact hsp j h1 (by omega)
set_option maxRecDepth 100000 in
set_option maxHeartbeats 4000000 in
theorem ct_Te_skipSpaces (l : Launch) (Z : gw_Z) (b0 : Nat) (σ : gw_S) (t len k : Nat) (ch : Nat → Nat) (hlen : len ≤ 240) (hk : k ≤ 240) (hch : ∀ j, ch j < 127) (h : tx_at σ Z t len k ch) : gw_M l ny_Te_skipSpaces nc_Te_skipSpaces (2, 1, 20, 0, 0) (some .boolean) Z b0 σ [.ref t] (fun v σ' => v = some (.int (nI (if k < px_skip len ch k then 1 else 0))) ∧ tx_at σ' Z t len (px_skip len ch k) ch ∧ gw_fr σ σ' t (t + 2)) := by
  refine gw_M_of rfl (Nat.le_of_ble_eq_true rfl) ?_
  intro X hX hl hz hb0 hr hnm hQ
  subst hz hb0 hl
  have hX : gw_ok X nc_Te_skipSpaces "LabelLearner$Text" (2, 1, 20, 0, 0) := hX
  show gw_W X σ 0 0 0 [(0, .ref t)] []
  obtain ⟨h0, h1⟩ := id h
  refine gw_aload_n hX nd_Te_skipSpaces_0 rfl 0 rfl ?_
  refine gw_get hX kf_Te_23 nd_Te_skipSpaces_1 h0 rfl ?_
  refine gw_istore_n hX nd_Te_skipSpaces_4 rfl (by decide) (L' := [(1, .int (nI k)), (0, .ref t)]) rfl ?_
  exact lp_Te_skipSpaces t len k ch hlen hch σ hX hQ hr (240 - k) k σ (by omega) (Nat.le_refl _) (fun j h1 h2 => absurd h2 (by omega)) h (gw_fr_rf _ _ _)
set_option maxRecDepth 100000 in
set_option maxHeartbeats 4000000 in
theorem lp_Te_skipLetters {X : gw_C} (t len k0 : Nat) (ch : Nat → Nat) (hlen : len ≤ 240) (hk0 : k0 ≤ 240) (hch : ∀ j, ch j < 127) (σ0 : gw_S) (hX : gw_ok X nc_Te_skipLetters "LabelLearner$Text" (2, 1, 20, 0, 0)) (hQ : X.2.2.2.2 = gw_end X (fun v σ' => v = none ∧ (∃ e, k0 ≤ e ∧ e ≤ k0 + 6 ∧ e ≤ 240 ∧ (∀ j, k0 ≤ j → j < e → px_lt len ch j = true) ∧ (e = k0 + 6 ∨ px_lt len ch e = false) ∧ tx_at σ' (gw_z X) t len e ch) ∧ gw_fr σ0 σ' t (t + 2)) 0 0) (hr : X.2.2.1.1.sig.returnType = none) : ∀ (m : Nat) (j : Nat) (σ : gw_S), j + m = 6 → k0 + j ≤ 240 → (∀ i, k0 ≤ i → i < k0 + j → px_lt len ch i = true) → tx_at σ (gw_z X) t len (k0 + j) ch → gw_fr σ0 σ t (t + 2) → gw_W X σ 0 0 2 [(1, .int (nI j)), (0, .ref t)] [] := by
  intro m
  induction m using Nat.strongRecOn with
  | ind m ih =>
    intro j σ
    intro hm hkj hlt h fr
    obtain ⟨h0, h1⟩ := id h
    refine gw_iload_n hX nd_Te_skipLetters_2 rfl 0 rfl ?_
    refine gw_bipush (v := nI 6) hX nd_Te_skipLetters_3 rfl ?_
    refine gw_icmp_ge (tgt := 34) hX nd_Te_skipLetters_5 rfl (fun hb => ?_) (fun hb => ?_)
    · have hb : 6 ≤ j := (nI_leI (a := 6) (b := j) (by omega) (by omega)).mp hb
      exact gw_vret hX hQ hr nd_Te_skipLetters_34 (by decide) (by decide) ⟨rfl, ⟨k0 + j, by omega, by omega, by omega, hlt, Or.inl (by omega), h⟩, fr⟩
    · have hb : ¬ 6 ≤ j := fun h => hb ((nI_leI (a := 6) (b := j) (by omega) (by omega)).mpr h)
      refine gw_aload_n hX nd_Te_skipLetters_8 rfl 1 rfl ?_
      refine gw_callV (rest := []) hX ks_Te_52 (ct_Te_current X.1.2.1 (gw_z X) (gw_b X) σ t len (k0 + j) ch hlen (by omega) hch ⟨h0, h1⟩) h0 rfl rfl (Nat.le_of_ble_eq_true rfl) nd_Te_skipLetters_9 (by decide) ?_
      rintro v_ s_ ⟨hv_, hs_⟩
      have hs_ := hs_.symm
      subst hs_ hv_
      show gw_W X σ 0 0 12 [(1, .int (nI j)), (0, .ref t)] [.int (tx_c len ch (k0 + j))]
      refine gw_callS (rest := []) hX ks_Te_56 (ct_Te_isLetter X.1.2.1 (gw_z X) (gw_b X) σ (tx_c len ch (k0 + j))) rfl rfl (Nat.le_of_ble_eq_true rfl) nd_Te_skipLetters_12 (by decide) ?_
      rintro v_ s_ ⟨hv_, hs_⟩
      have hs_ := hs_.symm
      subst hs_ hv_
      show gw_W X σ 0 0 15 [(1, .int (nI j)), (0, .ref t)] [.int (nI (tx_l (tx_c len ch (k0 + j))))]
      rw [tx_l_c hch]
      refine gw_if_eq (tgt := 34) hX nd_Te_skipLetters_15 rfl (fun hb => ?_) (fun hb => ?_)
      · skip
        have hb2 : px_lt len ch (k0 + j) = false := by
          cases e : px_lt len ch (k0 + j) with
          | false => rfl
          | true => rw [e] at hb; exact absurd hb (by decide)
        exact gw_vret hX hQ hr nd_Te_skipLetters_34 (by decide) (by decide) ⟨rfl, ⟨k0 + j, by omega, by omega, by omega, hlt, Or.inr hb2, h⟩, fr⟩
      · skip
        have hb2 : px_lt len ch (k0 + j) = true := by
          cases e : px_lt len ch (k0 + j) with
          | true => rfl
          | false => rw [e] at hb; exact absurd rfl hb
        refine gw_aload_n hX nd_Te_skipLetters_18 rfl 1 rfl ?_
        refine gw_dup hX nd_Te_skipLetters_19 rfl ?_
        refine gw_get hX kf_Te_23 nd_Te_skipLetters_20 h0 rfl ?_
        refine gw_iconst (v := nI 1) hX nd_Te_skipLetters_23 rfl ?_
        refine gw_iadd hX nd_Te_skipLetters_24 ?_
        refine gw_topi (y := nI (k0 + j + 1)) (nI_add _ _) ?_
        refine gw_put hX kf_Te_23 nd_Te_skipLetters_25 h0 rfl rfl (Nat.le_of_ble_eq_true rfl) (e' := .inr (6, [.ref (t + 1), .int (nI len), .int (nI (k0 + j + 1))])) rfl ?_
        obtain ⟨σ1, eσ1⟩ : ∃ hp_, hp_ = gw_up σ t (.inr (6, [.ref (t + 1), .int (nI len), .int (nI (k0 + j + 1))])) := ⟨_, rfl⟩
        refine gw_heap eσ1.symm ?_
        have h0 : σ1.2 t = some (.inr (6, [.ref (t + 1), .int (nI len), .int (nI (k0 + j + 1))])) := by rw [eσ1]; exact gw_up_eq _ _ _
        have h1 : σ1.2 (t + 1) = some ((gw_Ch (gw_z X) 240 (fun j => nI (ch j)))) := by rw [eσ1, gw_up_ne (by omega)]; exact h1
        have fr : gw_fr σ0 σ1 t (t + 2) := gw_fr_tr fr (show gw_fr _ σ1 t (t + 2) by rw [eσ1]; exact gw_fr_up _ _ _ (by omega) (by omega))
        refine gw_iinc hX nd_Te_skipLetters_28 0 rfl (v := nI (j + 1)) (show nI j + nI 1 = nI (j + 1) from nI_add _ _) (by decide) (L' := [(1, .int (nI (j + 1))), (0, .ref t)]) rfl ?_
        refine gw_goto (tgt := 2) hX nd_Te_skipLetters_31 rfl ?_
        refine gw_cut (ks := [0, 1]) (L' := [(1, .int (nI (j + 1))), (0, .ref t)]) rfl ?_
        refine ih (m - 1) (by omega) (j + 1) σ1 (by omega) (by have := (px_lt_iff.mp hb2).1; omega) ?_ ⟨h0, h1⟩ fr
        intro i h1 h2
        by_cases e : i = k0 + j
        · rw [e]; exact hb2
        · exact hlt i h1 (by omega)
set_option maxRecDepth 100000 in
set_option maxHeartbeats 4000000 in
theorem ct_Te_skipLetters (l : Launch) (Z : gw_Z) (b0 : Nat) (σ : gw_S) (t len k0 : Nat) (ch : Nat → Nat) (hlen : len ≤ 240) (hk0 : k0 ≤ 240) (hch : ∀ j, ch j < 127) (h : tx_at σ Z t len k0 ch) : gw_M l ny_Te_skipLetters nc_Te_skipLetters (2, 1, 20, 0, 0) none Z b0 σ [.ref t] (fun v σ' => v = none ∧ (∃ e, k0 ≤ e ∧ e ≤ k0 + 6 ∧ e ≤ 240 ∧ (∀ j, k0 ≤ j → j < e → px_lt len ch j = true) ∧ (e = k0 + 6 ∨ px_lt len ch e = false) ∧ tx_at σ' Z t len e ch) ∧ gw_fr σ σ' t (t + 2)) := by
  refine gw_M_of rfl (Nat.le_of_ble_eq_true rfl) ?_
  intro X hX hl hz hb0 hr hnm hQ
  subst hz hb0 hl
  have hX : gw_ok X nc_Te_skipLetters "LabelLearner$Text" (2, 1, 20, 0, 0) := hX
  show gw_W X σ 0 0 0 [(0, .ref t)] []
  obtain ⟨h0, h1⟩ := id h
  refine gw_iconst (v := nI 0) hX nd_Te_skipLetters_0 rfl ?_
  refine gw_istore_n hX nd_Te_skipLetters_1 rfl (by decide) (L' := [(1, .int (nI 0)), (0, .ref t)]) rfl ?_
  exact lp_Te_skipLetters t len k0 ch hlen hk0 hch σ hX hQ hr 6 0 σ (by omega) (by omega) (fun i h1 h2 => absurd h2 (by omega)) h (gw_fr_rf _ _ _)
set_option maxRecDepth 100000 in
set_option maxHeartbeats 4000000 in
theorem lp_Te_hash {X : gw_C} {σ : gw_S} (t len k a e : Nat) (ch : Nat → Nat) (h0 : Int32) (hae : a ≤ e) (he : e ≤ 240) (h : tx_at σ (gw_z X) t len k ch) (hX : gw_ok X nc_Te_hash "LabelLearner$Text" (6, 1, 21, 0, 0)) (hQ : X.2.2.2.2 = gw_end X (fun v σ' => v = some (.int (px_h ch h0 a (e - a))) ∧ σ' = σ) 0 0) (hr : X.2.2.1.1.sig.returnType = (some .int)) : ∀ (m : Nat) (j : Nat), a + j + m = e → gw_W X σ 0 0 6 [(5, .int (nI (a + j))), (4, .int (px_h ch h0 a j)), (0, .ref t), (1, .int h0), (2, .int (nI a)), (3, .int (nI e))] [] := by
  intro m
  induction m using Nat.strongRecOn with
  | ind m ih =>
    intro j
    intro hm
    obtain ⟨g0, g1⟩ := id h
    refine gw_iload hX nd_Te_hash_6 0 rfl ?_
    refine gw_iload_n hX nd_Te_hash_8 rfl 5 rfl ?_
    refine gw_icmp_ge (tgt := 32) hX nd_Te_hash_9 rfl (fun hb => ?_) (fun hb => ?_)
    · have hb : e ≤ a + j := (nI_leI (a := e) (b := a + j) (by omega) (by omega)).mp hb
      refine gw_iload hX nd_Te_hash_32 1 rfl ?_
      exact gw_iret hX hQ hr nd_Te_hash_34 (by decide) (by decide) ⟨by rw [show e - a = j by omega], rfl⟩
    · have hb : ¬ e ≤ a + j := fun h => hb ((nI_leI (a := e) (b := a + j) (by omega) (by omega)).mpr h)
      refine gw_iload hX nd_Te_hash_12 1 rfl ?_
      refine gw_aload_n hX nd_Te_hash_14 rfl 2 rfl ?_
      refine gw_get hX kf_Te_9 nd_Te_hash_15 g0 rfl ?_
      refine gw_iload hX nd_Te_hash_18 0 rfl ?_
      refine gw_cald hX nd_Te_hash_20 g1 (a + j) rfl (by omega) (by decide) ?_
      refine gw_topi (y := nI (ch (a + j))) rfl ?_
      refine gw_callS (rest := []) hX ks_Te_90 (ct_Te_mix X.1.2.1 (gw_z X) (gw_b X) σ (px_h ch h0 a j) (ch (a + j))) rfl rfl (Nat.le_of_ble_eq_true rfl) nd_Te_hash_21 (by decide) ?_
      rintro v_ s_ ⟨hv_, hs_⟩
      have hs_ := hs_.symm
      subst hs_ hv_
      show gw_W X σ 0 0 24 [(5, .int (nI (a + j))), (4, .int (px_h ch h0 a j)), (0, .ref t), (1, .int h0), (2, .int (nI a)), (3, .int (nI e))] [.int (px_h ch h0 a (j + 1))]
      refine gw_istore hX nd_Te_hash_24 (by decide) (L' := [(4, .int (px_h ch h0 a (j + 1))), (5, .int (nI (a + j))), (0, .ref t), (1, .int h0), (2, .int (nI a)), (3, .int (nI e))]) rfl ?_
      refine gw_iinc hX nd_Te_hash_26 1 rfl (v := nI (a + j + 1)) (show nI (a + j) + nI 1 = nI (a + j + 1) from nI_add _ _) (by decide) (L' := [(5, .int (nI (a + j + 1))), (4, .int (px_h ch h0 a (j + 1))), (0, .ref t), (1, .int h0), (2, .int (nI a)), (3, .int (nI e))]) rfl ?_
      refine gw_goto (tgt := 6) hX nd_Te_hash_29 rfl ?_
      refine gw_cut (ks := [0, 1, 2, 3, 4, 5]) (L' := [(5, .int (nI (a + j + 1))), (4, .int (px_h ch h0 a (j + 1))), (0, .ref t), (1, .int h0), (2, .int (nI a)), (3, .int (nI e))]) rfl ?_
      exact ih (m - 1) (by omega) (j + 1) (by omega)
set_option maxRecDepth 100000 in
set_option maxHeartbeats 4000000 in
theorem ct_Te_hash (l : Launch) (Z : gw_Z) (b0 : Nat) (σ : gw_S) (t len k a e : Nat) (ch : Nat → Nat) (h0 : Int32) (hae : a ≤ e) (he : e ≤ 240) (h : tx_at σ Z t len k ch) : gw_M l ny_Te_hash nc_Te_hash (6, 1, 21, 0, 0) (some .int) Z b0 σ [.ref t, .int h0, .int (nI a), .int (nI e)] (fun v σ' => v = some (.int (px_h ch h0 a (e - a))) ∧ σ' = σ) := by
  refine gw_M_of rfl (Nat.le_of_ble_eq_true rfl) ?_
  intro X hX hl hz hb0 hr hnm hQ
  subst hz hb0 hl
  have hX : gw_ok X nc_Te_hash "LabelLearner$Text" (6, 1, 21, 0, 0) := hX
  show gw_W X σ 0 0 0 [(0, .ref t), (1, .int h0), (2, .int (nI a)), (3, .int (nI e))] []
  refine gw_iload_n hX nd_Te_hash_0 rfl 1 rfl ?_
  refine gw_istore hX nd_Te_hash_1 (by decide) (L' := [(4, .int h0), (0, .ref t), (1, .int h0), (2, .int (nI a)), (3, .int (nI e))]) rfl ?_
  refine gw_iload_n hX nd_Te_hash_3 rfl 3 rfl ?_
  refine gw_istore hX nd_Te_hash_4 (by decide) (L' := [(5, .int (nI a)), (4, .int h0), (0, .ref t), (1, .int h0), (2, .int (nI a)), (3, .int (nI e))]) rfl ?_
  exact lp_Te_hash t len k a e ch h0 hae he h hX hQ hr (e - a) 0 (by omega)
end
section
/-! reading: what a typed piece makes of the text, sentences as they lie in the heap -/
def ap_ok (len : Nat) (w : Int64) (x : Int32) : Prop := 1 ≤ x.toInt ∧ x.toInt ≤ 8 ∧ x.toInt + len ≤ 240 ∧ ∀ j, j < x.toNatClampNeg → 32 ≤ by_at w j ∧ by_at w j ≤ 126
def ap_ch (len : Nat) (w : Int64) (c : Nat) (ch : Nat → Nat) : Nat → Nat := fun j => if len ≤ j ∧ j < len + c then by_at w (j - len) else ch j
theorem ap_ch_0 (len : Nat) (w : Int64) (ch : Nat → Nat) : ap_ch len w 0 ch = ch := by
  funext j
  rw [ap_ch, if_neg (by omega)]
theorem ap_ch_s (len : Nat) (w : Int64) (c : Nat) (ch : Nat → Nat) : upd (fun j => nI (ap_ch len w c ch j)) (len + c) (nI (by_at w c)) = fun j => nI (ap_ch len w (c + 1) ch j) := by
  funext j
  simp only [upd, ap_ch]
  by_cases h : j = len + c
  · rw [if_pos h, if_pos (by omega), h, Nat.add_sub_cancel_left]
  · rw [if_neg h]
    by_cases h2 : len ≤ j ∧ j < len + c
    · rw [if_pos h2, if_pos (by omega)]
    · rw [if_neg h2, if_neg (by omega)]
theorem ap_nI {c : Nat} (h : c < 1000) : (nI c).toInt = c ∧ (nI c).toNatClampNeg = c := ⟨nI_toInt (by omega), nI_clamp (by omega)⟩
theorem ap_of {x : Int32} (h1 : ¬ x < nI 1) (h2 : ¬ nI 8 < x) : ∃ c, 1 ≤ c ∧ c ≤ 8 ∧ x = nI c := by
  have h3 : ¬ x < 0 := by
    intro h
    exact h1 (by rw [Int32.lt_iff_toInt_lt] at h ⊢; have := nI_toInt (show 1 < 2 ^ 31 by decide); rw [Int32.toInt_zero] at h; omega)
  obtain ⟨c, hc, rfl⟩ := nI_of h3
  refine ⟨c, ?_, ?_, rfl⟩
  · by_cases h : 1 ≤ c
    · exact h
    · exact absurd ((nI_ltI hc (by decide)).mpr (by omega)) h1
  · by_cases h : c ≤ 8
    · exact h
    · exact absurd ((nI_ltI (by decide) hc).mpr (by omega)) h2
theorem ap_lo {x : Int32} (h : x < nI 1) : ¬ 1 ≤ x.toInt := by
  rw [Int32.lt_iff_toInt_lt, nI_toInt (by decide)] at h
  omega
theorem ap_hi {x : Int32} (h : nI 8 < x) : ¬ x.toInt ≤ 8 := by
  rw [Int32.lt_iff_toInt_lt, nI_toInt (by decide)] at h
  omega
theorem ap_chr {q : Nat} (hq : q < 256) : narrow .char (.int (nI q)) = .int (nI q) := (pk_charN (by omega)).1
theorem ap_i2c {q : Nat} (hq : q < 256) : ((nI q).toUInt32 % 65536).toInt32 = nI q := by
  rw [pk_char, pk_tn (by omega), Nat.mod_eq_of_lt (by omega)]
/-- two pieces of the heap have changed -/
def gw_f2 (σ σ' : gw_S) (lo hi lo2 hi2 : Nat) : Prop := σ'.1 = σ.1 ∧ ∀ b, b < lo ∨ hi ≤ b → b < lo2 ∨ hi2 ≤ b → σ'.2 b = σ.2 b
theorem gw_f2_rf (σ : gw_S) (lo hi lo2 hi2 : Nat) : gw_f2 σ σ lo hi lo2 hi2 := ⟨rfl, fun _ _ _ => rfl⟩
theorem gw_f2_l {σ σ1 σ2 : gw_S} {lo hi lo2 hi2 a b : Nat} (h : gw_f2 σ σ1 lo hi lo2 hi2) (f : gw_fr σ1 σ2 a b) (h1 : lo ≤ a := by omega) (h2 : b ≤ hi := by omega) : gw_f2 σ σ2 lo hi lo2 hi2 := ⟨f.1.trans h.1, fun q g1 g2 => (f.2 q (by omega)).trans (h.2 q g1 g2)⟩
theorem gw_f2_r {σ σ1 σ2 : gw_S} {lo hi lo2 hi2 a b : Nat} (h : gw_f2 σ σ1 lo hi lo2 hi2) (f : gw_fr σ1 σ2 a b) (h1 : lo2 ≤ a := by omega) (h2 : b ≤ hi2 := by omega) : gw_f2 σ σ2 lo hi lo2 hi2 := ⟨f.1.trans h.1, fun q g1 g2 => (f.2 q (by omega)).trans (h.2 q g1 g2)⟩
theorem gw_f2_tr {σ σ1 σ2 : gw_S} {lo hi lo2 hi2 a b c d : Nat} (h : gw_f2 σ σ1 lo hi lo2 hi2) (f : gw_f2 σ1 σ2 a b c d) (h1 : lo ≤ a := by omega) (h2 : b ≤ hi := by omega) (h3 : lo2 ≤ c := by omega) (h4 : d ≤ hi2 := by omega) : gw_f2 σ σ2 lo hi lo2 hi2 := ⟨f.1.trans h.1, fun q g1 g2 => (f.2 q (by omega) (by omega)).trans (h.2 q g1 g2)⟩
theorem tx_at_f2 {σ σ' : gw_S} {Z : gw_Z} {t len k a b c d : Nat} {ch : Nat → Nat} (h : tx_at σ Z t len k ch) (f : gw_f2 σ σ' a b c d) (d1 : t + 2 ≤ a ∨ b ≤ t) (d2 : t + 2 ≤ c ∨ d ≤ t) : tx_at σ' Z t len k ch := ⟨(f.2 _ (by omega) (by omega)).trans h.1, (f.2 _ (by omega) (by omega)).trans h.2⟩
/-- the code of a sentence's labels -/
def se_c (ws : List px_W) : Nat := tl_d (fun w => ((ws[w]?).map (fun x => x.2.2.2)).getD 0) ws.length
theorem se_c_nil : se_c [] = 0 := rfl
theorem se_c_snoc (ws : List px_W) (x : px_W) : se_c (ws ++ [x]) = se_c ws + x.2.2.2 * 4 ^ ws.length := by
  unfold se_c
  rw [List.length_append, List.length_singleton, tl_d]
  congr 1
  · refine tl_d_congr _ fun w hw => ?_
    rw [List.getElem?_append_left hw]
  · rw [List.getElem?_append_right (Nat.le_refl _), Nat.sub_self]
    rfl
/-- labels are four -/
def se_ok (ws : List px_W) : Prop := ∀ x ∈ ws, x.1 < 32 ∧ x.2.1 < 32 ∧ x.2.2.1 < 32 ∧ x.2.2.2 < 4
theorem se_c_lt {ws : List px_W} (h : se_ok ws) : se_c ws < 4 ^ ws.length := by
  refine tl_d_lt _ fun w hw => ?_
  rw [List.getElem?_eq_getElem hw]
  exact (h _ (List.getElem_mem hw)).2.2.2
theorem se_ok_snoc {ws : List px_W} (h : se_ok ws) {x : px_W} (hx : x.1 < 32 ∧ x.2.1 < 32 ∧ x.2.2.1 < 32 ∧ x.2.2.2 < 4) : se_ok (ws ++ [x]) := by
  intro y hy
  rcases List.mem_append.mp hy with h1 | h1
  · exact h y h1
  · rw [List.mem_singleton.mp h1]; exact hx
def se_bk (b : Nat → Int32) (ws : List px_W) : Prop := ∀ (w : Nat) (x : px_W), ws[w]? = some x → b (w * 3 + 0) = nI x.1 ∧ b (w * 3 + 1) = nI x.2.1 ∧ b (w * 3 + 2) = nI x.2.2.1
def se_at (σ : gw_S) (Z : gw_Z) (s : Nat) (ws : List px_W) : Prop := ∃ b : Nat → Int32, σ.2 s = some (.inr (5, [.ref (s + 1), .int (nI (se_c ws)), .int (nI ws.length)])) ∧ σ.2 (s + 1) = some (gw_I Z 18 b) ∧ se_bk b ws
def se_any (σ : gw_S) (Z : gw_Z) (s : Nat) : Prop := ∃ (b : Nat → Int32) (lab sz : Int32), σ.2 s = some (.inr (5, [.ref (s + 1), .int lab, .int sz])) ∧ σ.2 (s + 1) = some (gw_I Z 18 b)
theorem se_at_any {σ : gw_S} {Z : gw_Z} {s : Nat} {ws : List px_W} (h : se_at σ Z s ws) : se_any σ Z s := by
  obtain ⟨b, h0, h1, -⟩ := h
  exact ⟨b, _, _, h0, h1⟩
theorem se_any_f2 {σ σ' : gw_S} {Z : gw_Z} {s a b c d : Nat} (h : se_any σ Z s) (f : gw_f2 σ σ' a b c d) (d1 : s + 2 ≤ a ∨ b ≤ s) (d2 : s + 2 ≤ c ∨ d ≤ s) : se_any σ' Z s := by
  obtain ⟨bb, l1, l2, h0, h1⟩ := h
  exact ⟨bb, l1, l2, (f.2 _ (by omega) (by omega)).trans h0, (f.2 _ (by omega) (by omega)).trans h1⟩
theorem se_at_f2 {σ σ' : gw_S} {Z : gw_Z} {s a b c d : Nat} {ws : List px_W} (h : se_at σ Z s ws) (f : gw_f2 σ σ' a b c d) (d1 : s + 2 ≤ a ∨ b ≤ s) (d2 : s + 2 ≤ c ∨ d ≤ s) : se_at σ' Z s ws := by
  obtain ⟨bb, h0, h1, h2⟩ := h
  exact ⟨bb, (f.2 _ (by omega) (by omega)).trans h0, (f.2 _ (by omega) (by omega)).trans h1, h2⟩
theorem se_at_fr {σ σ' : gw_S} {Z : gw_Z} {s a b : Nat} {ws : List px_W} (h : se_at σ Z s ws) (f : gw_fr σ σ' a b) (d1 : s + 2 ≤ a ∨ b ≤ s) : se_at σ' Z s ws := by
  obtain ⟨bb, h0, h1, h2⟩ := h
  exact ⟨bb, (f.2 _ (by omega)).trans h0, (f.2 _ (by omega)).trans h1, h2⟩
theorem se_any_fr {σ σ' : gw_S} {Z : gw_Z} {s a b : Nat} (h : se_any σ Z s) (f : gw_fr σ σ' a b) (d1 : s + 2 ≤ a ∨ b ≤ s) : se_any σ' Z s := by
  obtain ⟨bb, l1, l2, h0, h1⟩ := h
  exact ⟨bb, l1, l2, (f.2 _ (by omega)).trans h0, (f.2 _ (by omega)).trans h1⟩
theorem se_bk_snoc {b : Nat → Int32} {ws : List px_W} (h : se_bk b ws) (x : px_W) : se_bk (upd (upd (upd b (ws.length * 3 + 0) (nI x.1)) (ws.length * 3 + 1) (nI x.2.1)) (ws.length * 3 + 2) (nI x.2.2.1)) (ws ++ [x]) := by
  intro w y hy
  by_cases e : w < ws.length
  · rw [List.getElem?_append_left e] at hy
    have := h w y hy
    simp only [upd]
    rw [if_neg (by omega), if_neg (by omega), if_neg (by omega), if_neg (by omega), if_neg (by omega), if_neg (by omega), if_neg (by omega), if_neg (by omega), if_neg (by omega)]
    exact this
  · have hl : w = ws.length := by
      have := (List.getElem?_eq_some_iff.mp hy).1
      rw [List.length_append, List.length_singleton] at this
      omega
    subst hl
    rw [List.getElem?_append_right (Nat.le_refl _), Nat.sub_self] at hy
    cases hy
    simp only [upd]
    refine ⟨?_, ?_, ?_⟩
    · rw [if_neg (by omega), if_neg (by omega), if_pos trivial]
    · rw [if_neg (by omega), if_pos trivial]
    · rw [if_pos trivial]
theorem px_f_ok (ch : Nat → Nat) (i e b be : Nat) {lab : Nat} (h : lab < 4) : (px_f ch i e b be lab).1 < 32 ∧ (px_f ch i e b be lab).2.1 < 32 ∧ (px_f ch i e b be lab).2.2.1 < 32 ∧ (px_f ch i e b be lab).2.2.2 < 4 := ⟨px_B_lt _, px_B_lt _, px_B_lt _, h⟩
theorem tx_max {a e : Nat} (h : a < e) (he : e ≤ 240) : (if nI a < nI e - nI 2 then nI e - nI 2 else nI a) = nI (if e - a > 1 then e - 2 else a) := by
  by_cases h2 : 2 ≤ e
  · rw [pk_sub h2]
    by_cases h3 : a < e - 2
    · rw [if_pos ((nI_ltI (by omega) (by omega)).mpr h3), if_pos (by omega)]
    · rw [if_neg (fun q => h3 ((nI_ltI (by omega) (by omega)).mp q))]
      by_cases h4 : e - a > 1
      · rw [if_pos h4]; congr 1; omega
      · rw [if_neg h4]
  · obtain rfl : e = 1 := by omega
    obtain rfl : a = 0 := by omega
    decide
/-- is a label behind the word that ends at k -/
def rl_ok (len : Nat) (ch : Nat → Nat) (k : Nat) : Prop := px_is len ch 47 k = true ∧ k + 1 < len ∧ 65 ≤ ch (k + 1) ∧ ch (k + 1) ≤ 68
theorem rl_neg {len : Nat} {ch : Nat → Nat} (hch : ∀ j, ch j < 127) {k : Nat} (h : tx_c len ch k - nI 65 < 0) : ¬ (k < len ∧ 65 ≤ ch k) := by
  rintro ⟨h1, h2⟩
  rw [show tx_c len ch k = nI (ch k) from if_pos h1, pk_sub h2] at h
  exact nI_pos (by have := hch k; omega) h
theorem rl_pos {len : Nat} {ch : Nat → Nat} (hch : ∀ j, ch j < 127) {k : Nat} (h : ¬ tx_c len ch k - nI 65 < 0) : k < len ∧ 65 ≤ ch k ∧ tx_c len ch k - nI 65 = nI (ch k - 65) := by
  by_cases h1 : k < len
  · have e : tx_c len ch k = nI (ch k) := if_pos h1
    rw [e] at h ⊢
    by_cases h2 : 65 ≤ ch k
    · exact ⟨h1, h2, pk_sub h2⟩
    · exact absurd (pk_sneg (by decide) (by omega)) h
  · exact absurd (by rw [show tx_c len ch k = (-1) from if_neg h1]; decide) h
end
section
set_option maxRecDepth 100000 in
set_option maxHeartbeats 4000000 in
theorem ct_Te_keep (l : Launch) (Z : gw_Z) (b0 : Nat) (σ : gw_S) (t len k : Nat) (ch : Nat → Nat) (hlen : len ≤ 240) (x : Int32) (h : tx_at σ Z t len k ch) : gw_M l ny_Te_keep nc_Te_keep (2, 0, 0, 0, 0) (some .boolean) Z b0 σ [.ref t, .int x] (fun v σ' => ((∃ c, x = nI c ∧ c ≤ len ∧ v = some (.int (nI 1)) ∧ tx_at σ' Z t c k ch) ∨ ((∀ c, c ≤ len → x ≠ nI c) ∧ v = some (.int (nI 0)) ∧ tx_at σ' Z t len k ch)) ∧ gw_fr σ σ' t (t + 2)) := by
  refine gw_M_of rfl (Nat.le_of_ble_eq_true rfl) ?_
  intro X hX hl hz hb0 hr hnm hQ
  subst hz hb0 hl
  have hX : gw_ok X nc_Te_keep "LabelLearner$Text" (2, 0, 0, 0, 0) := hX
  show gw_W X σ 0 0 0 [(0, .ref t), (1, .int x)] []
  have fr : gw_fr σ σ t (t + 2) := gw_fr_rf _ _ _
  obtain ⟨h0, h1⟩ := id h
  refine gw_iload_n hX nd_Te_keep_0 rfl 1 rfl ?_
  refine gw_if_lt (tgt := 12) hX nd_Te_keep_1 rfl (fun hb => ?_) (fun hb => ?_)
  · skip
    refine gw_iconst (v := nI 0) hX nd_Te_keep_12 rfl ?_
    exact gw_zret hX hQ hr nd_Te_keep_13 rfl (by decide) (by decide) ⟨Or.inr ⟨fun c hc e => by rw [e] at hb; exact nI_pos (by omega) hb, rfl, h⟩, fr⟩
  · skip
    obtain ⟨c, hc, rfl⟩ := nI_of hb
    refine gw_iload_n hX nd_Te_keep_4 rfl 1 rfl ?_
    refine gw_aload_n hX nd_Te_keep_5 rfl 0 rfl ?_
    refine gw_get hX kf_Te_15 nd_Te_keep_6 h0 rfl ?_
    refine gw_icmp_le (tgt := 14) hX nd_Te_keep_9 rfl (fun hb => ?_) (fun hb => ?_)
    · have hb : c ≤ len := (nI_leI (a := c) (b := len) (by omega) (by omega)).mp hb
      refine gw_aload_n hX nd_Te_keep_14 rfl 0 rfl ?_
      refine gw_iload_n hX nd_Te_keep_15 rfl 1 rfl ?_
      refine gw_put hX kf_Te_15 nd_Te_keep_16 h0 rfl rfl (Nat.le_of_ble_eq_true rfl) (e' := .inr (6, [.ref (t + 1), .int (nI c), .int (nI k)])) rfl ?_
      obtain ⟨σ1, eσ1⟩ : ∃ hp_, hp_ = gw_up σ t (.inr (6, [.ref (t + 1), .int (nI c), .int (nI k)])) := ⟨_, rfl⟩
      refine gw_heap eσ1.symm ?_
      have h0 : σ1.2 t = some (.inr (6, [.ref (t + 1), .int (nI c), .int (nI k)])) := by rw [eσ1]; exact gw_up_eq _ _ _
      have h1 : σ1.2 (t + 1) = some ((gw_Ch (gw_z X) 240 (fun j => nI (ch j)))) := by rw [eσ1, gw_up_ne (by omega)]; exact h1
      have fr : gw_fr σ σ1 t (t + 2) := gw_fr_tr fr (show gw_fr _ σ1 t (t + 2) by rw [eσ1]; exact gw_fr_up _ _ _ (by omega) (by omega))
      refine gw_iconst (v := nI 1) hX nd_Te_keep_19 rfl ?_
      exact gw_zret hX hQ hr nd_Te_keep_20 rfl (by decide) (by decide) ⟨Or.inl ⟨c, rfl, by omega, rfl, ⟨h0, h1⟩⟩, fr⟩
    · have hb : ¬ c ≤ len := fun h => hb ((nI_leI (a := c) (b := len) (by omega) (by omega)).mpr h)
      refine gw_iconst (v := nI 0) hX nd_Te_keep_12 rfl ?_
      exact gw_zret hX hQ hr nd_Te_keep_13 rfl (by decide) (by decide) ⟨Or.inr ⟨fun c2 hc2 e => hb (by have := (nI_eq hc (by omega)).mp e; omega), rfl, h⟩, fr⟩
set_option maxRecDepth 100000 in
set_option maxHeartbeats 4000000 in
theorem lp_Te_append2 {X : gw_C} (t len k c : Nat) (w : Int64) (ch : Nat → Nat) (hlen : len ≤ 240) (hc : c ≤ 8) (hc1 : 1 ≤ c) (hcl : c + len ≤ 240) (σ0 : gw_S) (hok : ∀ j, j < c → 32 ≤ by_at w j ∧ by_at w j ≤ 126) (hX : gw_ok X nc_Te_append "LabelLearner$Text" (6, 1, 22, 0, 0)) (hQ : X.2.2.2.2 = gw_end X (fun v σ' => ((ap_ok len w (nI c) ∧ v = some (.int (nI 1)) ∧ tx_at σ' (gw_z X) t (len + (nI c).toNatClampNeg) k (ap_ch len w (nI c).toNatClampNeg ch)) ∨ (¬ ap_ok len w (nI c) ∧ v = some (.int (nI 0)) ∧ tx_at σ' (gw_z X) t len k ch)) ∧ gw_fr σ0 σ' t (t + 2)) 0 0) (hr : X.2.2.1.1.sig.returnType = (some .boolean)) : ∀ (m : Nat) (j : Nat) (σ : gw_S), j + m = c → tx_at σ (gw_z X) t len k (ap_ch len w j ch) → gw_fr σ0 σ t (t + 2) → gw_W X σ 0 0 67 [(4, .int (nI j)), (0, .ref t), (1, .long w), (3, .int (nI c))] [] := by
  intro m
  induction m using Nat.strongRecOn with
  | ind m ih =>
    intro j σ
    intro hm h fr
    obtain ⟨h0, h1⟩ := id h
    refine gw_iload hX nd_Te_append_67 0 rfl ?_
    refine gw_iload_n hX nd_Te_append_69 rfl 3 rfl ?_
    refine gw_icmp_ge (tgt := 98) hX nd_Te_append_70 rfl (fun hb => ?_) (fun hb => ?_)
    · have hb : c ≤ j := (nI_leI (a := c) (b := j) (by omega) (by omega)).mp hb
      refine gw_aload_n hX nd_Te_append_98 rfl 1 rfl ?_
      refine gw_dup hX nd_Te_append_99 rfl ?_
      refine gw_get hX kf_Te_15 nd_Te_append_100 h0 rfl ?_
      refine gw_iload_n hX nd_Te_append_103 rfl 3 rfl ?_
      refine gw_iadd hX nd_Te_append_104 ?_
      refine gw_topi (y := nI (len + c)) (nI_add _ _) ?_
      refine gw_put hX kf_Te_15 nd_Te_append_105 h0 rfl rfl (Nat.le_of_ble_eq_true rfl) (e' := .inr (6, [.ref (t + 1), .int (nI (len + c)), .int (nI k)])) rfl ?_
      obtain ⟨σ1, eσ1⟩ : ∃ hp_, hp_ = gw_up σ t (.inr (6, [.ref (t + 1), .int (nI (len + c)), .int (nI k)])) := ⟨_, rfl⟩
      refine gw_heap eσ1.symm ?_
      have h0 : σ1.2 t = some (.inr (6, [.ref (t + 1), .int (nI (len + c)), .int (nI k)])) := by rw [eσ1]; exact gw_up_eq _ _ _
      have h1 : σ1.2 (t + 1) = some ((gw_Ch (gw_z X) 240 (fun i => nI (ap_ch len w j ch i)))) := by rw [eσ1, gw_up_ne (by omega)]; exact h1
      have fr : gw_fr σ0 σ1 t (t + 2) := gw_fr_tr fr (show gw_fr _ σ1 t (t + 2) by rw [eσ1]; exact gw_fr_up _ _ _ (by omega) (by omega))
      refine gw_iconst (v := nI 1) hX nd_Te_append_108 rfl ?_
      have e := ap_nI (c := c) (by omega)
      have hj : j = c := by omega
      subst hj
      exact gw_zret hX hQ hr nd_Te_append_109 rfl (by decide) (by decide) ⟨Or.inl ⟨⟨by omega, by omega, by omega, fun i hi => hok i (by omega)⟩, rfl, by rw [e.2]; exact ⟨h0, h1⟩⟩, fr⟩
    · have hb : ¬ c ≤ j := fun h => hb ((nI_leI (a := c) (b := j) (by omega) (by omega)).mpr h)
      refine gw_aload_n hX nd_Te_append_73 rfl 1 rfl ?_
      refine gw_get hX kf_Te_9 nd_Te_append_74 h0 rfl ?_
      refine gw_aload_n hX nd_Te_append_77 rfl 1 rfl ?_
      refine gw_get hX kf_Te_15 nd_Te_append_78 h0 rfl ?_
      refine gw_iload hX nd_Te_append_81 0 rfl ?_
      refine gw_iadd hX nd_Te_append_83 ?_
      refine gw_topi (y := nI (len + j)) (nI_add _ _) ?_
      refine gw_lload_n hX nd_Te_append_84 rfl 2 rfl ?_
      refine gw_iload hX nd_Te_append_85 0 rfl ?_
      refine gw_callS (rest := [.int (nI (len + j)), .ref (t + 1)]) hX ks_Te_19 (ct_Te_byteOf X.1.2.1 (gw_z X) (gw_b X) σ w j (by omega)) rfl rfl (Nat.le_of_ble_eq_true rfl) nd_Te_append_87 (by decide) ?_
      rintro v_ s_ ⟨hv_, hs_⟩
      have hs_ := hs_.symm
      subst hs_ hv_
      show gw_W X σ 0 0 90 [(4, .int (nI j)), (0, .ref t), (1, .long w), (3, .int (nI c))] [.int (nI (by_at w j)), .int (nI (len + j)), .ref (t + 1)]
      refine gw_i2c hX nd_Te_append_90 ?_
      refine gw_topi (y := nI (by_at w j)) (ap_i2c (by_lt w j)) ?_
      refine gw_cast hX nd_Te_append_91 h1 (len + j) rfl (by omega) (by decide) (ap_chr (by_lt w j)) ?_
      refine gw_heap (show gw_up σ (t + 1) ((gw_Ch (gw_z X) 240 (upd (fun i => nI (ap_ch len w j ch i)) (len + j) (nI (by_at w j))))) = gw_up σ (t + 1) ((gw_Ch (gw_z X) 240 (fun i => nI (ap_ch len w (j + 1) ch i)))) by rw [show upd (fun i => nI (ap_ch len w j ch i)) (len + j) (nI (by_at w j)) = fun i => nI (ap_ch len w (j + 1) ch i) from ap_ch_s len w j ch]) ?_
      obtain ⟨σ2, eσ2⟩ : ∃ hp_, hp_ = gw_up σ (t + 1) ((gw_Ch (gw_z X) 240 (fun i => nI (ap_ch len w (j + 1) ch i)))) := ⟨_, rfl⟩
      refine gw_heap eσ2.symm ?_
      have h0 : σ2.2 t = some (.inr (6, [.ref (t + 1), .int (nI len), .int (nI k)])) := by rw [eσ2, gw_up_ne (by omega)]; exact h0
      have h1 : σ2.2 (t + 1) = some ((gw_Ch (gw_z X) 240 (fun i => nI (ap_ch len w (j + 1) ch i)))) := by rw [eσ2]; exact gw_up_eq _ _ _
      have fr : gw_fr σ0 σ2 t (t + 2) := gw_fr_tr fr (show gw_fr _ σ2 t (t + 2) by rw [eσ2]; exact gw_fr_up _ _ _ (by omega) (by omega))
      refine gw_iinc hX nd_Te_append_92 0 rfl (v := nI (j + 1)) (show nI j + nI 1 = nI (j + 1) from nI_add _ _) (by decide) (L' := [(4, .int (nI (j + 1))), (0, .ref t), (1, .long w), (3, .int (nI c))]) rfl ?_
      refine gw_goto (tgt := 67) hX nd_Te_append_95 rfl ?_
      refine gw_cut (ks := [0, 1, 2, 3]) (L' := [(4, .int (nI (j + 1))), (0, .ref t), (1, .long w), (3, .int (nI c))]) rfl ?_
      exact ih (m - 1) (by omega) (j + 1) σ2 (by omega) ⟨h0, h1⟩ fr
set_option maxRecDepth 100000 in
set_option maxHeartbeats 4000000 in
theorem lp_Te_append {X : gw_C} (t len k c : Nat) (w : Int64) (ch : Nat → Nat) (hlen : len ≤ 240) (hc : c ≤ 8) (hc1 : 1 ≤ c) (hcl : c + len ≤ 240) (σ0 : gw_S) (hX : gw_ok X nc_Te_append "LabelLearner$Text" (6, 1, 22, 0, 0)) (hQ : X.2.2.2.2 = gw_end X (fun v σ' => ((ap_ok len w (nI c) ∧ v = some (.int (nI 1)) ∧ tx_at σ' (gw_z X) t (len + (nI c).toNatClampNeg) k (ap_ch len w (nI c).toNatClampNeg ch)) ∨ (¬ ap_ok len w (nI c) ∧ v = some (.int (nI 0)) ∧ tx_at σ' (gw_z X) t len k ch)) ∧ gw_fr σ0 σ' t (t + 2)) 0 0) (hr : X.2.2.1.1.sig.returnType = (some .boolean)) : ∀ (m : Nat) (j : Nat) (σ : gw_S), j + m = c → (∀ i, i < j → 32 ≤ by_at w i ∧ by_at w i ≤ 126) → tx_at σ (gw_z X) t len k ch → gw_fr σ0 σ t (t + 2) → gw_W X σ 0 0 28 [(4, .int (nI j)), (0, .ref t), (1, .long w), (3, .int (nI c))] [] := by
  intro m
  induction m using Nat.strongRecOn with
  | ind m ih =>
    intro j σ
    intro hm hok h fr
    have hbl := by_lt w j
    obtain ⟨h0, h1⟩ := id h
    refine gw_iload hX nd_Te_append_28 0 rfl ?_
    refine gw_iload_n hX nd_Te_append_30 rfl 3 rfl ?_
    refine gw_icmp_ge (tgt := 64) hX nd_Te_append_31 rfl (fun hb => ?_) (fun hb => ?_)
    · have hb : c ≤ j := (nI_leI (a := c) (b := j) (by omega) (by omega)).mp hb
      refine gw_iconst (v := nI 0) hX nd_Te_append_64 rfl ?_
      refine gw_istore hX nd_Te_append_65 (by decide) (L' := [(4, .int (nI 0)), (0, .ref t), (1, .long w), (3, .int (nI c))]) rfl ?_
      refine gw_cut (ks := [0, 1, 2, 3]) (L' := [(4, .int (nI 0)), (0, .ref t), (1, .long w), (3, .int (nI c))]) rfl ?_
      exact lp_Te_append2 t len k c w ch hlen hc hc1 hcl σ0 (fun i hi => hok i (by omega)) hX hQ hr c 0 σ (by omega) (by rw [ap_ch_0]; exact h) fr
    · have hb : ¬ c ≤ j := fun h => hb ((nI_leI (a := c) (b := j) (by omega) (by omega)).mpr h)
      refine gw_lload_n hX nd_Te_append_34 rfl 2 rfl ?_
      refine gw_iload hX nd_Te_append_35 0 rfl ?_
      refine gw_callS (rest := []) hX ks_Te_19 (ct_Te_byteOf X.1.2.1 (gw_z X) (gw_b X) σ w j (by omega)) rfl rfl (Nat.le_of_ble_eq_true rfl) nd_Te_append_37 (by decide) ?_
      rintro v_ s_ ⟨hv_, hs_⟩
      have hs_ := hs_.symm
      subst hs_ hv_
      show gw_W X σ 0 0 40 [(4, .int (nI j)), (0, .ref t), (1, .long w), (3, .int (nI c))] [.int (nI (by_at w j))]
      refine gw_istore hX nd_Te_append_40 (by decide) (L' := [(5, .int (nI (by_at w j))), (4, .int (nI j)), (0, .ref t), (1, .long w), (3, .int (nI c))]) rfl ?_
      refine gw_iload hX nd_Te_append_42 0 rfl ?_
      refine gw_bipush (v := nI 32) hX nd_Te_append_44 rfl ?_
      refine gw_icmp_lt (tgt := 56) hX nd_Te_append_46 rfl (fun hb => ?_) (fun hb => ?_)
      · have hb : by_at w j < 32 := (nI_ltI (a := by_at w j) (b := 32) (by omega) (by omega)).mp hb
        refine gw_iconst (v := nI 0) hX nd_Te_append_56 rfl ?_
        exact gw_zret hX hQ hr nd_Te_append_57 rfl (by decide) (by decide) ⟨Or.inr ⟨fun q => by have := q.2.2.2 j (by rw [(ap_nI (c := c) (by omega)).2]; omega); omega, rfl, h⟩, fr⟩
      · have hb : ¬ by_at w j < 32 := fun h => hb ((nI_ltI (a := by_at w j) (b := 32) (by omega) (by omega)).mpr h)
        have hb1 := hb
        refine gw_iload hX nd_Te_append_49 0 rfl ?_
        refine gw_bipush (v := nI 126) hX nd_Te_append_51 rfl ?_
        refine gw_icmp_le (tgt := 58) hX nd_Te_append_53 rfl (fun hb => ?_) (fun hb => ?_)
        · have hb : by_at w j ≤ 126 := (nI_leI (a := by_at w j) (b := 126) (by omega) (by omega)).mp hb
          refine gw_iinc hX nd_Te_append_58 1 rfl (v := nI (j + 1)) (show nI j + nI 1 = nI (j + 1) from nI_add _ _) (by decide) (L' := [(4, .int (nI (j + 1))), (5, .int (nI (by_at w j))), (0, .ref t), (1, .long w), (3, .int (nI c))]) rfl ?_
          refine gw_goto (tgt := 28) hX nd_Te_append_61 rfl ?_
          refine gw_cut (ks := [0, 2, 3, 4]) (L' := [(4, .int (nI (j + 1))), (0, .ref t), (1, .long w), (3, .int (nI c))]) rfl ?_
          refine ih (m - 1) (by omega) (j + 1) σ (by omega) ?_ h fr
          intro i hi
          by_cases e : i = j
          · rw [e]; omega
          · exact hok i (by omega)
        · have hb : ¬ by_at w j ≤ 126 := fun h => hb ((nI_leI (a := by_at w j) (b := 126) (by omega) (by omega)).mpr h)
          refine gw_iconst (v := nI 0) hX nd_Te_append_56 rfl ?_
          exact gw_zret hX hQ hr nd_Te_append_57 rfl (by decide) (by decide) ⟨Or.inr ⟨fun q => by have := q.2.2.2 j (by rw [(ap_nI (c := c) (by omega)).2]; omega); omega, rfl, h⟩, fr⟩
set_option maxRecDepth 100000 in
set_option maxHeartbeats 4000000 in
theorem ct_Te_append (l : Launch) (Z : gw_Z) (b0 : Nat) (σ : gw_S) (t len k : Nat) (w : Int64) (x : Int32) (ch : Nat → Nat) (hlen : len ≤ 240) (h : tx_at σ Z t len k ch) : gw_M l ny_Te_append nc_Te_append (6, 1, 22, 0, 0) (some .boolean) Z b0 σ [.ref t, .long w, .int x] (fun v σ' => ((ap_ok len w (x) ∧ v = some (.int (nI 1)) ∧ tx_at σ' Z t (len + (x).toNatClampNeg) k (ap_ch len w (x).toNatClampNeg ch)) ∨ (¬ ap_ok len w (x) ∧ v = some (.int (nI 0)) ∧ tx_at σ' Z t len k ch)) ∧ gw_fr σ σ' t (t + 2)) := by
  refine gw_M_of rfl (Nat.le_of_ble_eq_true rfl) ?_
  intro X hX hl hz hb0 hr hnm hQ
  subst hz hb0 hl
  have hX : gw_ok X nc_Te_append "LabelLearner$Text" (6, 1, 22, 0, 0) := hX
  show gw_W X σ 0 0 0 [(0, .ref t), (1, .long w), (3, .int x)] []
  obtain ⟨h0, h1⟩ := id h
  refine gw_iload_n hX nd_Te_append_0 rfl 2 rfl ?_
  refine gw_iconst (v := nI 1) hX nd_Te_append_1 rfl ?_
  refine gw_icmp_lt (tgt := 23) hX nd_Te_append_2 rfl (fun hb => ?_) (fun hb => ?_)
  · skip
    refine gw_iconst (v := nI 0) hX nd_Te_append_23 rfl ?_
    exact gw_zret hX hQ hr nd_Te_append_24 rfl (by decide) (by decide) ⟨Or.inr ⟨fun q => ap_lo hb q.1, rfl, h⟩, gw_fr_rf _ _ _⟩
  · skip
    have hb0 := hb
    refine gw_iload_n hX nd_Te_append_5 rfl 2 rfl ?_
    refine gw_bipush (v := nI 8) hX nd_Te_append_6 rfl ?_
    refine gw_icmp_gt (tgt := 23) hX nd_Te_append_8 rfl (fun hb => ?_) (fun hb => ?_)
    · skip
      refine gw_iconst (v := nI 0) hX nd_Te_append_23 rfl ?_
      exact gw_zret hX hQ hr nd_Te_append_24 rfl (by decide) (by decide) ⟨Or.inr ⟨fun q => ap_hi hb q.2.1, rfl, h⟩, gw_fr_rf _ _ _⟩
    · skip
      obtain ⟨c, hc1, hc, rfl⟩ := ap_of hb0 hb
      have e := ap_nI (c := c) (by omega)
      refine gw_iload_n hX nd_Te_append_11 rfl 2 rfl ?_
      refine gw_sipush (v := nI 240) hX nd_Te_append_12 rfl ?_
      refine gw_aload_n hX nd_Te_append_15 rfl 0 rfl ?_
      refine gw_get hX kf_Te_15 nd_Te_append_16 h0 rfl ?_
      refine gw_isub hX nd_Te_append_19 ?_
      refine gw_topi (y := nI (240 - len)) (pk_sub (by omega)) ?_
      refine gw_icmp_le (tgt := 25) hX nd_Te_append_20 rfl (fun hb => ?_) (fun hb => ?_)
      · have hb : c ≤ 240 - len := (nI_leI (a := c) (b := 240 - len) (by omega) (by omega)).mp hb
        refine gw_iconst (v := nI 0) hX nd_Te_append_25 rfl ?_
        refine gw_istore hX nd_Te_append_26 (by decide) (L' := [(4, .int (nI 0)), (0, .ref t), (1, .long w), (3, .int (nI c))]) rfl ?_
        refine gw_cut (ks := [0, 1, 2, 3]) (L' := [(4, .int (nI 0)), (0, .ref t), (1, .long w), (3, .int (nI c))]) rfl ?_
        exact lp_Te_append t len k c w ch hlen hc hc1 (by omega) σ hX hQ hr c 0 σ (by omega) (fun i hi => absurd hi (by omega)) h (gw_fr_rf _ _ _)
      · have hb : ¬ c ≤ 240 - len := fun h => hb ((nI_leI (a := c) (b := 240 - len) (by omega) (by omega)).mpr h)
        refine gw_iconst (v := nI 0) hX nd_Te_append_23 rfl ?_
        exact gw_zret hX hQ hr nd_Te_append_24 rfl (by decide) (by decide) ⟨Or.inr ⟨fun q => by have := q.2.2.1; omega, rfl, h⟩, gw_fr_rf _ _ _⟩
set_option maxRecDepth 100000 in
set_option maxHeartbeats 4000000 in
theorem ct_Te_setFeatures (l : Launch) (Z : gw_Z) (b0 : Nat) (σ : gw_S) (t s len a e b1 b2 w lb : Nat) (ch : Nat → Nat) (b : Nat → Int32) (lab : Int32) (hae : a < e) (he : e ≤ 240) (hb12 : b1 ≤ b2) (hb2 : b2 ≤ 240) (hw : w < 6) (hd : t + 2 ≤ s ∨ s + 2 ≤ t) (h : tx_at σ Z t len e ch) (g0 : σ.2 s = some (.inr (5, [.ref (s + 1), .int lab, .int (nI w)]))) (g1 : σ.2 (s + 1) = some (gw_I Z 18 b)) : gw_M l ny_Te_setFeatures nc_Te_setFeatures (6, 2, 46, 0, 0) none Z b0 σ [.ref t, .ref s, .int (nI a), .int (nI b1), .int (nI b2)] (fun v σ' => v = none ∧ σ'.2 s = some (.inr (5, [.ref (s + 1), .int lab, .int (nI w)])) ∧ σ'.2 (s + 1) = some (gw_I Z 18 (upd (upd (upd b (w * 3 + 0) (nI (px_f ch a e b1 b2 lb).1)) (w * 3 + 1) (nI (px_f ch a e b1 b2 lb).2.1)) (w * 3 + 2) (nI (px_f ch a e b1 b2 lb).2.2.1))) ∧ gw_fr σ σ' s (s + 2)) := by
  refine gw_M_of rfl (Nat.le_of_ble_eq_true rfl) ?_
  intro X hX hl hz hb0 hr hnm hQ
  subst hz hb0 hl
  have hX : gw_ok X nc_Te_setFeatures "LabelLearner$Text" (6, 2, 46, 0, 0) := hX
  show gw_W X σ 0 0 0 [(0, .ref t), (1, .ref s), (2, .int (nI a)), (3, .int (nI b1)), (4, .int (nI b2))] []
  obtain ⟨h0, h1⟩ := id h
  have fr : gw_fr σ σ s (s + 2) := gw_fr_rf _ _ _
  refine gw_iload_n hX nd_Te_setFeatures_0 rfl 2 rfl ?_
  refine gw_aload_n hX nd_Te_setFeatures_1 rfl 0 rfl ?_
  refine gw_get hX kf_Te_23 nd_Te_setFeatures_2 h0 rfl ?_
  refine gw_iconst (v := nI 2) hX nd_Te_setFeatures_5 rfl ?_
  refine gw_isub hX nd_Te_setFeatures_6 ?_
  refine gw_max hX nd_Te_setFeatures_7 (by decide) (Nat.le_of_ble_eq_true rfl) (by decide) (by decide) ?_
  refine gw_topi (y := nI (if e - a > 1 then e - 2 else a)) (tx_max hae he) ?_
  refine gw_istore hX nd_Te_setFeatures_10 (by decide) (L' := [(5, .int (nI (if e - a > 1 then e - 2 else a))), (0, .ref t), (1, .ref s), (2, .int (nI a)), (3, .int (nI b1)), (4, .int (nI b2))]) rfl ?_
  refine gw_aload_n hX nd_Te_setFeatures_12 rfl 2 rfl ?_
  refine gw_aload_n hX nd_Te_setFeatures_13 rfl 2 rfl ?_
  refine gw_get hX kf_Te_71 nd_Te_setFeatures_14 g0 rfl ?_
  refine gw_iconst (v := nI 0) hX nd_Te_setFeatures_17 rfl ?_
  refine gw_aload_n hX nd_Te_setFeatures_18 rfl 1 rfl ?_
  refine gw_bipush (v := nI 7) hX nd_Te_setFeatures_19 rfl ?_
  refine gw_iload_n hX nd_Te_setFeatures_21 rfl 3 rfl ?_
  refine gw_aload_n hX nd_Te_setFeatures_22 rfl 1 rfl ?_
  refine gw_get hX kf_Te_23 nd_Te_setFeatures_23 h0 rfl ?_
  refine gw_callV (rest := [.int (nI 0), .int (nI w), .ref s]) hX ks_Te_78 (ct_Te_hash X.1.2.1 (gw_z X) (gw_b X) σ t len e a e ch 7 (by omega) (by omega) h) h0 rfl rfl (Nat.le_of_ble_eq_true rfl) nd_Te_setFeatures_26 (by decide) ?_
  rintro v_ s_ ⟨hv_, hs_⟩
  have hs_ := hs_.symm
  subst hs_ hv_
  show gw_W X σ 0 0 29 [(5, .int (nI (if e - a > 1 then e - 2 else a))), (0, .ref t), (1, .ref s), (2, .int (nI a)), (3, .int (nI b1)), (4, .int (nI b2))] [.int (px_h ch 7 a (e - a)), .int (nI 0), .int (nI w), .ref s]
  refine gw_callS (rest := [.int (nI 0), .int (nI w), .ref s]) hX ks_Te_82 (ct_Te_bucket X.1.2.1 (gw_z X) (gw_b X) σ (px_h ch 7 a (e - a))) rfl rfl (Nat.le_of_ble_eq_true rfl) nd_Te_setFeatures_29 (by decide) ?_
  rintro v_ s_ ⟨hv_, hs_⟩
  have hs_ := hs_.symm
  subst hs_ hv_
  show gw_W X σ 0 0 32 [(5, .int (nI (if e - a > 1 then e - 2 else a))), (0, .ref t), (1, .ref s), (2, .int (nI a)), (3, .int (nI b1)), (4, .int (nI b2))] [.int (nI ((px_f ch a e b1 b2 lb).1)), .int (nI 0), .int (nI w), .ref s]
  refine gw_callV (rest := []) hX ks_Te_86 (ct_Se_setBucket X.1.2.1 (gw_z X) (gw_b X) σ s w 0 (nI (px_f ch a e b1 b2 lb).1) (b) lab (nI w) g0 g1 (by omega)) g0 rfl rfl (Nat.le_of_ble_eq_true rfl) nd_Te_setFeatures_32 (by decide) ?_
  rintro _ σ1 ⟨rfl, g0, g1, hf⟩
  have h : tx_at σ1 (gw_z X) t len e ch := tx_at_fr h hf (by omega)
  obtain ⟨h0, h1⟩ := id h
  have fr : gw_fr σ σ1 s (s + 2) := gw_fr_tr fr hf
  show gw_W X σ1 0 0 35 [(5, .int (nI (if e - a > 1 then e - 2 else a))), (0, .ref t), (1, .ref s), (2, .int (nI a)), (3, .int (nI b1)), (4, .int (nI b2))] []
  refine gw_aload_n hX nd_Te_setFeatures_35 rfl 2 rfl ?_
  refine gw_aload_n hX nd_Te_setFeatures_36 rfl 2 rfl ?_
  refine gw_get hX kf_Te_71 nd_Te_setFeatures_37 g0 rfl ?_
  refine gw_iconst (v := nI 1) hX nd_Te_setFeatures_40 rfl ?_
  refine gw_aload_n hX nd_Te_setFeatures_41 rfl 1 rfl ?_
  refine gw_bipush (v := nI 7) hX nd_Te_setFeatures_42 rfl ?_
  refine gw_bipush (v := nI 45) hX nd_Te_setFeatures_44 rfl ?_
  refine gw_callS (rest := [.ref t, .int (nI 1), .int (nI w), .ref s]) hX ks_Te_90 (ct_Te_mix X.1.2.1 (gw_z X) (gw_b X) σ1 (nI 7) 45) rfl rfl (Nat.le_of_ble_eq_true rfl) nd_Te_setFeatures_46 (by decide) ?_
  rintro v_ s_ ⟨hv_, hs_⟩
  have hs_ := hs_.symm
  subst hs_ hv_
  show gw_W X σ1 0 0 49 [(5, .int (nI (if e - a > 1 then e - 2 else a))), (0, .ref t), (1, .ref s), (2, .int (nI a)), (3, .int (nI b1)), (4, .int (nI b2))] [.int (31 * 7 + 45), .ref t, .int (nI 1), .int (nI w), .ref s]
  refine gw_iload hX nd_Te_setFeatures_49 0 rfl ?_
  refine gw_aload_n hX nd_Te_setFeatures_51 rfl 1 rfl ?_
  refine gw_get hX kf_Te_23 nd_Te_setFeatures_52 h0 rfl ?_
  refine gw_callV (rest := [.int (nI 1), .int (nI w), .ref s]) hX ks_Te_78 (ct_Te_hash X.1.2.1 (gw_z X) (gw_b X) σ1 t len e (if e - a > 1 then e - 2 else a) e ch (31 * 7 + 45) (by split <;> omega) (by omega) h) h0 rfl rfl (Nat.le_of_ble_eq_true rfl) nd_Te_setFeatures_55 (by decide) ?_
  rintro v_ s_ ⟨hv_, hs_⟩
  have hs_ := hs_.symm
  subst hs_ hv_
  show gw_W X σ1 0 0 58 [(5, .int (nI (if e - a > 1 then e - 2 else a))), (0, .ref t), (1, .ref s), (2, .int (nI a)), (3, .int (nI b1)), (4, .int (nI b2))] [.int (px_h ch (31 * 7 + 45) (if e - a > 1 then e - 2 else a) (e - (if e - a > 1 then e - 2 else a))), .int (nI 1), .int (nI w), .ref s]
  refine gw_callS (rest := [.int (nI 1), .int (nI w), .ref s]) hX ks_Te_82 (ct_Te_bucket X.1.2.1 (gw_z X) (gw_b X) σ1 (px_h ch (31 * 7 + 45) (if e - a > 1 then e - 2 else a) (e - (if e - a > 1 then e - 2 else a)))) rfl rfl (Nat.le_of_ble_eq_true rfl) nd_Te_setFeatures_58 (by decide) ?_
  rintro v_ s_ ⟨hv_, hs_⟩
  have hs_ := hs_.symm
  subst hs_ hv_
  show gw_W X σ1 0 0 61 [(5, .int (nI (if e - a > 1 then e - 2 else a))), (0, .ref t), (1, .ref s), (2, .int (nI a)), (3, .int (nI b1)), (4, .int (nI b2))] [.int (nI ((px_f ch a e b1 b2 lb).2.1)), .int (nI 1), .int (nI w), .ref s]
  refine gw_callV (rest := []) hX ks_Te_86 (ct_Se_setBucket X.1.2.1 (gw_z X) (gw_b X) σ1 s w 1 (nI (px_f ch a e b1 b2 lb).2.1) (upd b (w * 3 + 0) (nI (px_f ch a e b1 b2 lb).1)) lab (nI w) g0 g1 (by omega)) g0 rfl rfl (Nat.le_of_ble_eq_true rfl) nd_Te_setFeatures_61 (by decide) ?_
  rintro _ σ2 ⟨rfl, g0, g1, hf⟩
  have h : tx_at σ2 (gw_z X) t len e ch := tx_at_fr h hf (by omega)
  obtain ⟨h0, h1⟩ := id h
  have fr : gw_fr σ σ2 s (s + 2) := gw_fr_tr fr hf
  show gw_W X σ2 0 0 64 [(5, .int (nI (if e - a > 1 then e - 2 else a))), (0, .ref t), (1, .ref s), (2, .int (nI a)), (3, .int (nI b1)), (4, .int (nI b2))] []
  refine gw_aload_n hX nd_Te_setFeatures_64 rfl 2 rfl ?_
  refine gw_aload_n hX nd_Te_setFeatures_65 rfl 2 rfl ?_
  refine gw_get hX kf_Te_71 nd_Te_setFeatures_66 g0 rfl ?_
  refine gw_iconst (v := nI 2) hX nd_Te_setFeatures_69 rfl ?_
  refine gw_aload_n hX nd_Te_setFeatures_70 rfl 1 rfl ?_
  refine gw_bipush (v := nI 7) hX nd_Te_setFeatures_71 rfl ?_
  refine gw_bipush (v := nI 60) hX nd_Te_setFeatures_73 rfl ?_
  refine gw_callS (rest := [.ref t, .int (nI 2), .int (nI w), .ref s]) hX ks_Te_90 (ct_Te_mix X.1.2.1 (gw_z X) (gw_b X) σ2 (nI 7) 60) rfl rfl (Nat.le_of_ble_eq_true rfl) nd_Te_setFeatures_75 (by decide) ?_
  rintro v_ s_ ⟨hv_, hs_⟩
  have hs_ := hs_.symm
  subst hs_ hv_
  show gw_W X σ2 0 0 78 [(5, .int (nI (if e - a > 1 then e - 2 else a))), (0, .ref t), (1, .ref s), (2, .int (nI a)), (3, .int (nI b1)), (4, .int (nI b2))] [.int (31 * 7 + 60), .ref t, .int (nI 2), .int (nI w), .ref s]
  refine gw_iload_n hX nd_Te_setFeatures_78 rfl 4 rfl ?_
  refine gw_iload hX nd_Te_setFeatures_79 5 rfl ?_
  refine gw_callV (rest := [.int (nI 2), .int (nI w), .ref s]) hX ks_Te_78 (ct_Te_hash X.1.2.1 (gw_z X) (gw_b X) σ2 t len e b1 b2 ch (31 * 7 + 60) (by omega) (by omega) h) h0 rfl rfl (Nat.le_of_ble_eq_true rfl) nd_Te_setFeatures_81 (by decide) ?_
  rintro v_ s_ ⟨hv_, hs_⟩
  have hs_ := hs_.symm
  subst hs_ hv_
  show gw_W X σ2 0 0 84 [(5, .int (nI (if e - a > 1 then e - 2 else a))), (0, .ref t), (1, .ref s), (2, .int (nI a)), (3, .int (nI b1)), (4, .int (nI b2))] [.int (px_h ch (31 * 7 + 60) b1 (b2 - b1)), .int (nI 2), .int (nI w), .ref s]
  refine gw_callS (rest := [.int (nI 2), .int (nI w), .ref s]) hX ks_Te_82 (ct_Te_bucket X.1.2.1 (gw_z X) (gw_b X) σ2 (px_h ch (31 * 7 + 60) b1 (b2 - b1))) rfl rfl (Nat.le_of_ble_eq_true rfl) nd_Te_setFeatures_84 (by decide) ?_
  rintro v_ s_ ⟨hv_, hs_⟩
  have hs_ := hs_.symm
  subst hs_ hv_
  show gw_W X σ2 0 0 87 [(5, .int (nI (if e - a > 1 then e - 2 else a))), (0, .ref t), (1, .ref s), (2, .int (nI a)), (3, .int (nI b1)), (4, .int (nI b2))] [.int (nI ((px_f ch a e b1 b2 lb).2.2.1)), .int (nI 2), .int (nI w), .ref s]
  refine gw_callV (rest := []) hX ks_Te_86 (ct_Se_setBucket X.1.2.1 (gw_z X) (gw_b X) σ2 s w 2 (nI (px_f ch a e b1 b2 lb).2.2.1) (upd (upd b (w * 3 + 0) (nI (px_f ch a e b1 b2 lb).1)) (w * 3 + 1) (nI (px_f ch a e b1 b2 lb).2.1)) lab (nI w) g0 g1 (by omega)) g0 rfl rfl (Nat.le_of_ble_eq_true rfl) nd_Te_setFeatures_87 (by decide) ?_
  rintro _ σ3 ⟨rfl, g0, g1, hf⟩
  have h : tx_at σ3 (gw_z X) t len e ch := tx_at_fr h hf (by omega)
  obtain ⟨h0, h1⟩ := id h
  have fr : gw_fr σ σ3 s (s + 2) := gw_fr_tr fr hf
  show gw_W X σ3 0 0 90 [(5, .int (nI (if e - a > 1 then e - 2 else a))), (0, .ref t), (1, .ref s), (2, .int (nI a)), (3, .int (nI b1)), (4, .int (nI b2))] []
  exact gw_vret hX hQ hr nd_Te_setFeatures_90 (by decide) (by decide) ⟨rfl, g0, g1, fr⟩
set_option maxRecDepth 100000 in
set_option maxHeartbeats 4000000 in
theorem ct_Te_readLabel (l : Launch) (Z : gw_Z) (b0 : Nat) (σ : gw_S) (t s len k w c : Nat) (ch : Nat → Nat) (b : Nat → Int32) (hlen : len ≤ 240) (hk : k ≤ 240) (hch : ∀ j, ch j < 127) (hw : w < 6) (hc : c < 4 ^ w) (hd : t + 2 ≤ s ∨ s + 2 ≤ t) (h : tx_at σ Z t len k ch) (g0 : σ.2 s = some (.inr (5, [.ref (s + 1), .int (nI c), .int (nI w)]))) (g1 : σ.2 (s + 1) = some (gw_I Z 18 b)) : gw_M l ny_Te_readLabel nc_Te_readLabel (3, 2, 41, 0, 0) (some .boolean) Z b0 σ [.ref t, .ref s] (fun v σ' => ((rl_ok len ch k ∧ v = some (.int (nI 1)) ∧ tx_at σ' Z t len (k + 2) ch ∧ σ'.2 s = some (.inr (5, [.ref (s + 1), .int (nI (c + (ch (k + 1) - 65) * 4 ^ w)), .int (nI w)]))) ∨ (¬ rl_ok len ch k ∧ v = some (.int (nI 0)) ∧ (∃ k', k' ≤ 240 ∧ tx_at σ' Z t len k' ch) ∧ σ'.2 s = some (.inr (5, [.ref (s + 1), .int (nI c), .int (nI w)])))) ∧ σ'.2 (s + 1) = some (gw_I Z 18 b) ∧ gw_f2 σ σ' t (t + 2) s (s + 2)) := by
  refine gw_M_of rfl (Nat.le_of_ble_eq_true rfl) ?_
  intro X hX hl hz hb0 hr hnm hQ
  subst hz hb0 hl
  have hX : gw_ok X nc_Te_readLabel "LabelLearner$Text" (3, 2, 41, 0, 0) := hX
  show gw_W X σ 0 0 0 [(0, .ref t), (1, .ref s)] []
  obtain ⟨h0, h1⟩ := id h
  have fr : gw_f2 σ σ t (t + 2) s (s + 2) := gw_f2_rf _ _ _ _ _
  refine gw_aload_n hX nd_Te_readLabel_0 rfl 0 rfl ?_
  refine gw_bipush (v := nI 47) hX nd_Te_readLabel_1 rfl ?_
  refine gw_callV (rest := []) hX ks_Te_39 (ct_Te_take X.1.2.1 (gw_z X) (gw_b X) σ t len k ch hlen hk hch (by omega) 47 (by decide) h) h0 rfl rfl (Nat.le_of_ble_eq_true rfl) nd_Te_readLabel_3 (by decide) ?_
  rintro _ σ1 ⟨rfl, hT, hf⟩
  have g0 : σ1.2 s = some (.inr (5, [.ref (s + 1), .int (nI c), .int (nI w)])) := (hf.2 s (by omega)).trans g0
  have g1 : σ1.2 (s + 1) = some ((gw_I (gw_z X) 18 b)) := (hf.2 (s + 1) (by omega)).trans g1
  have fr : gw_f2 σ σ1 t (t + 2) s (s + 2) := gw_f2_l fr hf
  show gw_W X σ1 0 0 6 [(0, .ref t), (1, .ref s)] [.int (nI (if px_is len ch 47 k then 1 else 0))]
  refine gw_if_ne (tgt := 11) hX nd_Te_readLabel_6 rfl (fun hb => ?_) (fun hb => ?_)
  · skip
    have hp : px_is len ch 47 k = true := by
      cases e : px_is len ch 47 k with
      | true => rfl
      | false => rw [e] at hb; exact absurd rfl hb
    rw [hp] at hT
    have hk1 := (px_is_iff.mp hp).1
    obtain ⟨h0, h1⟩ := id hT
    refine gw_aload_n hX nd_Te_readLabel_11 rfl 0 rfl ?_
    refine gw_callV (rest := []) hX ks_Te_52 (ct_Te_current X.1.2.1 (gw_z X) (gw_b X) σ1 t len (k + 1) ch hlen (by omega) hch ⟨h0, h1⟩) h0 rfl rfl (Nat.le_of_ble_eq_true rfl) nd_Te_readLabel_12 (by decide) ?_
    rintro v_ s_ ⟨hv_, hs_⟩
    have hs_ := hs_.symm
    subst hs_ hv_
    show gw_W X σ1 0 0 15 [(0, .ref t), (1, .ref s)] [.int (tx_c len ch (k + 1))]
    refine gw_bipush (v := nI 65) hX nd_Te_readLabel_15 rfl ?_
    refine gw_isub hX nd_Te_readLabel_17 ?_
    refine gw_istore_n hX nd_Te_readLabel_18 rfl (by decide) (L' := [(2, .int ((tx_c len ch (k + 1)) - nI 65)), (0, .ref t), (1, .ref s)]) rfl ?_
    refine gw_iload_n hX nd_Te_readLabel_19 rfl 0 rfl ?_
    refine gw_if_lt (tgt := 28) hX nd_Te_readLabel_20 rfl (fun hb => ?_) (fun hb => ?_)
    · skip
      refine gw_iconst (v := nI 0) hX nd_Te_readLabel_28 rfl ?_
      exact gw_zret hX hQ hr nd_Te_readLabel_29 rfl (by decide) (by decide) ⟨Or.inr ⟨fun q => rl_neg hch hb ⟨q.2.1, q.2.2.1⟩, rfl, ⟨k + 1, by omega, hT⟩, g0⟩, g1, fr⟩
    · skip
      obtain ⟨hq1, hq2, hq3⟩ := rl_pos hch hb
      have hq4 := hch (k + 1)
      rw [hq3]
      refine gw_iload_n hX nd_Te_readLabel_23 rfl 0 rfl ?_
      refine gw_iconst (v := nI 4) hX nd_Te_readLabel_24 rfl ?_
      refine gw_icmp_lt (tgt := 30) hX nd_Te_readLabel_25 rfl (fun hb => ?_) (fun hb => ?_)
      · have hb : ch (k + 1) - 65 < 4 := (nI_ltI (a := ch (k + 1) - 65) (b := 4) (by omega) (by omega)).mp hb
        refine gw_aload_n hX nd_Te_readLabel_30 rfl 1 rfl ?_
        refine gw_dup hX nd_Te_readLabel_31 rfl ?_
        refine gw_get hX kf_Te_23 nd_Te_readLabel_32 h0 rfl ?_
        refine gw_iconst (v := nI 1) hX nd_Te_readLabel_35 rfl ?_
        refine gw_iadd hX nd_Te_readLabel_36 ?_
        refine gw_topi (y := nI (k + 1 + 1)) (nI_add _ _) ?_
        refine gw_put hX kf_Te_23 nd_Te_readLabel_37 h0 rfl rfl (Nat.le_of_ble_eq_true rfl) (e' := .inr (6, [.ref (t + 1), .int (nI len), .int (nI (k + 1 + 1))])) rfl ?_
        obtain ⟨σ2, eσ2⟩ : ∃ hp_, hp_ = gw_up σ1 t (.inr (6, [.ref (t + 1), .int (nI len), .int (nI (k + 1 + 1))])) := ⟨_, rfl⟩
        refine gw_heap eσ2.symm ?_
        have g0 : σ2.2 s = some (.inr (5, [.ref (s + 1), .int (nI c), .int (nI w)])) := by rw [eσ2, gw_up_ne (by omega)]; exact g0
        have g1 : σ2.2 (s + 1) = some ((gw_I (gw_z X) 18 b)) := by rw [eσ2, gw_up_ne (by omega)]; exact g1
        have h0 : σ2.2 t = some (.inr (6, [.ref (t + 1), .int (nI len), .int (nI (k + 1 + 1))])) := by rw [eσ2]; exact gw_up_eq _ _ _
        have h1 : σ2.2 (t + 1) = some ((gw_Ch (gw_z X) 240 (fun j => nI (ch j)))) := by rw [eσ2, gw_up_ne (by omega)]; exact h1
        have fr : gw_f2 σ σ2 t (t + 2) s (s + 2) := gw_f2_l fr (show gw_fr _ σ2 t (t + 2) by rw [eσ2]; exact gw_fr_up _ _ _ (by omega) (by omega))
        refine gw_aload_n hX nd_Te_readLabel_40 rfl 2 rfl ?_
        refine gw_dup hX nd_Te_readLabel_41 rfl ?_
        refine gw_get hX kf_Te_94 nd_Te_readLabel_42 g0 rfl ?_
        refine gw_iload_n hX nd_Te_readLabel_45 rfl 0 rfl ?_
        refine gw_iconst (v := nI 2) hX nd_Te_readLabel_46 rfl ?_
        refine gw_aload_n hX nd_Te_readLabel_47 rfl 2 rfl ?_
        refine gw_get hX kf_Te_71 nd_Te_readLabel_48 g0 rfl ?_
        refine gw_imul hX nd_Te_readLabel_51 ?_
        refine gw_topi (y := nI (2 * w)) (pk_mul _ _) ?_
        refine gw_ishl hX nd_Te_readLabel_52 ?_
        refine gw_topi (y := nI ((ch (k + 1) - 65) * 4 ^ w)) (lb_shl (by omega) hw) ?_
        refine gw_ior hX nd_Te_readLabel_53 ?_
        refine gw_topi (y := nI (c + (ch (k + 1) - 65) * 4 ^ w)) ((nI_or _ _).trans (by rw [tl_or hc])) ?_
        refine gw_put hX kf_Te_94 nd_Te_readLabel_54 g0 rfl rfl (Nat.le_of_ble_eq_true rfl) (e' := .inr (5, [.ref (s + 1), .int (nI (c + (ch (k + 1) - 65) * 4 ^ w)), .int (nI w)])) rfl ?_
        obtain ⟨σ3, eσ3⟩ : ∃ hp_, hp_ = gw_up σ2 s (.inr (5, [.ref (s + 1), .int (nI (c + (ch (k + 1) - 65) * 4 ^ w)), .int (nI w)])) := ⟨_, rfl⟩
        refine gw_heap eσ3.symm ?_
        have g0 : σ3.2 s = some (.inr (5, [.ref (s + 1), .int (nI (c + (ch (k + 1) - 65) * 4 ^ w)), .int (nI w)])) := by rw [eσ3]; exact gw_up_eq _ _ _
        have g1 : σ3.2 (s + 1) = some ((gw_I (gw_z X) 18 b)) := by rw [eσ3, gw_up_ne (by omega)]; exact g1
        have h0 : σ3.2 t = some (.inr (6, [.ref (t + 1), .int (nI len), .int (nI (k + 1 + 1))])) := by rw [eσ3, gw_up_ne (by omega)]; exact h0
        have h1 : σ3.2 (t + 1) = some ((gw_Ch (gw_z X) 240 (fun j => nI (ch j)))) := by rw [eσ3, gw_up_ne (by omega)]; exact h1
        have fr : gw_f2 σ σ3 t (t + 2) s (s + 2) := gw_f2_r fr (show gw_fr _ σ3 s (s + 2) by rw [eσ3]; exact gw_fr_up _ _ _ (by omega) (by omega))
        refine gw_iconst (v := nI 1) hX nd_Te_readLabel_57 rfl ?_
        exact gw_zret hX hQ hr nd_Te_readLabel_58 rfl (by decide) (by decide) ⟨Or.inl ⟨⟨hp, hq1, hq2, by omega⟩, rfl, ⟨h0, h1⟩, g0⟩, g1, fr⟩
      · have hb : ¬ ch (k + 1) - 65 < 4 := fun h => hb ((nI_ltI (a := ch (k + 1) - 65) (b := 4) (by omega) (by omega)).mpr h)
        refine gw_iconst (v := nI 0) hX nd_Te_readLabel_28 rfl ?_
        exact gw_zret hX hQ hr nd_Te_readLabel_29 rfl (by decide) (by decide) ⟨Or.inr ⟨fun q => hb (by have := q.2.2.2; omega), rfl, ⟨k + 1, by omega, hT⟩, g0⟩, g1, fr⟩
  · skip
    have hp : px_is len ch 47 k = false := by
      cases e : px_is len ch 47 k with
      | false => rfl
      | true => rw [e] at hb; exact absurd hb (by decide)
    rw [hp] at hT
    refine gw_iconst (v := nI 0) hX nd_Te_readLabel_9 rfl ?_
    exact gw_zret hX hQ hr nd_Te_readLabel_10 rfl (by decide) (by decide) ⟨Or.inr ⟨fun q => absurd q.1 (by rw [hp]; decide), rfl, ⟨k, hk, hT⟩, g0⟩, g1, fr⟩
end
section
/-! pure: how the class's reading of words follows the sentences' -/
/-- what is still to be said of the reading at a loop's head: p: a space stood ahead -/
def rs_R (len : Nat) (ch : Nat → Nat) (lb : Bool) (R : Option (Nat × List px_W)) (p : Bool) (i b be : Nat) (acc : List px_W) : Prop :=
  (p = true → R = px_go len ch lb (8 - acc.length) i b be acc) ∧ (p = false → px_lt len ch i = false → R = some (i, acc)) ∧ (p = false → px_lt len ch i = true → R = none)
theorem rs_no {len : Nat} {ch : Nat → Nat} {lb : Bool} {f i b be : Nat} {acc : List px_W} (h : px_lt len ch i = false) : px_go len ch lb (f + 1) i b be acc = some (i, acc) := by
  simp [px_go, h]
theorem rs_exit {len : Nat} {ch : Nat → Nat} {lb : Bool} {R : Option (Nat × List px_W)} {p : Bool} {i b be : Nat} {acc : List px_W} (h : rs_R len ch lb R p i b be acc) (hl : acc.length ≤ 6) (he : acc.length = 6 ∨ p = false ∨ px_lt len ch i = false) :
    (px_lt len ch i = true → R = none) ∧ (px_lt len ch i = false → R = some (i, acc)) := by
  obtain ⟨h1, h2, h3⟩ := h
  obtain ⟨f, hf⟩ : ∃ f, 8 - acc.length = f + 1 := ⟨7 - acc.length, by omega⟩
  constructor
  · intro hlt
    cases hp : p with
    | false => exact h3 hp hlt
    | true =>
      rw [h1 hp, hf]
      rcases he with h6 | h6 | h6
      · simp [px_go, hlt, h6]
      · rw [hp] at h6; cases h6
      · rw [hlt] at h6; cases h6
  · intro hlt
    cases hp : p with
    | false => exact h2 hp hlt
    | true => rw [h1 hp, hf, rs_no hlt]
/-- the class reads six letters at most -/
theorem rs_word {len : Nat} {ch : Nat → Nat} {i e : Nat} (h1 : i ≤ e) (h2 : e ≤ i + 6) (h3 : ∀ j, i ≤ j → j < e → px_lt len ch j = true) (h4 : e = i + 6 ∨ px_lt len ch e = false) :
    (px_lt len ch e = false ∧ px_word len ch i = e ∧ ¬ e - i > 6) ∨ (px_lt len ch e = true ∧ px_word len ch i - i > 6) := by
  cases h : px_lt len ch e with
  | false => exact Or.inl ⟨rfl, px_word_of ⟨h1, h3, h⟩, by omega⟩
  | true =>
    refine Or.inr ⟨rfl, ?_⟩
    have h5 : e = i + 6 := by
      rcases h4 with h4 | h4
      · exact h4
      · rw [h] at h4; cases h4
    obtain ⟨w1, w2, w3⟩ := px_word_end len ch i
    have h6 : e < px_word len ch i := by
      by_cases h7 : e < px_word len ch i
      · exact h7
      · have h8 : px_word len ch i < e ∨ px_word len ch i = e := by omega
        rcases h8 with h8 | h8
        · rw [h3 _ w1 h8] at w3; cases w3
        · rw [h8, h] at w3; cases w3
    omega
theorem rs_bad {len : Nat} {ch : Nat → Nat} {f i e b be : Nat} {acc : List px_W} (hi : px_lt len ch i = true) (h : (px_lt len ch e = false ∧ px_word len ch i = e ∧ ¬ e - i > 6) ∨ (px_lt len ch e = true ∧ px_word len ch i - i > 6)) (hr : ¬ rl_ok len ch e) : px_go len ch true (f + 1) i b be acc = none := by
  simp only [px_go, hi, if_true]
  rcases h with ⟨h1, h2, h3⟩ | ⟨h1, h2⟩
  · rw [h2]
    by_cases h6 : e - i > 6 ∨ acc.length = 6
    · rw [if_pos h6]
    · rw [if_neg h6, if_neg (fun q => hr ⟨q.1, q.2⟩)]
  · rw [if_pos (Or.inl h2)]
theorem rs_good {len : Nat} {ch : Nat → Nat} {f i e b be : Nat} {acc : List px_W} (hi : px_lt len ch i = true) (h : (px_lt len ch e = false ∧ px_word len ch i = e ∧ ¬ e - i > 6) ∨ (px_lt len ch e = true ∧ px_word len ch i - i > 6)) (hr : rl_ok len ch e) (ha : acc.length < 6) :
    px_go len ch true (f + 1) i b be acc = if px_skip len ch (e + 2) = e + 2 ∧ px_lt len ch (e + 2) = true then none else px_go len ch true f (px_skip len ch (e + 2)) i e (acc ++ [px_f ch i e b be (ch (e + 1) - 65)]) := by
  rcases h with ⟨h1, h2, h3⟩ | ⟨h1, h2⟩
  · rw [px_go]
    simp only [hi, if_true, h2]
    rw [if_neg (show ¬ (e - i > 6 ∨ acc.length = 6) by omega), if_pos (show px_is len ch 47 e = true ∧ _ from hr)]
  · have h5 := (px_is_iff.mp hr.1).2
    have h6 := (px_lt_iff.mp h1).2
    omega
theorem rs_plain {len : Nat} {ch : Nat → Nat} {f i e b be : Nat} {acc : List px_W} (hi : px_lt len ch i = true) (h : (px_lt len ch e = false ∧ px_word len ch i = e ∧ ¬ e - i > 6) ∨ (px_lt len ch e = true ∧ px_word len ch i - i > 6)) (ha : acc.length < 6) :
    px_go len ch false (f + 1) i b be acc = if px_lt len ch e = true then none else px_go len ch false f (px_skip len ch e) i e (acc ++ [px_f ch i e b be 0]) := by
  rw [px_go]
  simp only [hi, if_true]
  rcases h with ⟨h1, h2, h3⟩ | ⟨h1, h2⟩
  · rw [h2, h1, if_neg (show ¬ (e - i > 6 ∨ acc.length = 6) by omega)]
    rfl
  · rw [h1, if_pos (Or.inl h2)]
    rfl
theorem rs_skip_id {len : Nat} {ch : Nat → Nat} {e : Nat} (h : px_lt len ch e = true) : px_skip len ch e = e := by
  refine px_skip_of ⟨Nat.le_refl _, fun j h1 h2 => absurd h2 (by omega), ?_⟩
  cases h2 : px_is len ch 32 e with
  | false => rfl
  | true =>
    have h3 := (px_is_iff.mp h2).2
    have h4 := (px_lt_iff.mp h).2
    omega
theorem rs_skip_ge (len : Nat) (ch : Nat → Nat) (e : Nat) : e ≤ px_skip len ch e := (px_skip_end len ch e).1
theorem rs_skip_le {len : Nat} {ch : Nat → Nat} {e : Nat} (hl : len ≤ 240) (h : e ≤ 240) : px_skip len ch e ≤ 240 := px_end_le (M := 240) (fun j hj => by have := (px_is_iff.mp hj).1; omega) (px_skip_end len ch e) h
/-- behind a word with a label -/
theorem rs_next_t {len : Nat} {ch : Nat → Nat} {R : Option (Nat × List px_W)} {i e b be : Nat} {acc : List px_W} (hR : R = px_go len ch true (8 - acc.length) i b be acc) (hi : px_lt len ch i = true) (h : (px_lt len ch e = false ∧ px_word len ch i = e ∧ ¬ e - i > 6) ∨ (px_lt len ch e = true ∧ px_word len ch i - i > 6)) (hr : rl_ok len ch e) (ha : acc.length < 6) :
    rs_R len ch true R (decide (e + 2 < px_skip len ch (e + 2))) (px_skip len ch (e + 2)) i e (acc ++ [px_f ch i e b be (ch (e + 1) - 65)]) := by
  have hf : 8 - acc.length = (8 - (acc ++ [px_f ch i e b be (ch (e + 1) - 65)]).length) + 1 := by
    rw [List.length_append, List.length_singleton]; omega
  obtain ⟨g, hg⟩ : ∃ g, 8 - (acc ++ [px_f ch i e b be (ch (e + 1) - 65)]).length = g + 1 := ⟨6 - acc.length, by rw [List.length_append, List.length_singleton]; omega⟩
  rw [hf, rs_good hi h hr ha] at hR
  have hge := rs_skip_ge len ch (e + 2)
  refine ⟨fun hp => ?_, fun hp hlt => ?_, fun hp hlt => ?_⟩
  · have hp := of_decide_eq_true hp
    rw [if_neg (by omega)] at hR
    exact hR
  · have hp := of_decide_eq_false hp
    have he : px_skip len ch (e + 2) = e + 2 := by omega
    rw [if_neg (by rw [← he, hlt]; simp), hg, rs_no hlt] at hR
    exact hR
  · have hp := of_decide_eq_false hp
    have he : px_skip len ch (e + 2) = e + 2 := by omega
    rw [if_pos ⟨he, by rw [← he]; exact hlt⟩] at hR
    exact hR
/-- behind a word without one -/
theorem rs_next_f {len : Nat} {ch : Nat → Nat} {R : Option (Nat × List px_W)} {i e b be : Nat} {acc : List px_W} (hR : R = px_go len ch false (8 - acc.length) i b be acc) (hi : px_lt len ch i = true) (h : (px_lt len ch e = false ∧ px_word len ch i = e ∧ ¬ e - i > 6) ∨ (px_lt len ch e = true ∧ px_word len ch i - i > 6)) (ha : acc.length < 6) :
    rs_R len ch false R (decide (e < px_skip len ch e)) (px_skip len ch e) i e (acc ++ [px_f ch i e b be 0]) := by
  have hf : 8 - acc.length = (8 - (acc ++ [px_f ch i e b be 0]).length) + 1 := by
    rw [List.length_append, List.length_singleton]; omega
  obtain ⟨g, hg⟩ : ∃ g, 8 - (acc ++ [px_f ch i e b be 0]).length = g + 1 := ⟨6 - acc.length, by rw [List.length_append, List.length_singleton]; omega⟩
  rw [hf, rs_plain hi h ha] at hR
  have hge := rs_skip_ge len ch e
  refine ⟨fun hp => ?_, fun hp hlt => ?_, fun hp hlt => ?_⟩
  · have hp := of_decide_eq_true hp
    have h1 : ¬ px_lt len ch e = true := fun q => by rw [rs_skip_id q] at hp; omega
    rw [if_neg h1] at hR
    exact hR
  · have hp := of_decide_eq_false hp
    have he : px_skip len ch e = e := by omega
    rw [if_neg (by rw [← he, hlt]; simp), hg, rs_no hlt] at hR
    exact hR
  · have hp := of_decide_eq_false hp
    have he : px_skip len ch e = e := by omega
    rw [if_pos (by rw [← he]; exact hlt)] at hR
    exact hR
/-- what a reading of a sentence leaves -/
def rs_post (σ0 σ' : gw_S) (Z : gw_Z) (t s len : Nat) (ch : Nat → Nat) (R : Option (Nat × List px_W)) (v : Option Value) : Prop :=
  ((∃ (k : Nat) (ws : List px_W), R = some (k, ws) ∧ ws ≠ [] ∧ v = some (.int (nI 1)) ∧ k ≤ 240 ∧ tx_at σ' Z t len k ch ∧ se_at σ' Z s ws ∧ se_ok ws ∧ ws.length ≤ 6) ∨
   ((∀ (k : Nat) (ws : List px_W), R = some (k, ws) → ws = []) ∧ se_any σ' Z s ∧ ∃ k, k ≤ 240 ∧ tx_at σ' Z t len k ch ∧ (v = some (.int (nI 0)) ∨ (v = some (.int (nI 1)) ∧ px_lt len ch k = true)))) ∧ gw_f2 σ0 σ' t (t + 2) s (s + 2)
theorem rs_end1 {σ0 σ' : gw_S} {Z : gw_Z} {t s len i : Nat} {ch : Nat → Nat} {R : Option (Nat × List px_W)} {acc : List px_W} (hx : (px_lt len ch i = true → R = none) ∧ (px_lt len ch i = false → R = some (i, acc))) (hi : i ≤ 240) (h : tx_at σ' Z t len i ch) (hs : se_at σ' Z s acc) (ho : se_ok acc) (hl : acc.length ≤ 6) (hf : gw_f2 σ0 σ' t (t + 2) s (s + 2)) (ha : 0 < acc.length) : rs_post σ0 σ' Z t s len ch R (some (.int (nI 1))) := by
  refine ⟨?_, hf⟩
  cases e : px_lt len ch i with
  | true =>
    have hn := hx.1 e
    exact Or.inr ⟨fun k ws q => (by rw [hn] at q; cases q), se_at_any hs, i, hi, h, Or.inr ⟨rfl, e⟩⟩
  | false => exact Or.inl ⟨i, acc, hx.2 e, fun q => (by rw [q] at ha; exact absurd ha (by decide)), rfl, hi, h, hs, ho, hl⟩
theorem rs_end0 {σ0 σ' : gw_S} {Z : gw_Z} {t s len i : Nat} {ch : Nat → Nat} {R : Option (Nat × List px_W)} {acc : List px_W} (hx : (px_lt len ch i = true → R = none) ∧ (px_lt len ch i = false → R = some (i, acc))) (hi : i ≤ 240) (h : tx_at σ' Z t len i ch) (hs : se_at σ' Z s acc) (hf : gw_f2 σ0 σ' t (t + 2) s (s + 2)) (ha : ¬ 0 < acc.length) : rs_post σ0 σ' Z t s len ch R (some (.int (nI 0))) := by
  refine ⟨Or.inr ⟨fun k ws q => ?_, se_at_any hs, i, hi, h, Or.inl rfl⟩, hf⟩
  cases e : px_lt len ch i with
  | true => rw [hx.1 e] at q; cases q
  | false =>
    rw [hx.2 e] at q
    cases q
    exact List.eq_nil_of_length_eq_zero (by omega)
end
section
theorem gw_head {X : gw_C} {σ : gw_S} {ce sl pc : Nat} {L L' : List (Nat × Value)} {st : List Value} (h : L' = L) (k : gw_W X σ ce sl pc L' st) : gw_W X σ ce sl pc L st := h ▸ k
set_option maxRecDepth 100000 in
set_option maxHeartbeats 4000000 in
theorem lp_Te_readSentence_t {X : gw_C} (t s len : Nat) (ch : Nat → Nat) (hlen : len ≤ 240) (hch : ∀ j, ch j < 127) (hd : t + 2 ≤ s ∨ s + 2 ≤ t) (σ0 : gw_S) (R : Option (Nat × List px_W)) (hX : gw_ok X nc_Te_readSentence "LabelLearner$Text" (8, 3, 71, 0, 0)) (hQ : X.2.2.2.2 = gw_end X (fun v σ' => rs_post σ0 σ' (gw_z X) t s len ch R v) 0 0) (hr : X.2.2.1.1.sig.returnType = some .boolean) : ∀ (m : Nat) (acc : List px_W) (p : Bool) (i bf be : Nat) (σ : gw_S) (b : Nat → Int32), acc.length + m = 6 → rs_R len ch true R p i bf be acc → i ≤ 240 → bf ≤ be → be ≤ 240 → se_ok acc → tx_at σ (gw_z X) t len i ch → σ.2 s = some (.inr (5, [.ref (s + 1), .int (nI (se_c acc)), .int (nI acc.length)])) → σ.2 (s + 1) = some (gw_I (gw_z X) 18 b) → se_bk b acc → gw_f2 σ0 σ t (t + 2) s (s + 2) → gw_W X σ 0 0 26 [(6, .int (nI acc.length)), (5, .int (nI (if p = true then 1 else 0))), (4, .int (nI be)), (3, .int (nI bf)), (0, .ref t), (1, .ref s), (2, .int (nI 1))] [] := by
  intro m
  induction m using Nat.strongRecOn with
  | ind m ih =>
    intro acc p i bf be σ b hm hR hi hbb hbe ho h g0 g1 hbk fr
    obtain ⟨h0, h1⟩ := id h
    refine gw_iload hX nd_Te_readSentence_26 0 rfl ?_
    refine gw_bipush (v := nI 6) hX nd_Te_readSentence_28 rfl ?_
    refine gw_icmp_ge (tgt := 111) hX nd_Te_readSentence_30 rfl (fun hb => ?_) (fun hb => ?_)
    · have hb : 6 ≤ acc.length := (nI_leI (a := 6) (b := acc.length) (by omega) (by omega)).mp hb
      have hx := rs_exit hR (by omega) (Or.inl (by omega))
      refine gw_aload_n hX nd_Te_readSentence_111 rfl 5 rfl ?_
      refine gw_get hX kf_Te_71 nd_Te_readSentence_112 g0 rfl ?_
      refine gw_if_le (tgt := 122) hX nd_Te_readSentence_115 rfl (fun hb => ?_) (fun hb => ?_)
      · have hb : acc.length ≤ 0 := (nI_leI (a := acc.length) (b := 0) (by omega) (by omega)).mp hb
        refine gw_iconst (v := nI 0) hX nd_Te_readSentence_122 rfl ?_
        exact gw_zret hX hQ hr nd_Te_readSentence_123 rfl (by decide) (by decide) (rs_end0 hx hi h ⟨b, g0, g1, hbk⟩ fr (by omega))
      · have hb : ¬ acc.length ≤ 0 := fun h => hb ((nI_leI (a := acc.length) (b := 0) (by omega) (by omega)).mpr h)
        refine gw_iconst (v := nI 1) hX nd_Te_readSentence_118 rfl ?_
        refine gw_goto (tgt := 123) hX nd_Te_readSentence_119 rfl ?_
        exact gw_zret hX hQ hr nd_Te_readSentence_123 rfl (by decide) (by decide) (rs_end1 hx hi h ⟨b, g0, g1, hbk⟩ ho (by omega) fr (by omega))
    · have hb : ¬ 6 ≤ acc.length := fun h => hb ((nI_leI (a := 6) (b := acc.length) (by omega) (by omega)).mpr h)
      refine gw_iload hX nd_Te_readSentence_33 1 rfl ?_
      refine gw_if_eq (tgt := 111) hX nd_Te_readSentence_35 rfl (fun hb => ?_) (fun hb => ?_)
      · skip
        have hp : p = false := by
          cases e : p with
          | false => rfl
          | true => rw [e] at hb; exact absurd hb (by decide)
        have hx := rs_exit hR (by omega) (Or.inr (Or.inl hp))
        refine gw_aload_n hX nd_Te_readSentence_111 rfl 5 rfl ?_
        refine gw_get hX kf_Te_71 nd_Te_readSentence_112 g0 rfl ?_
        refine gw_if_le (tgt := 122) hX nd_Te_readSentence_115 rfl (fun hb => ?_) (fun hb => ?_)
        · have hb : acc.length ≤ 0 := (nI_leI (a := acc.length) (b := 0) (by omega) (by omega)).mp hb
          refine gw_iconst (v := nI 0) hX nd_Te_readSentence_122 rfl ?_
          exact gw_zret hX hQ hr nd_Te_readSentence_123 rfl (by decide) (by decide) (rs_end0 hx hi h ⟨b, g0, g1, hbk⟩ fr (by omega))
        · have hb : ¬ acc.length ≤ 0 := fun h => hb ((nI_leI (a := acc.length) (b := 0) (by omega) (by omega)).mpr h)
          refine gw_iconst (v := nI 1) hX nd_Te_readSentence_118 rfl ?_
          refine gw_goto (tgt := 123) hX nd_Te_readSentence_119 rfl ?_
          exact gw_zret hX hQ hr nd_Te_readSentence_123 rfl (by decide) (by decide) (rs_end1 hx hi h ⟨b, g0, g1, hbk⟩ ho (by omega) fr (by omega))
      · skip
        have hp : p = true := by
          cases e : p with
          | true => rfl
          | false => rw [e] at hb; exact absurd rfl hb
        have hR1 := hR.1 hp
        refine gw_aload_n hX nd_Te_readSentence_38 rfl 4 rfl ?_
        refine gw_callV (rest := []) hX ks_Te_52 (ct_Te_current X.1.2.1 (gw_z X) (gw_b X) σ t len i ch hlen hi hch h) h0 rfl rfl (Nat.le_of_ble_eq_true rfl) nd_Te_readSentence_39 (by decide) ?_
        rintro v_ s_ ⟨hv_, hs_⟩
        have hs_ := hs_.symm
        subst hs_ hv_
        show gw_W X σ 0 0 42 [(6, .int (nI acc.length)), (5, .int (nI (if p = true then 1 else 0))), (4, .int (nI be)), (3, .int (nI bf)), (0, .ref t), (1, .ref s), (2, .int (nI 1))] [.int (tx_c len ch i)]
        refine gw_callS (rest := []) hX ks_Te_56 (ct_Te_isLetter X.1.2.1 (gw_z X) (gw_b X) σ (tx_c len ch i)) rfl rfl (Nat.le_of_ble_eq_true rfl) nd_Te_readSentence_42 (by decide) ?_
        rintro v_ s_ ⟨hv_, hs_⟩
        have hs_ := hs_.symm
        subst hs_ hv_
        show gw_W X σ 0 0 45 [(6, .int (nI acc.length)), (5, .int (nI (if p = true then 1 else 0))), (4, .int (nI be)), (3, .int (nI bf)), (0, .ref t), (1, .ref s), (2, .int (nI 1))] [.int (nI (tx_l (tx_c len ch i)))]
        rw [tx_l_c hch]
        refine gw_if_eq (tgt := 111) hX nd_Te_readSentence_45 rfl (fun hb => ?_) (fun hb => ?_)
        · skip
          have hb3 : px_lt len ch i = false := by
            cases e : px_lt len ch i with
            | false => rfl
            | true => rw [e] at hb; exact absurd hb (by decide)
          have hx := rs_exit hR (by omega) (Or.inr (Or.inr hb3))
          refine gw_aload_n hX nd_Te_readSentence_111 rfl 5 rfl ?_
          refine gw_get hX kf_Te_71 nd_Te_readSentence_112 g0 rfl ?_
          refine gw_if_le (tgt := 122) hX nd_Te_readSentence_115 rfl (fun hb => ?_) (fun hb => ?_)
          · have hb : acc.length ≤ 0 := (nI_leI (a := acc.length) (b := 0) (by omega) (by omega)).mp hb
            refine gw_iconst (v := nI 0) hX nd_Te_readSentence_122 rfl ?_
            exact gw_zret hX hQ hr nd_Te_readSentence_123 rfl (by decide) (by decide) (rs_end0 hx hi h ⟨b, g0, g1, hbk⟩ fr (by omega))
          · have hb : ¬ acc.length ≤ 0 := fun h => hb ((nI_leI (a := acc.length) (b := 0) (by omega) (by omega)).mpr h)
            refine gw_iconst (v := nI 1) hX nd_Te_readSentence_118 rfl ?_
            refine gw_goto (tgt := 123) hX nd_Te_readSentence_119 rfl ?_
            exact gw_zret hX hQ hr nd_Te_readSentence_123 rfl (by decide) (by decide) (rs_end1 hx hi h ⟨b, g0, g1, hbk⟩ ho (by omega) fr (by omega))
        · skip
          have hb3 : px_lt len ch i = true := by
            cases e : px_lt len ch i with
            | true => rfl
            | false => rw [e] at hb; exact absurd rfl hb
          obtain ⟨f8, hf8⟩ : ∃ f, 8 - acc.length = f + 1 := ⟨7 - acc.length, by omega⟩
          refine gw_aload_n hX nd_Te_readSentence_48 rfl 4 rfl ?_
          refine gw_get hX kf_Te_23 nd_Te_readSentence_49 h0 rfl ?_
          refine gw_istore hX nd_Te_readSentence_52 (by decide) (L' := [(7, .int (nI i)), (6, .int (nI acc.length)), (5, .int (nI (if p = true then 1 else 0))), (4, .int (nI be)), (3, .int (nI bf)), (0, .ref t), (1, .ref s), (2, .int (nI 1))]) rfl ?_
          refine gw_aload_n hX nd_Te_readSentence_54 rfl 5 rfl ?_
          refine gw_callV (rest := []) hX ks_Te_60 (ct_Te_skipLetters X.1.2.1 (gw_z X) (gw_b X) σ t len i ch hlen hi hch h) h0 rfl rfl (Nat.le_of_ble_eq_true rfl) nd_Te_readSentence_55 (by decide) ?_
          rintro _ σ1 ⟨rfl, ⟨e, he1, he2, he3, he4, he5, h⟩, hf⟩
          have g0 : σ1.2 s = some (.inr (5, [.ref (s + 1), .int (nI (se_c acc)), .int (nI acc.length)])) := (hf.2 s (by omega)).trans g0
          have g1 : σ1.2 (s + 1) = some ((gw_I (gw_z X) 18 b)) := (hf.2 (s + 1) (by omega)).trans g1
          have fr : gw_f2 σ0 σ1 t (t + 2) s (s + 2) := gw_f2_l fr hf
          have hwd := rs_word he1 he2 he4 he5
          have hie : i < e := by
            by_cases q : i < e
            · exact q
            · have q2 : e = i := by omega
              rcases he5 with q3 | q3
              · omega
              · rw [q2, hb3] at q3; cases q3
          obtain ⟨h0, h1⟩ := id h
          show gw_W X σ1 0 0 58 [(7, .int (nI i)), (6, .int (nI acc.length)), (5, .int (nI (if p = true then 1 else 0))), (4, .int (nI be)), (3, .int (nI bf)), (0, .ref t), (1, .ref s), (2, .int (nI 1))] []
          refine gw_aload_n hX nd_Te_readSentence_58 rfl 5 rfl ?_
          refine gw_aload_n hX nd_Te_readSentence_59 rfl 6 rfl ?_
          refine gw_iload hX nd_Te_readSentence_60 0 rfl ?_
          refine gw_iload_n hX nd_Te_readSentence_62 rfl 4 rfl ?_
          refine gw_iload hX nd_Te_readSentence_63 3 rfl ?_
          refine gw_callV (rest := []) hX ks_Te_63 (ct_Te_setFeatures X.1.2.1 (gw_z X) (gw_b X) σ1 t s len i e bf be acc.length (ch (e + 1) - 65) ch b (nI (se_c acc)) hie he3 hbb (by omega) (by omega) hd h g0 g1) h0 rfl rfl (Nat.le_of_ble_eq_true rfl) nd_Te_readSentence_65 (by decide) ?_
          rintro _ σ2 ⟨rfl, g0, g1, hf⟩
          have h : tx_at σ2 (gw_z X) t len e ch := tx_at_fr h hf (by omega)
          obtain ⟨h0, h1⟩ := id h
          have fr : gw_f2 σ0 σ2 t (t + 2) s (s + 2) := gw_f2_r fr hf
          show gw_W X σ2 0 0 68 [(7, .int (nI i)), (6, .int (nI acc.length)), (5, .int (nI (if p = true then 1 else 0))), (4, .int (nI be)), (3, .int (nI bf)), (0, .ref t), (1, .ref s), (2, .int (nI 1))] []
          refine gw_iload hX nd_Te_readSentence_68 0 rfl ?_
          refine gw_istore_n hX nd_Te_readSentence_70 rfl (by decide) (L' := [(3, .int (nI i)), (7, .int (nI i)), (6, .int (nI acc.length)), (5, .int (nI (if p = true then 1 else 0))), (4, .int (nI be)), (0, .ref t), (1, .ref s), (2, .int (nI 1))]) rfl ?_
          refine gw_aload_n hX nd_Te_readSentence_71 rfl 5 rfl ?_
          refine gw_get hX kf_Te_23 nd_Te_readSentence_72 h0 rfl ?_
          refine gw_istore hX nd_Te_readSentence_75 (by decide) (L' := [(4, .int (nI e)), (3, .int (nI i)), (7, .int (nI i)), (6, .int (nI acc.length)), (5, .int (nI (if p = true then 1 else 0))), (0, .ref t), (1, .ref s), (2, .int (nI 1))]) rfl ?_
          refine gw_iload_n hX nd_Te_readSentence_77 rfl 7 rfl ?_
          refine gw_if_eq (tgt := 91) hX nd_Te_readSentence_78 rfl (fun hb => ?_) (fun hb => ?_)
          · have hb : 1 = 0 := (nI_eq (a := 1) (b := 0) (by omega) (by omega)).mp hb
            exfalso; omega
          · have hb : ¬ 1 = 0 := fun h => hb ((nI_eq (a := 1) (b := 0) (by omega) (by omega)).mpr h)
            refine gw_aload_n hX nd_Te_readSentence_81 rfl 5 rfl ?_
            refine gw_aload_n hX nd_Te_readSentence_82 rfl 6 rfl ?_
            refine gw_callV (rest := []) hX ks_Te_67 (ct_Te_readLabel X.1.2.1 (gw_z X) (gw_b X) σ2 t s len e acc.length (se_c acc) ch _ hlen he3 hch (by omega) (se_c_lt ho) hd h g0 g1) h0 rfl rfl (Nat.le_of_ble_eq_true rfl) nd_Te_readSentence_83 (by decide) ?_
            rintro _ σ3 ⟨⟨hok, rfl, h, g0⟩ | ⟨hok, rfl, ⟨k9, hk9, h⟩, g0⟩, g1, hf⟩
            rotate_left
            · show gw_W X σ3 0 0 86 [(4, .int (nI e)), (3, .int (nI i)), (7, .int (nI i)), (6, .int (nI acc.length)), (5, .int (nI (if p = true then 1 else 0))), (0, .ref t), (1, .ref s), (2, .int (nI 1))] [.int (nI 0)]
              have fr : gw_f2 σ0 σ3 t (t + 2) s (s + 2) := gw_f2_tr fr hf
              refine gw_if_ne (tgt := 91) hX nd_Te_readSentence_86 rfl (fun hb => ?_) (fun hb => ?_)
              · have hb : ¬ 0 = 0 := fun h => hb ((nI_eq (a := 0) (b := 0) (by omega) (by omega)).mpr h)
                exfalso; omega
              · have hb : 0 = 0 := (nI_eq (a := 0) (b := 0) (by omega) (by omega)).mp hb
                refine gw_iconst (v := nI 0) hX nd_Te_readSentence_89 rfl ?_
                exact gw_zret hX hQ hr nd_Te_readSentence_90 rfl (by decide) (by decide) ⟨Or.inr ⟨fun k ws q => (by rw [hR1, hf8, rs_bad hb3 hwd hok] at q; cases q), ⟨_, _, _, g0, g1⟩, k9, hk9, h, Or.inl rfl⟩, fr⟩
            have fr : gw_f2 σ0 σ3 t (t + 2) s (s + 2) := gw_f2_tr fr hf
            obtain ⟨h0, h1⟩ := id h
            show gw_W X σ3 0 0 86 [(4, .int (nI e)), (3, .int (nI i)), (7, .int (nI i)), (6, .int (nI acc.length)), (5, .int (nI (if p = true then 1 else 0))), (0, .ref t), (1, .ref s), (2, .int (nI 1))] [.int (nI 1)]
            have hlen2 := hok.2.1
            refine gw_if_ne (tgt := 91) hX nd_Te_readSentence_86 rfl (fun hb => ?_) (fun hb => ?_)
            · have hb : ¬ 1 = 0 := fun h => hb ((nI_eq (a := 1) (b := 0) (by omega) (by omega)).mpr h)
              refine gw_aload_n hX nd_Te_readSentence_91 rfl 6 rfl ?_
              refine gw_iload hX nd_Te_readSentence_92 3 rfl ?_
              refine gw_iconst (v := nI 1) hX nd_Te_readSentence_94 rfl ?_
              refine gw_iadd hX nd_Te_readSentence_95 ?_
              refine gw_topi (y := nI (acc.length + 1)) (nI_add _ _) ?_
              refine gw_put hX kf_Te_71 nd_Te_readSentence_96 g0 rfl rfl (Nat.le_of_ble_eq_true rfl) (e' := .inr (5, [.ref (s + 1), .int (nI (se_c acc + (ch (e + 1) - 65) * 4 ^ acc.length)), .int (nI (acc.length + 1))])) rfl ?_
              obtain ⟨σ4, eσ4⟩ : ∃ hp_, hp_ = gw_up σ3 s (.inr (5, [.ref (s + 1), .int (nI (se_c acc + (ch (e + 1) - 65) * 4 ^ acc.length)), .int (nI (acc.length + 1))])) := ⟨_, rfl⟩
              refine gw_heap eσ4.symm ?_
              have h0 : σ4.2 t = some (.inr (6, [.ref (t + 1), .int (nI len), .int (nI (e + 2))])) := by rw [eσ4, gw_up_ne (by omega)]; exact h0
              have h1 : σ4.2 (t + 1) = some ((gw_Ch (gw_z X) 240 (fun j => nI (ch j)))) := by rw [eσ4, gw_up_ne (by omega)]; exact h1
              have g0 : σ4.2 s = some (.inr (5, [.ref (s + 1), .int (nI (se_c acc + (ch (e + 1) - 65) * 4 ^ acc.length)), .int (nI (acc.length + 1))])) := by rw [eσ4]; exact gw_up_eq _ _ _
              have g1 : σ4.2 (s + 1) = some ((gw_I (gw_z X) 18 (upd (upd (upd b (acc.length * 3 + 0) (nI (px_f ch i e bf be (ch (e + 1) - 65)).1)) (acc.length * 3 + 1) (nI (px_f ch i e bf be (ch (e + 1) - 65)).2.1)) (acc.length * 3 + 2) (nI (px_f ch i e bf be (ch (e + 1) - 65)).2.2.1)))) := by rw [eσ4, gw_up_ne (by omega)]; exact g1
              have fr : gw_f2 σ0 σ4 t (t + 2) s (s + 2) := gw_f2_r fr (show gw_fr _ σ4 s (s + 2) by rw [eσ4]; exact gw_fr_up _ _ _ (by omega) (by omega))
              refine gw_aload_n hX nd_Te_readSentence_99 rfl 5 rfl ?_
              refine gw_callV (rest := []) hX ks_Te_48 (ct_Te_skipSpaces X.1.2.1 (gw_z X) (gw_b X) σ4 t len (e + 2) ch hlen (by omega) hch ⟨h0, h1⟩) h0 rfl rfl (Nat.le_of_ble_eq_true rfl) nd_Te_readSentence_100 (by decide) ?_
              rintro _ σ5 ⟨rfl, h, hf⟩
              have g0 : σ5.2 s = some (.inr (5, [.ref (s + 1), .int (nI (se_c acc + (ch (e + 1) - 65) * 4 ^ acc.length)), .int (nI (acc.length + 1))])) := (hf.2 s (by omega)).trans g0
              have g1 : σ5.2 (s + 1) = some ((gw_I (gw_z X) 18 (upd (upd (upd b (acc.length * 3 + 0) (nI (px_f ch i e bf be (ch (e + 1) - 65)).1)) (acc.length * 3 + 1) (nI (px_f ch i e bf be (ch (e + 1) - 65)).2.1)) (acc.length * 3 + 2) (nI (px_f ch i e bf be (ch (e + 1) - 65)).2.2.1)))) := (hf.2 (s + 1) (by omega)).trans g1
              have fr : gw_f2 σ0 σ5 t (t + 2) s (s + 2) := gw_f2_l fr hf
              show gw_W X σ5 0 0 103 [(4, .int (nI e)), (3, .int (nI i)), (7, .int (nI i)), (6, .int (nI acc.length)), (5, .int (nI (if p = true then 1 else 0))), (0, .ref t), (1, .ref s), (2, .int (nI 1))] [.int (nI (if e + 2 < px_skip len ch (e + 2) then 1 else 0))]
              refine gw_istore hX nd_Te_readSentence_103 (by decide) (L' := [(5, .int (nI (if e + 2 < px_skip len ch (e + 2) then 1 else 0))), (4, .int (nI e)), (3, .int (nI i)), (7, .int (nI i)), (6, .int (nI acc.length)), (0, .ref t), (1, .ref s), (2, .int (nI 1))]) rfl ?_
              refine gw_iinc hX nd_Te_readSentence_105 4 rfl (v := nI (acc.length + 1)) (show nI acc.length + nI 1 = nI (acc.length + 1) from nI_add _ _) (by decide) (L' := [(6, .int (nI (acc.length + 1))), (5, .int (nI (if e + 2 < px_skip len ch (e + 2) then 1 else 0))), (4, .int (nI e)), (3, .int (nI i)), (7, .int (nI i)), (0, .ref t), (1, .ref s), (2, .int (nI 1))]) rfl ?_
              refine gw_goto (tgt := 26) hX nd_Te_readSentence_108 rfl ?_
              refine gw_cut (ks := [0, 1, 2, 3, 5, 6, 7]) (L' := [(6, .int (nI (acc.length + 1))), (5, .int (nI (if e + 2 < px_skip len ch (e + 2) then 1 else 0))), (4, .int (nI e)), (3, .int (nI i)), (0, .ref t), (1, .ref s), (2, .int (nI 1))]) rfl ?_
              have hlx : (acc ++ [px_f ch i e bf be (ch (e + 1) - 65)]).length = acc.length + 1 := by simp
              have hsc : se_c (acc ++ [px_f ch i e bf be (ch (e + 1) - 65)]) = se_c acc + (ch (e + 1) - 65) * 4 ^ acc.length := se_c_snoc acc _
              refine gw_head ?_ (ih (m - 1) (by omega) (acc ++ [px_f ch i e bf be (ch (e + 1) - 65)]) (decide (e + 2 < px_skip len ch (e + 2))) (px_skip len ch (e + 2)) i e σ5 _ (by rw [hlx]; omega) (rs_next_t hR1 hb3 hwd hok (by omega)) (rs_skip_le hlen (by omega)) (by omega) (by omega) (se_ok_snoc ho (px_f_ok ch i e bf be (by have := hok.2.2; omega))) h (by rw [hsc, hlx]; exact g0) g1 (se_bk_snoc hbk _) fr)
              rw [hlx]
              simp only [decide_eq_true_eq]
            · have hb : 1 = 0 := (nI_eq (a := 1) (b := 0) (by omega) (by omega)).mp hb
              exfalso; omega
set_option maxRecDepth 100000 in
set_option maxHeartbeats 4000000 in
theorem lp_Te_readSentence_f {X : gw_C} (t s len : Nat) (ch : Nat → Nat) (hlen : len ≤ 240) (hch : ∀ j, ch j < 127) (hd : t + 2 ≤ s ∨ s + 2 ≤ t) (σ0 : gw_S) (R : Option (Nat × List px_W)) (hX : gw_ok X nc_Te_readSentence "LabelLearner$Text" (8, 3, 71, 0, 0)) (hQ : X.2.2.2.2 = gw_end X (fun v σ' => rs_post σ0 σ' (gw_z X) t s len ch R v) 0 0) (hr : X.2.2.1.1.sig.returnType = some .boolean) : ∀ (m : Nat) (acc : List px_W) (p : Bool) (i bf be : Nat) (σ : gw_S) (b : Nat → Int32), acc.length + m = 6 → rs_R len ch false R p i bf be acc → i ≤ 240 → bf ≤ be → be ≤ 240 → se_ok acc → tx_at σ (gw_z X) t len i ch → σ.2 s = some (.inr (5, [.ref (s + 1), .int (nI (se_c acc)), .int (nI acc.length)])) → σ.2 (s + 1) = some (gw_I (gw_z X) 18 b) → se_bk b acc → gw_f2 σ0 σ t (t + 2) s (s + 2) → gw_W X σ 0 0 26 [(6, .int (nI acc.length)), (5, .int (nI (if p = true then 1 else 0))), (4, .int (nI be)), (3, .int (nI bf)), (0, .ref t), (1, .ref s), (2, .int (nI 0))] [] := by
  intro m
  induction m using Nat.strongRecOn with
  | ind m ih =>
    intro acc p i bf be σ b hm hR hi hbb hbe ho h g0 g1 hbk fr
    obtain ⟨h0, h1⟩ := id h
    refine gw_iload hX nd_Te_readSentence_26 0 rfl ?_
    refine gw_bipush (v := nI 6) hX nd_Te_readSentence_28 rfl ?_
    refine gw_icmp_ge (tgt := 111) hX nd_Te_readSentence_30 rfl (fun hb => ?_) (fun hb => ?_)
    · have hb : 6 ≤ acc.length := (nI_leI (a := 6) (b := acc.length) (by omega) (by omega)).mp hb
      have hx := rs_exit hR (by omega) (Or.inl (by omega))
      refine gw_aload_n hX nd_Te_readSentence_111 rfl 5 rfl ?_
      refine gw_get hX kf_Te_71 nd_Te_readSentence_112 g0 rfl ?_
      refine gw_if_le (tgt := 122) hX nd_Te_readSentence_115 rfl (fun hb => ?_) (fun hb => ?_)
      · have hb : acc.length ≤ 0 := (nI_leI (a := acc.length) (b := 0) (by omega) (by omega)).mp hb
        refine gw_iconst (v := nI 0) hX nd_Te_readSentence_122 rfl ?_
        exact gw_zret hX hQ hr nd_Te_readSentence_123 rfl (by decide) (by decide) (rs_end0 hx hi h ⟨b, g0, g1, hbk⟩ fr (by omega))
      · have hb : ¬ acc.length ≤ 0 := fun h => hb ((nI_leI (a := acc.length) (b := 0) (by omega) (by omega)).mpr h)
        refine gw_iconst (v := nI 1) hX nd_Te_readSentence_118 rfl ?_
        refine gw_goto (tgt := 123) hX nd_Te_readSentence_119 rfl ?_
        exact gw_zret hX hQ hr nd_Te_readSentence_123 rfl (by decide) (by decide) (rs_end1 hx hi h ⟨b, g0, g1, hbk⟩ ho (by omega) fr (by omega))
    · have hb : ¬ 6 ≤ acc.length := fun h => hb ((nI_leI (a := 6) (b := acc.length) (by omega) (by omega)).mpr h)
      refine gw_iload hX nd_Te_readSentence_33 1 rfl ?_
      refine gw_if_eq (tgt := 111) hX nd_Te_readSentence_35 rfl (fun hb => ?_) (fun hb => ?_)
      · skip
        have hp : p = false := by
          cases e : p with
          | false => rfl
          | true => rw [e] at hb; exact absurd hb (by decide)
        have hx := rs_exit hR (by omega) (Or.inr (Or.inl hp))
        refine gw_aload_n hX nd_Te_readSentence_111 rfl 5 rfl ?_
        refine gw_get hX kf_Te_71 nd_Te_readSentence_112 g0 rfl ?_
        refine gw_if_le (tgt := 122) hX nd_Te_readSentence_115 rfl (fun hb => ?_) (fun hb => ?_)
        · have hb : acc.length ≤ 0 := (nI_leI (a := acc.length) (b := 0) (by omega) (by omega)).mp hb
          refine gw_iconst (v := nI 0) hX nd_Te_readSentence_122 rfl ?_
          exact gw_zret hX hQ hr nd_Te_readSentence_123 rfl (by decide) (by decide) (rs_end0 hx hi h ⟨b, g0, g1, hbk⟩ fr (by omega))
        · have hb : ¬ acc.length ≤ 0 := fun h => hb ((nI_leI (a := acc.length) (b := 0) (by omega) (by omega)).mpr h)
          refine gw_iconst (v := nI 1) hX nd_Te_readSentence_118 rfl ?_
          refine gw_goto (tgt := 123) hX nd_Te_readSentence_119 rfl ?_
          exact gw_zret hX hQ hr nd_Te_readSentence_123 rfl (by decide) (by decide) (rs_end1 hx hi h ⟨b, g0, g1, hbk⟩ ho (by omega) fr (by omega))
      · skip
        have hp : p = true := by
          cases e : p with
          | true => rfl
          | false => rw [e] at hb; exact absurd rfl hb
        have hR1 := hR.1 hp
        refine gw_aload_n hX nd_Te_readSentence_38 rfl 4 rfl ?_
        refine gw_callV (rest := []) hX ks_Te_52 (ct_Te_current X.1.2.1 (gw_z X) (gw_b X) σ t len i ch hlen hi hch h) h0 rfl rfl (Nat.le_of_ble_eq_true rfl) nd_Te_readSentence_39 (by decide) ?_
        rintro v_ s_ ⟨hv_, hs_⟩
        have hs_ := hs_.symm
        subst hs_ hv_
        show gw_W X σ 0 0 42 [(6, .int (nI acc.length)), (5, .int (nI (if p = true then 1 else 0))), (4, .int (nI be)), (3, .int (nI bf)), (0, .ref t), (1, .ref s), (2, .int (nI 0))] [.int (tx_c len ch i)]
        refine gw_callS (rest := []) hX ks_Te_56 (ct_Te_isLetter X.1.2.1 (gw_z X) (gw_b X) σ (tx_c len ch i)) rfl rfl (Nat.le_of_ble_eq_true rfl) nd_Te_readSentence_42 (by decide) ?_
        rintro v_ s_ ⟨hv_, hs_⟩
        have hs_ := hs_.symm
        subst hs_ hv_
        show gw_W X σ 0 0 45 [(6, .int (nI acc.length)), (5, .int (nI (if p = true then 1 else 0))), (4, .int (nI be)), (3, .int (nI bf)), (0, .ref t), (1, .ref s), (2, .int (nI 0))] [.int (nI (tx_l (tx_c len ch i)))]
        rw [tx_l_c hch]
        refine gw_if_eq (tgt := 111) hX nd_Te_readSentence_45 rfl (fun hb => ?_) (fun hb => ?_)
        · skip
          have hb3 : px_lt len ch i = false := by
            cases e : px_lt len ch i with
            | false => rfl
            | true => rw [e] at hb; exact absurd hb (by decide)
          have hx := rs_exit hR (by omega) (Or.inr (Or.inr hb3))
          refine gw_aload_n hX nd_Te_readSentence_111 rfl 5 rfl ?_
          refine gw_get hX kf_Te_71 nd_Te_readSentence_112 g0 rfl ?_
          refine gw_if_le (tgt := 122) hX nd_Te_readSentence_115 rfl (fun hb => ?_) (fun hb => ?_)
          · have hb : acc.length ≤ 0 := (nI_leI (a := acc.length) (b := 0) (by omega) (by omega)).mp hb
            refine gw_iconst (v := nI 0) hX nd_Te_readSentence_122 rfl ?_
            exact gw_zret hX hQ hr nd_Te_readSentence_123 rfl (by decide) (by decide) (rs_end0 hx hi h ⟨b, g0, g1, hbk⟩ fr (by omega))
          · have hb : ¬ acc.length ≤ 0 := fun h => hb ((nI_leI (a := acc.length) (b := 0) (by omega) (by omega)).mpr h)
            refine gw_iconst (v := nI 1) hX nd_Te_readSentence_118 rfl ?_
            refine gw_goto (tgt := 123) hX nd_Te_readSentence_119 rfl ?_
            exact gw_zret hX hQ hr nd_Te_readSentence_123 rfl (by decide) (by decide) (rs_end1 hx hi h ⟨b, g0, g1, hbk⟩ ho (by omega) fr (by omega))
        · skip
          have hb3 : px_lt len ch i = true := by
            cases e : px_lt len ch i with
            | true => rfl
            | false => rw [e] at hb; exact absurd rfl hb
          obtain ⟨f8, hf8⟩ : ∃ f, 8 - acc.length = f + 1 := ⟨7 - acc.length, by omega⟩
          refine gw_aload_n hX nd_Te_readSentence_48 rfl 4 rfl ?_
          refine gw_get hX kf_Te_23 nd_Te_readSentence_49 h0 rfl ?_
          refine gw_istore hX nd_Te_readSentence_52 (by decide) (L' := [(7, .int (nI i)), (6, .int (nI acc.length)), (5, .int (nI (if p = true then 1 else 0))), (4, .int (nI be)), (3, .int (nI bf)), (0, .ref t), (1, .ref s), (2, .int (nI 0))]) rfl ?_
          refine gw_aload_n hX nd_Te_readSentence_54 rfl 5 rfl ?_
          refine gw_callV (rest := []) hX ks_Te_60 (ct_Te_skipLetters X.1.2.1 (gw_z X) (gw_b X) σ t len i ch hlen hi hch h) h0 rfl rfl (Nat.le_of_ble_eq_true rfl) nd_Te_readSentence_55 (by decide) ?_
          rintro _ σ1 ⟨rfl, ⟨e, he1, he2, he3, he4, he5, h⟩, hf⟩
          have g0 : σ1.2 s = some (.inr (5, [.ref (s + 1), .int (nI (se_c acc)), .int (nI acc.length)])) := (hf.2 s (by omega)).trans g0
          have g1 : σ1.2 (s + 1) = some ((gw_I (gw_z X) 18 b)) := (hf.2 (s + 1) (by omega)).trans g1
          have fr : gw_f2 σ0 σ1 t (t + 2) s (s + 2) := gw_f2_l fr hf
          have hwd := rs_word he1 he2 he4 he5
          have hie : i < e := by
            by_cases q : i < e
            · exact q
            · have q2 : e = i := by omega
              rcases he5 with q3 | q3
              · omega
              · rw [q2, hb3] at q3; cases q3
          obtain ⟨h0, h1⟩ := id h
          show gw_W X σ1 0 0 58 [(7, .int (nI i)), (6, .int (nI acc.length)), (5, .int (nI (if p = true then 1 else 0))), (4, .int (nI be)), (3, .int (nI bf)), (0, .ref t), (1, .ref s), (2, .int (nI 0))] []
          refine gw_aload_n hX nd_Te_readSentence_58 rfl 5 rfl ?_
          refine gw_aload_n hX nd_Te_readSentence_59 rfl 6 rfl ?_
          refine gw_iload hX nd_Te_readSentence_60 0 rfl ?_
          refine gw_iload_n hX nd_Te_readSentence_62 rfl 4 rfl ?_
          refine gw_iload hX nd_Te_readSentence_63 3 rfl ?_
          refine gw_callV (rest := []) hX ks_Te_63 (ct_Te_setFeatures X.1.2.1 (gw_z X) (gw_b X) σ1 t s len i e bf be acc.length 0 ch b (nI (se_c acc)) hie he3 hbb (by omega) (by omega) hd h g0 g1) h0 rfl rfl (Nat.le_of_ble_eq_true rfl) nd_Te_readSentence_65 (by decide) ?_
          rintro _ σ2 ⟨rfl, g0, g1, hf⟩
          have h : tx_at σ2 (gw_z X) t len e ch := tx_at_fr h hf (by omega)
          obtain ⟨h0, h1⟩ := id h
          have fr : gw_f2 σ0 σ2 t (t + 2) s (s + 2) := gw_f2_r fr hf
          show gw_W X σ2 0 0 68 [(7, .int (nI i)), (6, .int (nI acc.length)), (5, .int (nI (if p = true then 1 else 0))), (4, .int (nI be)), (3, .int (nI bf)), (0, .ref t), (1, .ref s), (2, .int (nI 0))] []
          refine gw_iload hX nd_Te_readSentence_68 0 rfl ?_
          refine gw_istore_n hX nd_Te_readSentence_70 rfl (by decide) (L' := [(3, .int (nI i)), (7, .int (nI i)), (6, .int (nI acc.length)), (5, .int (nI (if p = true then 1 else 0))), (4, .int (nI be)), (0, .ref t), (1, .ref s), (2, .int (nI 0))]) rfl ?_
          refine gw_aload_n hX nd_Te_readSentence_71 rfl 5 rfl ?_
          refine gw_get hX kf_Te_23 nd_Te_readSentence_72 h0 rfl ?_
          refine gw_istore hX nd_Te_readSentence_75 (by decide) (L' := [(4, .int (nI e)), (3, .int (nI i)), (7, .int (nI i)), (6, .int (nI acc.length)), (5, .int (nI (if p = true then 1 else 0))), (0, .ref t), (1, .ref s), (2, .int (nI 0))]) rfl ?_
          refine gw_iload_n hX nd_Te_readSentence_77 rfl 7 rfl ?_
          refine gw_if_eq (tgt := 91) hX nd_Te_readSentence_78 rfl (fun hb => ?_) (fun hb => ?_)
          · have hb : 0 = 0 := (nI_eq (a := 0) (b := 0) (by omega) (by omega)).mp hb
            refine gw_aload_n hX nd_Te_readSentence_91 rfl 6 rfl ?_
            refine gw_iload hX nd_Te_readSentence_92 3 rfl ?_
            refine gw_iconst (v := nI 1) hX nd_Te_readSentence_94 rfl ?_
            refine gw_iadd hX nd_Te_readSentence_95 ?_
            refine gw_topi (y := nI (acc.length + 1)) (nI_add _ _) ?_
            refine gw_put hX kf_Te_71 nd_Te_readSentence_96 g0 rfl rfl (Nat.le_of_ble_eq_true rfl) (e' := .inr (5, [.ref (s + 1), .int (nI (se_c acc)), .int (nI (acc.length + 1))])) rfl ?_
            obtain ⟨σ3, eσ3⟩ : ∃ hp_, hp_ = gw_up σ2 s (.inr (5, [.ref (s + 1), .int (nI (se_c acc)), .int (nI (acc.length + 1))])) := ⟨_, rfl⟩
            refine gw_heap eσ3.symm ?_
            have h0 : σ3.2 t = some (.inr (6, [.ref (t + 1), .int (nI len), .int (nI e)])) := by rw [eσ3, gw_up_ne (by omega)]; exact h0
            have h1 : σ3.2 (t + 1) = some ((gw_Ch (gw_z X) 240 (fun j => nI (ch j)))) := by rw [eσ3, gw_up_ne (by omega)]; exact h1
            have g0 : σ3.2 s = some (.inr (5, [.ref (s + 1), .int (nI (se_c acc)), .int (nI (acc.length + 1))])) := by rw [eσ3]; exact gw_up_eq _ _ _
            have g1 : σ3.2 (s + 1) = some ((gw_I (gw_z X) 18 (upd (upd (upd b (acc.length * 3 + 0) (nI (px_f ch i e bf be 0).1)) (acc.length * 3 + 1) (nI (px_f ch i e bf be 0).2.1)) (acc.length * 3 + 2) (nI (px_f ch i e bf be 0).2.2.1)))) := by rw [eσ3, gw_up_ne (by omega)]; exact g1
            have fr : gw_f2 σ0 σ3 t (t + 2) s (s + 2) := gw_f2_r fr (show gw_fr _ σ3 s (s + 2) by rw [eσ3]; exact gw_fr_up _ _ _ (by omega) (by omega))
            refine gw_aload_n hX nd_Te_readSentence_99 rfl 5 rfl ?_
            refine gw_callV (rest := []) hX ks_Te_48 (ct_Te_skipSpaces X.1.2.1 (gw_z X) (gw_b X) σ3 t len (e) ch hlen (by omega) hch ⟨h0, h1⟩) h0 rfl rfl (Nat.le_of_ble_eq_true rfl) nd_Te_readSentence_100 (by decide) ?_
            rintro _ σ4 ⟨rfl, h, hf⟩
            have g0 : σ4.2 s = some (.inr (5, [.ref (s + 1), .int (nI (se_c acc)), .int (nI (acc.length + 1))])) := (hf.2 s (by omega)).trans g0
            have g1 : σ4.2 (s + 1) = some ((gw_I (gw_z X) 18 (upd (upd (upd b (acc.length * 3 + 0) (nI (px_f ch i e bf be 0).1)) (acc.length * 3 + 1) (nI (px_f ch i e bf be 0).2.1)) (acc.length * 3 + 2) (nI (px_f ch i e bf be 0).2.2.1)))) := (hf.2 (s + 1) (by omega)).trans g1
            have fr : gw_f2 σ0 σ4 t (t + 2) s (s + 2) := gw_f2_l fr hf
            show gw_W X σ4 0 0 103 [(4, .int (nI e)), (3, .int (nI i)), (7, .int (nI i)), (6, .int (nI acc.length)), (5, .int (nI (if p = true then 1 else 0))), (0, .ref t), (1, .ref s), (2, .int (nI 0))] [.int (nI (if e < px_skip len ch (e) then 1 else 0))]
            refine gw_istore hX nd_Te_readSentence_103 (by decide) (L' := [(5, .int (nI (if e < px_skip len ch (e) then 1 else 0))), (4, .int (nI e)), (3, .int (nI i)), (7, .int (nI i)), (6, .int (nI acc.length)), (0, .ref t), (1, .ref s), (2, .int (nI 0))]) rfl ?_
            refine gw_iinc hX nd_Te_readSentence_105 4 rfl (v := nI (acc.length + 1)) (show nI acc.length + nI 1 = nI (acc.length + 1) from nI_add _ _) (by decide) (L' := [(6, .int (nI (acc.length + 1))), (5, .int (nI (if e < px_skip len ch (e) then 1 else 0))), (4, .int (nI e)), (3, .int (nI i)), (7, .int (nI i)), (0, .ref t), (1, .ref s), (2, .int (nI 0))]) rfl ?_
            refine gw_goto (tgt := 26) hX nd_Te_readSentence_108 rfl ?_
            refine gw_cut (ks := [0, 1, 2, 3, 5, 6, 7]) (L' := [(6, .int (nI (acc.length + 1))), (5, .int (nI (if e < px_skip len ch (e) then 1 else 0))), (4, .int (nI e)), (3, .int (nI i)), (0, .ref t), (1, .ref s), (2, .int (nI 0))]) rfl ?_
            have hlx : (acc ++ [px_f ch i e bf be 0]).length = acc.length + 1 := by simp
            have hsc : se_c (acc ++ [px_f ch i e bf be 0]) = se_c acc + 0 * 4 ^ acc.length := se_c_snoc acc _
            refine gw_head ?_ (ih (m - 1) (by omega) (acc ++ [px_f ch i e bf be 0]) (decide (e < px_skip len ch (e))) (px_skip len ch (e)) i e σ4 _ (by rw [hlx]; omega) (rs_next_f hR1 hb3 hwd (by omega)) (rs_skip_le hlen (by omega)) (by omega) (by omega) (se_ok_snoc ho (px_f_ok ch i e bf be (by decide))) h (by rw [hsc, hlx, Nat.zero_mul, Nat.add_zero]; exact g0) g1 (se_bk_snoc hbk _) fr)
            rw [hlx]
            simp only [decide_eq_true_eq]
          · have hb : ¬ 0 = 0 := fun h => hb ((nI_eq (a := 0) (b := 0) (by omega) (by omega)).mpr h)
            exfalso; omega
set_option maxRecDepth 100000 in
set_option maxHeartbeats 4000000 in
theorem ct_Te_readSentence_t (l : Launch) (Z : gw_Z) (b0 : Nat) (σ : gw_S) (t s len k : Nat) (ch : Nat → Nat) (hlen : len ≤ 240) (hk : k ≤ 240) (hch : ∀ j, ch j < 127) (hd : t + 2 ≤ s ∨ s + 2 ≤ t) (h : tx_at σ Z t len k ch) (hs : se_any σ Z s) : gw_M l ny_Te_readSentence nc_Te_readSentence (8, 3, 71, 0, 0) (some .boolean) Z b0 σ [.ref t, .ref s, .int (nI 1)] (fun v σ' => rs_post σ σ' Z t s len ch (px_go len ch true 8 (px_skip len ch k) (px_skip len ch k) (px_skip len ch k) []) v) := by
  refine gw_M_of rfl (Nat.le_of_ble_eq_true rfl) ?_
  intro X hX hl hz hb0 hr hnm hQ
  subst hz hb0 hl
  have hX : gw_ok X nc_Te_readSentence "LabelLearner$Text" (8, 3, 71, 0, 0) := hX
  show gw_W X σ 0 0 0 [(0, .ref t), (1, .ref s), (2, .int (nI 1))] []
  obtain ⟨b, lab, sz, g0, g1⟩ := id hs
  refine gw_aload_n hX nd_Te_readSentence_0 rfl 1 rfl ?_
  refine gw_callV (rest := []) hX ks_Te_43 (ct_Se_clear X.1.2.1 (gw_z X) (gw_b X) σ s lab sz b g0 g1) g0 rfl rfl (Nat.le_of_ble_eq_true rfl) nd_Te_readSentence_1 (by decide) ?_
  rintro _ σ1 ⟨rfl, g0, g1, hf⟩
  have h : tx_at σ1 (gw_z X) t len k ch := tx_at_fr h hf (by omega)
  have fr : gw_f2 σ σ1 t (t + 2) s (s + 2) := gw_f2_r (gw_f2_rf _ _ _ _ _) hf
  obtain ⟨h0, h1⟩ := id h
  show gw_W X σ1 0 0 4 [(0, .ref t), (1, .ref s), (2, .int (nI 1))] []
  refine gw_aload_n hX nd_Te_readSentence_4 rfl 0 rfl ?_
  refine gw_callV (rest := []) hX ks_Te_48 (ct_Te_skipSpaces X.1.2.1 (gw_z X) (gw_b X) σ1 t len k ch hlen hk hch h) h0 rfl rfl (Nat.le_of_ble_eq_true rfl) nd_Te_readSentence_5 (by decide) ?_
  rintro _ σ2 ⟨rfl, h, hf⟩
  have g0 : σ2.2 s = some (.inr (5, [.ref (s + 1), .int (nI 0), .int (nI 0)])) := (hf.2 s (by omega)).trans g0
  have g1 : σ2.2 (s + 1) = some ((gw_I (gw_z X) 18 b)) := (hf.2 (s + 1) (by omega)).trans g1
  have fr : gw_f2 σ σ2 t (t + 2) s (s + 2) := gw_f2_l fr hf
  obtain ⟨h0, h1⟩ := id h
  show gw_W X σ2 0 0 8 [(0, .ref t), (1, .ref s), (2, .int (nI 1))] [.int (nI (if k < px_skip len ch k then 1 else 0))]
  refine gw_pop hX nd_Te_readSentence_8 rfl ?_
  refine gw_aload_n hX nd_Te_readSentence_9 rfl 0 rfl ?_
  refine gw_get hX kf_Te_23 nd_Te_readSentence_10 h0 rfl ?_
  refine gw_istore_n hX nd_Te_readSentence_13 rfl (by decide) (L' := [(3, .int (nI (px_skip len ch k))), (0, .ref t), (1, .ref s), (2, .int (nI 1))]) rfl ?_
  refine gw_aload_n hX nd_Te_readSentence_14 rfl 1 rfl ?_
  refine gw_get hX kf_Te_23 nd_Te_readSentence_15 h0 rfl ?_
  refine gw_istore hX nd_Te_readSentence_18 (by decide) (L' := [(4, .int (nI (px_skip len ch k))), (3, .int (nI (px_skip len ch k))), (0, .ref t), (1, .ref s), (2, .int (nI 1))]) rfl ?_
  refine gw_iconst (v := nI 1) hX nd_Te_readSentence_20 rfl ?_
  refine gw_istore hX nd_Te_readSentence_21 (by decide) (L' := [(5, .int (nI 1)), (4, .int (nI (px_skip len ch k))), (3, .int (nI (px_skip len ch k))), (0, .ref t), (1, .ref s), (2, .int (nI 1))]) rfl ?_
  refine gw_iconst (v := nI 0) hX nd_Te_readSentence_23 rfl ?_
  refine gw_istore hX nd_Te_readSentence_24 (by decide) (L' := [(6, .int (nI 0)), (5, .int (nI 1)), (4, .int (nI (px_skip len ch k))), (3, .int (nI (px_skip len ch k))), (0, .ref t), (1, .ref s), (2, .int (nI 1))]) rfl ?_
  refine gw_cut (ks := [0, 1, 2, 3, 4, 5, 6]) (L' := [(6, .int (nI 0)), (5, .int (nI 1)), (4, .int (nI (px_skip len ch k))), (3, .int (nI (px_skip len ch k))), (0, .ref t), (1, .ref s), (2, .int (nI 1))]) rfl ?_
  exact lp_Te_readSentence_t t s len ch hlen hch hd σ _ hX hQ hr 6 [] true (px_skip len ch k) (px_skip len ch k) (px_skip len ch k) σ2 b (by simp) ⟨fun _ => rfl, fun q => (by cases q), fun q => (by cases q)⟩ (rs_skip_le hlen hk) (Nat.le_refl _) (rs_skip_le hlen hk) (fun x hx => (by cases hx)) h g0 g1 (fun w x hx => (by simp at hx)) fr
set_option maxRecDepth 100000 in
set_option maxHeartbeats 4000000 in
theorem ct_Te_readSentence_f (l : Launch) (Z : gw_Z) (b0 : Nat) (σ : gw_S) (t s len k : Nat) (ch : Nat → Nat) (hlen : len ≤ 240) (hk : k ≤ 240) (hch : ∀ j, ch j < 127) (hd : t + 2 ≤ s ∨ s + 2 ≤ t) (h : tx_at σ Z t len k ch) (hs : se_any σ Z s) : gw_M l ny_Te_readSentence nc_Te_readSentence (8, 3, 71, 0, 0) (some .boolean) Z b0 σ [.ref t, .ref s, .int (nI 0)] (fun v σ' => rs_post σ σ' Z t s len ch (px_go len ch false 8 (px_skip len ch k) (px_skip len ch k) (px_skip len ch k) []) v) := by
  refine gw_M_of rfl (Nat.le_of_ble_eq_true rfl) ?_
  intro X hX hl hz hb0 hr hnm hQ
  subst hz hb0 hl
  have hX : gw_ok X nc_Te_readSentence "LabelLearner$Text" (8, 3, 71, 0, 0) := hX
  show gw_W X σ 0 0 0 [(0, .ref t), (1, .ref s), (2, .int (nI 0))] []
  obtain ⟨b, lab, sz, g0, g1⟩ := id hs
  refine gw_aload_n hX nd_Te_readSentence_0 rfl 1 rfl ?_
  refine gw_callV (rest := []) hX ks_Te_43 (ct_Se_clear X.1.2.1 (gw_z X) (gw_b X) σ s lab sz b g0 g1) g0 rfl rfl (Nat.le_of_ble_eq_true rfl) nd_Te_readSentence_1 (by decide) ?_
  rintro _ σ1 ⟨rfl, g0, g1, hf⟩
  have h : tx_at σ1 (gw_z X) t len k ch := tx_at_fr h hf (by omega)
  have fr : gw_f2 σ σ1 t (t + 2) s (s + 2) := gw_f2_r (gw_f2_rf _ _ _ _ _) hf
  obtain ⟨h0, h1⟩ := id h
  show gw_W X σ1 0 0 4 [(0, .ref t), (1, .ref s), (2, .int (nI 0))] []
  refine gw_aload_n hX nd_Te_readSentence_4 rfl 0 rfl ?_
  refine gw_callV (rest := []) hX ks_Te_48 (ct_Te_skipSpaces X.1.2.1 (gw_z X) (gw_b X) σ1 t len k ch hlen hk hch h) h0 rfl rfl (Nat.le_of_ble_eq_true rfl) nd_Te_readSentence_5 (by decide) ?_
  rintro _ σ2 ⟨rfl, h, hf⟩
  have g0 : σ2.2 s = some (.inr (5, [.ref (s + 1), .int (nI 0), .int (nI 0)])) := (hf.2 s (by omega)).trans g0
  have g1 : σ2.2 (s + 1) = some ((gw_I (gw_z X) 18 b)) := (hf.2 (s + 1) (by omega)).trans g1
  have fr : gw_f2 σ σ2 t (t + 2) s (s + 2) := gw_f2_l fr hf
  obtain ⟨h0, h1⟩ := id h
  show gw_W X σ2 0 0 8 [(0, .ref t), (1, .ref s), (2, .int (nI 0))] [.int (nI (if k < px_skip len ch k then 1 else 0))]
  refine gw_pop hX nd_Te_readSentence_8 rfl ?_
  refine gw_aload_n hX nd_Te_readSentence_9 rfl 0 rfl ?_
  refine gw_get hX kf_Te_23 nd_Te_readSentence_10 h0 rfl ?_
  refine gw_istore_n hX nd_Te_readSentence_13 rfl (by decide) (L' := [(3, .int (nI (px_skip len ch k))), (0, .ref t), (1, .ref s), (2, .int (nI 0))]) rfl ?_
  refine gw_aload_n hX nd_Te_readSentence_14 rfl 1 rfl ?_
  refine gw_get hX kf_Te_23 nd_Te_readSentence_15 h0 rfl ?_
  refine gw_istore hX nd_Te_readSentence_18 (by decide) (L' := [(4, .int (nI (px_skip len ch k))), (3, .int (nI (px_skip len ch k))), (0, .ref t), (1, .ref s), (2, .int (nI 0))]) rfl ?_
  refine gw_iconst (v := nI 1) hX nd_Te_readSentence_20 rfl ?_
  refine gw_istore hX nd_Te_readSentence_21 (by decide) (L' := [(5, .int (nI 1)), (4, .int (nI (px_skip len ch k))), (3, .int (nI (px_skip len ch k))), (0, .ref t), (1, .ref s), (2, .int (nI 0))]) rfl ?_
  refine gw_iconst (v := nI 0) hX nd_Te_readSentence_23 rfl ?_
  refine gw_istore hX nd_Te_readSentence_24 (by decide) (L' := [(6, .int (nI 0)), (5, .int (nI 1)), (4, .int (nI (px_skip len ch k))), (3, .int (nI (px_skip len ch k))), (0, .ref t), (1, .ref s), (2, .int (nI 0))]) rfl ?_
  refine gw_cut (ks := [0, 1, 2, 3, 4, 5, 6]) (L' := [(6, .int (nI 0)), (5, .int (nI 1)), (4, .int (nI (px_skip len ch k))), (3, .int (nI (px_skip len ch k))), (0, .ref t), (1, .ref s), (2, .int (nI 0))]) rfl ?_
  exact lp_Te_readSentence_f t s len ch hlen hch hd σ _ hX hQ hr 6 [] true (px_skip len ch k) (px_skip len ch k) (px_skip len ch k) σ2 b (by simp) ⟨fun _ => rfl, fun q => (by cases q), fun q => (by cases q)⟩ (rs_skip_le hlen hk) (Nat.le_refl _) (rs_skip_le hlen hk) (fun x hx => (by cases hx)) h g0 g1 (fun w x hx => (by simp at hx)) fr
end
section
/-! what a reading of a corpus leaves, and of a speech -/
def rc_any (σ : gw_S) (Z : gw_Z) (c : Nat) : Prop := ∃ sz : Int32, σ.2 c = some (.inr (2, [.ref (c + 1), .int sz])) ∧ σ.2 (c + 1) = some (gw_Q3 Z 8 (fun j => some (c + 2 + 2 * j))) ∧ ∀ j, j < 8 → se_any σ Z (c + 2 + 2 * j)
def rc_at (σ : gw_S) (Z : gw_Z) (c : Nat) (ss : List (List px_W)) : Prop := σ.2 c = some (.inr (2, [.ref (c + 1), .int (nI ss.length)])) ∧ σ.2 (c + 1) = some (gw_Q3 Z 8 (fun j => some (c + 2 + 2 * j))) ∧ (∀ j, j < 8 → se_any σ Z (c + 2 + 2 * j)) ∧ ∀ (j : Nat) (ws : List px_W), ss[j]? = some ws → se_at σ Z (c + 2 + 2 * j) ws ∧ se_ok ws ∧ ws.length ≤ 6 ∧ ws ≠ []
theorem px_S_some {len : Nat} {ch : Nat → Nat} {lb : Bool} {i k : Nat} {ws : List px_W} (h : px_go len ch lb 8 (px_skip len ch i) (px_skip len ch i) (px_skip len ch i) [] = some (k, ws)) (hw : ws ≠ []) : px_S len ch lb i = some (k, ws) := by
  unfold px_S
  rw [h]
  simp [hw]
theorem px_S_none {len : Nat} {ch : Nat → Nat} {lb : Bool} {i : Nat} (h : ∀ (k : Nat) (ws : List px_W), px_go len ch lb 8 (px_skip len ch i) (px_skip len ch i) (px_skip len ch i) [] = some (k, ws) → ws = []) : px_S len ch lb i = none := by
  unfold px_S
  split
  · rename_i k ws e
    rw [if_pos (h k ws e)]
  · rfl
set_option maxRecDepth 100000 in
set_option maxHeartbeats 4000000 in
theorem ct_Te_readSpeech (l : Launch) (Z : gw_Z) (b0 : Nat) (σ : gw_S) (t s len k0 : Nat) (ch : Nat → Nat) (hlen : len ≤ 240) (hch : ∀ j, ch j < 127) (hd : t + 2 ≤ s ∨ s + 2 ≤ t) (h : tx_at σ Z t len k0 ch) (hs : se_any σ Z s) : gw_M l ny_Te_readSpeech nc_Te_readSpeech (2, 4, 98, 0, 0) (some .boolean) Z b0 σ [.ref t, .ref s] (fun v σ' => ((∃ ws : List px_W, px_S len ch false 0 = some (len, ws) ∧ v = some (.int (nI 1)) ∧ se_at σ' Z s ws ∧ se_ok ws ∧ ws.length ≤ 6 ∧ ws ≠ []) ∨ ((∀ ws : List px_W, px_S len ch false 0 ≠ some (len, ws)) ∧ v = some (.int (nI 0)) ∧ se_any σ' Z s)) ∧ (∃ k', k' ≤ 240 ∧ tx_at σ' Z t len k' ch) ∧ gw_f2 σ σ' t (t + 2) s (s + 2)) := by
  refine gw_M_of rfl (Nat.le_of_ble_eq_true rfl) ?_
  intro X hX hl hz hb0 hr hnm hQ
  subst hz hb0 hl
  have hX : gw_ok X nc_Te_readSpeech "LabelLearner$Text" (2, 4, 98, 0, 0) := hX
  show gw_W X σ 0 0 0 [(0, .ref t), (1, .ref s)] []
  obtain ⟨h0, h1⟩ := id h
  refine gw_aload_n hX nd_Te_readSpeech_0 rfl 0 rfl ?_
  refine gw_iconst (v := nI 0) hX nd_Te_readSpeech_1 rfl ?_
  refine gw_put hX kf_Te_23 nd_Te_readSpeech_2 h0 rfl rfl (Nat.le_of_ble_eq_true rfl) (e' := .inr (6, [.ref (t + 1), .int (nI len), .int (nI 0)])) rfl ?_
  obtain ⟨σ1, eσ1⟩ : ∃ hp_, hp_ = gw_up σ t (.inr (6, [.ref (t + 1), .int (nI len), .int (nI 0)])) := ⟨_, rfl⟩
  refine gw_heap eσ1.symm ?_
  have h0 : σ1.2 t = some (.inr (6, [.ref (t + 1), .int (nI len), .int (nI 0)])) := by rw [eσ1]; exact gw_up_eq _ _ _
  have h1 : σ1.2 (t + 1) = some ((gw_Ch (gw_z X) 240 (fun j => nI (ch j)))) := by rw [eσ1, gw_up_ne (by omega)]; exact h1
  have fr1 : gw_fr σ σ1 t (t + 2) := by rw [eσ1]; exact gw_fr_up _ _ _ (by omega) (by omega)
  refine gw_aload_n hX nd_Te_readSpeech_5 rfl 0 rfl ?_
  refine gw_aload_n hX nd_Te_readSpeech_6 rfl 1 rfl ?_
  refine gw_iconst (v := nI 0) hX nd_Te_readSpeech_7 rfl ?_
  have h : tx_at σ1 (gw_z X) t len 0 ch := ⟨h0, h1⟩
  have hs : se_any σ1 (gw_z X) s := se_any_fr hs fr1 (by omega)
  have fr : gw_f2 σ σ1 t (t + 2) s (s + 2) := gw_f2_l (gw_f2_rf _ _ _ _ _) fr1
  obtain ⟨b9, l9, z9, g9, -⟩ := id hs
  refine gw_callV (rest := []) hX ks_Te_35 (ct_Te_readSentence_f X.1.2.1 (gw_z X) (gw_b X) σ1 t s len 0 ch hlen (by omega) hch hd h hs) h0 rfl rfl (Nat.le_of_ble_eq_true rfl) nd_Te_readSpeech_8 (by decide) ?_
  rintro _ σ2 ⟨⟨k, ws, hR, hne, rfl, hk1, h, hs, hso, hsl⟩ | ⟨hR, hs, k, hk1, h, rfl | ⟨rfl, hlt⟩⟩, hf⟩
  · show gw_W X σ2 0 0 11 [(0, .ref t), (1, .ref s)] [.int (nI 1)]
    have fr : gw_f2 σ σ2 t (t + 2) s (s + 2) := gw_f2_tr fr hf
    obtain ⟨h0, h1⟩ := id h
    refine gw_if_eq (tgt := 29) hX nd_Te_readSpeech_11 rfl (fun hb => ?_) (fun hb => ?_)
    · have hb : 1 = 0 := (nI_eq (a := 1) (b := 0) (by omega) (by omega)).mp hb
      exfalso; omega
    · have hb : ¬ 1 = 0 := fun h => hb ((nI_eq (a := 1) (b := 0) (by omega) (by omega)).mpr h)
      refine gw_aload_n hX nd_Te_readSpeech_14 rfl 0 rfl ?_
      refine gw_get hX kf_Te_23 nd_Te_readSpeech_15 h0 rfl ?_
      refine gw_aload_n hX nd_Te_readSpeech_18 rfl 0 rfl ?_
      refine gw_get hX kf_Te_15 nd_Te_readSpeech_19 h0 rfl ?_
      refine gw_icmp_ne (tgt := 29) hX nd_Te_readSpeech_22 rfl (fun hb => ?_) (fun hb => ?_)
      · have hb : ¬ k = len := fun h => hb ((nI_eq (a := k) (b := len) (by omega) (by omega)).mpr h)
        refine gw_iconst (v := nI 0) hX nd_Te_readSpeech_29 rfl ?_
        exact gw_zret hX hQ hr nd_Te_readSpeech_30 rfl (by decide) (by decide) ⟨Or.inr ⟨fun ws2 q => (by rw [px_S_some hR hne] at q; cases q; exact hb rfl), rfl, se_at_any hs⟩, ⟨k, hk1, h⟩, fr⟩
      · have hb : k = len := (nI_eq (a := k) (b := len) (by omega) (by omega)).mp hb
        refine gw_iconst (v := nI 1) hX nd_Te_readSpeech_25 rfl ?_
        refine gw_goto (tgt := 30) hX nd_Te_readSpeech_26 rfl ?_
        exact gw_zret hX hQ hr nd_Te_readSpeech_30 rfl (by decide) (by decide) ⟨Or.inl ⟨ws, (by rw [px_S_some hR hne, hb]), rfl, hs, hso, hsl, hne⟩, ⟨k, hk1, h⟩, fr⟩
  · show gw_W X σ2 0 0 11 [(0, .ref t), (1, .ref s)] [.int (nI 0)]
    have fr : gw_f2 σ σ2 t (t + 2) s (s + 2) := gw_f2_tr fr hf
    obtain ⟨h0, h1⟩ := id h
    refine gw_if_eq (tgt := 29) hX nd_Te_readSpeech_11 rfl (fun hb => ?_) (fun hb => ?_)
    · have hb : 0 = 0 := (nI_eq (a := 0) (b := 0) (by omega) (by omega)).mp hb
      refine gw_iconst (v := nI 0) hX nd_Te_readSpeech_29 rfl ?_
      exact gw_zret hX hQ hr nd_Te_readSpeech_30 rfl (by decide) (by decide) ⟨Or.inr ⟨fun ws2 q => (by rw [px_S_none hR] at q; cases q), rfl, hs⟩, ⟨k, hk1, h⟩, fr⟩
    · have hb : ¬ 0 = 0 := fun h => hb ((nI_eq (a := 0) (b := 0) (by omega) (by omega)).mpr h)
      exfalso; omega
  · show gw_W X σ2 0 0 11 [(0, .ref t), (1, .ref s)] [.int (nI 1)]
    have fr : gw_f2 σ σ2 t (t + 2) s (s + 2) := gw_f2_tr fr hf
    obtain ⟨h0, h1⟩ := id h
    refine gw_if_eq (tgt := 29) hX nd_Te_readSpeech_11 rfl (fun hb => ?_) (fun hb => ?_)
    · have hb : 1 = 0 := (nI_eq (a := 1) (b := 0) (by omega) (by omega)).mp hb
      exfalso; omega
    · have hb : ¬ 1 = 0 := fun h => hb ((nI_eq (a := 1) (b := 0) (by omega) (by omega)).mpr h)
      refine gw_aload_n hX nd_Te_readSpeech_14 rfl 0 rfl ?_
      refine gw_get hX kf_Te_23 nd_Te_readSpeech_15 h0 rfl ?_
      refine gw_aload_n hX nd_Te_readSpeech_18 rfl 0 rfl ?_
      refine gw_get hX kf_Te_15 nd_Te_readSpeech_19 h0 rfl ?_
      refine gw_icmp_ne (tgt := 29) hX nd_Te_readSpeech_22 rfl (fun hb => ?_) (fun hb => ?_)
      · have hb : ¬ k = len := fun h => hb ((nI_eq (a := k) (b := len) (by omega) (by omega)).mpr h)
        refine gw_iconst (v := nI 0) hX nd_Te_readSpeech_29 rfl ?_
        exact gw_zret hX hQ hr nd_Te_readSpeech_30 rfl (by decide) (by decide) ⟨Or.inr ⟨fun ws2 q => (by rw [px_S_none hR] at q; cases q), rfl, hs⟩, ⟨k, hk1, h⟩, fr⟩
      · have hb : k = len := (nI_eq (a := k) (b := len) (by omega) (by omega)).mp hb
        have := (px_lt_iff.mp hlt).1; omega
set_option maxRecDepth 100000 in
set_option maxHeartbeats 4000000 in
theorem lp_Te_readCorpus {X : gw_C} (t c len : Nat) (ch : Nat → Nat) (hlen : len ≤ 240) (hch : ∀ j, ch j < 127) (hd : t + 2 ≤ c ∨ c + 18 ≤ t) (σ0 : gw_S) (hX : gw_ok X nc_Te_readCorpus "LabelLearner$Text" (3, 4, 98, 0, 0)) (hQ : X.2.2.2.2 = gw_end X (fun v σ' => ((∃ ss : List (List px_W), px_C len ch 8 0 [] = some ss ∧ v = some (.int (nI 1)) ∧ rc_at σ' (gw_z X) c ss ∧ ss.length ≤ 8 ∧ ss ≠ []) ∨ (px_C len ch 8 0 [] = none ∧ v = some (.int (nI 0)) ∧ rc_any σ' (gw_z X) c)) ∧ (∃ k', k' ≤ 240 ∧ tx_at σ' (gw_z X) t len k' ch) ∧ gw_f2 σ0 σ' t (t + 2) c (c + 18)) 0 0) (hr : X.2.2.1.1.sig.returnType = some .boolean) : ∀ (m : Nat) (acc : List (List px_W)) (k : Nat) (σ : gw_S), acc.length + m = 8 → px_C len ch 8 0 [] = px_C len ch (8 - acc.length) k acc → k ≤ 240 → tx_at σ (gw_z X) t len k ch → σ.2 c = some (.inr (2, [.ref (c + 1), .int (nI acc.length)])) → σ.2 (c + 1) = some (gw_Q3 (gw_z X) 8 (fun j => some (c + 2 + 2 * j))) → (∀ j, j < 8 → se_any σ (gw_z X) (c + 2 + 2 * j)) → (∀ (j : Nat) (ws : List px_W), acc[j]? = some ws → se_at σ (gw_z X) (c + 2 + 2 * j) ws ∧ se_ok ws ∧ ws.length ≤ 6 ∧ ws ≠ []) → gw_f2 σ0 σ t (t + 2) c (c + 18) → gw_W X σ 0 0 12 [(2, .int (nI acc.length)), (0, .ref t), (1, .ref c)] [] := by
  intro m
  induction m using Nat.strongRecOn with
  | ind m ih =>
    intro acc k σ hm hC hk h y0 y1 ya ys fr
    obtain ⟨h0, h1⟩ := id h
    refine gw_iload_n hX nd_Te_readCorpus_12 rfl 0 rfl ?_
    refine gw_bipush (v := nI 8) hX nd_Te_readCorpus_13 rfl ?_
    refine gw_icmp_ge (tgt := 74) hX nd_Te_readCorpus_15 rfl (fun hb => ?_) (fun hb => ?_)
    · have hb : 8 ≤ acc.length := (nI_leI (a := 8) (b := acc.length) (by omega) (by omega)).mp hb
      refine gw_iconst (v := nI 0) hX nd_Te_readCorpus_74 rfl ?_
      exact gw_zret hX hQ hr nd_Te_readCorpus_75 rfl (by decide) (by decide) ⟨Or.inr ⟨(by rw [hC, show 8 - acc.length = 0 by omega]; rfl), rfl, _, y0, y1, ya⟩, ⟨k, hk, h⟩, fr⟩
    · have hb : ¬ 8 ≤ acc.length := fun h => hb ((nI_leI (a := 8) (b := acc.length) (by omega) (by omega)).mpr h)
      obtain ⟨f8, hf8⟩ : ∃ f, 8 - acc.length = f + 1 := ⟨7 - acc.length, by omega⟩
      refine gw_aload_n hX nd_Te_readCorpus_18 rfl 1 rfl ?_
      refine gw_aload_n hX nd_Te_readCorpus_19 rfl 2 rfl ?_
      refine gw_get hX kf_Te_31 nd_Te_readCorpus_20 y0 rfl ?_
      refine gw_iload_n hX nd_Te_readCorpus_23 rfl 0 rfl ?_
      refine gw_ald3 hX nd_Te_readCorpus_24 y1 acc.length rfl (by omega) (by decide) (r := c + 2 + 2 * acc.length) rfl ?_
      refine gw_iconst (v := nI 1) hX nd_Te_readCorpus_25 rfl ?_
      obtain ⟨b9, l9, z9, g9, -⟩ := id (ya acc.length (by omega))
      refine gw_callV (rest := []) hX ks_Te_35 (ct_Te_readSentence_t X.1.2.1 (gw_z X) (gw_b X) σ t (c + 2 + 2 * acc.length) len k ch hlen hk hch (by omega) h (ya acc.length (by omega))) h0 rfl rfl (Nat.le_of_ble_eq_true rfl) nd_Te_readCorpus_26 (by decide) ?_
      rintro _ σ1 ⟨⟨k, ws, hS, hne, rfl, hk1, h, hs, hso, hsl⟩ | ⟨hS, hs, k, hk1, h, rfl | ⟨rfl, hlt⟩⟩, hf⟩
      · skip
        have y0 : σ1.2 c = some (.inr (2, [.ref (c + 1), .int (nI acc.length)])) := (hf.2 c (by omega) (by omega)).trans y0
        have y1 : σ1.2 (c + 1) = some ((gw_Q3 (gw_z X) 8 (fun j => some (c + 2 + 2 * j)))) := (hf.2 (c + 1) (by omega) (by omega)).trans y1
        have ya : ∀ j, j < 8 → se_any σ1 (gw_z X) (c + 2 + 2 * j) := by
          intro j hj
          by_cases q : j = acc.length
          · rw [q]; exact se_at_any hs
          · exact se_any_f2 (ya j hj) hf (by omega) (by omega)
        have ys : ∀ (j : Nat) (w : List px_W), (acc ++ [ws])[j]? = some w → se_at σ1 (gw_z X) (c + 2 + 2 * j) w ∧ se_ok w ∧ w.length ≤ 6 ∧ w ≠ [] := by
          intro j w hj
          by_cases q : j < acc.length
          · rw [List.getElem?_append_left q] at hj
            exact ⟨se_at_f2 (ys j w hj).1 hf (by omega) (by omega), (ys j w hj).2⟩
          · have q2 : j = acc.length := by
              have := (List.getElem?_eq_some_iff.mp hj).1
              rw [List.length_append, List.length_singleton] at this
              omega
            rw [q2, List.getElem?_append_right (Nat.le_refl _), Nat.sub_self] at hj
            cases hj
            rw [q2]
            exact ⟨hs, hso, hsl, hne⟩
        have fr : gw_f2 σ0 σ1 t (t + 2) c (c + 18) := gw_f2_tr fr hf
        obtain ⟨h0, h1⟩ := id h
        have hSS := px_S_some hS hne
        show gw_W X σ1 0 0 29 [(2, .int (nI acc.length)), (0, .ref t), (1, .ref c)] [.int (nI 1)]
        refine gw_if_ne (tgt := 34) hX nd_Te_readCorpus_29 rfl (fun hb => ?_) (fun hb => ?_)
        · have hb : ¬ 1 = 0 := fun h => hb ((nI_eq (a := 1) (b := 0) (by omega) (by omega)).mpr h)
          refine gw_aload_n hX nd_Te_readCorpus_34 rfl 2 rfl ?_
          refine gw_dup hX nd_Te_readCorpus_35 rfl ?_
          refine gw_get hX kf_Te_26 nd_Te_readCorpus_36 y0 rfl ?_
          refine gw_iconst (v := nI 1) hX nd_Te_readCorpus_39 rfl ?_
          refine gw_iadd hX nd_Te_readCorpus_40 ?_
          refine gw_topi (y := nI (acc.length + 1)) (nI_add _ _) ?_
          refine gw_put hX kf_Te_26 nd_Te_readCorpus_41 y0 rfl rfl (Nat.le_of_ble_eq_true rfl) (e' := .inr (2, [.ref (c + 1), .int (nI (acc.length + 1))])) rfl ?_
          obtain ⟨σ2, eσ2⟩ : ∃ hp_, hp_ = gw_up σ1 c (.inr (2, [.ref (c + 1), .int (nI (acc.length + 1))])) := ⟨_, rfl⟩
          refine gw_heap eσ2.symm ?_
          have h0 : σ2.2 t = some (.inr (6, [.ref (t + 1), .int (nI len), .int (nI k)])) := by rw [eσ2, gw_up_ne (by omega)]; exact h0
          have h1 : σ2.2 (t + 1) = some ((gw_Ch (gw_z X) 240 (fun j => nI (ch j)))) := by rw [eσ2, gw_up_ne (by omega)]; exact h1
          have y0 : σ2.2 c = some (.inr (2, [.ref (c + 1), .int (nI (acc.length + 1))])) := by rw [eσ2]; exact gw_up_eq _ _ _
          have y1 : σ2.2 (c + 1) = some ((gw_Q3 (gw_z X) 8 (fun j => some (c + 2 + 2 * j)))) := by rw [eσ2, gw_up_ne (by omega)]; exact y1
          have hf : gw_fr σ1 σ2 c (c + 1) := by rw [eσ2]; exact gw_fr_up _ _ _ (by omega) (by omega)
          have h : tx_at σ2 (gw_z X) t len k ch := tx_at_fr h hf (by omega)
          have ya : ∀ j, j < 8 → se_any σ2 (gw_z X) (c + 2 + 2 * j) := fun j hj => se_any_fr (ya j hj) hf (by omega)
          try have ys : ∀ (j : Nat) (w : List px_W), (acc ++ [ws])[j]? = some w → se_at σ2 (gw_z X) (c + 2 + 2 * j) w ∧ se_ok w ∧ w.length ≤ 6 ∧ w ≠ [] := fun j w hj => ⟨se_at_fr (ys j w hj).1 hf (by omega), (ys j w hj).2⟩
          try have hlx : (acc ++ [ws]).length = acc.length + 1 := by simp
          have fr : gw_f2 σ0 σ2 t (t + 2) c (c + 18) := gw_f2_r fr hf
          refine gw_aload_n hX nd_Te_readCorpus_44 rfl 1 rfl ?_
          refine gw_get hX kf_Te_23 nd_Te_readCorpus_45 h0 rfl ?_
          refine gw_aload_n hX nd_Te_readCorpus_48 rfl 1 rfl ?_
          refine gw_get hX kf_Te_15 nd_Te_readCorpus_49 h0 rfl ?_
          refine gw_icmp_ne (tgt := 57) hX nd_Te_readCorpus_52 rfl (fun hb => ?_) (fun hb => ?_)
          · have hb : ¬ k = len := fun h => hb ((nI_eq (a := k) (b := len) (by omega) (by omega)).mpr h)
            have hnk : k ≠ len := by omega
            refine gw_aload_n hX nd_Te_readCorpus_57 rfl 1 rfl ?_
            refine gw_bipush (v := nI 59) hX nd_Te_readCorpus_58 rfl ?_
            refine gw_callV (rest := []) hX ks_Te_39 (ct_Te_take X.1.2.1 (gw_z X) (gw_b X) σ2 t len k ch hlen hk1 hch (by omega) 59 (by decide) h) h0 rfl rfl (Nat.le_of_ble_eq_true rfl) nd_Te_readCorpus_60 (by decide) ?_
            rintro _ σ3 ⟨rfl, h, hf⟩
            have y0 : σ3.2 c = some (.inr (2, [.ref (c + 1), .int (nI (acc.length + 1))])) := (hf.2 c (by omega)).trans y0
            have y1 : σ3.2 (c + 1) = some ((gw_Q3 (gw_z X) 8 (fun j => some (c + 2 + 2 * j)))) := (hf.2 (c + 1) (by omega)).trans y1
            have ya : ∀ j, j < 8 → se_any σ3 (gw_z X) (c + 2 + 2 * j) := fun j hj => se_any_fr (ya j hj) hf (by omega)
            have ys : ∀ (j : Nat) (w : List px_W), (acc ++ [ws])[j]? = some w → se_at σ3 (gw_z X) (c + 2 + 2 * j) w ∧ se_ok w ∧ w.length ≤ 6 ∧ w ≠ [] := fun j w hj => ⟨se_at_fr (ys j w hj).1 hf (by have := (List.getElem?_eq_some_iff.mp hj).1; rw [hlx] at this; omega), (ys j w hj).2⟩
            have fr : gw_f2 σ0 σ3 t (t + 2) c (c + 18) := gw_f2_l fr hf
            show gw_W X σ3 0 0 63 [(2, .int (nI acc.length)), (0, .ref t), (1, .ref c)] [.int (nI (if px_is len ch 59 k then 1 else 0))]
            refine gw_if_ne (tgt := 68) hX nd_Te_readCorpus_63 rfl (fun hb => ?_) (fun hb => ?_)
            · skip
              have his : px_is len ch 59 k = true := by
                cases q : px_is len ch 59 k with
                | true => rfl
                | false => rw [q] at hb; exact absurd rfl hb
              rw [his] at h
              have hkl := (px_is_iff.mp his).1
              obtain ⟨h0, h1⟩ := id h
              refine gw_iinc hX nd_Te_readCorpus_68 0 rfl (v := nI (acc.length + 1)) (show nI acc.length + nI 1 = nI (acc.length + 1) from nI_add _ _) (by decide) (L' := [(2, .int (nI (acc.length + 1))), (0, .ref t), (1, .ref c)]) rfl ?_
              refine gw_goto (tgt := 12) hX nd_Te_readCorpus_71 rfl ?_
              refine gw_cut (ks := [0, 1, 2]) (L' := [(2, .int (nI (acc.length + 1))), (0, .ref t), (1, .ref c)]) rfl ?_
              refine gw_head ?_ (ih (m - 1) (by omega) (acc ++ [ws]) (k + 1) σ3 (by rw [hlx]; omega) ?_ (by omega) h (by rw [hlx]; exact y0) y1 ya ys fr)
              · rw [hlx]
              · rw [hC, hf8, show 8 - (acc ++ [ws]).length = f8 by rw [hlx]; omega]
                simp only [px_C, hSS, his, if_true]
            · skip
              have his : px_is len ch 59 k = false := by
                cases q : px_is len ch 59 k with
                | false => rfl
                | true => rw [q] at hb; exact absurd hb (by decide)
              rw [his] at h
              refine gw_iconst (v := nI 0) hX nd_Te_readCorpus_66 rfl ?_
              exact gw_zret hX hQ hr nd_Te_readCorpus_67 rfl (by decide) (by decide) ⟨Or.inr ⟨(by rw [hC, hf8]; simp only [px_C, hSS, his]; simp [hnk]), rfl, _, y0, y1, ya⟩, ⟨k, hk1, h⟩, fr⟩
          · have hb : k = len := (nI_eq (a := k) (b := len) (by omega) (by omega)).mp hb
            have hb : k = len := by omega
            refine gw_iconst (v := nI 1) hX nd_Te_readCorpus_55 rfl ?_
            have hnl : px_is len ch 59 k = false := by
              cases q : px_is len ch 59 k with
              | false => rfl
              | true => exact absurd (px_is_iff.mp q).1 (by omega)
            exact gw_zret hX hQ hr nd_Te_readCorpus_56 rfl (by decide) (by decide) ⟨Or.inl ⟨acc ++ [ws], (by rw [hC, hf8]; simp only [px_C, hSS, hnl]; simp [hb]), rfl, ⟨by rw [hlx]; exact y0, y1, ya, ys⟩, by rw [hlx]; omega, by simp⟩, ⟨k, hk1, h⟩, fr⟩
        · have hb : 1 = 0 := (nI_eq (a := 1) (b := 0) (by omega) (by omega)).mp hb
          exfalso; omega
      · skip
        have y0 : σ1.2 c = some (.inr (2, [.ref (c + 1), .int (nI acc.length)])) := (hf.2 c (by omega) (by omega)).trans y0
        have y1 : σ1.2 (c + 1) = some ((gw_Q3 (gw_z X) 8 (fun j => some (c + 2 + 2 * j)))) := (hf.2 (c + 1) (by omega) (by omega)).trans y1
        have ya : ∀ j, j < 8 → se_any σ1 (gw_z X) (c + 2 + 2 * j) := by
          intro j hj
          by_cases q : j = acc.length
          · rw [q]; exact hs
          · exact se_any_f2 (ya j hj) hf (by omega) (by omega)
        have fr : gw_f2 σ0 σ1 t (t + 2) c (c + 18) := gw_f2_tr fr hf
        obtain ⟨h0, h1⟩ := id h
        have hSS := px_S_none hS
        have hC0 : px_C len ch 8 0 [] = none := by rw [hC, hf8]; simp only [px_C, hSS]
        show gw_W X σ1 0 0 29 [(2, .int (nI acc.length)), (0, .ref t), (1, .ref c)] [.int (nI 0)]
        refine gw_if_ne (tgt := 34) hX nd_Te_readCorpus_29 rfl (fun hb => ?_) (fun hb => ?_)
        · have hb : ¬ 0 = 0 := fun h => hb ((nI_eq (a := 0) (b := 0) (by omega) (by omega)).mpr h)
          exfalso; omega
        · have hb : 0 = 0 := (nI_eq (a := 0) (b := 0) (by omega) (by omega)).mp hb
          refine gw_iconst (v := nI 0) hX nd_Te_readCorpus_32 rfl ?_
          exact gw_zret hX hQ hr nd_Te_readCorpus_33 rfl (by decide) (by decide) ⟨Or.inr ⟨hC0, rfl, _, y0, y1, ya⟩, ⟨k, hk1, h⟩, fr⟩
      · skip
        have y0 : σ1.2 c = some (.inr (2, [.ref (c + 1), .int (nI acc.length)])) := (hf.2 c (by omega) (by omega)).trans y0
        have y1 : σ1.2 (c + 1) = some ((gw_Q3 (gw_z X) 8 (fun j => some (c + 2 + 2 * j)))) := (hf.2 (c + 1) (by omega) (by omega)).trans y1
        have ya : ∀ j, j < 8 → se_any σ1 (gw_z X) (c + 2 + 2 * j) := by
          intro j hj
          by_cases q : j = acc.length
          · rw [q]; exact hs
          · exact se_any_f2 (ya j hj) hf (by omega) (by omega)
        have fr : gw_f2 σ0 σ1 t (t + 2) c (c + 18) := gw_f2_tr fr hf
        obtain ⟨h0, h1⟩ := id h
        have hSS := px_S_none hS
        have hC0 : px_C len ch 8 0 [] = none := by rw [hC, hf8]; simp only [px_C, hSS]
        show gw_W X σ1 0 0 29 [(2, .int (nI acc.length)), (0, .ref t), (1, .ref c)] [.int (nI 1)]
        refine gw_if_ne (tgt := 34) hX nd_Te_readCorpus_29 rfl (fun hb => ?_) (fun hb => ?_)
        · have hb : ¬ 1 = 0 := fun h => hb ((nI_eq (a := 1) (b := 0) (by omega) (by omega)).mpr h)
          refine gw_aload_n hX nd_Te_readCorpus_34 rfl 2 rfl ?_
          refine gw_dup hX nd_Te_readCorpus_35 rfl ?_
          refine gw_get hX kf_Te_26 nd_Te_readCorpus_36 y0 rfl ?_
          refine gw_iconst (v := nI 1) hX nd_Te_readCorpus_39 rfl ?_
          refine gw_iadd hX nd_Te_readCorpus_40 ?_
          refine gw_topi (y := nI (acc.length + 1)) (nI_add _ _) ?_
          refine gw_put hX kf_Te_26 nd_Te_readCorpus_41 y0 rfl rfl (Nat.le_of_ble_eq_true rfl) (e' := .inr (2, [.ref (c + 1), .int (nI (acc.length + 1))])) rfl ?_
          obtain ⟨σ4, eσ4⟩ : ∃ hp_, hp_ = gw_up σ1 c (.inr (2, [.ref (c + 1), .int (nI (acc.length + 1))])) := ⟨_, rfl⟩
          refine gw_heap eσ4.symm ?_
          have h0 : σ4.2 t = some (.inr (6, [.ref (t + 1), .int (nI len), .int (nI k)])) := by rw [eσ4, gw_up_ne (by omega)]; exact h0
          have h1 : σ4.2 (t + 1) = some ((gw_Ch (gw_z X) 240 (fun j => nI (ch j)))) := by rw [eσ4, gw_up_ne (by omega)]; exact h1
          have y0 : σ4.2 c = some (.inr (2, [.ref (c + 1), .int (nI (acc.length + 1))])) := by rw [eσ4]; exact gw_up_eq _ _ _
          have y1 : σ4.2 (c + 1) = some ((gw_Q3 (gw_z X) 8 (fun j => some (c + 2 + 2 * j)))) := by rw [eσ4, gw_up_ne (by omega)]; exact y1
          have hf : gw_fr σ1 σ4 c (c + 1) := by rw [eσ4]; exact gw_fr_up _ _ _ (by omega) (by omega)
          have h : tx_at σ4 (gw_z X) t len k ch := tx_at_fr h hf (by omega)
          have ya : ∀ j, j < 8 → se_any σ4 (gw_z X) (c + 2 + 2 * j) := fun j hj => se_any_fr (ya j hj) hf (by omega)
          try have ys : ∀ (j : Nat) (w : List px_W), (acc ++ [ws])[j]? = some w → se_at σ4 (gw_z X) (c + 2 + 2 * j) w ∧ se_ok w ∧ w.length ≤ 6 ∧ w ≠ [] := fun j w hj => ⟨se_at_fr (ys j w hj).1 hf (by omega), (ys j w hj).2⟩
          try have hlx : (acc ++ [ws]).length = acc.length + 1 := by simp
          have fr : gw_f2 σ0 σ4 t (t + 2) c (c + 18) := gw_f2_r fr hf
          refine gw_aload_n hX nd_Te_readCorpus_44 rfl 1 rfl ?_
          refine gw_get hX kf_Te_23 nd_Te_readCorpus_45 h0 rfl ?_
          refine gw_aload_n hX nd_Te_readCorpus_48 rfl 1 rfl ?_
          refine gw_get hX kf_Te_15 nd_Te_readCorpus_49 h0 rfl ?_
          refine gw_icmp_ne (tgt := 57) hX nd_Te_readCorpus_52 rfl (fun hb => ?_) (fun hb => ?_)
          · have hb : ¬ k = len := fun h => hb ((nI_eq (a := k) (b := len) (by omega) (by omega)).mpr h)
            refine gw_aload_n hX nd_Te_readCorpus_57 rfl 1 rfl ?_
            refine gw_bipush (v := nI 59) hX nd_Te_readCorpus_58 rfl ?_
            refine gw_callV (rest := []) hX ks_Te_39 (ct_Te_take X.1.2.1 (gw_z X) (gw_b X) σ4 t len k ch hlen hk1 hch (by omega) 59 (by decide) h) h0 rfl rfl (Nat.le_of_ble_eq_true rfl) nd_Te_readCorpus_60 (by decide) ?_
            rintro _ σ5 ⟨rfl, h, hf⟩
            have y0 : σ5.2 c = some (.inr (2, [.ref (c + 1), .int (nI (acc.length + 1))])) := (hf.2 c (by omega)).trans y0
            have y1 : σ5.2 (c + 1) = some ((gw_Q3 (gw_z X) 8 (fun j => some (c + 2 + 2 * j)))) := (hf.2 (c + 1) (by omega)).trans y1
            have ya : ∀ j, j < 8 → se_any σ5 (gw_z X) (c + 2 + 2 * j) := fun j hj => se_any_fr (ya j hj) hf (by omega)
            have fr : gw_f2 σ0 σ5 t (t + 2) c (c + 18) := gw_f2_l fr hf
            show gw_W X σ5 0 0 63 [(2, .int (nI acc.length)), (0, .ref t), (1, .ref c)] [.int (nI (if px_is len ch 59 k then 1 else 0))]
            have hns : px_is len ch 59 k = false := by
              cases q : px_is len ch 59 k with
              | false => rfl
              | true => have q1 := (px_is_iff.mp q).2; have q2 := (px_lt_iff.mp hlt).2; omega
            rw [hns]
            rw [hns] at h
            refine gw_if_ne (tgt := 68) hX nd_Te_readCorpus_63 rfl (fun hb => ?_) (fun hb => ?_)
            · have hb : ¬ 0 = 0 := fun h => hb ((nI_eq (a := 0) (b := 0) (by omega) (by omega)).mpr h)
              exfalso; omega
            · have hb : 0 = 0 := (nI_eq (a := 0) (b := 0) (by omega) (by omega)).mp hb
              refine gw_iconst (v := nI 0) hX nd_Te_readCorpus_66 rfl ?_
              exact gw_zret hX hQ hr nd_Te_readCorpus_67 rfl (by decide) (by decide) ⟨Or.inr ⟨hC0, rfl, _, y0, y1, ya⟩, ⟨k, hk1, h⟩, fr⟩
          · have hb : k = len := (nI_eq (a := k) (b := len) (by omega) (by omega)).mp hb
            have := (px_lt_iff.mp hlt).1; omega
        · have hb : 1 = 0 := (nI_eq (a := 1) (b := 0) (by omega) (by omega)).mp hb
          exfalso; omega
set_option maxRecDepth 100000 in
set_option maxHeartbeats 4000000 in
theorem ct_Te_readCorpus (l : Launch) (Z : gw_Z) (b0 : Nat) (σ : gw_S) (t c len k0 : Nat) (ch : Nat → Nat) (hlen : len ≤ 240) (hch : ∀ j, ch j < 127) (hd : t + 2 ≤ c ∨ c + 18 ≤ t) (h : tx_at σ Z t len k0 ch) (hc : rc_any σ Z c) : gw_M l ny_Te_readCorpus nc_Te_readCorpus (3, 4, 98, 0, 0) (some .boolean) Z b0 σ [.ref t, .ref c] (fun v σ' => ((∃ ss : List (List px_W), px_C len ch 8 0 [] = some ss ∧ v = some (.int (nI 1)) ∧ rc_at σ' Z c ss ∧ ss.length ≤ 8 ∧ ss ≠ []) ∨ (px_C len ch 8 0 [] = none ∧ v = some (.int (nI 0)) ∧ rc_any σ' Z c)) ∧ (∃ k', k' ≤ 240 ∧ tx_at σ' Z t len k' ch) ∧ gw_f2 σ σ' t (t + 2) c (c + 18)) := by
  refine gw_M_of rfl (Nat.le_of_ble_eq_true rfl) ?_
  intro X hX hl hz hb0 hr hnm hQ
  subst hz hb0 hl
  have hX : gw_ok X nc_Te_readCorpus "LabelLearner$Text" (3, 4, 98, 0, 0) := hX
  show gw_W X σ 0 0 0 [(0, .ref t), (1, .ref c)] []
  obtain ⟨h0, h1⟩ := id h
  obtain ⟨sz, y0, y1, ya⟩ := id hc
  refine gw_aload_n hX nd_Te_readCorpus_0 rfl 0 rfl ?_
  refine gw_iconst (v := nI 0) hX nd_Te_readCorpus_1 rfl ?_
  refine gw_put hX kf_Te_23 nd_Te_readCorpus_2 h0 rfl rfl (Nat.le_of_ble_eq_true rfl) (e' := .inr (6, [.ref (t + 1), .int (nI len), .int (nI 0)])) rfl ?_
  obtain ⟨σ1, eσ1⟩ : ∃ hp_, hp_ = gw_up σ t (.inr (6, [.ref (t + 1), .int (nI len), .int (nI 0)])) := ⟨_, rfl⟩
  refine gw_heap eσ1.symm ?_
  have h0 : σ1.2 t = some (.inr (6, [.ref (t + 1), .int (nI len), .int (nI 0)])) := by rw [eσ1]; exact gw_up_eq _ _ _
  have h1 : σ1.2 (t + 1) = some ((gw_Ch (gw_z X) 240 (fun j => nI (ch j)))) := by rw [eσ1, gw_up_ne (by omega)]; exact h1
  have y0 : σ1.2 c = some (.inr (2, [.ref (c + 1), .int sz])) := by rw [eσ1, gw_up_ne (by omega)]; exact y0
  have y1 : σ1.2 (c + 1) = some ((gw_Q3 (gw_z X) 8 (fun j => some (c + 2 + 2 * j)))) := by rw [eσ1, gw_up_ne (by omega)]; exact y1
  have f1 : gw_fr σ σ1 t (t + 1) := by rw [eσ1]; exact gw_fr_up _ _ _ (by omega) (by omega)
  refine gw_aload_n hX nd_Te_readCorpus_5 rfl 1 rfl ?_
  refine gw_iconst (v := nI 0) hX nd_Te_readCorpus_6 rfl ?_
  refine gw_put hX kf_Te_26 nd_Te_readCorpus_7 y0 rfl rfl (Nat.le_of_ble_eq_true rfl) (e' := .inr (2, [.ref (c + 1), .int (nI 0)])) rfl ?_
  obtain ⟨σ2, eσ2⟩ : ∃ hp_, hp_ = gw_up σ1 c (.inr (2, [.ref (c + 1), .int (nI 0)])) := ⟨_, rfl⟩
  refine gw_heap eσ2.symm ?_
  have h0 : σ2.2 t = some (.inr (6, [.ref (t + 1), .int (nI len), .int (nI 0)])) := by rw [eσ2, gw_up_ne (by omega)]; exact h0
  have h1 : σ2.2 (t + 1) = some ((gw_Ch (gw_z X) 240 (fun j => nI (ch j)))) := by rw [eσ2, gw_up_ne (by omega)]; exact h1
  have y0 : σ2.2 c = some (.inr (2, [.ref (c + 1), .int (nI 0)])) := by rw [eσ2]; exact gw_up_eq _ _ _
  have y1 : σ2.2 (c + 1) = some ((gw_Q3 (gw_z X) 8 (fun j => some (c + 2 + 2 * j)))) := by rw [eσ2, gw_up_ne (by omega)]; exact y1
  have f2 : gw_fr σ1 σ2 c (c + 1) := by rw [eσ2]; exact gw_fr_up _ _ _ (by omega) (by omega)
  refine gw_iconst (v := nI 0) hX nd_Te_readCorpus_10 rfl ?_
  refine gw_istore_n hX nd_Te_readCorpus_11 rfl (by decide) (L' := [(2, .int (nI 0)), (0, .ref t), (1, .ref c)]) rfl ?_
  refine gw_cut (ks := [0, 1, 2]) (L' := [(2, .int (nI 0)), (0, .ref t), (1, .ref c)]) rfl ?_
  exact lp_Te_readCorpus t c len ch hlen hch hd σ hX hQ hr 8 [] 0 σ2 (by simp) rfl (by omega) ⟨h0, h1⟩ y0 y1 (fun j hj => se_any_fr (se_any_fr (ya j hj) f1 (by omega)) f2 (by omega)) (fun j ws hj => (by simp at hj)) (gw_f2_r (gw_f2_l (gw_f2_rf _ _ _ _ _) f1) f2)
end
section
/-! ===== what a run has come to, apart from how it is held ===== -/
abbrev ab_A : Type := (Nat × (Nat → Nat)) × (List (List px_W) × List px_W) × ((Nat → Int) × (Nat → Int)) × (Nat × Nat) × (Nat × Nat)
def ab_A.len (A : ab_A) : Nat := A.1.1
def ab_A.ch (A : ab_A) : Nat → Nat := A.1.2
def ab_A.ss (A : ab_A) : List (List px_W) := A.2.1.1
def ab_A.sp (A : ab_A) : List px_W := A.2.1.2
def ab_A.wt (A : ab_A) : Nat → Int := A.2.2.1.1
def ab_A.tt (A : ab_A) : Nat → Int := A.2.2.1.2
def ab_A.mk (A : ab_A) : Nat := A.2.2.2.1.1
def ab_A.ps (A : ab_A) : Nat := A.2.2.2.1.2
def ab_A.kw (A : ab_A) : Nat := A.2.2.2.2.1
def ab_A.kc (A : ab_A) : Nat := A.2.2.2.2.2
def ab_g (ws : List px_W) : Prop := se_ok ws ∧ ws.length ≤ 6
def ab_ok (A : ab_A) : Prop := A.len ≤ 240 ∧ (∀ j, A.ch j < 127) ∧ A.ss.length ≤ 8 ∧ (∀ ws ∈ A.ss, ab_g ws ∧ ws ≠ []) ∧ ab_g A.sp ∧ (A.kw ≤ 6 ∧ A.kc < 4 ^ A.kw)
def ab_sent (A : ab_A) (x : Int32) : Option (List px_W) := if x = -1 then (if A.sp = [] then none else some A.sp) else if x < 0 then none else A.ss[x.toNatClampNeg]?
theorem ab_sent_ok {A : ab_A} (h : ab_ok A) {x : Int32} {ws : List px_W} (e : ab_sent A x = some ws) : ab_g ws ∧ ws ≠ [] := by
  unfold ab_sent at e
  split at e
  · split at e
    · cases e
    · cases e
      exact ⟨h.2.2.2.2.1, by assumption⟩
  · split at e
    · cases e
    · exact h.2.2.2.1 ws (List.mem_of_getElem? e)
def px_k (w : px_W) (k : Nat) : Nat := if k = 0 then w.1 else if k = 1 then w.2.1 else w.2.2.1
/-- a word of a sentence -/
def ab_word (ws : List px_W) (y : Int32) : Option px_W := if y < 0 then none else ws[y.toNatClampNeg]?
def ab_given (A : ab_A) (x y : Int32) : Option Nat := if x = -1 then none else ((ab_sent A x).bind (fun ws => ab_word ws y)).map (fun w => w.2.2.2)
def ab_feat (A : ab_A) (x y z : Int32) : Option Nat := if z < 0 ∨ nI 3 ≤ z then none else ((ab_sent A x).bind (fun ws => ab_word ws y)).map (fun w => px_k w z.toNatClampNeg)
theorem ix_of {x : Int32} {K : Nat} (hK : K < 2 ^ 31) (h1 : ¬ x < 0) (h2 : x < nI K) : ∃ j, j < K ∧ x = nI j := by
  obtain ⟨j, hj, rfl⟩ := nI_of h1
  exact ⟨j, (nI_ltI hj hK).mp h2, rfl⟩
theorem ix_no {x : Int32} {K : Nat} (hK : K < 2 ^ 31) (h : x < 0 ∨ ¬ x < nI K) : ∀ j, j < K → x ≠ nI j := by
  intro j hj e
  subst e
  rcases h with h | h
  · exact nI_pos (by omega) h
  · exact h (nI_lt hj hK)
theorem ab_word_of {ws : List px_W} {j : Nat} (h : j < ws.length) (hl : ws.length ≤ 6) : ab_word ws (nI j) = some ws[j] := by
  unfold ab_word
  rw [if_neg (nI_pos (by omega)), nI_clamp (by omega), List.getElem?_eq_getElem h]
theorem ab_word_no {ws : List px_W} {y : Int32} (hl : ws.length ≤ 6) (h : y < 0 ∨ ¬ y < nI ws.length) : ab_word ws y = none := by
  unfold ab_word
  split
  · rfl
  · rename_i h0
    rcases h with h | h
    · exact absurd h h0
    · obtain ⟨j, hj, rfl⟩ := nI_of h0
      rw [nI_clamp (by omega), List.getElem?_eq_none_iff]
      by_cases e : j < ws.length
      · exact absurd (nI_lt e (by omega)) h
      · omega
theorem ab_sent_of {A : ab_A} {j : Nat} (h : j < A.ss.length) (hl : A.ss.length ≤ 8) : ab_sent A (nI j) = some A.ss[j] := by
  unfold ab_sent
  have h1 : ¬ nI j = -1 := by
    intro e
    have h2 := nI_pos (n := j) (by omega)
    rw [e] at h2
    exact h2 (by decide)
  rw [if_neg h1, if_neg (nI_pos (by omega)), nI_clamp (by omega), List.getElem?_eq_getElem h]
theorem ab_sent_no {A : ab_A} {x : Int32} (hl : A.ss.length ≤ 8) (hx : ¬ x = -1 ∨ ¬ 0 < A.sp.length) (h : x < 0 ∨ ¬ x < nI A.ss.length) : ab_sent A x = none := by
  unfold ab_sent
  by_cases h1 : x = -1
  · rw [if_pos h1]
    rcases hx with hx | hx
    · exact absurd h1 hx
    · rw [if_pos]
      exact List.length_eq_zero_iff.mp (by omega)
  · rw [if_neg h1]
    split
    · rfl
    · rename_i h0
      rcases h with h | h
      · exact absurd h h0
      · obtain ⟨j, hj, rfl⟩ := nI_of h0
        rw [nI_clamp (by omega), List.getElem?_eq_none_iff]
        by_cases e : j < A.ss.length
        · exact absurd (nI_lt e (by omega)) h
        · omega
theorem ab_sent_sp {A : ab_A} (h : ¬ A.sp.length ≤ 0) : ab_sent A (-1) = some A.sp := by
  unfold ab_sent
  rw [if_pos rfl, if_neg]
  intro e
  rw [e] at h
  exact h (Nat.le_refl 0)
theorem se_lab {ws : List px_W} (ho : se_ok ws) (hl : ws.length ≤ 6) {j : Nat} (hj : j < ws.length) : lb_at (nI (se_c ws)) j = ws[j].2.2.2 := by
  have h4 : se_c ws < 4 ^ ws.length := se_c_lt ho
  have h5 : (4 : Nat) ^ ws.length ≤ 4 ^ 6 := Nat.pow_le_pow_right (by decide) hl
  rw [lb_nI (by omega)]
  unfold se_c
  rw [tl_d_at _ (fun w hw => ?_) j hj]
  · simp [List.getElem?_eq_getElem hj]
  · simp only [List.getElem?_eq_getElem hw, Option.map_some, Option.getD_some]
    exact (ho _ (List.getElem_mem hw)).2.2.2
/-! ===== the class, as it lies in the heap from n on ===== -/
def we_at (σ : gw_S) (Z : gw_Z) (a : Nat) (wt : Nat → Int) : Prop := σ.2 a = some (.inr (7, [.ref (a + 1)])) ∧ σ.2 (a + 1) = some (gw_J Z 148 (fun j => iL (wt j)))
theorem we_at_fr {σ σ' : gw_S} {Z : gw_Z} {a lo hi : Nat} {wt : Nat → Int} (h : we_at σ Z a wt) (f : gw_fr σ σ' lo hi) (d : a + 2 ≤ lo ∨ hi ≤ a) : we_at σ' Z a wt := ⟨(f.2 _ (by omega)).trans h.1, (f.2 _ (by omega)).trans h.2⟩
theorem we_at_f2 {σ σ' : gw_S} {Z : gw_Z} {a lo hi lo2 hi2 : Nat} {wt : Nat → Int} (h : we_at σ Z a wt) (f : gw_f2 σ σ' lo hi lo2 hi2) (d : a + 2 ≤ lo ∨ hi ≤ a) (d2 : a + 2 ≤ lo2 ∨ hi2 ≤ a) : we_at σ' Z a wt := ⟨(f.2 _ (by omega) (by omega)).trans h.1, (f.2 _ (by omega) (by omega)).trans h.2⟩
def de_at (σ : gw_S) (Z : gw_Z) (d : Nat) : Prop := σ.2 d = some (.inr (3, [.ref (d + 1), .ref (d + 2)])) ∧ σ.2 (d + 1) = some (gw_Q4 Z 24 (fun i => some (d + 5 + 3 * i))) ∧ rk_any σ Z (d + 2) ∧ ∀ i, i < 24 → rk_any σ Z (d + 5 + 3 * i)
theorem rk_any_f2 {σ σ' : gw_S} {Z : gw_Z} {r lo hi lo2 hi2 : Nat} (h : rk_any σ Z r) (f : gw_f2 σ σ' lo hi lo2 hi2) (d : r + 3 ≤ lo ∨ hi ≤ r) (d2 : r + 3 ≤ lo2 ∨ hi2 ≤ r) : rk_any σ' Z r := by
  obtain ⟨k, fs, fl, h1, h2, h3⟩ := h
  exact ⟨k, fs, fl, (f.2 _ (by omega) (by omega)).trans h1, (f.2 _ (by omega) (by omega)).trans h2, (f.2 _ (by omega) (by omega)).trans h3⟩
theorem de_at_fr {σ σ' : gw_S} {Z : gw_Z} {a lo hi : Nat} (h : de_at σ Z a) (f : gw_fr σ σ' lo hi) (d : a + 77 ≤ lo ∨ hi ≤ a) : de_at σ' Z a := ⟨(f.2 _ (by omega)).trans h.1, (f.2 _ (by omega)).trans h.2.1, rk_any_fr h.2.2.1 f (by omega), fun i hi => rk_any_fr (h.2.2.2 i hi) f (by omega)⟩
theorem de_at_f2 {σ σ' : gw_S} {Z : gw_Z} {a lo hi lo2 hi2 : Nat} (h : de_at σ Z a) (f : gw_f2 σ σ' lo hi lo2 hi2) (d : a + 77 ≤ lo ∨ hi ≤ a) (d2 : a + 77 ≤ lo2 ∨ hi2 ≤ a) : de_at σ' Z a := ⟨(f.2 _ (by omega) (by omega)).trans h.1, (f.2 _ (by omega) (by omega)).trans h.2.1, rk_any_f2 h.2.2.1 f (by omega) (by omega), fun i hi => rk_any_f2 (h.2.2.2 i hi) f (by omega) (by omega)⟩
theorem rc_any_fr {σ σ' : gw_S} {Z : gw_Z} {c lo hi : Nat} (h : rc_any σ Z c) (f : gw_fr σ σ' lo hi) (d : c + 18 ≤ lo ∨ hi ≤ c) : rc_any σ' Z c := by
  obtain ⟨sz, h1, h2, h3⟩ := h
  exact ⟨sz, (f.2 _ (by omega)).trans h1, (f.2 _ (by omega)).trans h2, fun j hj => se_any_fr (h3 j hj) f (by omega)⟩
theorem rc_any_f2 {σ σ' : gw_S} {Z : gw_Z} {c lo hi lo2 hi2 : Nat} (h : rc_any σ Z c) (f : gw_f2 σ σ' lo hi lo2 hi2) (d : c + 18 ≤ lo ∨ hi ≤ c) (d2 : c + 18 ≤ lo2 ∨ hi2 ≤ c) : rc_any σ' Z c := by
  obtain ⟨sz, h1, h2, h3⟩ := h
  exact ⟨sz, (f.2 _ (by omega) (by omega)).trans h1, (f.2 _ (by omega) (by omega)).trans h2, fun j hj => se_any_f2 (h3 j hj) f (by omega) (by omega)⟩
theorem rc_len {σ : gw_S} {Z : gw_Z} {c : Nat} {ss : List (List px_W)} (hl : ss.length ≤ 8) {j : Nat} {ws : List px_W} (h : ss[j]? = some ws) : j < 8 := by
  have := (List.getElem?_eq_some_iff.mp h).1
  omega
theorem rc_at_fr {σ σ' : gw_S} {Z : gw_Z} {c lo hi : Nat} {ss : List (List px_W)} (hl : ss.length ≤ 8) (h : rc_at σ Z c ss) (f : gw_fr σ σ' lo hi) (d : c + 18 ≤ lo ∨ hi ≤ c) : rc_at σ' Z c ss := by
  obtain ⟨h1, h2, h3, h4⟩ := h
  refine ⟨(f.2 _ (by omega)).trans h1, (f.2 _ (by omega)).trans h2, fun j hj => se_any_fr (h3 j hj) f (by omega), fun j ws e => ?_⟩
  have := (List.getElem?_eq_some_iff.mp e).1
  exact ⟨se_at_fr (h4 j ws e).1 f (by omega), (h4 j ws e).2⟩
theorem rc_at_f2 {σ σ' : gw_S} {Z : gw_Z} {c lo hi lo2 hi2 : Nat} {ss : List (List px_W)} (hl : ss.length ≤ 8) (h : rc_at σ Z c ss) (f : gw_f2 σ σ' lo hi lo2 hi2) (d : c + 18 ≤ lo ∨ hi ≤ c) (d2 : c + 18 ≤ lo2 ∨ hi2 ≤ c) : rc_at σ' Z c ss := by
  obtain ⟨h1, h2, h3, h4⟩ := h
  refine ⟨(f.2 _ (by omega) (by omega)).trans h1, (f.2 _ (by omega) (by omega)).trans h2, fun j hj => se_any_f2 (h3 j hj) f (by omega) (by omega), fun j ws e => ?_⟩
  have := (List.getElem?_eq_some_iff.mp e).1
  exact ⟨se_at_f2 (h4 j ws e).1 f (by omega) (by omega), (h4 j ws e).2⟩
theorem rc_at_any {σ : gw_S} {Z : gw_Z} {c : Nat} {ss : List (List px_W)} (h : rc_at σ Z c ss) : rc_any σ Z c := ⟨_, h.1, h.2.1, h.2.2.1⟩
abbrev cw_sw (n c cd s sd : Nat) : Prop := (c = n + 84 ∧ cd = n + 102 ∨ c = n + 102 ∧ cd = n + 84) ∧ (s = n + 120 ∧ sd = n + 122 ∨ s = n + 122 ∧ sd = n + 120)
def cw_at (σ : gw_S) (Z : gw_Z) (n : Nat) (A : ab_A) (c cd s sd : Nat) : Prop :=
  cw_sw n c cd s sd ∧ σ.2 n = some (.inr (0, [.ref (n + 1), .ref (n + 3), .ref (n + 80), .ref (n + 82), .ref c, .ref cd, .ref s, .ref sd, .int (nI A.mk), .int (nI A.ps), .int (nI A.kw), .int (nI A.kc)])) ∧
  (∃ k, k ≤ 240 ∧ tx_at σ Z (n + 1) A.len k A.ch) ∧ de_at σ Z (n + 3) ∧ we_at σ Z (n + 80) A.wt ∧ we_at σ Z (n + 82) A.tt ∧ rc_at σ Z c A.ss ∧ rc_any σ Z cd ∧ se_at σ Z s A.sp ∧ se_any σ Z sd
def cw (σ : gw_S) (Z : gw_Z) (n : Nat) (A : ab_A) : Prop := ∃ c cd s sd, cw_at σ Z n A c cd s sd
/-- what lies elsewhere may change, and the heap may grow -/
theorem cw_mv {σ σ' : gw_S} {Z : gw_Z} {n : Nat} {A : ab_A} (h : cw σ Z n A) (f : ∀ b, n ≤ b → b < n + 124 → σ'.2 b = σ.2 b) (hA : ab_ok A) : cw σ' Z n A := by
  obtain ⟨c, cd, s, sd, hsw, h0, ⟨k, hk, h1⟩, h2, h3, h4, h5, h6, h7, h8⟩ := h
  obtain ⟨w1, w2⟩ := id hsw
  have hl := hA.2.2.1
  obtain ⟨σ1, e1⟩ : ∃ τ : gw_S, τ = (σ.1, σ'.2) := ⟨_, rfl⟩
  have e2 : ∀ b, n ≤ b → b < n + 124 → σ1.2 b = σ.2 b := by rw [e1]; exact f
  obtain ⟨p1, p2, p3, p4⟩ := h2
  obtain ⟨q1, q2, q3, q4⟩ := h5
  obtain ⟨sz, r1, r2, r3⟩ := h6
  obtain ⟨b7, t1, t2, t3⟩ := h7
  obtain ⟨b8, l8, z8, u1, u2⟩ := h8
  have rk : ∀ r, n ≤ r → r + 3 ≤ n + 124 → rk_any σ Z r → rk_any σ' Z r := fun r a b hr => by
    obtain ⟨k, fs, fl, x1, x2, x3⟩ := hr
    exact ⟨k, fs, fl, (f _ (by omega) (by omega)).trans x1, (f _ (by omega) (by omega)).trans x2, (f _ (by omega) (by omega)).trans x3⟩
  have sa : ∀ r, n ≤ r → r + 2 ≤ n + 124 → se_any σ Z r → se_any σ' Z r := fun r a b hr => by
    obtain ⟨b9, l9, z9, x1, x2⟩ := hr
    exact ⟨b9, l9, z9, (f _ (by omega) (by omega)).trans x1, (f _ (by omega) (by omega)).trans x2⟩
  refine ⟨c, cd, s, sd, hsw, (f _ (by omega) (by omega)).trans h0, ⟨k, hk, (f _ (by omega) (by omega)).trans h1.1, (f _ (by omega) (by omega)).trans h1.2⟩, ⟨(f _ (by omega) (by omega)).trans p1, (f _ (by omega) (by omega)).trans p2, rk _ (by omega) (by omega) p3, fun i hi => rk _ (by omega) (by omega) (p4 i hi)⟩,
    ⟨(f _ (by omega) (by omega)).trans h3.1, (f _ (by omega) (by omega)).trans h3.2⟩, ⟨(f _ (by omega) (by omega)).trans h4.1, (f _ (by omega) (by omega)).trans h4.2⟩,
    ⟨(f _ (by omega) (by omega)).trans q1, (f _ (by omega) (by omega)).trans q2, fun j hj => sa _ (by omega) (by omega) (q3 j hj), fun j ws e => ?_⟩, ⟨sz, (f _ (by omega) (by omega)).trans r1, (f _ (by omega) (by omega)).trans r2, fun j hj => sa _ (by omega) (by omega) (r3 j hj)⟩,
    ⟨b7, (f _ (by omega) (by omega)).trans t1, (f _ (by omega) (by omega)).trans t2, t3⟩, ⟨b8, l8, z8, (f _ (by omega) (by omega)).trans u1, (f _ (by omega) (by omega)).trans u2⟩⟩
  have hj := (List.getElem?_eq_some_iff.mp e).1
  obtain ⟨⟨b9, y1, y2, y3⟩, y4⟩ := q4 j ws e
  exact ⟨⟨b9, (f _ (by omega) (by omega)).trans y1, (f _ (by omega) (by omega)).trans y2, y3⟩, y4⟩
abbrev cw_ad (c s a : Nat) : Prop := a = s ∨ ∃ j, j < 8 ∧ a = c + 2 + 2 * j
end
section
set_option maxRecDepth 100000 in
set_option maxHeartbeats 4000000 in
theorem ct_LL_mistakes (l : Launch) (Z : gw_Z) (b0 : Nat) (σ : gw_S) (n c cd s sd : Nat) (A : ab_A) (hA : ab_ok A) (hC : cw_at σ Z n A c cd s sd) : gw_M l ny_LL_mistakes nc_LL_mistakes (1, 0, 0, 0, 0) (some .int) Z b0 σ [.ref n] (fun v σ' => v = some (.int (nI A.mk)) ∧ σ' = σ) := by
  refine gw_M_of rfl (Nat.le_of_ble_eq_true rfl) ?_
  intro X hX hl hz hb0 hr hnm hQ
  subst hz hb0 hl
  have hX : gw_ok X nc_LL_mistakes "LabelLearner" (1, 0, 0, 0, 0) := hX
  show gw_W X σ 0 0 0 [(0, .ref n)] []
  obtain ⟨hsw, h0, ⟨kt, hkt, htx⟩, hde, hwe, hte, hrc, hrd, hsp, hsd⟩ := id hC
  obtain ⟨sw1, sw2⟩ := id hsw
  obtain ⟨c0, c1, c2, c3⟩ := id hrc
  obtain ⟨bsp, s0, s1, hbsp⟩ := id hsp
  have hl8 := hA.2.2.1
  have hsl := hA.2.2.2.2.1.2
  refine gw_aload_n hX nd_LL_mistakes_0 rfl 0 rfl ?_
  refine gw_get hX kf_LL_75 nd_LL_mistakes_1 h0 rfl ?_
  exact gw_iret hX hQ hr nd_LL_mistakes_4 (by decide) (by decide) ⟨rfl, rfl⟩
set_option maxRecDepth 100000 in
set_option maxHeartbeats 4000000 in
theorem ct_LL_passes (l : Launch) (Z : gw_Z) (b0 : Nat) (σ : gw_S) (n c cd s sd : Nat) (A : ab_A) (hA : ab_ok A) (hC : cw_at σ Z n A c cd s sd) : gw_M l ny_LL_passes nc_LL_passes (1, 0, 0, 0, 0) (some .int) Z b0 σ [.ref n] (fun v σ' => v = some (.int (nI A.ps)) ∧ σ' = σ) := by
  refine gw_M_of rfl (Nat.le_of_ble_eq_true rfl) ?_
  intro X hX hl hz hb0 hr hnm hQ
  subst hz hb0 hl
  have hX : gw_ok X nc_LL_passes "LabelLearner" (1, 0, 0, 0, 0) := hX
  show gw_W X σ 0 0 0 [(0, .ref n)] []
  obtain ⟨hsw, h0, ⟨kt, hkt, htx⟩, hde, hwe, hte, hrc, hrd, hsp, hsd⟩ := id hC
  obtain ⟨sw1, sw2⟩ := id hsw
  obtain ⟨c0, c1, c2, c3⟩ := id hrc
  obtain ⟨bsp, s0, s1, hbsp⟩ := id hsp
  have hl8 := hA.2.2.1
  have hsl := hA.2.2.2.2.1.2
  refine gw_aload_n hX nd_LL_passes_0 rfl 0 rfl ?_
  refine gw_get hX kf_LL_79 nd_LL_passes_1 h0 rfl ?_
  exact gw_iret hX hQ hr nd_LL_passes_4 (by decide) (by decide) ⟨rfl, rfl⟩
set_option maxRecDepth 100000 in
set_option maxHeartbeats 4000000 in
theorem ct_LL_sentences (l : Launch) (Z : gw_Z) (b0 : Nat) (σ : gw_S) (n c cd s sd : Nat) (A : ab_A) (hA : ab_ok A) (hC : cw_at σ Z n A c cd s sd) : gw_M l ny_LL_sentences nc_LL_sentences (1, 0, 0, 0, 0) (some .int) Z b0 σ [.ref n] (fun v σ' => v = some (.int (nI A.ss.length)) ∧ σ' = σ) := by
  refine gw_M_of rfl (Nat.le_of_ble_eq_true rfl) ?_
  intro X hX hl hz hb0 hr hnm hQ
  subst hz hb0 hl
  have hX : gw_ok X nc_LL_sentences "LabelLearner" (1, 0, 0, 0, 0) := hX
  show gw_W X σ 0 0 0 [(0, .ref n)] []
  obtain ⟨hsw, h0, ⟨kt, hkt, htx⟩, hde, hwe, hte, hrc, hrd, hsp, hsd⟩ := id hC
  obtain ⟨sw1, sw2⟩ := id hsw
  obtain ⟨c0, c1, c2, c3⟩ := id hrc
  obtain ⟨bsp, s0, s1, hbsp⟩ := id hsp
  have hl8 := hA.2.2.1
  have hsl := hA.2.2.2.2.1.2
  refine gw_aload_n hX nd_LL_sentences_0 rfl 0 rfl ?_
  refine gw_get hX kf_LL_36 nd_LL_sentences_1 h0 rfl ?_
  refine gw_get hX kf_LL_85 nd_LL_sentences_4 c0 rfl ?_
  exact gw_iret hX hQ hr nd_LL_sentences_7 (by decide) (by decide) ⟨rfl, rfl⟩
set_option maxRecDepth 100000 in
set_option maxHeartbeats 4000000 in
theorem ct_LL_weightsOrTotals (l : Launch) (Z : gw_Z) (b0 : Nat) (σ : gw_S) (n c cd s sd : Nat) (A : ab_A) (hA : ab_ok A) (hC : cw_at σ Z n A c cd s sd) (q : Nat) (hq : q < 2) : gw_M l ny_LL_weightsOrTotals nc_LL_weightsOrTotals (2, 0, 0, 0, 0) (some (.object "LabelLearner$Weights")) Z b0 σ [.ref n, .int (nI q)] (fun v σ' => v = some (.ref (if q = 0 then n + 80 else n + 82)) ∧ σ' = σ) := by
  refine gw_M_of rfl (Nat.le_of_ble_eq_true rfl) ?_
  intro X hX hl hz hb0 hr hnm hQ
  subst hz hb0 hl
  have hX : gw_ok X nc_LL_weightsOrTotals "LabelLearner" (2, 0, 0, 0, 0) := hX
  show gw_W X σ 0 0 0 [(0, .ref n), (1, .int (nI q))] []
  obtain ⟨hsw, h0, ⟨kt, hkt, htx⟩, hde, hwe, hte, hrc, hrd, hsp, hsd⟩ := id hC
  obtain ⟨sw1, sw2⟩ := id hsw
  obtain ⟨c0, c1, c2, c3⟩ := id hrc
  obtain ⟨bsp, s0, s1, hbsp⟩ := id hsp
  have hl8 := hA.2.2.1
  have hsl := hA.2.2.2.2.1.2
  refine gw_iload_n hX nd_LL_weightsOrTotals_0 rfl 1 rfl ?_
  refine gw_if_eq (tgt := 11) hX nd_LL_weightsOrTotals_1 rfl (fun hb => ?_) (fun hb => ?_)
  · have hb : q = 0 := (nI_eq (a := q) (b := 0) (by omega) (by omega)).mp hb
    refine gw_aload_n hX nd_LL_weightsOrTotals_11 rfl 0 rfl ?_
    refine gw_get hX kf_LL_26 nd_LL_weightsOrTotals_12 h0 rfl ?_
    exact gw_aret hX hQ hr nd_LL_weightsOrTotals_15 (by decide) (by decide) ⟨by rw [if_pos hb], rfl⟩
  · have hb : ¬ q = 0 := fun h => hb ((nI_eq (a := q) (b := 0) (by omega) (by omega)).mpr h)
    refine gw_aload_n hX nd_LL_weightsOrTotals_4 rfl 0 rfl ?_
    refine gw_get hX kf_LL_30 nd_LL_weightsOrTotals_5 h0 rfl ?_
    refine gw_goto (tgt := 15) hX nd_LL_weightsOrTotals_8 rfl ?_
    exact gw_aret hX hQ hr nd_LL_weightsOrTotals_15 (by decide) (by decide) ⟨by rw [if_neg hb], rfl⟩
set_option maxRecDepth 100000 in
set_option maxHeartbeats 4000000 in
theorem ct_LL_requireWord (l : Launch) (hl0 : l.stackTraces = false) (Z : gw_Z) (b0 : Nat) (σ : gw_S) (x : Int32) (K : Nat) (hK : K ≤ 6) : gx_M l ny_LL_requireWord nc_LL_requireWord (2, 6, 100, 1, 6) none Z b0 σ [.int x, .int (nI K)] (fun v σ' => v = none ∧ (∃ j, j < K ∧ x = nI j) ∧ σ' = σ) (fun E σ' => E = gx_IO ∧ (x < 0 ∨ ¬ x < nI K) ∧ σ' = (σ.1 + 1, σ.2)) := by
  refine gx_M_of rfl (Nat.le_of_ble_eq_true rfl) hl0 ?_
  intro X hX hl hz hb0 hr hnm hQ hE
  subst hz hb0 hl
  have hX : gw_ok X nc_LL_requireWord "LabelLearner" (2, 6, 100, 1, 6) := hX
  show gw_W X σ 0 0 0 [(0, .int x), (1, .int (nI K))] []
  refine gw_iload_n hX nd_LL_requireWord_0 rfl 0 rfl ?_
  refine gw_if_lt (tgt := 9) hX nd_LL_requireWord_1 rfl (fun hb => ?_) (fun hb => ?_)
  · skip
    exact gx_throw (tx := "no such word") hX hE hQ gx_sIO (by decide +kernel) nd_LL_requireWord_9 nd_LL_requireWord_12 nd_LL_requireWord_13 nd_LL_requireWord_15 nd_LL_requireWord_18 (by decide) (by decide) (by decide) (by decide) (by decide) (by decide) ⟨rfl, Or.inl hb, rfl⟩
  · skip
    refine gw_iload_n hX nd_LL_requireWord_4 rfl 0 rfl ?_
    refine gw_iload_n hX nd_LL_requireWord_5 rfl 1 rfl ?_
    have hb0 := hb
    refine gw_icmp_lt (tgt := 19) hX nd_LL_requireWord_6 rfl (fun hb => ?_) (fun hb => ?_)
    · skip
      exact gx_vret hX hQ hr nd_LL_requireWord_19 (by decide) (by decide) ⟨rfl, ix_of (by omega) hb0 hb, rfl⟩
    · skip
      exact gx_throw (tx := "no such word") hX hE hQ gx_sIO (by decide +kernel) nd_LL_requireWord_9 nd_LL_requireWord_12 nd_LL_requireWord_13 nd_LL_requireWord_15 nd_LL_requireWord_18 (by decide) (by decide) (by decide) (by decide) (by decide) (by decide) ⟨rfl, Or.inr hb, rfl⟩
set_option maxRecDepth 100000 in
set_option maxHeartbeats 4000000 in
theorem ct_LL_sentenceNumbered (l : Launch) (hl0 : l.stackTraces = false) (Z : gw_Z) (b0 : Nat) (σ : gw_S) (n c cd s sd : Nat) (A : ab_A) (hA : ab_ok A) (hC : cw_at σ Z n A c cd s sd) (x : Int32) : gx_M l ny_LL_sentenceNumbered nc_LL_sentenceNumbered (2, 6, 100, 1, 6) (some (.object "LabelLearner$Sentence")) Z b0 σ [.ref n, .int x] (fun v σ' => (∃ (ws : List px_W) (a : Nat), ab_sent A x = some ws ∧ v = some (.ref a) ∧ se_at σ Z a ws ∧ cw_ad c s a) ∧ σ' = σ) (fun E σ' => E = gx_IO ∧ ab_sent A x = none ∧ σ' = (σ.1 + 1, σ.2)) := by
  refine gx_M_of rfl (Nat.le_of_ble_eq_true rfl) hl0 ?_
  intro X hX hl hz hb0 hr hnm hQ hE
  subst hz hb0 hl
  have hX : gw_ok X nc_LL_sentenceNumbered "LabelLearner" (2, 6, 100, 1, 6) := hX
  show gw_W X σ 0 0 0 [(0, .ref n), (1, .int x)] []
  obtain ⟨hsw, h0, ⟨kt, hkt, htx⟩, hde, hwe, hte, hrc, hrd, hsp, hsd⟩ := id hC
  obtain ⟨sw1, sw2⟩ := id hsw
  obtain ⟨c0, c1, c2, c3⟩ := id hrc
  obtain ⟨bsp, s0, s1, hbsp⟩ := id hsp
  have hl8 := hA.2.2.1
  have hsl := hA.2.2.2.2.1.2
  refine gw_iload_n hX nd_LL_sentenceNumbered_0 rfl 1 rfl ?_
  refine gw_iconst (v := (-1)) hX nd_LL_sentenceNumbered_1 rfl ?_
  refine gw_icmp_ne (tgt := 20) hX nd_LL_sentenceNumbered_2 rfl (fun hb => ?_) (fun hb => ?_)
  · skip
    refine gw_iload_n hX nd_LL_sentenceNumbered_20 rfl 1 rfl ?_
    have hx1 := hb
    refine gw_if_lt (tgt := 35) hX nd_LL_sentenceNumbered_21 rfl (fun hb => ?_) (fun hb => ?_)
    · skip
      exact gx_throw (tx := "no such sentence") hX hE hQ gx_sIO (by decide +kernel) nd_LL_sentenceNumbered_35 nd_LL_sentenceNumbered_38 nd_LL_sentenceNumbered_39 nd_LL_sentenceNumbered_41 nd_LL_sentenceNumbered_44 (by decide) (by decide) (by decide) (by decide) (by decide) (by decide) ⟨rfl, ab_sent_no hl8 (Or.inl hx1) (Or.inl hb), rfl⟩
    · skip
      refine gw_iload_n hX nd_LL_sentenceNumbered_24 rfl 1 rfl ?_
      refine gw_aload_n hX nd_LL_sentenceNumbered_25 rfl 0 rfl ?_
      refine gw_get hX kf_LL_36 nd_LL_sentenceNumbered_26 h0 rfl ?_
      refine gw_get hX kf_LL_85 nd_LL_sentenceNumbered_29 c0 rfl ?_
      have hx2 := hb
      refine gw_icmp_lt (tgt := 45) hX nd_LL_sentenceNumbered_32 rfl (fun hb => ?_) (fun hb => ?_)
      · skip
        obtain ⟨j, hj, rfl⟩ := ix_of (K := A.ss.length) (by omega) hx2 hb
        refine gw_aload_n hX nd_LL_sentenceNumbered_45 rfl 0 rfl ?_
        refine gw_get hX kf_LL_36 nd_LL_sentenceNumbered_46 h0 rfl ?_
        refine gw_get hX kf_LL_165 nd_LL_sentenceNumbered_49 c0 rfl ?_
        refine gw_iload_n hX nd_LL_sentenceNumbered_52 rfl 1 rfl ?_
        refine gw_ald3 hX nd_LL_sentenceNumbered_53 c1 j rfl (by omega) (by decide) (r := c + 2 + 2 * j) rfl ?_
        exact gx_aret hX hQ hr nd_LL_sentenceNumbered_54 (by decide) (by decide) ⟨⟨A.ss[j], c + 2 + 2 * j, ab_sent_of hj hl8, rfl, (c3 j _ (List.getElem?_eq_getElem hj)).1, Or.inr ⟨j, by omega, rfl⟩⟩, rfl⟩
      · skip
        exact gx_throw (tx := "no such sentence") hX hE hQ gx_sIO (by decide +kernel) nd_LL_sentenceNumbered_35 nd_LL_sentenceNumbered_38 nd_LL_sentenceNumbered_39 nd_LL_sentenceNumbered_41 nd_LL_sentenceNumbered_44 (by decide) (by decide) (by decide) (by decide) (by decide) (by decide) ⟨rfl, ab_sent_no hl8 (Or.inl hx1) (Or.inr hb), rfl⟩
  · skip
    subst hb
    refine gw_aload_n hX nd_LL_sentenceNumbered_5 rfl 0 rfl ?_
    refine gw_get hX kf_LL_46 nd_LL_sentenceNumbered_6 h0 rfl ?_
    refine gw_get hX kf_LL_94 nd_LL_sentenceNumbered_9 s0 rfl ?_
    
    refine gw_if_le (tgt := 20) hX nd_LL_sentenceNumbered_12 rfl (fun hb => ?_) (fun hb => ?_)
    · have hb : A.sp.length ≤ 0 := (nI_leI (a := A.sp.length) (b := 0) (by omega) (by omega)).mp hb
      have hz := hb
      refine gw_iload_n hX nd_LL_sentenceNumbered_20 rfl 1 rfl ?_
      refine gw_if_lt (tgt := 35) hX nd_LL_sentenceNumbered_21 rfl (fun hb => ?_) (fun hb => ?_)
      · skip
        exact gx_throw (tx := "no such sentence") hX hE hQ gx_sIO (by decide +kernel) nd_LL_sentenceNumbered_35 nd_LL_sentenceNumbered_38 nd_LL_sentenceNumbered_39 nd_LL_sentenceNumbered_41 nd_LL_sentenceNumbered_44 (by decide) (by decide) (by decide) (by decide) (by decide) (by decide) ⟨rfl, ab_sent_no hl8 (Or.inr (by omega)) (Or.inl (by decide)), rfl⟩
      · skip
        exact absurd (by decide) hb
    · have hb : ¬ A.sp.length ≤ 0 := fun h => hb ((nI_leI (a := A.sp.length) (b := 0) (by omega) (by omega)).mpr h)
      refine gw_aload_n hX nd_LL_sentenceNumbered_15 rfl 0 rfl ?_
      refine gw_get hX kf_LL_46 nd_LL_sentenceNumbered_16 h0 rfl ?_
      exact gx_aret hX hQ hr nd_LL_sentenceNumbered_19 (by decide) (by decide) ⟨⟨A.sp, s, ab_sent_sp hb, rfl, hsp, Or.inl rfl⟩, rfl⟩
end
section
/-! what the questions are answered with -/
def se_B (ws : List px_W) (j : Nat) : Nat := ((ws[j / 3]?).map (fun w => px_k w (j % 3))).getD 0
theorem se_B_ok {b : Nat → Int32} {ws : List px_W} (h : se_bk b ws) (ho : se_ok ws) : ∀ j, j < ws.length * 3 → b j = nI (se_B ws j) ∧ se_B ws j < 32 := by
  intro j hj
  have h1 : j / 3 < ws.length := by omega
  have e := List.getElem?_eq_getElem h1
  obtain ⟨p0, p1, p2⟩ := h _ _ e
  obtain ⟨o0, o1, o2, -⟩ := ho _ (List.getElem_mem h1)
  unfold se_B
  rw [e]
  simp only [Option.map_some, Option.getD_some]
  have hm : j % 3 = 0 ∨ j % 3 = 1 ∨ j % 3 = 2 := by omega
  rcases hm with hm | hm | hm
  · rw [hm, show b j = b (j / 3 * 3 + 0) from congrArg b (by omega)]; exact ⟨p0, o0⟩
  · rw [hm, show b j = b (j / 3 * 3 + 1) from congrArg b (by omega)]; exact ⟨p1, o1⟩
  · rw [hm, show b j = b (j / 3 * 3 + 2) from congrArg b (by omega)]; exact ⟨p2, o2⟩
def ab_w (A : ab_A) (q : Nat) : Nat → Int := if q = 0 then A.wt else A.tt
def ab_label (A : ab_A) (x : Int32) : Option Nat := if x < 0 ∨ ¬ x < nI A.kw then none else some (A.kc / 4 ^ x.toNatClampNeg % 4)
def ab_wgt (A : ab_A) (x y : Int32) (q : Nat) : Option Int := if x < 0 ∨ nI 37 ≤ x ∨ y < 0 ∨ ¬ y < nI 4 then none else some (ab_w A q (x.toNatClampNeg * 4 + y.toNatClampNeg))
def ab_score (A : ab_A) (x y : Int32) (q : Nat) : Option Int := (ab_sent A x).map (fun ws => wd_T (ab_w A q) (se_B ws) (lb_at y) ws.length)
theorem cw_w {σ : gw_S} {Z : gw_Z} {n c cd s sd : Nat} {A : ab_A} (h : cw_at σ Z n A c cd s sd) (q : Nat) : we_at σ Z (if q = 0 then n + 80 else n + 82) (ab_w A q) := by
  unfold ab_w
  split
  · exact h.2.2.2.2.1
  · exact h.2.2.2.2.2.1
theorem ab_feat_z {A : ab_A} {x y z : Int32} (h : z < 0 ∨ nI 3 ≤ z) : ab_feat A x y z = none := by unfold ab_feat; rw [if_pos h]
theorem ab_feat_s {A : ab_A} {x y z : Int32} (h : ab_sent A x = none) : ab_feat A x y z = none := by unfold ab_feat; split <;> simp [h]
theorem ab_feat_w {A : ab_A} {x y z : Int32} {ws : List px_W} (h : ab_sent A x = some ws) (hw : ab_word ws y = none) : ab_feat A x y z = none := by unfold ab_feat; split <;> simp [h, hw]
theorem ab_feat_of {A : ab_A} {x : Int32} {j k : Nat} {ws : List px_W} (h : ab_sent A x = some ws) (hj : j < ws.length) (hl : ws.length ≤ 6) (hk : k < 3) : ab_feat A x (nI j) (nI k) = some (px_k ws[j] k) := by
  unfold ab_feat
  rw [if_neg, h, nI_clamp (by omega)]
  · simp [ab_word_of hj hl]
  · rintro (h1 | h1)
    · exact nI_pos (by omega) h1
    · exact absurd ((nI_leI (by omega) (by omega)).mp h1) (by omega)
theorem ab_given_1 {A : ab_A} {y : Int32} : ab_given A (-1) y = none := by unfold ab_given; rw [if_pos rfl]
theorem ab_given_s {A : ab_A} {x y : Int32} (h : ab_sent A x = none) : ab_given A x y = none := by unfold ab_given; split <;> simp [h]
theorem ab_given_w {A : ab_A} {x y : Int32} {ws : List px_W} (h : ab_sent A x = some ws) (hw : ab_word ws y = none) : ab_given A x y = none := by unfold ab_given; split <;> simp [h, hw]
theorem ab_given_of {A : ab_A} {x : Int32} {j : Nat} {ws : List px_W} (hx : ¬ x = -1) (h : ab_sent A x = some ws) (hj : j < ws.length) (hl : ws.length ≤ 6) : ab_given A x (nI j) = some ws[j].2.2.2 := by
  unfold ab_given
  rw [if_neg hx, h]
  simp [ab_word_of hj hl]
theorem ab_label_of {A : ab_A} {j : Nat} (hj : j < A.kw) (h : A.kw ≤ 6) : ab_label A (nI j) = some (A.kc / 4 ^ j % 4) := by
  unfold ab_label
  rw [if_neg, nI_clamp (by omega)]
  rintro (h1 | h1)
  · exact nI_pos (by omega) h1
  · exact h1 (nI_lt hj (by omega))
theorem ab_label_no {A : ab_A} {x : Int32} (h : x < 0 ∨ ¬ x < nI A.kw) : ab_label A x = none := by unfold ab_label; rw [if_pos h]
theorem ab_wgt_of {A : ab_A} {i j q : Nat} (hi : i < 37) (hj : j < 4) : ab_wgt A (nI i) (nI j) q = some (ab_w A q (i * 4 + j)) := by
  unfold ab_wgt
  rw [if_neg, nI_clamp (by omega), nI_clamp (by omega)]
  rintro (h1 | h1 | h1 | h1)
  · exact nI_pos (by omega) h1
  · exact absurd ((nI_leI (by omega) (by omega)).mp h1) (by omega)
  · exact nI_pos (by omega) h1
  · exact h1 (nI_lt hj (by omega))
theorem ab_wgt_no {A : ab_A} {x y : Int32} {q : Nat} (h : x < 0 ∨ nI 37 ≤ x ∨ y < 0 ∨ ¬ y < nI 4) : ab_wgt A x y q = none := by unfold ab_wgt; rw [if_pos h]
theorem fk_ok {b : Nat → Int32} {ws : List px_W} (h : se_bk b ws) (ho : se_ok ws) {j k : Nat} (hj : j < ws.length) (hk : k < 3) : b (j * 3 + k) = nI (px_k ws[j] k) ∧ px_k ws[j] k < 32 := by
  have h1 := se_B_ok h ho (j * 3 + k) (by omega)
  have h2 : se_B ws (j * 3 + k) = px_k ws[j] k := by
    unfold se_B
    rw [show (j * 3 + k) / 3 = j by omega, show (j * 3 + k) % 3 = k by omega, List.getElem?_eq_getElem hj]
    rfl
  rw [h2] at h1
  exact h1
set_option maxRecDepth 100000 in
set_option maxHeartbeats 4000000 in
theorem ct_LL_words (l : Launch) (hl0 : l.stackTraces = false) (Z : gw_Z) (b0 : Nat) (σ : gw_S) (n c cd s sd : Nat) (A : ab_A) (hA : ab_ok A) (hC : cw_at σ Z n A c cd s sd) (x : Int32) : gx_M l ny_LL_words nc_LL_words (2, 7, 121, 1, 6) (some .int) Z b0 σ [.ref n, .int x] (fun v σ' => (∃ ws : List px_W, ab_sent A x = some ws ∧ v = some (.int (nI ws.length))) ∧ σ' = σ) (fun E σ' => E = gx_IO ∧ ab_sent A x = none ∧ σ' = (σ.1 + 1, σ.2)) := by
  refine gx_M_of rfl (Nat.le_of_ble_eq_true rfl) hl0 ?_
  intro X hX hl hz hb0 hr hnm hQ hE
  subst hz hb0 hl
  have hX : gw_ok X nc_LL_words "LabelLearner" (2, 7, 121, 1, 6) := hX
  show gw_W X σ 0 0 0 [(0, .ref n), (1, .int x)] []
  obtain ⟨hsw, h0, ⟨kt, hkt, htx⟩, hde, hwe, hte, hrc, hrd, hsp, hsd⟩ := id hC
  obtain ⟨sw1, sw2⟩ := id hsw
  obtain ⟨c0, c1, c2, c3⟩ := id hrc
  obtain ⟨bsp, s0, s1, hbsp⟩ := id hsp
  have hl8 := hA.2.2.1
  have hsl := hA.2.2.2.2.1.2
  refine gw_aload_n hX nd_LL_words_0 rfl 0 rfl ?_
  refine gw_iload_n hX nd_LL_words_1 rfl 1 rfl ?_
  refine gx_callV (rest := []) hX hE.1 hE.2.2.2 ks_LL_95 (gw_in_t 406 (by decide +kernel) rfl) (ct_LL_sentenceNumbered _ hl0 _ _ _ n c cd s sd A hA hC x) h0 rfl rfl (Nat.le_of_ble_eq_true rfl) nd_LL_words_2 (by decide) (fun E_ s_ hx_ => gx_out hX hE hQ (by decide) (by decide) hx_) ?_
  rintro v_ s_ ⟨⟨ws, a, hws, rfl, hse, had⟩, hs_⟩
  have hs_ := hs_.symm
  subst hs_
  obtain ⟨bws, g0, g1, hbk⟩ := id hse
  obtain ⟨⟨hso, hsl6⟩, hne⟩ := ab_sent_ok hA hws
  have hws0 := List.length_pos_iff.mpr hne
  show gw_W X σ 1 6 5 [(0, .ref n), (1, .int x)] [.ref a]
  refine gw_get hX kf_LL_94 nd_LL_words_5 g0 rfl ?_
  exact gx_iret hX hQ hr nd_LL_words_8 (by decide) (by decide) ⟨⟨ws, hws, rfl⟩, rfl⟩
set_option maxRecDepth 100000 in
set_option maxHeartbeats 4000000 in
theorem ct_LL_given (l : Launch) (hl0 : l.stackTraces = false) (Z : gw_Z) (b0 : Nat) (σ : gw_S) (n c cd s sd : Nat) (A : ab_A) (hA : ab_ok A) (hC : cw_at σ Z n A c cd s sd) (x y : Int32) : gx_M l ny_LL_given nc_LL_given (4, 7, 121, 2, 12) (some .int) Z b0 σ [.ref n, .int x, .int y] (fun v σ' => (∃ q : Nat, ab_given A x y = some q ∧ q < 4 ∧ v = some (.int (nI q))) ∧ σ' = σ) (fun E σ' => E = gx_IO ∧ ab_given A x y = none ∧ σ' = (σ.1 + 1, σ.2)) := by
  refine gx_M_of rfl (Nat.le_of_ble_eq_true rfl) hl0 ?_
  intro X hX hl hz hb0 hr hnm hQ hE
  subst hz hb0 hl
  have hX : gw_ok X nc_LL_given "LabelLearner" (4, 7, 121, 2, 12) := hX
  show gw_W X σ 0 0 0 [(0, .ref n), (1, .int x), (2, .int y)] []
  obtain ⟨hsw, h0, ⟨kt, hkt, htx⟩, hde, hwe, hte, hrc, hrd, hsp, hsd⟩ := id hC
  obtain ⟨sw1, sw2⟩ := id hsw
  obtain ⟨c0, c1, c2, c3⟩ := id hrc
  obtain ⟨bsp, s0, s1, hbsp⟩ := id hsp
  have hl8 := hA.2.2.1
  have hsl := hA.2.2.2.2.1.2
  refine gw_iload_n hX nd_LL_given_0 rfl 1 rfl ?_
  refine gw_iconst (v := (-1)) hX nd_LL_given_1 rfl ?_
  refine gw_icmp_ne (tgt := 15) hX nd_LL_given_2 rfl (fun hb => ?_) (fun hb => ?_)
  · skip
    have hx := hb
    refine gw_aload_n hX nd_LL_given_15 rfl 0 rfl ?_
    refine gw_iload_n hX nd_LL_given_16 rfl 1 rfl ?_
    refine gx_callV (rest := []) hX hE.1 hE.2.2.2 ks_LL_95 (gw_in_t 406 (by decide +kernel) rfl) (ct_LL_sentenceNumbered _ hl0 _ _ _ n c cd s sd A hA hC x) h0 rfl rfl (Nat.le_of_ble_eq_true rfl) nd_LL_given_17 (by decide) (fun E_ s_ hx_ => gx_out hX hE hQ (by decide) (by decide) ⟨hx_.1, ab_given_s hx_.2.1, hx_.2.2⟩) ?_
    rintro v_ s_ ⟨⟨ws, a, hws, rfl, hse, had⟩, hs_⟩
    have hs_ := hs_.symm
    subst hs_
    obtain ⟨bws, g0, g1, hbk⟩ := id hse
    obtain ⟨⟨hso, hsl6⟩, hne⟩ := ab_sent_ok hA hws
    have hws0 := List.length_pos_iff.mpr hne
    show gw_W X σ 1 6 20 [(0, .ref n), (1, .int x), (2, .int y)] [.ref a]
    refine gw_astore_n hX nd_LL_given_20 rfl (by decide) (L' := [(3, .ref a), (0, .ref n), (1, .int x), (2, .int y)]) rfl ?_
    refine gw_iload_n hX nd_LL_given_21 rfl 3 rfl ?_
    refine gw_aload_n hX nd_LL_given_22 rfl 0 rfl ?_
    refine gw_get hX kf_LL_94 nd_LL_given_23 g0 rfl ?_
    refine gx_callS (rest := []) hX hE.1 hE.2.2.2 ks_LL_104 (gw_in_t 434 (by decide +kernel) rfl) (ct_LL_requireWord _ hl0 _ _ σ y ws.length hsl6) rfl rfl (Nat.le_of_ble_eq_true rfl) nd_LL_given_26 (by decide) (fun E_ s_ hx_ => gx_out hX hE hQ (by decide) (by decide) ⟨hx_.1, ab_given_w hws (ab_word_no hsl6 hx_.2.1), hx_.2.2⟩) ?_
    rintro v_ s_ ⟨hv_, ⟨j, hj, hjx⟩, hs_⟩
    have hs_ := hs_.symm
    subst hs_ hv_ hjx
    show gw_W X σ 2 12 29 [(3, .ref a), (0, .ref n), (1, .int x), (2, .int (nI j))] []
    refine gw_aload_n hX nd_LL_given_29 rfl 0 rfl ?_
    refine gw_get hX kf_LL_108 nd_LL_given_30 g0 rfl ?_
    refine gw_iload_n hX nd_LL_given_33 rfl 3 rfl ?_
    refine gw_callS (rest := []) hX ks_LL_111 (ct_LL_labelIn _ _ _ σ (nI (se_c ws)) j (by omega)) rfl rfl (Nat.le_of_ble_eq_true rfl) nd_LL_given_34 (by decide) ?_
    rintro v_ s_ ⟨hv_, hs_⟩
    have hs_ := hs_.symm
    subst hs_ hv_
    show gw_W X σ 2 12 37 [(3, .ref a), (0, .ref n), (1, .int x), (2, .int (nI j))] [.int (nI (lb_at (nI (se_c ws)) j))]
    exact gx_iret hX hQ hr nd_LL_given_37 (by decide) (by decide) ⟨⟨ws[j].2.2.2, ab_given_of hx hws hj hsl6, (hso _ (List.getElem_mem hj)).2.2.2, by rw [se_lab hso hsl6 hj]⟩, rfl⟩
  · skip
    subst hb
    exact gx_throw (tx := "the speech is not in the corpus") hX hE hQ gx_sIO (by decide +kernel) nd_LL_given_5 nd_LL_given_8 nd_LL_given_9 nd_LL_given_11 nd_LL_given_14 (by decide) (by decide) (by decide) (by decide) (by decide) (by decide) ⟨rfl, ab_given_1, rfl⟩
set_option maxRecDepth 100000 in
set_option maxHeartbeats 4000000 in
theorem ct_LL_feature (l : Launch) (hl0 : l.stackTraces = false) (Z : gw_Z) (b0 : Nat) (σ : gw_S) (n c cd s sd : Nat) (A : ab_A) (hA : ab_ok A) (hC : cw_at σ Z n A c cd s sd) (x y z : Int32) : gx_M l ny_LL_feature nc_LL_feature (5, 7, 121, 3, 18) (some .int) Z b0 σ [.ref n, .int x, .int y, .int z] (fun v σ' => (∃ q : Nat, ab_feat A x y z = some q ∧ q < 32 ∧ v = some (.int (nI q))) ∧ σ' = σ) (fun E σ' => E = gx_IO ∧ ab_feat A x y z = none ∧ σ' = (σ.1 + 1, σ.2)) := by
  refine gx_M_of rfl (Nat.le_of_ble_eq_true rfl) hl0 ?_
  intro X hX hl hz hb0 hr hnm hQ hE
  subst hz hb0 hl
  have hX : gw_ok X nc_LL_feature "LabelLearner" (5, 7, 121, 3, 18) := hX
  show gw_W X σ 0 0 0 [(0, .ref n), (1, .int x), (2, .int y), (3, .int z)] []
  obtain ⟨hsw, h0, ⟨kt, hkt, htx⟩, hde, hwe, hte, hrc, hrd, hsp, hsd⟩ := id hC
  obtain ⟨sw1, sw2⟩ := id hsw
  obtain ⟨c0, c1, c2, c3⟩ := id hrc
  obtain ⟨bsp, s0, s1, hbsp⟩ := id hsp
  have hl8 := hA.2.2.1
  have hsl := hA.2.2.2.2.1.2
  refine gw_aload_n hX nd_LL_feature_0 rfl 0 rfl ?_
  refine gw_iload_n hX nd_LL_feature_1 rfl 1 rfl ?_
  refine gx_callV (rest := []) hX hE.1 hE.2.2.2 ks_LL_95 (gw_in_t 406 (by decide +kernel) rfl) (ct_LL_sentenceNumbered _ hl0 _ _ _ n c cd s sd A hA hC x) h0 rfl rfl (Nat.le_of_ble_eq_true rfl) nd_LL_feature_2 (by decide) (fun E_ s_ hx_ => gx_out hX hE hQ (by decide) (by decide) ⟨hx_.1, ab_feat_s hx_.2.1, hx_.2.2⟩) ?_
  rintro v_ s_ ⟨⟨ws, a, hws, rfl, hse, had⟩, hs_⟩
  have hs_ := hs_.symm
  subst hs_
  obtain ⟨bws, g0, g1, hbk⟩ := id hse
  obtain ⟨⟨hso, hsl6⟩, hne⟩ := ab_sent_ok hA hws
  have hws0 := List.length_pos_iff.mpr hne
  show gw_W X σ 1 6 5 [(0, .ref n), (1, .int x), (2, .int y), (3, .int z)] [.ref a]
  refine gw_astore hX nd_LL_feature_5 (by decide) (L' := [(4, .ref a), (0, .ref n), (1, .int x), (2, .int y), (3, .int z)]) rfl ?_
  refine gw_iload_n hX nd_LL_feature_7 rfl 3 rfl ?_
  refine gw_aload hX nd_LL_feature_8 0 rfl ?_
  refine gw_get hX kf_LL_94 nd_LL_feature_10 g0 rfl ?_
  refine gx_callS (rest := []) hX hE.1 hE.2.2.2 ks_LL_104 (gw_in_t 434 (by decide +kernel) rfl) (ct_LL_requireWord _ hl0 _ _ σ y ws.length hsl6) rfl rfl (Nat.le_of_ble_eq_true rfl) nd_LL_feature_13 (by decide) (fun E_ s_ hx_ => gx_out hX hE hQ (by decide) (by decide) ⟨hx_.1, ab_feat_w hws (ab_word_no hsl6 hx_.2.1), hx_.2.2⟩) ?_
  rintro v_ s_ ⟨hv_, ⟨j, hj, hjx⟩, hs_⟩
  have hs_ := hs_.symm
  subst hs_ hv_ hjx
  show gw_W X σ 2 12 16 [(4, .ref a), (0, .ref n), (1, .int x), (2, .int (nI j)), (3, .int z)] []
  refine gw_iload_n hX nd_LL_feature_16 rfl 4 rfl ?_
  refine gw_if_lt (tgt := 25) hX nd_LL_feature_17 rfl (fun hb => ?_) (fun hb => ?_)
  · skip
    exact gx_throw (tx := "no such feature") hX hE hQ gx_sIO (by decide +kernel) nd_LL_feature_25 nd_LL_feature_28 nd_LL_feature_29 nd_LL_feature_31 nd_LL_feature_34 (by decide) (by decide) (by decide) (by decide) (by decide) (by decide) ⟨rfl, ab_feat_z (Or.inl hb), rfl⟩
  · skip
    refine gw_iload_n hX nd_LL_feature_20 rfl 4 rfl ?_
    refine gw_iconst (v := nI 3) hX nd_LL_feature_21 rfl ?_
    have hz := hb
    refine gw_icmp_lt (tgt := 35) hX nd_LL_feature_22 rfl (fun hb => ?_) (fun hb => ?_)
    · skip
      obtain ⟨k, hk, rfl⟩ := ix_of (K := 3) (by omega) hz hb
      refine gw_aload hX nd_LL_feature_35 0 rfl ?_
      refine gw_iload_n hX nd_LL_feature_37 rfl 3 rfl ?_
      refine gw_iload_n hX nd_LL_feature_38 rfl 4 rfl ?_
      refine gw_callV (rest := []) hX ks_LL_117 (ct_Se_bucketOf _ _ _ σ a j k bws _ _ g0 g1 (by omega)) g0 rfl rfl (Nat.le_of_ble_eq_true rfl) nd_LL_feature_39 (by decide) ?_
      rintro v_ s_ ⟨hv_, hs_⟩
      have hs_ := hs_.symm
      subst hs_ hv_
      show gw_W X σ 2 12 42 [(4, .ref a), (0, .ref n), (1, .int x), (2, .int (nI j)), (3, .int (nI k))] [.int (bws (j * 3 + k))]
      exact gx_iret hX hQ hr nd_LL_feature_42 (by decide) (by decide) ⟨⟨px_k ws[j] k, ab_feat_of hws hj hsl6 hk, (fk_ok hbk hso hj hk).2, by rw [(fk_ok hbk hso hj hk).1]⟩, rfl⟩
    · skip
      exact gx_throw (tx := "no such feature") hX hE hQ gx_sIO (by decide +kernel) nd_LL_feature_25 nd_LL_feature_28 nd_LL_feature_29 nd_LL_feature_31 nd_LL_feature_34 (by decide) (by decide) (by decide) (by decide) (by decide) (by decide) ⟨rfl, ab_feat_z (Or.inr (Int32.not_lt.mp hb)), rfl⟩

set_option maxRecDepth 100000 in
set_option maxHeartbeats 4000000 in
theorem ct_LL_label (l : Launch) (hl0 : l.stackTraces = false) (Z : gw_Z) (b0 : Nat) (σ : gw_S) (n c cd s sd : Nat) (A : ab_A) (hA : ab_ok A) (hC : cw_at σ Z n A c cd s sd) (x : Int32) : gx_M l ny_LL_label nc_LL_label (2, 7, 121, 1, 6) (some .int) Z b0 σ [.ref n, .int x] (fun v σ' => (∃ q : Nat, ab_label A x = some q ∧ q < 4 ∧ v = some (.int (nI q))) ∧ σ' = σ) (fun E σ' => E = gx_IO ∧ ab_label A x = none ∧ σ' = (σ.1 + 1, σ.2)) := by
  refine gx_M_of rfl (Nat.le_of_ble_eq_true rfl) hl0 ?_
  intro X hX hl hz hb0 hr hnm hQ hE
  subst hz hb0 hl
  have hX : gw_ok X nc_LL_label "LabelLearner" (2, 7, 121, 1, 6) := hX
  show gw_W X σ 0 0 0 [(0, .ref n), (1, .int x)] []
  obtain ⟨hsw, h0, ⟨kt, hkt, htx⟩, hde, hwe, hte, hrc, hrd, hsp, hsd⟩ := id hC
  obtain ⟨sw1, sw2⟩ := id hsw
  obtain ⟨c0, c1, c2, c3⟩ := id hrc
  obtain ⟨bsp, s0, s1, hbsp⟩ := id hsp
  have hl8 := hA.2.2.1
  have hsl := hA.2.2.2.2.1.2
  refine gw_iload_n hX nd_LL_label_0 rfl 1 rfl ?_
  refine gw_aload_n hX nd_LL_label_1 rfl 0 rfl ?_
  refine gw_get hX kf_LL_145 nd_LL_label_2 h0 rfl ?_
  refine gx_callS (rest := []) hX hE.1 hE.2.2.2 ks_LL_104 (gw_in_t 434 (by decide +kernel) rfl) (ct_LL_requireWord _ hl0 _ _ σ x A.kw hA.2.2.2.2.2.1) rfl rfl (Nat.le_of_ble_eq_true rfl) nd_LL_label_5 (by decide) (fun E_ s_ hx_ => gx_out hX hE hQ (by decide) (by decide) ⟨hx_.1, ab_label_no hx_.2.1, hx_.2.2⟩) ?_
  rintro v_ s_ ⟨hv_, ⟨j, hj, hjx⟩, hs_⟩
  have hs_ := hs_.symm
  subst hs_ hv_ hjx
  show gw_W X σ 1 6 8 [(0, .ref n), (1, .int (nI j))] []
  refine gw_aload_n hX nd_LL_label_8 rfl 0 rfl ?_
  refine gw_get hX kf_LL_154 nd_LL_label_9 h0 rfl ?_
  refine gw_iload_n hX nd_LL_label_12 rfl 1 rfl ?_
  have hkw := hA.2.2.2.2.2.1
  have hkc := hA.2.2.2.2.2.2
  have hkp : (4 : Nat) ^ A.kw ≤ 4 ^ 6 := Nat.pow_le_pow_right (by decide) hkw
  refine gw_callS (rest := []) hX ks_LL_111 (ct_LL_labelIn _ _ _ σ (nI A.kc) j (by omega)) rfl rfl (Nat.le_of_ble_eq_true rfl) nd_LL_label_13 (by decide) ?_
  rintro v_ s_ ⟨hv_, hs_⟩
  have hs_ := hs_.symm
  subst hs_ hv_
  show gw_W X σ 1 6 16 [(0, .ref n), (1, .int (nI j))] [.int (nI (lb_at (nI A.kc) j))]
  exact gx_iret hX hQ hr nd_LL_label_16 (by decide) (by decide) ⟨⟨_, ab_label_of hj hkw, Nat.mod_lt _ (by decide), by rw [lb_nI (by omega)]⟩, rfl⟩
set_option maxRecDepth 100000 in
set_option maxHeartbeats 4000000 in
theorem ct_LL_weight (l : Launch) (hl0 : l.stackTraces = false) (Z : gw_Z) (b0 : Nat) (σ : gw_S) (n c cd s sd : Nat) (A : ab_A) (hA : ab_ok A) (hC : cw_at σ Z n A c cd s sd) (x y : Int32) (q : Nat) (hq : q < 2) : gx_M l ny_LL_weight nc_LL_weight (4, 6, 100, 1, 6) (some .long) Z b0 σ [.ref n, .int x, .int y, .int (nI q)] (fun v σ' => (∃ z : Int, ab_wgt A x y q = some z ∧ v = some (.long (iL z))) ∧ σ' = σ) (fun E σ' => E = gx_IO ∧ ab_wgt A x y q = none ∧ σ' = (σ.1 + 1, σ.2)) := by
  refine gx_M_of rfl (Nat.le_of_ble_eq_true rfl) hl0 ?_
  intro X hX hl hz hb0 hr hnm hQ hE
  subst hz hb0 hl
  have hX : gw_ok X nc_LL_weight "LabelLearner" (4, 6, 100, 1, 6) := hX
  show gw_W X σ 0 0 0 [(0, .ref n), (1, .int x), (2, .int y), (3, .int (nI q))] []
  obtain ⟨hsw, h0, ⟨kt, hkt, htx⟩, hde, hwe, hte, hrc, hrd, hsp, hsd⟩ := id hC
  obtain ⟨sw1, sw2⟩ := id hsw
  obtain ⟨c0, c1, c2, c3⟩ := id hrc
  obtain ⟨bsp, s0, s1, hbsp⟩ := id hsp
  have hl8 := hA.2.2.1
  have hsl := hA.2.2.2.2.1.2
  refine gw_iload_n hX nd_LL_weight_0 rfl 1 rfl ?_
  refine gw_if_lt (tgt := 19) hX nd_LL_weight_1 rfl (fun hb => ?_) (fun hb => ?_)
  · skip
    exact gx_throw (tx := "no such weight") hX hE hQ gx_sIO (by decide +kernel) nd_LL_weight_19 nd_LL_weight_22 nd_LL_weight_23 nd_LL_weight_25 nd_LL_weight_28 (by decide) (by decide) (by decide) (by decide) (by decide) (by decide) ⟨rfl, ab_wgt_no (Or.inl hb), rfl⟩
  · skip
    refine gw_iload_n hX nd_LL_weight_4 rfl 1 rfl ?_
    refine gw_bipush (v := nI 37) hX nd_LL_weight_5 rfl ?_
    have hx1 := hb
    refine gw_icmp_ge (tgt := 19) hX nd_LL_weight_7 rfl (fun hb => ?_) (fun hb => ?_)
    · skip
      exact gx_throw (tx := "no such weight") hX hE hQ gx_sIO (by decide +kernel) nd_LL_weight_19 nd_LL_weight_22 nd_LL_weight_23 nd_LL_weight_25 nd_LL_weight_28 (by decide) (by decide) (by decide) (by decide) (by decide) (by decide) ⟨rfl, ab_wgt_no (Or.inr (Or.inl hb)), rfl⟩
    · skip
      refine gw_iload_n hX nd_LL_weight_10 rfl 2 rfl ?_
      have hx2 := hb
      refine gw_if_lt (tgt := 19) hX nd_LL_weight_11 rfl (fun hb => ?_) (fun hb => ?_)
      · skip
        exact gx_throw (tx := "no such weight") hX hE hQ gx_sIO (by decide +kernel) nd_LL_weight_19 nd_LL_weight_22 nd_LL_weight_23 nd_LL_weight_25 nd_LL_weight_28 (by decide) (by decide) (by decide) (by decide) (by decide) (by decide) ⟨rfl, ab_wgt_no (Or.inr (Or.inr (Or.inl hb))), rfl⟩
      · skip
        refine gw_iload_n hX nd_LL_weight_14 rfl 2 rfl ?_
        refine gw_iconst (v := nI 4) hX nd_LL_weight_15 rfl ?_
        have hy1 := hb
        refine gw_icmp_lt (tgt := 29) hX nd_LL_weight_16 rfl (fun hb => ?_) (fun hb => ?_)
        · skip
          have hb9 := hb
          obtain ⟨i, hi, rfl⟩ := ix_of (K := 37) (by omega) hx1 (Int32.not_le.mp hx2)
          obtain ⟨j, hj, rfl⟩ := ix_of (K := 4) (by omega) hy1 hb9
          refine gw_aload_n hX nd_LL_weight_29 rfl 0 rfl ?_
          refine gw_iload_n hX nd_LL_weight_30 rfl 3 rfl ?_
          refine gw_callV (rest := []) hX ks_LL_133 (ct_LL_weightsOrTotals _ _ _ σ n c cd s sd A hA hC q hq) h0 rfl rfl (Nat.le_of_ble_eq_true rfl) nd_LL_weight_31 (by decide) ?_
          rintro v_ s_ ⟨hv_, hs_⟩
          have hs_ := hs_.symm
          subst hs_ hv_
          show gw_W X σ 0 0 34 [(0, .ref n), (1, .int (nI i)), (2, .int (nI j)), (3, .int (nI q))] [.ref (if q = 0 then n + 80 else n + 82)]
          refine gw_iload_n hX nd_LL_weight_34 rfl 1 rfl ?_
          refine gw_iload_n hX nd_LL_weight_35 rfl 2 rfl ?_
          obtain ⟨hw0, hw1⟩ := cw_w hC q
          refine gw_callV (rest := []) hX ks_LL_137 (ct_We_at _ _ _ σ (if q = 0 then n + 80 else n + 82) i j _ hw0 hw1 (by omega)) hw0 rfl rfl (Nat.le_of_ble_eq_true rfl) nd_LL_weight_36 (by decide) ?_
          rintro v_ s_ ⟨hv_, hs_⟩
          have hs_ := hs_.symm
          subst hs_ hv_
          show gw_W X σ 0 0 39 [(0, .ref n), (1, .int (nI i)), (2, .int (nI j)), (3, .int (nI q))] [.long (iL (ab_w A q (i * 4 + j)))]
          exact gx_lret hX hQ hr nd_LL_weight_39 (by decide) (by decide) ⟨⟨_, ab_wgt_of hi hj, rfl⟩, rfl⟩
        · skip
          exact gx_throw (tx := "no such weight") hX hE hQ gx_sIO (by decide +kernel) nd_LL_weight_19 nd_LL_weight_22 nd_LL_weight_23 nd_LL_weight_25 nd_LL_weight_28 (by decide) (by decide) (by decide) (by decide) (by decide) (by decide) ⟨rfl, ab_wgt_no (Or.inr (Or.inr (Or.inr hb))), rfl⟩
set_option maxRecDepth 100000 in
set_option maxHeartbeats 4000000 in
theorem ct_LL_score (l : Launch) (hl0 : l.stackTraces = false) (Z : gw_Z) (b0 : Nat) (σ : gw_S) (n c cd s sd : Nat) (A : ab_A) (hA : ab_ok A) (hC : cw_at σ Z n A c cd s sd) (x y : Int32) (q : Nat) (hq : q < 2) : gx_M l ny_LL_score nc_LL_score (4, 7, 121, 1, 6) (some .long) Z b0 σ [.ref n, .int x, .int y, .int (nI q)] (fun v σ' => (∃ z : Int, ab_score A x y q = some z ∧ v = some (.long (iL z))) ∧ σ' = σ) (fun E σ' => E = gx_IO ∧ ab_score A x y q = none ∧ σ' = (σ.1 + 1, σ.2)) := by
  refine gx_M_of rfl (Nat.le_of_ble_eq_true rfl) hl0 ?_
  intro X hX hl hz hb0 hr hnm hQ hE
  subst hz hb0 hl
  have hX : gw_ok X nc_LL_score "LabelLearner" (4, 7, 121, 1, 6) := hX
  show gw_W X σ 0 0 0 [(0, .ref n), (1, .int x), (2, .int y), (3, .int (nI q))] []
  obtain ⟨hsw, h0, ⟨kt, hkt, htx⟩, hde, hwe, hte, hrc, hrd, hsp, hsd⟩ := id hC
  obtain ⟨sw1, sw2⟩ := id hsw
  obtain ⟨c0, c1, c2, c3⟩ := id hrc
  obtain ⟨bsp, s0, s1, hbsp⟩ := id hsp
  have hl8 := hA.2.2.1
  have hsl := hA.2.2.2.2.1.2
  refine gw_aload_n hX nd_LL_score_0 rfl 0 rfl ?_
  refine gw_iload_n hX nd_LL_score_1 rfl 3 rfl ?_
  refine gw_callV (rest := []) hX ks_LL_133 (ct_LL_weightsOrTotals _ _ _ σ n c cd s sd A hA hC q hq) h0 rfl rfl (Nat.le_of_ble_eq_true rfl) nd_LL_score_2 (by decide) ?_
  rintro v_ s_ ⟨hv_, hs_⟩
  have hs_ := hs_.symm
  subst hs_ hv_
  show gw_W X σ 0 0 5 [(0, .ref n), (1, .int x), (2, .int y), (3, .int (nI q))] [.ref (if q = 0 then n + 80 else n + 82)]
  refine gw_aload_n hX nd_LL_score_5 rfl 0 rfl ?_
  refine gw_iload_n hX nd_LL_score_6 rfl 1 rfl ?_
  refine gx_callV (rest := [.ref (if q = 0 then n + 80 else n + 82)]) hX hE.1 hE.2.2.2 ks_LL_95 (gw_in_t 406 (by decide +kernel) rfl) (ct_LL_sentenceNumbered _ hl0 _ _ _ n c cd s sd A hA hC x) h0 rfl rfl (Nat.le_of_ble_eq_true rfl) nd_LL_score_7 (by decide) (fun E_ s_ hx_ => gx_out hX hE hQ (by decide) (by decide) ⟨hx_.1, by unfold ab_score; rw [hx_.2.1]; rfl, hx_.2.2⟩) ?_
  rintro v_ s_ ⟨⟨ws, a, hws, rfl, hse, had⟩, hs_⟩
  have hs_ := hs_.symm
  subst hs_
  obtain ⟨bws, g0, g1, hbk⟩ := id hse
  obtain ⟨⟨hso, hsl6⟩, hne⟩ := ab_sent_ok hA hws
  have hws0 := List.length_pos_iff.mpr hne
  show gw_W X σ 1 6 10 [(0, .ref n), (1, .int x), (2, .int y), (3, .int (nI q))] [.ref a, .ref (if q = 0 then n + 80 else n + 82)]
  refine gw_iload_n hX nd_LL_score_10 rfl 2 rfl ?_
  obtain ⟨hw0, hw1⟩ := cw_w hC q
  refine gw_callV (rest := []) hX ks_LL_161 (ct_We_sum _ _ _ σ (if q = 0 then n + 80 else n + 82) a (ab_w A q) bws (se_B ws) _ y ws.length (se_B_ok hbk hso) hsl6 hw0 hw1 g0 g1) hw0 rfl rfl (Nat.le_of_ble_eq_true rfl) nd_LL_score_11 (by decide) ?_
  rintro v_ s_ ⟨hv_, hs_⟩
  have hs_ := hs_.symm
  subst hs_ hv_
  show gw_W X σ 1 6 14 [(0, .ref n), (1, .int x), (2, .int y), (3, .int (nI q))] [.long (iL (wd_T (ab_w A q) (se_B ws) (lb_at y) ws.length))]
  exact gx_lret hX hQ hr nd_LL_score_14 (by decide) (by decide) ⟨⟨_, by unfold ab_score; rw [hws]; rfl, rfl⟩, rfl⟩
end
section
/-! ===== learning, apart from how it is held ===== -/
def ab_rk (wt : Nat → Int) (ws : List px_W) : List (Int × Nat) := tk_all [] (tl_A ws.length (wd_W wt (se_B ws)) (dc_P wt) (dc_F wt))
theorem ab_rk_x {wt : Nat → Int} {ws : List px_W} (h : ws ≠ []) : ab_rk wt ws = tk_all [] ((List.range (4 ^ ws.length)).map (tl_x ws.length (wd_W wt (se_B ws)) (dc_P wt) (dc_F wt))) := by
  have h0 := List.length_pos_iff.mpr h
  obtain ⟨k, hk⟩ : ∃ k, ws.length = k + 1 := ⟨ws.length - 1, by omega⟩
  unfold ab_rk
  rw [hk, tl_A_x]
theorem ab_rk_len {wt : Nat → Int} {ws : List px_W} (h : ws ≠ []) : (ab_rk wt ws).length = 2 := by
  have h0 := List.length_pos_iff.mpr h
  rw [ab_rk_x h, tk_len _ [] trivial]
  have h1 : (4 : Nat) ^ 1 ≤ 4 ^ ws.length := Nat.pow_le_pow_right (by decide) h0
  simp only [List.length_nil, List.length_map, List.length_range]
  omega
def ab_best (wt : Nat → Int) (ws : List px_W) (j : Nat) : Int × Nat := ((ab_rk wt ws)[j]?).getD (0, 0)
theorem ab_best_at {wt : Nat → Int} {ws : List px_W} (h : ws ≠ []) {j : Nat} (hj : j < 2) : (ab_rk wt ws)[j]? = some (ab_best wt ws j) := by
  unfold ab_best
  have h1 : j < (ab_rk wt ws).length := by rw [ab_rk_len h]; exact hj
  rw [List.getElem?_eq_getElem h1]
  rfl
theorem ab_best_lt {wt : Nat → Int} {ws : List px_W} (h : ws ≠ []) {j : Nat} (hj : j < 2) : (ab_best wt ws j).2 < 4 ^ ws.length := by
  have h1 := List.mem_of_getElem? (ab_best_at (wt := wt) h hj)
  rw [ab_rk_x h] at h1
  rcases tk_mem _ [] trivial _ h1 with h2 | h2
  · cases h2
  · obtain ⟨q, -, e⟩ := List.mem_map.mp h2
    rw [← e]
    exact tl_d_lt _ (fun w _ => tl_g_lt _ _ _)
theorem ab_best_6 {wt : Nat → Int} {ws : List px_W} (h : ws ≠ []) (hl : ws.length ≤ 6) {j : Nat} (hj : j < 2) : (ab_best wt ws j).2 < 4096 :=
  Nat.lt_of_lt_of_le (ab_best_lt h hj) (show (4 : Nat) ^ ws.length ≤ 4 ^ 6 from Nat.pow_le_pow_right (by decide) hl)
theorem se_c_6 {ws : List px_W} (ho : se_ok ws) (hl : ws.length ≤ 6) : se_c ws < 4096 := Nat.lt_of_lt_of_le (se_c_lt ho) (show (4 : Nat) ^ ws.length ≤ 4 ^ 6 from Nat.pow_le_pow_right (by decide) hl)
abbrev ab_sb (ws : List px_W) : Nat → Nat → Nat := fun w k => se_B ws (w * 3 + k)
def ab_md (wt : Nat → Int) (ws : List px_W) : Nat → Int := if (ab_best wt ws 0).2 = se_c ws then wt else ct_ad (ct_ad wt 1 (ct_C (ab_sb ws) (lb_at (nI (se_c ws))) ws.length)) (-1) (ct_C (ab_sb ws) (lb_at (nI (ab_best wt ws 0).2)) ws.length)
def ab_mis (wt : Nat → Int) (ws : List px_W) : Nat := if (ab_best wt ws 0).2 = se_c ws then 0 else 1
def ab_st (A : ab_A) (wt tt : Nat → Int) : ab_A := (A.1, A.2.1, (wt, tt), A.2.2.2.1, A.2.2.2.2)
def ab_ls (A : ab_A) (ws : List px_W) : Nat × ab_A := (ab_mis A.wt ws, ab_st A (ab_md A.wt ws) (fun j => A.tt j + ab_md A.wt ws j))
def ab_acc (p : Nat × ab_A) (ws : List px_W) : Nat × ab_A := (p.1 + (ab_ls p.2 ws).1, (ab_ls p.2 ws).2)
def ab_run (A : ab_A) (m : Nat) : Nat × ab_A := (A.ss.take m).foldl ab_acc (0, A)
def ab_cnt (A : ab_A) (k : Nat) : ab_A := (A.1, A.2.1, A.2.2.1, (A.mk + k, A.ps + 1), A.2.2.2.2)
def ab_pass (A : ab_A) : Nat × ab_A := ((ab_run A A.ss.length).1, ab_cnt (ab_run A A.ss.length).2 (ab_run A A.ss.length).1)
def ab_loop : Nat → Nat × ab_A → Nat × ab_A
  | 0, p => p
  | k + 1, p => if p.1 = 0 then p else ab_loop k (ab_pass p.2)
theorem ab_run_0 (A : ab_A) : ab_run A 0 = (0, A) := rfl
theorem ab_run_s {A : ab_A} {m : Nat} (h : m < A.ss.length) : ab_run A (m + 1) = ab_acc (ab_run A m) A.ss[m] := by
  unfold ab_run
  rw [List.take_succ_eq_append_getElem h, List.foldl_append]
  rfl
/-- nothing but weights and counts changes -/
def ab_eq (A B : ab_A) : Prop := B.1 = A.1 ∧ B.2.1 = A.2.1 ∧ B.2.2.2.2 = A.2.2.2.2
theorem ab_eq_rf (A : ab_A) : ab_eq A A := ⟨rfl, rfl, rfl⟩
theorem ab_eq_tr {A B C : ab_A} (h : ab_eq A B) (k : ab_eq B C) : ab_eq A C := ⟨k.1.trans h.1, k.2.1.trans h.2.1, k.2.2.trans h.2.2⟩
theorem ab_eq_ss {A B : ab_A} (h : ab_eq A B) : B.ss = A.ss := congrArg Prod.fst h.2.1
theorem ab_eq_ok {A B : ab_A} (h : ab_eq A B) (k : ab_ok A) : ab_ok B := by
  obtain ⟨a1, a2, a3, a4⟩ := A
  obtain ⟨b1, b2, b3, b4⟩ := B
  obtain ⟨h1, h2, h3⟩ := h
  simp only at h1 h2 h3
  subst h1 h2
  unfold ab_ok ab_A.kw ab_A.kc at k ⊢
  simp only at k ⊢
  rw [h3]
  exact k
theorem ab_eq_ls (A : ab_A) (ws : List px_W) : ab_eq A (ab_ls A ws).2 := ⟨rfl, rfl, rfl⟩
theorem ab_eq_acc (p : Nat × ab_A) (ws : List px_W) : ab_eq p.2 (ab_acc p ws).2 := ⟨rfl, rfl, rfl⟩
theorem ab_eq_fold (l : List (List px_W)) : ∀ p : Nat × ab_A, ab_eq p.2 (l.foldl ab_acc p).2 := by
  induction l with
  | nil => exact fun p => ab_eq_rf _
  | cons x l ih => exact fun p => ab_eq_tr (ab_eq_acc p x) (ih _)
theorem ab_eq_run (A : ab_A) (m : Nat) : ab_eq A (ab_run A m).2 := ab_eq_fold _ _
theorem ab_eq_pass (A : ab_A) : ab_eq A (ab_pass A).2 := ab_eq_tr (ab_eq_run A A.ss.length) ⟨rfl, rfl, rfl⟩
theorem ab_eq_loop : ∀ (k : Nat) (p : Nat × ab_A), ab_eq p.2 (ab_loop k p).2 := by
  intro k
  induction k with
  | zero => exact fun p => ab_eq_rf _
  | succ k ih =>
    intro p
    unfold ab_loop
    split
    · exact ab_eq_rf _
    · exact ab_eq_tr (ab_eq_pass p.2) (ih _)
theorem ab_mis_le (wt : Nat → Int) (ws : List px_W) : ab_mis wt ws ≤ 1 := by unfold ab_mis; split <;> omega
theorem ab_run_le (A : ab_A) : ∀ m, m ≤ A.ss.length → (ab_run A m).1 ≤ m := by
  intro m
  induction m with
  | zero => intro _; exact Nat.le_refl 0
  | succ m ih =>
    intro h
    rw [ab_run_s (by omega)]
    have h1 := ih (by omega)
    have h2 := ab_mis_le (ab_run A m).2.wt A.ss[m]
    show (ab_run A m).1 + ab_mis (ab_run A m).2.wt A.ss[m] ≤ m + 1
    omega
/-! bounds -/
def ab_bd (A : ab_A) (N : Nat) : Prop := ∀ j, (-(48 * (N : Int)) ≤ A.wt j ∧ A.wt j ≤ 48 * (N : Int)) ∧ -(48 * ((N * N : Nat) : Int)) ≤ A.tt j ∧ A.tt j ≤ 48 * ((N * N : Nat) : Int)
theorem ab_bd_mono {A : ab_A} {N M : Nat} (h : ab_bd A N) (hNM : N ≤ M) : ab_bd A M := by
  intro j
  obtain ⟨⟨h1, h2⟩, h3, h4⟩ := h j
  have h5 : N * N ≤ M * M := Nat.mul_le_mul hNM hNM
  refine ⟨⟨?_, ?_⟩, ?_, ?_⟩ <;> omega
theorem ab_md_bd {wt : Nat → Int} {ws : List px_W} {B : Int} (h : ∀ j, -B ≤ wt j ∧ wt j ≤ B) (hl : ws.length ≤ 6) (hB : 0 ≤ B) : ∀ j, -(B + 48) ≤ ab_md wt ws j ∧ ab_md wt ws j ≤ B + 48 := by
  unfold ab_md
  split
  · intro j
    have := h j
    omega
  · intro j
    have h1 := ct_abs 1 (Or.inl rfl) h (is := ct_C (ab_sb ws) (lb_at (nI (se_c ws))) ws.length) (by rw [ct_len]; omega)
    have h2 := ct_abs (-1) (Or.inr rfl) h1 (is := ct_C (ab_sb ws) (lb_at (nI (ab_best wt ws 0).2)) ws.length) (by rw [ct_len]; omega) j
    omega
theorem ab_bd_ls {A : ab_A} {N : Nat} {ws : List px_W} (h : ab_bd A N) (hl : ws.length ≤ 6) : ab_bd (ab_ls A ws).2 (N + 1) := by
  intro j
  have h1 := ab_md_bd (ws := ws) (fun j => (h j).1) hl (by omega) j
  obtain ⟨-, h3, h4⟩ := h j
  have h5 : (N + 1) * (N + 1) = N * N + 2 * N + 1 := by
    rw [Nat.add_mul, Nat.mul_add]; omega
  have e1 : (ab_ls A ws).2.wt j = ab_md A.wt ws j := rfl
  have e2 : (ab_ls A ws).2.tt j = A.tt j + ab_md A.wt ws j := rfl
  rw [e1, e2]
  refine ⟨⟨?_, ?_⟩, ?_, ?_⟩ <;> omega
theorem ab_bd_run {A : ab_A} {N : Nat} (h : ab_bd A N) (hg : ∀ ws ∈ A.ss, ws.length ≤ 6) : ∀ m, m ≤ A.ss.length → ab_bd (ab_run A m).2 (N + m) := by
  intro m
  induction m with
  | zero => exact fun _ => h
  | succ m ih =>
    intro hm
    rw [ab_run_s (by omega)]
    exact ab_bd_ls (ih (by omega)) (hg _ (List.getElem_mem (by omega)))
theorem ab_bd_pass {A : ab_A} {N : Nat} (h : ab_bd A N) (hA : ab_ok A) : ab_bd (ab_pass A).2 (N + 8) :=
  ab_bd_mono (fun j => ab_bd_run h (fun ws hw => (hA.2.2.2.1 ws hw).1.2) A.ss.length (Nat.le_refl _) j) (by have := hA.2.2.1; omega)
theorem ab_bd_loop : ∀ (k : Nat) {p : Nat × ab_A} {N : Nat}, ab_bd p.2 N → ab_ok p.2 → ab_bd (ab_loop k p).2 (N + 8 * k) := by
  intro k
  induction k with
  | zero => exact fun h _ => h
  | succ k ih =>
    intro p N h hA
    unfold ab_loop
    split
    · exact ab_bd_mono h (by omega)
    · exact ab_bd_mono (ih (ab_bd_pass h hA) (ab_eq_ok (ab_eq_pass _) hA)) (by omega)
theorem ab_bd_B {A : ab_A} {N : Nat} (h : ab_bd A N) (hN : N ≤ 100000) (q : Nat) : dc_B (ab_w A q) := by
  intro j
  obtain ⟨⟨h1, h2⟩, h3, h4⟩ := h j
  have h5 : N * N ≤ 100000 * 100000 := Nat.mul_le_mul hN hN
  unfold ab_w
  split <;> omega
/-! answers -/
def ab_kp (A : ab_A) (kw kc : Nat) : ab_A := (A.1, A.2.1, A.2.2.1, A.2.2.2.1, (kw, kc))
def ab_dec (A : ab_A) (x : Int32) (q b : Nat) : Option (Int × ab_A) := (ab_sent A x).map (fun ws => ((ab_best (ab_w A q) ws b).1, ab_kp A ws.length (ab_best (ab_w A q) ws b).2))
def ab_err1 (wt : Nat → Int) (ws : List px_W) : Nat := df_n (nI (ab_best wt ws 0).2) (nI (se_c ws)) ws.length
def ab_err (A : ab_A) (q m : Nat) : Nat := ((A.ss.take m).map (ab_err1 (ab_w A q))).sum
theorem ab_err_s {A : ab_A} {q m : Nat} (h : m < A.ss.length) : ab_err A q (m + 1) = ab_err A q m + ab_err1 (ab_w A q) A.ss[m] := by
  unfold ab_err
  rw [List.take_succ_eq_append_getElem h, List.map_append, List.sum_append]
  simp
theorem ab_err_le {A : ab_A} (q : Nat) (hA : ab_ok A) : ∀ m, m ≤ A.ss.length → ab_err A q m ≤ 6 * m := by
  intro m
  induction m with
  | zero => intro _; exact Nat.le_refl 0
  | succ m ih =>
    intro h
    rw [ab_err_s (by omega)]
    have h1 := ih (by omega)
    have h2 := df_le (nI (ab_best (ab_w A q) A.ss[m] 0).2) (nI (se_c A.ss[m])) A.ss[m].length
    have h3 := (hA.2.2.2.1 _ (List.getElem_mem (by omega : m < A.ss.length))).1.2
    unfold ab_err1
    omega
/-! the class's world behind a change of weights, counts and what is kept -/
theorem cw_re {σ σ' : gw_S} {Z : gw_Z} {n c cd s sd : Nat} {A A' : ab_A} (hl : A.ss.length ≤ 8) (h : cw_at σ Z n A c cd s sd) (f : gw_f2 σ σ' n (n + 1) (n + 5) (n + 84)) (e1 : A'.1 = A.1) (e2 : A'.2.1 = A.2.1)
    (h0 : σ'.2 n = some (.inr (0, [.ref (n + 1), .ref (n + 3), .ref (n + 80), .ref (n + 82), .ref c, .ref cd, .ref s, .ref sd, .int (nI A'.mk), .int (nI A'.ps), .int (nI A'.kw), .int (nI A'.kc)]))) (hde : de_at σ' Z (n + 3)) (hwe : we_at σ' Z (n + 80) A'.wt) (hte : we_at σ' Z (n + 82) A'.tt) : cw_at σ' Z n A' c cd s sd := by
  obtain ⟨a1, a2, a3⟩ := A
  obtain ⟨b1, b2, b3⟩ := A'
  simp only at e1 e2
  subst e1 e2
  obtain ⟨hsw, -, ⟨kt, hkt, htx⟩, -, -, -, hrc, hrd, hsp, hsd⟩ := h
  obtain ⟨sw1, sw2⟩ := id hsw
  exact ⟨hsw, h0, ⟨kt, hkt, tx_at_f2 htx f (by omega) (by omega)⟩, hde, hwe, hte, rc_at_f2 hl hrc f (by omega) (by omega), rc_any_f2 hrd f (by omega) (by omega), se_at_f2 hsp f (by omega) (by omega), se_any_f2 hsd f (by omega) (by omega)⟩
theorem gw_ldc2 {X : gw_C} {cc : ByteArray} {own : String} {q : gw_N} {σ : gw_S} {ce sl pc : Nat} {L : List (Nat × Value)} {st : List Value} (hX : gw_ok X cc own q) {idx : Nat} {v : Int64} (hk : Cond.constantLong own idx v ∈ gw_ws) (d : decode cc pc = .ok (.ldc2_w idx, 3)) (kk : gw_W X σ ce sl (pc + 3) L (.long v :: st)) : gw_W X σ ce sl pc L st :=
  fun H locs ls hG hS hL => lv_ldc2 hX.1 hX.2.1 hX.2.2.2.1 (hX.2.2.2.2.1 _ hk) d (kk H locs ls hG hS hL)
end
section
set_option maxRecDepth 100000 in
set_option maxHeartbeats 4000000 in
theorem ct_LL_decode (l : Launch) (hl0 : l.stackTraces = false) (Z : gw_Z) (b0 : Nat) (σ : gw_S) (n c cd s sd : Nat) (A : ab_A) (hA : ab_ok A) (hC : cw_at σ Z n A c cd s sd) (x : Int32) (q b : Nat) (hq : q < 2) (hb2 : b < 2) (hB : dc_B (ab_w A q)) : gx_M l ny_LL_decode nc_LL_decode (7, 7, 121, 1, 6) (some .long) Z b0 σ [.ref n, .int x, .int (nI q), .int (nI b)] (fun v σ' => (∃ (z : Int) (A' : ab_A), ab_dec A x q b = some (z, A') ∧ v = some (.long (iL z)) ∧ cw_at σ' Z n A' c cd s sd) ∧ gw_f2 σ σ' n (n + 1) (n + 5) (n + 84)) (fun E σ' => E = gx_IO ∧ ab_dec A x q b = none ∧ σ' = (σ.1 + 1, σ.2)) := by
  refine gx_M_of rfl (Nat.le_of_ble_eq_true rfl) hl0 ?_
  intro X hX hl hz hb0 hr hnm hQ hE
  subst hz hb0 hl
  have hX : gw_ok X nc_LL_decode "LabelLearner" (7, 7, 121, 1, 6) := hX
  show gw_W X σ 0 0 0 [(0, .ref n), (1, .int x), (2, .int (nI q)), (3, .int (nI b))] []
  have fr : gw_f2 σ σ n (n + 1) (n + 5) (n + 80) := gw_f2_rf _ _ _ _ _
  obtain ⟨hsw, h0, ⟨kt, hkt, htx⟩, hde, hwe, hte, hrc, hrd, hsp, hsd⟩ := id hC
  obtain ⟨sw1, sw2⟩ := id hsw
  obtain ⟨c0, c1, c2, c3⟩ := id hrc
  obtain ⟨bsp, s0, s1, hbsp⟩ := id hsp
  have hl8 := hA.2.2.1
  have hsl := hA.2.2.2.2.1.2
  refine gw_aload_n hX nd_LL_decode_0 rfl 0 rfl ?_
  refine gw_iload_n hX nd_LL_decode_1 rfl 1 rfl ?_
  refine gx_callV (rest := []) hX hE.1 hE.2.2.2 ks_LL_95 (gw_in_t 406 (by decide +kernel) rfl) (ct_LL_sentenceNumbered _ hl0 _ _ _ n c cd s sd A hA hC x) h0 rfl rfl (Nat.le_of_ble_eq_true rfl) nd_LL_decode_2 (by decide) (fun E_ s_ hx_ => gx_out hX hE hQ (by decide) (by decide) ⟨hx_.1, by unfold ab_dec; rw [hx_.2.1]; rfl, hx_.2.2⟩) ?_
  rintro v_ s_ ⟨⟨ws, a, hws, rfl, hse, had⟩, hs_⟩
  have hs_ := hs_.symm
  subst hs_
  obtain ⟨bws, g0, g1, hbk⟩ := id hse
  obtain ⟨⟨hso, hsl6⟩, hne⟩ := ab_sent_ok hA hws
  have hws0 := List.length_pos_iff.mpr hne
  show gw_W X σ 1 6 5 [(0, .ref n), (1, .int x), (2, .int (nI q)), (3, .int (nI b))] [.ref a]
  have ha : n + 86 ≤ a ∧ a + 2 ≤ n + 124 := by rcases had with rfl | ⟨j, hj, rfl⟩ <;> omega
  refine gw_astore hX nd_LL_decode_5 (by decide) (L' := [(4, .ref a), (0, .ref n), (1, .int x), (2, .int (nI q)), (3, .int (nI b))]) rfl ?_
  refine gw_aload_n hX nd_LL_decode_7 rfl 1 rfl ?_
  refine gw_get hX kf_LL_19 nd_LL_decode_8 h0 rfl ?_
  refine gw_aload hX nd_LL_decode_11 0 rfl ?_
  refine gw_aload_n hX nd_LL_decode_13 rfl 1 rfl ?_
  refine gw_iload_n hX nd_LL_decode_14 rfl 3 rfl ?_
  refine gw_callV (rest := [.ref a, .ref (n + 3)]) hX ks_LL_133 (ct_LL_weightsOrTotals _ _ _ σ n c cd s sd A hA hC q hq) h0 rfl rfl (Nat.le_of_ble_eq_true rfl) nd_LL_decode_15 (by decide) ?_
  rintro v_ s_ ⟨hv_, hs_⟩
  have hs_ := hs_.symm
  subst hs_ hv_
  show gw_W X σ 1 6 18 [(4, .ref a), (0, .ref n), (1, .int x), (2, .int (nI q)), (3, .int (nI b))] [.ref (if q = 0 then n + 80 else n + 82), .ref a, .ref (n + 3)]
  obtain ⟨hw0, hw1⟩ := cw_w hC q
  have hE9 : dc_E σ (gw_z X) (n + 3) (if q = 0 then n + 80 else n + 82) a (ab_w A q) bws (nI (se_c ws)) ws.length := ⟨hde.1, hde.2.1, hw0, hw1, g0, g1, hde.2.2.1, hde.2.2.2⟩
  refine gw_callV (rest := []) hX ks_LL_141 (ct_De_rank _ _ _ σ (n + 3) (if q = 0 then n + 80 else n + 82) a (ab_w A q) bws (se_B ws) _ ws.length (se_B_ok hbk hso) hsl6 hB (by refine ⟨?_, ?_⟩ <;> (first | omega | (split <;> omega))) hws0 hE9) hde.1 rfl rfl (Nat.le_of_ble_eq_true rfl) nd_LL_decode_18 (by decide) ?_
  rintro _ σ1 ⟨rfl, hrk, hE_, hf⟩
  have h0 : σ1.2 n = some (.inr (0, [.ref (n + 1), .ref (n + 3), .ref (n + 80), .ref (n + 82), .ref c, .ref cd, .ref s, .ref sd, .int (nI A.mk), .int (nI A.ps), .int (nI A.kw), .int (nI A.kc)])) := (hf.2 n (by omega)).trans h0
  have c0 : σ1.2 c = some (.inr (2, [.ref (c + 1), .int (nI A.ss.length)])) := (hf.2 c (by omega)).trans c0
  have c1 : σ1.2 (c + 1) = some ((gw_Q3 (gw_z X) 8 (fun j => some (c + 2 + 2 * j)))) := (hf.2 (c + 1) (by omega)).trans c1
  have s0 : σ1.2 s = some (.inr (5, [.ref (s + 1), .int (nI (se_c A.sp)), .int (nI A.sp.length)])) := (hf.2 s (by omega)).trans s0
  have g0 : σ1.2 a = some (.inr (5, [.ref (a + 1), .int (nI (se_c ws)), .int (nI ws.length)])) := (hf.2 a (by omega)).trans g0
  have g1 : σ1.2 (a + 1) = some ((gw_I (gw_z X) 18 bws)) := (hf.2 (a + 1) (by omega)).trans g1
  have fr : gw_f2 σ σ1 n (n + 1) (n + 5) (n + 80) := gw_f2_r fr hf
  have hrk : rk_at σ1 (gw_z X) (n + 3 + 2) (ab_rk (ab_w A q) ws) := hrk
  obtain ⟨fs, fl, r0, r1, r2, hR⟩ := id hrk
  rw [ab_rk_len hne] at r0
  have hde : de_at σ1 (gw_z X) (n + 3) := ⟨hE_.1, hE_.2.1, hE_.2.2.2.2.2.2.1, hE_.2.2.2.2.2.2.2⟩
  show gw_W X σ1 1 6 21 [(4, .ref a), (0, .ref n), (1, .int x), (2, .int (nI q)), (3, .int (nI b))] [.ref (n + 3 + 2)]
  refine gw_astore hX nd_LL_decode_21 (by decide) (L' := [(5, .ref (n + 3 + 2)), (4, .ref a), (0, .ref n), (1, .int x), (2, .int (nI q)), (3, .int (nI b))]) rfl ?_
  refine gw_iload_n hX nd_LL_decode_23 rfl 5 rfl ?_
  refine gw_if_eq (tgt := 31) hX nd_LL_decode_24 rfl (fun hb => ?_) (fun hb => ?_)
  · have hb : b = 0 := (nI_eq (a := b) (b := 0) (by omega) (by omega)).mp hb
    refine gw_iconst (v := nI 0) hX nd_LL_decode_31 rfl ?_
    have hbq : b = 0 := hb
    refine gw_istore hX nd_LL_decode_32 (by decide) (L' := [(6, .int (nI 0)), (5, .ref (n + 3 + 2)), (4, .ref a), (0, .ref n), (1, .int x), (2, .int (nI q)), (3, .int (nI b))]) rfl ?_
    refine gw_aload_n hX nd_LL_decode_34 rfl 3 rfl ?_
    refine gw_aload hX nd_LL_decode_35 2 rfl ?_
    refine gw_get hX kf_LL_94 nd_LL_decode_37 g0 rfl ?_
    refine gw_put hX kf_LL_145 nd_LL_decode_40 h0 rfl rfl (Nat.le_of_ble_eq_true rfl) (e' := .inr (0, [.ref (n + 1), .ref (n + 3), .ref (n + 80), .ref (n + 82), .ref c, .ref cd, .ref s, .ref sd, .int (nI A.mk), .int (nI A.ps), .int (nI ws.length), .int (nI A.kc)])) rfl ?_
    obtain ⟨σ2, eσ2⟩ : ∃ hp_, hp_ = gw_up σ1 n (.inr (0, [.ref (n + 1), .ref (n + 3), .ref (n + 80), .ref (n + 82), .ref c, .ref cd, .ref s, .ref sd, .int (nI A.mk), .int (nI A.ps), .int (nI ws.length), .int (nI A.kc)])) := ⟨_, rfl⟩
    refine gw_heap eσ2.symm ?_
    have h0 : σ2.2 n = some (.inr (0, [.ref (n + 1), .ref (n + 3), .ref (n + 80), .ref (n + 82), .ref c, .ref cd, .ref s, .ref sd, .int (nI A.mk), .int (nI A.ps), .int (nI ws.length), .int (nI A.kc)])) := by rw [eσ2]; exact gw_up_eq _ _ _
    have c0 : σ2.2 c = some (.inr (2, [.ref (c + 1), .int (nI A.ss.length)])) := by rw [eσ2, gw_up_ne (by omega)]; exact c0
    have c1 : σ2.2 (c + 1) = some ((gw_Q3 (gw_z X) 8 (fun j => some (c + 2 + 2 * j)))) := by rw [eσ2, gw_up_ne (by omega)]; exact c1
    have s0 : σ2.2 s = some (.inr (5, [.ref (s + 1), .int (nI (se_c A.sp)), .int (nI A.sp.length)])) := by rw [eσ2, gw_up_ne (by omega)]; exact s0
    have g0 : σ2.2 a = some (.inr (5, [.ref (a + 1), .int (nI (se_c ws)), .int (nI ws.length)])) := by rw [eσ2, gw_up_ne (by omega)]; exact g0
    have g1 : σ2.2 (a + 1) = some ((gw_I (gw_z X) 18 bws)) := by rw [eσ2, gw_up_ne (by omega)]; exact g1
    have r0 : σ2.2 (n + 3 + 2) = some (.inr (4, [.ref (n + 3 + 2 + 1), .ref (n + 3 + 2 + 2), .int (nI 2)])) := by rw [eσ2, gw_up_ne (by omega)]; exact r0
    have r1 : σ2.2 (n + 3 + 2 + 1) = some ((gw_J (gw_z X) 2 fs)) := by rw [eσ2, gw_up_ne (by omega)]; exact r1
    have r2 : σ2.2 (n + 3 + 2 + 2) = some ((gw_I (gw_z X) 2 fl)) := by rw [eσ2, gw_up_ne (by omega)]; exact r2
    have fr : gw_f2 σ σ2 n (n + 1) (n + 5) (n + 80) := by first | exact gw_f2_l fr (show gw_fr _ σ2 n (n + 1) by rw [eσ2]; exact gw_fr_up _ _ _ (by omega) (by omega)) | exact gw_f2_r fr (show gw_fr _ σ2 (n + 5) (n + 80) by rw [eσ2]; exact gw_fr_up _ _ _ (by omega) (by omega))
    have f1 : gw_fr σ1 σ2 n (n + 1) := by rw [eσ2]; exact gw_fr_up _ _ _ (by omega) (by omega)
    refine gw_aload_n hX nd_LL_decode_43 rfl 3 rfl ?_
    refine gw_aload hX nd_LL_decode_44 1 rfl ?_
    refine gw_get hX kf_LL_148 nd_LL_decode_46 r0 rfl ?_
    refine gw_iload hX nd_LL_decode_49 0 rfl ?_
    refine gw_iald hX nd_LL_decode_51 r2 0 rfl (by omega) (by decide) ?_
    refine gw_topi (y := nI ((ab_best (ab_w A q) ws 0).2)) (hR 0 _ (ab_best_at hne (by decide))).2 ?_
    refine gw_put hX kf_LL_154 nd_LL_decode_52 h0 rfl rfl (Nat.le_of_ble_eq_true rfl) (e' := .inr (0, [.ref (n + 1), .ref (n + 3), .ref (n + 80), .ref (n + 82), .ref c, .ref cd, .ref s, .ref sd, .int (nI A.mk), .int (nI A.ps), .int (nI ws.length), .int (nI ((ab_best (ab_w A q) ws 0).2))])) rfl ?_
    obtain ⟨σ3, eσ3⟩ : ∃ hp_, hp_ = gw_up σ2 n (.inr (0, [.ref (n + 1), .ref (n + 3), .ref (n + 80), .ref (n + 82), .ref c, .ref cd, .ref s, .ref sd, .int (nI A.mk), .int (nI A.ps), .int (nI ws.length), .int (nI ((ab_best (ab_w A q) ws 0).2))])) := ⟨_, rfl⟩
    refine gw_heap eσ3.symm ?_
    have h0 : σ3.2 n = some (.inr (0, [.ref (n + 1), .ref (n + 3), .ref (n + 80), .ref (n + 82), .ref c, .ref cd, .ref s, .ref sd, .int (nI A.mk), .int (nI A.ps), .int (nI ws.length), .int (nI ((ab_best (ab_w A q) ws 0).2))])) := by rw [eσ3]; exact gw_up_eq _ _ _
    have c0 : σ3.2 c = some (.inr (2, [.ref (c + 1), .int (nI A.ss.length)])) := by rw [eσ3, gw_up_ne (by omega)]; exact c0
    have c1 : σ3.2 (c + 1) = some ((gw_Q3 (gw_z X) 8 (fun j => some (c + 2 + 2 * j)))) := by rw [eσ3, gw_up_ne (by omega)]; exact c1
    have s0 : σ3.2 s = some (.inr (5, [.ref (s + 1), .int (nI (se_c A.sp)), .int (nI A.sp.length)])) := by rw [eσ3, gw_up_ne (by omega)]; exact s0
    have g0 : σ3.2 a = some (.inr (5, [.ref (a + 1), .int (nI (se_c ws)), .int (nI ws.length)])) := by rw [eσ3, gw_up_ne (by omega)]; exact g0
    have g1 : σ3.2 (a + 1) = some ((gw_I (gw_z X) 18 bws)) := by rw [eσ3, gw_up_ne (by omega)]; exact g1
    have r0 : σ3.2 (n + 3 + 2) = some (.inr (4, [.ref (n + 3 + 2 + 1), .ref (n + 3 + 2 + 2), .int (nI 2)])) := by rw [eσ3, gw_up_ne (by omega)]; exact r0
    have r1 : σ3.2 (n + 3 + 2 + 1) = some ((gw_J (gw_z X) 2 fs)) := by rw [eσ3, gw_up_ne (by omega)]; exact r1
    have r2 : σ3.2 (n + 3 + 2 + 2) = some ((gw_I (gw_z X) 2 fl)) := by rw [eσ3, gw_up_ne (by omega)]; exact r2
    have fr : gw_f2 σ σ3 n (n + 1) (n + 5) (n + 80) := by first | exact gw_f2_l fr (show gw_fr _ σ3 n (n + 1) by rw [eσ3]; exact gw_fr_up _ _ _ (by omega) (by omega)) | exact gw_f2_r fr (show gw_fr _ σ3 (n + 5) (n + 80) by rw [eσ3]; exact gw_fr_up _ _ _ (by omega) (by omega))
    have f2 : gw_fr σ2 σ3 n (n + 1) := by rw [eσ3]; exact gw_fr_up _ _ _ (by omega) (by omega)
    refine gw_aload hX nd_LL_decode_55 1 rfl ?_
    refine gw_get hX kf_LL_157 nd_LL_decode_57 r0 rfl ?_
    refine gw_iload hX nd_LL_decode_60 0 rfl ?_
    refine gw_lald hX nd_LL_decode_62 r1 0 rfl (by omega) (by decide) ?_
    refine gw_topl (y := iL (ab_best (ab_w A q) ws 0).1) (hR 0 _ (ab_best_at hne (by decide))).1 ?_
    exact gx_lret hX hQ hr nd_LL_decode_63 (by decide) (by decide) ⟨⟨_, ab_kp A ws.length (ab_best (ab_w A q) ws 0).2, by unfold ab_dec; rw [hws, hbq]; rfl, rfl, cw_re hl8 hC (gw_f2_tr (gw_f2_rf _ _ _ _ _) fr) rfl rfl h0 (de_at_fr (de_at_fr hde f1 (by omega)) f2 (by omega)) (we_at_f2 hwe fr (by omega) (by omega)) (we_at_f2 hte fr (by omega) (by omega))⟩, gw_f2_tr (gw_f2_rf _ _ _ _ _) fr⟩
  · have hb : ¬ b = 0 := fun h => hb ((nI_eq (a := b) (b := 0) (by omega) (by omega)).mpr h)
    refine gw_iconst (v := nI 1) hX nd_LL_decode_27 rfl ?_
    refine gw_goto (tgt := 32) hX nd_LL_decode_28 rfl ?_
    have hbq : b = 1 := by omega
    refine gw_istore hX nd_LL_decode_32 (by decide) (L' := [(6, .int (nI 1)), (5, .ref (n + 3 + 2)), (4, .ref a), (0, .ref n), (1, .int x), (2, .int (nI q)), (3, .int (nI b))]) rfl ?_
    refine gw_aload_n hX nd_LL_decode_34 rfl 3 rfl ?_
    refine gw_aload hX nd_LL_decode_35 2 rfl ?_
    refine gw_get hX kf_LL_94 nd_LL_decode_37 g0 rfl ?_
    refine gw_put hX kf_LL_145 nd_LL_decode_40 h0 rfl rfl (Nat.le_of_ble_eq_true rfl) (e' := .inr (0, [.ref (n + 1), .ref (n + 3), .ref (n + 80), .ref (n + 82), .ref c, .ref cd, .ref s, .ref sd, .int (nI A.mk), .int (nI A.ps), .int (nI ws.length), .int (nI A.kc)])) rfl ?_
    obtain ⟨σ4, eσ4⟩ : ∃ hp_, hp_ = gw_up σ1 n (.inr (0, [.ref (n + 1), .ref (n + 3), .ref (n + 80), .ref (n + 82), .ref c, .ref cd, .ref s, .ref sd, .int (nI A.mk), .int (nI A.ps), .int (nI ws.length), .int (nI A.kc)])) := ⟨_, rfl⟩
    refine gw_heap eσ4.symm ?_
    have h0 : σ4.2 n = some (.inr (0, [.ref (n + 1), .ref (n + 3), .ref (n + 80), .ref (n + 82), .ref c, .ref cd, .ref s, .ref sd, .int (nI A.mk), .int (nI A.ps), .int (nI ws.length), .int (nI A.kc)])) := by rw [eσ4]; exact gw_up_eq _ _ _
    have c0 : σ4.2 c = some (.inr (2, [.ref (c + 1), .int (nI A.ss.length)])) := by rw [eσ4, gw_up_ne (by omega)]; exact c0
    have c1 : σ4.2 (c + 1) = some ((gw_Q3 (gw_z X) 8 (fun j => some (c + 2 + 2 * j)))) := by rw [eσ4, gw_up_ne (by omega)]; exact c1
    have s0 : σ4.2 s = some (.inr (5, [.ref (s + 1), .int (nI (se_c A.sp)), .int (nI A.sp.length)])) := by rw [eσ4, gw_up_ne (by omega)]; exact s0
    have g0 : σ4.2 a = some (.inr (5, [.ref (a + 1), .int (nI (se_c ws)), .int (nI ws.length)])) := by rw [eσ4, gw_up_ne (by omega)]; exact g0
    have g1 : σ4.2 (a + 1) = some ((gw_I (gw_z X) 18 bws)) := by rw [eσ4, gw_up_ne (by omega)]; exact g1
    have r0 : σ4.2 (n + 3 + 2) = some (.inr (4, [.ref (n + 3 + 2 + 1), .ref (n + 3 + 2 + 2), .int (nI 2)])) := by rw [eσ4, gw_up_ne (by omega)]; exact r0
    have r1 : σ4.2 (n + 3 + 2 + 1) = some ((gw_J (gw_z X) 2 fs)) := by rw [eσ4, gw_up_ne (by omega)]; exact r1
    have r2 : σ4.2 (n + 3 + 2 + 2) = some ((gw_I (gw_z X) 2 fl)) := by rw [eσ4, gw_up_ne (by omega)]; exact r2
    have fr : gw_f2 σ σ4 n (n + 1) (n + 5) (n + 80) := by first | exact gw_f2_l fr (show gw_fr _ σ4 n (n + 1) by rw [eσ4]; exact gw_fr_up _ _ _ (by omega) (by omega)) | exact gw_f2_r fr (show gw_fr _ σ4 (n + 5) (n + 80) by rw [eσ4]; exact gw_fr_up _ _ _ (by omega) (by omega))
    have f1 : gw_fr σ1 σ4 n (n + 1) := by rw [eσ4]; exact gw_fr_up _ _ _ (by omega) (by omega)
    refine gw_aload_n hX nd_LL_decode_43 rfl 3 rfl ?_
    refine gw_aload hX nd_LL_decode_44 1 rfl ?_
    refine gw_get hX kf_LL_148 nd_LL_decode_46 r0 rfl ?_
    refine gw_iload hX nd_LL_decode_49 0 rfl ?_
    refine gw_iald hX nd_LL_decode_51 r2 1 rfl (by omega) (by decide) ?_
    refine gw_topi (y := nI ((ab_best (ab_w A q) ws 1).2)) (hR 1 _ (ab_best_at hne (by decide))).2 ?_
    refine gw_put hX kf_LL_154 nd_LL_decode_52 h0 rfl rfl (Nat.le_of_ble_eq_true rfl) (e' := .inr (0, [.ref (n + 1), .ref (n + 3), .ref (n + 80), .ref (n + 82), .ref c, .ref cd, .ref s, .ref sd, .int (nI A.mk), .int (nI A.ps), .int (nI ws.length), .int (nI ((ab_best (ab_w A q) ws 1).2))])) rfl ?_
    obtain ⟨σ5, eσ5⟩ : ∃ hp_, hp_ = gw_up σ4 n (.inr (0, [.ref (n + 1), .ref (n + 3), .ref (n + 80), .ref (n + 82), .ref c, .ref cd, .ref s, .ref sd, .int (nI A.mk), .int (nI A.ps), .int (nI ws.length), .int (nI ((ab_best (ab_w A q) ws 1).2))])) := ⟨_, rfl⟩
    refine gw_heap eσ5.symm ?_
    have h0 : σ5.2 n = some (.inr (0, [.ref (n + 1), .ref (n + 3), .ref (n + 80), .ref (n + 82), .ref c, .ref cd, .ref s, .ref sd, .int (nI A.mk), .int (nI A.ps), .int (nI ws.length), .int (nI ((ab_best (ab_w A q) ws 1).2))])) := by rw [eσ5]; exact gw_up_eq _ _ _
    have c0 : σ5.2 c = some (.inr (2, [.ref (c + 1), .int (nI A.ss.length)])) := by rw [eσ5, gw_up_ne (by omega)]; exact c0
    have c1 : σ5.2 (c + 1) = some ((gw_Q3 (gw_z X) 8 (fun j => some (c + 2 + 2 * j)))) := by rw [eσ5, gw_up_ne (by omega)]; exact c1
    have s0 : σ5.2 s = some (.inr (5, [.ref (s + 1), .int (nI (se_c A.sp)), .int (nI A.sp.length)])) := by rw [eσ5, gw_up_ne (by omega)]; exact s0
    have g0 : σ5.2 a = some (.inr (5, [.ref (a + 1), .int (nI (se_c ws)), .int (nI ws.length)])) := by rw [eσ5, gw_up_ne (by omega)]; exact g0
    have g1 : σ5.2 (a + 1) = some ((gw_I (gw_z X) 18 bws)) := by rw [eσ5, gw_up_ne (by omega)]; exact g1
    have r0 : σ5.2 (n + 3 + 2) = some (.inr (4, [.ref (n + 3 + 2 + 1), .ref (n + 3 + 2 + 2), .int (nI 2)])) := by rw [eσ5, gw_up_ne (by omega)]; exact r0
    have r1 : σ5.2 (n + 3 + 2 + 1) = some ((gw_J (gw_z X) 2 fs)) := by rw [eσ5, gw_up_ne (by omega)]; exact r1
    have r2 : σ5.2 (n + 3 + 2 + 2) = some ((gw_I (gw_z X) 2 fl)) := by rw [eσ5, gw_up_ne (by omega)]; exact r2
    have fr : gw_f2 σ σ5 n (n + 1) (n + 5) (n + 80) := by first | exact gw_f2_l fr (show gw_fr _ σ5 n (n + 1) by rw [eσ5]; exact gw_fr_up _ _ _ (by omega) (by omega)) | exact gw_f2_r fr (show gw_fr _ σ5 (n + 5) (n + 80) by rw [eσ5]; exact gw_fr_up _ _ _ (by omega) (by omega))
    have f2 : gw_fr σ4 σ5 n (n + 1) := by rw [eσ5]; exact gw_fr_up _ _ _ (by omega) (by omega)
    refine gw_aload hX nd_LL_decode_55 1 rfl ?_
    refine gw_get hX kf_LL_157 nd_LL_decode_57 r0 rfl ?_
    refine gw_iload hX nd_LL_decode_60 0 rfl ?_
    refine gw_lald hX nd_LL_decode_62 r1 1 rfl (by omega) (by decide) ?_
    refine gw_topl (y := iL (ab_best (ab_w A q) ws 1).1) (hR 1 _ (ab_best_at hne (by decide))).1 ?_
    exact gx_lret hX hQ hr nd_LL_decode_63 (by decide) (by decide) ⟨⟨_, ab_kp A ws.length (ab_best (ab_w A q) ws 1).2, by unfold ab_dec; rw [hws, hbq]; rfl, rfl, cw_re hl8 hC (gw_f2_tr (gw_f2_rf _ _ _ _ _) fr) rfl rfl h0 (de_at_fr (de_at_fr hde f1 (by omega)) f2 (by omega)) (we_at_f2 hwe fr (by omega) (by omega)) (we_at_f2 hte fr (by omega) (by omega))⟩, gw_f2_tr (gw_f2_rf _ _ _ _ _) fr⟩
set_option maxRecDepth 100000 in
set_option maxHeartbeats 4000000 in
theorem ct_LL_learnSentence (l : Launch) (Z : gw_Z) (b0 : Nat) (σ : gw_S) (n c cd s sd : Nat) (A : ab_A) (hA : ab_ok A) (hC : cw_at σ Z n A c cd s sd) (a : Nat) (ws : List px_W) (hse : se_at σ Z a ws) (hg : ab_g ws ∧ ws ≠ []) (ha : n + 86 ≤ a ∧ a + 2 ≤ n + 124) (hB : dc_B A.wt) : gw_M l ny_LL_learnSentence nc_LL_learnSentence (4, 4, 101, 0, 0) (some .boolean) Z b0 σ [.ref n, .ref a] (fun v σ' => v = some (.int (nI (ab_ls A ws).1)) ∧ cw_at σ' Z n (ab_ls A ws).2 c cd s sd ∧ gw_f2 σ σ' n (n + 1) (n + 5) (n + 84)) := by
  refine gw_M_of rfl (Nat.le_of_ble_eq_true rfl) ?_
  intro X hX hl hz hb0 hr hnm hQ
  subst hz hb0 hl
  have hX : gw_ok X nc_LL_learnSentence "LabelLearner" (4, 4, 101, 0, 0) := hX
  show gw_W X σ 0 0 0 [(0, .ref n), (1, .ref a)] []
  have fr : gw_f2 σ σ n (n + 1) (n + 5) (n + 84) := gw_f2_rf _ _ _ _ _
  obtain ⟨hsw, h0, ⟨kt, hkt, htx⟩, hde, hwe, hte, hrc, hrd, hsp, hsd⟩ := id hC
  obtain ⟨sw1, sw2⟩ := id hsw
  obtain ⟨c0, c1, c2, c3⟩ := id hrc
  obtain ⟨bsp, s0, s1, hbsp⟩ := id hsp
  have hl8 := hA.2.2.1
  have hsl := hA.2.2.2.2.1.2
  obtain ⟨bws, g0, g1, hbk⟩ := id hse
  obtain ⟨⟨hso, hsl6⟩, hne⟩ := hg
  have hws0 := List.length_pos_iff.mpr hne
  obtain ⟨w0, w1⟩ := id hwe
  obtain ⟨t0, t1⟩ := id hte
  have hc4 := se_c_6 hso hsl6
  have hb4 := ab_best_6 (wt := A.wt) hne hsl6 (j := 0) (by decide)
  obtain ⟨bc, hbc⟩ : ∃ q, q = (ab_best A.wt ws 0).2 := ⟨_, rfl⟩
  rw [← hbc] at hb4
  refine gw_aload_n hX nd_LL_learnSentence_0 rfl 0 rfl ?_
  refine gw_get hX kf_LL_19 nd_LL_learnSentence_1 h0 rfl ?_
  refine gw_aload_n hX nd_LL_learnSentence_4 rfl 1 rfl ?_
  refine gw_aload_n hX nd_LL_learnSentence_5 rfl 0 rfl ?_
  refine gw_get hX kf_LL_26 nd_LL_learnSentence_6 h0 rfl ?_
  have hE9 : dc_E σ (gw_z X) (n + 3) (n + 80) a A.wt bws (nI (se_c ws)) ws.length := ⟨hde.1, hde.2.1, w0, w1, g0, g1, hde.2.2.1, hde.2.2.2⟩
  refine gw_callV (rest := []) hX ks_LL_141 (ct_De_rank _ _ _ σ (n + 3) (n + 80) a A.wt bws (se_B ws) _ ws.length (se_B_ok hbk hso) hsl6 hB (by refine ⟨?_, ?_⟩ <;> (first | omega | (split <;> omega))) hws0 hE9) hde.1 rfl rfl (Nat.le_of_ble_eq_true rfl) nd_LL_learnSentence_9 (by decide) ?_
  rintro _ σ1 ⟨rfl, hrk, hE_, hf⟩
  have h0 : σ1.2 n = some (.inr (0, [.ref (n + 1), .ref (n + 3), .ref (n + 80), .ref (n + 82), .ref c, .ref cd, .ref s, .ref sd, .int (nI A.mk), .int (nI A.ps), .int (nI A.kw), .int (nI A.kc)])) := (hf.2 n (by omega)).trans h0
  have g0 : σ1.2 a = some (.inr (5, [.ref (a + 1), .int (nI (se_c ws)), .int (nI ws.length)])) := (hf.2 a (by omega)).trans g0
  have g1 : σ1.2 (a + 1) = some ((gw_I (gw_z X) 18 bws)) := (hf.2 (a + 1) (by omega)).trans g1
  have w0 : σ1.2 (n + 80) = some (.inr (7, [.ref (n + 80 + 1)])) := (hf.2 (n + 80) (by omega)).trans w0
  have w1 : σ1.2 (n + 80 + 1) = some ((gw_J (gw_z X) 148 (fun j => iL (A.wt j)))) := (hf.2 (n + 80 + 1) (by omega)).trans w1
  have t0 : σ1.2 (n + 82) = some (.inr (7, [.ref (n + 82 + 1)])) := (hf.2 (n + 82) (by omega)).trans t0
  have t1 : σ1.2 (n + 82 + 1) = some ((gw_J (gw_z X) 148 (fun j => iL (A.tt j)))) := (hf.2 (n + 82 + 1) (by omega)).trans t1
  have fr : gw_f2 σ σ1 n (n + 1) (n + 5) (n + 84) := gw_f2_r fr hf
  have hrk : rk_at σ1 (gw_z X) (n + 3 + 2) (ab_rk A.wt ws) := hrk
  obtain ⟨fs, fl, r0, r1, r2, hR⟩ := id hrk
  rw [ab_rk_len hne] at r0
  have hde : de_at σ1 (gw_z X) (n + 3) := ⟨hE_.1, hE_.2.1, hE_.2.2.2.2.2.2.1, hE_.2.2.2.2.2.2.2⟩
  show gw_W X σ1 0 0 12 [(0, .ref n), (1, .ref a)] [.ref (n + 3 + 2)]
  refine gw_get hX kf_LL_148 nd_LL_learnSentence_12 r0 rfl ?_
  refine gw_iconst (v := nI 0) hX nd_LL_learnSentence_15 rfl ?_
  refine gw_iald hX nd_LL_learnSentence_16 r2 0 rfl (by omega) (by decide) ?_
  refine gw_topi (y := nI bc) ((hR 0 _ (ab_best_at hne (by decide))).2.trans (by rw [hbc])) ?_
  refine gw_istore_n hX nd_LL_learnSentence_17 rfl (by decide) (L' := [(2, .int (nI bc)), (0, .ref n), (1, .ref a)]) rfl ?_
  refine gw_iload_n hX nd_LL_learnSentence_18 rfl 0 rfl ?_
  refine gw_aload_n hX nd_LL_learnSentence_19 rfl 2 rfl ?_
  refine gw_get hX kf_LL_108 nd_LL_learnSentence_20 g0 rfl ?_
  refine gw_icmp_eq (tgt := 30) hX nd_LL_learnSentence_23 rfl (fun hb => ?_) (fun hb => ?_)
  · have hb : bc = se_c ws := (nI_eq (a := bc) (b := se_c ws) (by omega) (by omega)).mp hb
    have hbe := hb
    have hmd : ab_md A.wt ws = A.wt := by unfold ab_md; rw [← hbc, if_pos hbe]
    refine gw_iconst (v := nI 0) hX nd_LL_learnSentence_30 rfl ?_
    refine gw_istore_n hX nd_LL_learnSentence_31 rfl (by decide) (L' := [(3, .int (nI 0)), (2, .int (nI bc)), (0, .ref n), (1, .ref a)]) rfl ?_
    refine gw_iload_n hX nd_LL_learnSentence_32 rfl 0 rfl ?_
    refine gw_if_eq (tgt := 61) hX nd_LL_learnSentence_33 rfl (fun hb => ?_) (fun hb => ?_)
    · have hb : 0 = 0 := (nI_eq (a := 0) (b := 0) (by omega) (by omega)).mp hb
      refine gw_aload_n hX nd_LL_learnSentence_61 rfl 2 rfl ?_
      refine gw_get hX kf_LL_30 nd_LL_learnSentence_62 h0 rfl ?_
      refine gw_aload_n hX nd_LL_learnSentence_65 rfl 2 rfl ?_
      refine gw_get hX kf_LL_26 nd_LL_learnSentence_66 h0 rfl ?_
      refine gw_callV (rest := []) hX ks_LL_184 (ct_We_addAll _ _ _ _ (n + 82) (n + 80) (A.wt) A.tt (by omega) t0 t1 w0 w1) t0 rfl rfl (Nat.le_of_ble_eq_true rfl) nd_LL_learnSentence_69 (by decide) ?_
      rintro _ σ2 ⟨rfl, t0, t1, hf⟩
      have h0 : σ2.2 n = some (.inr (0, [.ref (n + 1), .ref (n + 3), .ref (n + 80), .ref (n + 82), .ref c, .ref cd, .ref s, .ref sd, .int (nI A.mk), .int (nI A.ps), .int (nI A.kw), .int (nI A.kc)])) := (hf.2 n (by omega)).trans h0
      have g0 : σ2.2 a = some (.inr (5, [.ref (a + 1), .int (nI (se_c ws)), .int (nI ws.length)])) := (hf.2 a (by omega)).trans g0
      have g1 : σ2.2 (a + 1) = some ((gw_I (gw_z X) 18 bws)) := (hf.2 (a + 1) (by omega)).trans g1
      have w0 : σ2.2 (n + 80) = some (.inr (7, [.ref (n + 80 + 1)])) := (hf.2 (n + 80) (by omega)).trans w0
      have w1 : σ2.2 (n + 80 + 1) = some ((gw_J (gw_z X) 148 (fun j => iL (A.wt j)))) := (hf.2 (n + 80 + 1) (by omega)).trans w1
      have r0 : σ2.2 (n + 3 + 2) = some (.inr (4, [.ref (n + 3 + 2 + 1), .ref (n + 3 + 2 + 2), .int (nI 2)])) := (hf.2 (n + 3 + 2) (by omega)).trans r0
      have r1 : σ2.2 (n + 3 + 2 + 1) = some ((gw_J (gw_z X) 2 fs)) := (hf.2 (n + 3 + 2 + 1) (by omega)).trans r1
      have r2 : σ2.2 (n + 3 + 2 + 2) = some ((gw_I (gw_z X) 2 fl)) := (hf.2 (n + 3 + 2 + 2) (by omega)).trans r2
      have fr : gw_f2 σ σ2 n (n + 1) (n + 5) (n + 84) := gw_f2_r fr hf
      have hde := de_at_fr hde hf (by omega)
      show gw_W X σ2 0 0 72 [(3, .int (nI 0)), (2, .int (nI bc)), (0, .ref n), (1, .ref a)] []
      refine gw_iload_n hX nd_LL_learnSentence_72 rfl 0 rfl ?_
      exact gw_zret hX hQ hr nd_LL_learnSentence_73 rfl (by decide) (by decide) ⟨by rw [show (ab_ls A ws).1 = 0 from by show ab_mis A.wt ws = _; unfold ab_mis; rw [← hbc, if_pos hbe]], cw_re hl8 hC fr rfl rfl h0 hde (by show we_at _ _ _ (ab_md A.wt ws); rw [hmd]; exact ⟨w0, w1⟩) (by show we_at _ _ _ (fun j => A.tt j + ab_md A.wt ws j); rw [hmd]; exact ⟨t0, t1⟩), fr⟩
    · have hb : ¬ 0 = 0 := fun h => hb ((nI_eq (a := 0) (b := 0) (by omega) (by omega)).mpr h)
      exfalso; omega
  · have hb : ¬ bc = se_c ws := fun h => hb ((nI_eq (a := bc) (b := se_c ws) (by omega) (by omega)).mpr h)
    have hbe := hb
    have hmd : ab_md A.wt ws = ct_ad (ct_ad A.wt 1 (ct_C (ab_sb ws) (lb_at (nI (se_c ws))) ws.length)) (-1) (ct_C (ab_sb ws) (lb_at (nI bc)) ws.length) := by unfold ab_md; rw [← hbc, if_neg hbe]
    refine gw_iconst (v := nI 1) hX nd_LL_learnSentence_26 rfl ?_
    refine gw_goto (tgt := 31) hX nd_LL_learnSentence_27 rfl ?_
    refine gw_istore_n hX nd_LL_learnSentence_31 rfl (by decide) (L' := [(3, .int (nI 1)), (2, .int (nI bc)), (0, .ref n), (1, .ref a)]) rfl ?_
    refine gw_iload_n hX nd_LL_learnSentence_32 rfl 0 rfl ?_
    refine gw_if_eq (tgt := 61) hX nd_LL_learnSentence_33 rfl (fun hb => ?_) (fun hb => ?_)
    · have hb : 1 = 0 := (nI_eq (a := 1) (b := 0) (by omega) (by omega)).mp hb
      exfalso; omega
    · have hb : ¬ 1 = 0 := fun h => hb ((nI_eq (a := 1) (b := 0) (by omega) (by omega)).mpr h)
      refine gw_aload_n hX nd_LL_learnSentence_36 rfl 2 rfl ?_
      refine gw_get hX kf_LL_26 nd_LL_learnSentence_37 h0 rfl ?_
      refine gw_aload_n hX nd_LL_learnSentence_40 rfl 3 rfl ?_
      refine gw_aload_n hX nd_LL_learnSentence_41 rfl 3 rfl ?_
      refine gw_get hX kf_LL_108 nd_LL_learnSentence_42 g0 rfl ?_
      refine gw_lconst (v := 1) hX nd_LL_learnSentence_45 rfl ?_
      refine gw_topl rfl ?_
      refine gw_callV (rest := []) hX ks_LL_178 (ct_We_change _ _ _ _ (n + 80) a (A.wt) (1) bws (se_B ws) _ (nI (se_c ws)) ws.length (se_B_ok hbk hso) hsl6 (by omega) w0 w1 g0 g1) w0 rfl rfl (Nat.le_of_ble_eq_true rfl) nd_LL_learnSentence_46 (by decide) ?_
      rintro _ σ3 ⟨rfl, w0, w1, hf⟩
      have h0 : σ3.2 n = some (.inr (0, [.ref (n + 1), .ref (n + 3), .ref (n + 80), .ref (n + 82), .ref c, .ref cd, .ref s, .ref sd, .int (nI A.mk), .int (nI A.ps), .int (nI A.kw), .int (nI A.kc)])) := (hf.2 n (by omega)).trans h0
      have g0 : σ3.2 a = some (.inr (5, [.ref (a + 1), .int (nI (se_c ws)), .int (nI ws.length)])) := (hf.2 a (by omega)).trans g0
      have g1 : σ3.2 (a + 1) = some ((gw_I (gw_z X) 18 bws)) := (hf.2 (a + 1) (by omega)).trans g1
      have t0 : σ3.2 (n + 82) = some (.inr (7, [.ref (n + 82 + 1)])) := (hf.2 (n + 82) (by omega)).trans t0
      have t1 : σ3.2 (n + 82 + 1) = some ((gw_J (gw_z X) 148 (fun j => iL (A.tt j)))) := (hf.2 (n + 82 + 1) (by omega)).trans t1
      have r0 : σ3.2 (n + 3 + 2) = some (.inr (4, [.ref (n + 3 + 2 + 1), .ref (n + 3 + 2 + 2), .int (nI 2)])) := (hf.2 (n + 3 + 2) (by omega)).trans r0
      have r1 : σ3.2 (n + 3 + 2 + 1) = some ((gw_J (gw_z X) 2 fs)) := (hf.2 (n + 3 + 2 + 1) (by omega)).trans r1
      have r2 : σ3.2 (n + 3 + 2 + 2) = some ((gw_I (gw_z X) 2 fl)) := (hf.2 (n + 3 + 2 + 2) (by omega)).trans r2
      have fr : gw_f2 σ σ3 n (n + 1) (n + 5) (n + 84) := gw_f2_r fr hf
      have hde := de_at_fr hde hf (by omega)
      show gw_W X σ3 0 0 49 [(3, .int (nI 1)), (2, .int (nI bc)), (0, .ref n), (1, .ref a)] []
      refine gw_aload_n hX nd_LL_learnSentence_49 rfl 2 rfl ?_
      refine gw_get hX kf_LL_26 nd_LL_learnSentence_50 h0 rfl ?_
      refine gw_aload_n hX nd_LL_learnSentence_53 rfl 3 rfl ?_
      refine gw_iload_n hX nd_LL_learnSentence_54 rfl 1 rfl ?_
      refine gw_ldc2 (v := -1) hX (gw_in_t 489 (by decide +kernel) rfl) nd_LL_learnSentence_55 ?_
      refine gw_topl (y := iL (-1)) rfl ?_
      refine gw_callV (rest := []) hX ks_LL_178 (ct_We_change _ _ _ _ (n + 80) a (ct_ad A.wt 1 (ct_C (ab_sb ws) (lb_at (nI (se_c ws))) ws.length)) (-1) bws (se_B ws) _ (nI bc) ws.length (se_B_ok hbk hso) hsl6 (by omega) w0 w1 g0 g1) w0 rfl rfl (Nat.le_of_ble_eq_true rfl) nd_LL_learnSentence_58 (by decide) ?_
      rintro _ σ4 ⟨rfl, w0, w1, hf⟩
      have h0 : σ4.2 n = some (.inr (0, [.ref (n + 1), .ref (n + 3), .ref (n + 80), .ref (n + 82), .ref c, .ref cd, .ref s, .ref sd, .int (nI A.mk), .int (nI A.ps), .int (nI A.kw), .int (nI A.kc)])) := (hf.2 n (by omega)).trans h0
      have g0 : σ4.2 a = some (.inr (5, [.ref (a + 1), .int (nI (se_c ws)), .int (nI ws.length)])) := (hf.2 a (by omega)).trans g0
      have g1 : σ4.2 (a + 1) = some ((gw_I (gw_z X) 18 bws)) := (hf.2 (a + 1) (by omega)).trans g1
      have t0 : σ4.2 (n + 82) = some (.inr (7, [.ref (n + 82 + 1)])) := (hf.2 (n + 82) (by omega)).trans t0
      have t1 : σ4.2 (n + 82 + 1) = some ((gw_J (gw_z X) 148 (fun j => iL (A.tt j)))) := (hf.2 (n + 82 + 1) (by omega)).trans t1
      have r0 : σ4.2 (n + 3 + 2) = some (.inr (4, [.ref (n + 3 + 2 + 1), .ref (n + 3 + 2 + 2), .int (nI 2)])) := (hf.2 (n + 3 + 2) (by omega)).trans r0
      have r1 : σ4.2 (n + 3 + 2 + 1) = some ((gw_J (gw_z X) 2 fs)) := (hf.2 (n + 3 + 2 + 1) (by omega)).trans r1
      have r2 : σ4.2 (n + 3 + 2 + 2) = some ((gw_I (gw_z X) 2 fl)) := (hf.2 (n + 3 + 2 + 2) (by omega)).trans r2
      have fr : gw_f2 σ σ4 n (n + 1) (n + 5) (n + 84) := gw_f2_r fr hf
      have hde := de_at_fr hde hf (by omega)
      show gw_W X σ4 0 0 61 [(3, .int (nI 1)), (2, .int (nI bc)), (0, .ref n), (1, .ref a)] []
      refine gw_aload_n hX nd_LL_learnSentence_61 rfl 2 rfl ?_
      refine gw_get hX kf_LL_30 nd_LL_learnSentence_62 h0 rfl ?_
      refine gw_aload_n hX nd_LL_learnSentence_65 rfl 2 rfl ?_
      refine gw_get hX kf_LL_26 nd_LL_learnSentence_66 h0 rfl ?_
      refine gw_callV (rest := []) hX ks_LL_184 (ct_We_addAll _ _ _ _ (n + 82) (n + 80) (ct_ad (ct_ad A.wt 1 (ct_C (ab_sb ws) (lb_at (nI (se_c ws))) ws.length)) (-1) (ct_C (ab_sb ws) (lb_at (nI bc)) ws.length)) A.tt (by omega) t0 t1 w0 w1) t0 rfl rfl (Nat.le_of_ble_eq_true rfl) nd_LL_learnSentence_69 (by decide) ?_
      rintro _ σ5 ⟨rfl, t0, t1, hf⟩
      have h0 : σ5.2 n = some (.inr (0, [.ref (n + 1), .ref (n + 3), .ref (n + 80), .ref (n + 82), .ref c, .ref cd, .ref s, .ref sd, .int (nI A.mk), .int (nI A.ps), .int (nI A.kw), .int (nI A.kc)])) := (hf.2 n (by omega)).trans h0
      have g0 : σ5.2 a = some (.inr (5, [.ref (a + 1), .int (nI (se_c ws)), .int (nI ws.length)])) := (hf.2 a (by omega)).trans g0
      have g1 : σ5.2 (a + 1) = some ((gw_I (gw_z X) 18 bws)) := (hf.2 (a + 1) (by omega)).trans g1
      have w0 : σ5.2 (n + 80) = some (.inr (7, [.ref (n + 80 + 1)])) := (hf.2 (n + 80) (by omega)).trans w0
      have w1 : σ5.2 (n + 80 + 1) = some ((gw_J (gw_z X) 148 (fun j => iL ((ct_ad (ct_ad A.wt 1 (ct_C (ab_sb ws) (lb_at (nI (se_c ws))) ws.length)) (-1) (ct_C (ab_sb ws) (lb_at (nI bc)) ws.length)) j)))) := (hf.2 (n + 80 + 1) (by omega)).trans w1
      have r0 : σ5.2 (n + 3 + 2) = some (.inr (4, [.ref (n + 3 + 2 + 1), .ref (n + 3 + 2 + 2), .int (nI 2)])) := (hf.2 (n + 3 + 2) (by omega)).trans r0
      have r1 : σ5.2 (n + 3 + 2 + 1) = some ((gw_J (gw_z X) 2 fs)) := (hf.2 (n + 3 + 2 + 1) (by omega)).trans r1
      have r2 : σ5.2 (n + 3 + 2 + 2) = some ((gw_I (gw_z X) 2 fl)) := (hf.2 (n + 3 + 2 + 2) (by omega)).trans r2
      have fr : gw_f2 σ σ5 n (n + 1) (n + 5) (n + 84) := gw_f2_r fr hf
      have hde := de_at_fr hde hf (by omega)
      show gw_W X σ5 0 0 72 [(3, .int (nI 1)), (2, .int (nI bc)), (0, .ref n), (1, .ref a)] []
      refine gw_iload_n hX nd_LL_learnSentence_72 rfl 0 rfl ?_
      exact gw_zret hX hQ hr nd_LL_learnSentence_73 rfl (by decide) (by decide) ⟨by rw [show (ab_ls A ws).1 = 1 from by show ab_mis A.wt ws = _; unfold ab_mis; rw [← hbc, if_neg hbe]], cw_re hl8 hC fr rfl rfl h0 hde (by show we_at _ _ _ (ab_md A.wt ws); rw [hmd]; exact ⟨w0, w1⟩) (by show we_at _ _ _ (fun j => A.tt j + ab_md A.wt ws j); rw [hmd]; exact ⟨t0, t1⟩), fr⟩
end
section
set_option maxRecDepth 100000 in
set_option maxHeartbeats 4000000 in
theorem lp_LL_learnCorpus {X : gw_C} (n c cd s sd : Nat) (A : ab_A) (hA : ab_ok A) (N : Nat) (hbd : ab_bd A N) (hN : N + 8 ≤ 100000) {σ0 : gw_S} (hX : gw_ok X nc_LL_learnCorpus "LabelLearner" (3, 5, 124, 0, 0)) (hQ : X.2.2.2.2 = gw_end X (fun v σ' => v = some (.int (nI (ab_pass A).1)) ∧ cw_at σ' (gw_z X) n (ab_pass A).2 c cd s sd ∧ gw_f2 σ0 σ' n (n + 1) (n + 5) (n + 84)) 0 0) (hr : X.2.2.1.1.sig.returnType = (some .int)) : ∀ (m : Nat) (k wr : Nat) (B : ab_A) (σ : gw_S), ab_run A k = (wr, B) → k + m = A.ss.length → cw_at σ (gw_z X) n B c cd s sd → gw_f2 σ0 σ n (n + 1) (n + 5) (n + 84) → gw_W X σ 0 0 4 [(0, .ref n), (1, .int (nI wr)), (2, .int (nI k))] [] := by
  intro m
  induction m using Nat.strongRecOn with
  | ind m ih =>
    intro k wr B σ
    intro hrun hkm hC fr
    have hBe : B = (ab_run A k).2 := by rw [hrun]
    have hBq : ab_eq A B := by rw [hBe]; exact ab_eq_run A k
    have hB : ab_ok B := ab_eq_ok hBq hA
    have hss : B.ss = A.ss := ab_eq_ss hBq
    have hl9 : B.ss.length = A.ss.length := by rw [hss]
    have hkl : k ≤ A.ss.length := by omega
    have hwr : wr ≤ k := by have := ab_run_le A k hkl; rw [hrun] at this; exact this
    have hbB : ab_bd B (N + k) := by rw [hBe]; exact ab_bd_run hbd (fun ws hw => (hA.2.2.2.1 ws hw).1.2) k hkl
    obtain ⟨hsw, h0, ⟨kt, hkt, htx⟩, hde, hwe, hte, hrc, hrd, hsp, hsd⟩ := id hC
    obtain ⟨sw1, sw2⟩ := id hsw
    obtain ⟨c0, c1, c2, c3⟩ := id hrc
    have hl8 := hB.2.2.1
    have g9 : gw_fr σ σ n (n + 1) := gw_fr_rf _ _ _
    refine gw_iload_n hX nd_LL_learnCorpus_4 rfl 2 rfl ?_
    refine gw_aload_n hX nd_LL_learnCorpus_5 rfl 0 rfl ?_
    refine gw_get hX kf_LL_36 nd_LL_learnCorpus_6 h0 rfl ?_
    refine gw_get hX kf_LL_85 nd_LL_learnCorpus_9 c0 rfl ?_
    refine gw_icmp_ge (tgt := 40) hX nd_LL_learnCorpus_12 rfl (fun hb => ?_) (fun hb => ?_)
    · have hb : B.ss.length ≤ k := (nI_leI (a := B.ss.length) (b := k) (by omega) (by omega)).mp hb
      have hke : k = A.ss.length := by omega
      have hp : ab_pass A = (wr, ab_cnt B wr) := by unfold ab_pass; rw [← hke, hrun]
      refine gw_aload_n hX nd_LL_learnCorpus_40 rfl 0 rfl ?_
      refine gw_dup hX nd_LL_learnCorpus_41 rfl ?_
      refine gw_get hX kf_LL_75 nd_LL_learnCorpus_42 h0 rfl ?_
      refine gw_iload_n hX nd_LL_learnCorpus_45 rfl 1 rfl ?_
      refine gw_iadd hX nd_LL_learnCorpus_46 ?_
      refine gw_topi (y := nI (B.mk + wr)) (nI_add _ _) ?_
      refine gw_put hX kf_LL_75 nd_LL_learnCorpus_47 h0 rfl rfl (Nat.le_of_ble_eq_true rfl) (e' := .inr (0, [.ref (n + 1), .ref (n + 3), .ref (n + 80), .ref (n + 82), .ref c, .ref cd, .ref s, .ref sd, .int (nI (B.mk + wr)), .int (nI B.ps), .int (nI B.kw), .int (nI B.kc)])) rfl ?_
      obtain ⟨σ1, eσ1⟩ : ∃ hp_, hp_ = gw_up σ n (.inr (0, [.ref (n + 1), .ref (n + 3), .ref (n + 80), .ref (n + 82), .ref c, .ref cd, .ref s, .ref sd, .int (nI (B.mk + wr)), .int (nI B.ps), .int (nI B.kw), .int (nI B.kc)])) := ⟨_, rfl⟩
      refine gw_heap eσ1.symm ?_
      have h0 : σ1.2 n = some (.inr (0, [.ref (n + 1), .ref (n + 3), .ref (n + 80), .ref (n + 82), .ref c, .ref cd, .ref s, .ref sd, .int (nI (B.mk + wr)), .int (nI B.ps), .int (nI B.kw), .int (nI B.kc)])) := by rw [eσ1]; exact gw_up_eq _ _ _
      have c0 : σ1.2 c = some (.inr (2, [.ref (c + 1), .int (nI B.ss.length)])) := by rw [eσ1, gw_up_ne (by omega)]; exact c0
      have c1 : σ1.2 (c + 1) = some ((gw_Q3 (gw_z X) 8 (fun j => some (c + 2 + 2 * j)))) := by rw [eσ1, gw_up_ne (by omega)]; exact c1
      have fr : gw_f2 σ0 σ1 n (n + 1) (n + 5) (n + 84) := by first | exact gw_f2_l fr (show gw_fr _ σ1 n (n + 1) by rw [eσ1]; exact gw_fr_up _ _ _ (by omega) (by omega)) | exact gw_f2_r fr (show gw_fr _ σ1 (n + 5) (n + 84) by rw [eσ1]; exact gw_fr_up _ _ _ (by omega) (by omega))
      have g9 : gw_fr σ σ1 n (n + 1) := gw_fr_tr g9 (show gw_fr _ σ1 n (n + 1) by rw [eσ1]; exact gw_fr_up _ _ _ (by omega) (by omega))
      refine gw_aload_n hX nd_LL_learnCorpus_50 rfl 0 rfl ?_
      refine gw_dup hX nd_LL_learnCorpus_51 rfl ?_
      refine gw_get hX kf_LL_79 nd_LL_learnCorpus_52 h0 rfl ?_
      refine gw_iconst (v := nI 1) hX nd_LL_learnCorpus_55 rfl ?_
      refine gw_iadd hX nd_LL_learnCorpus_56 ?_
      refine gw_topi (y := nI (B.ps + 1)) (nI_add _ _) ?_
      refine gw_put hX kf_LL_79 nd_LL_learnCorpus_57 h0 rfl rfl (Nat.le_of_ble_eq_true rfl) (e' := .inr (0, [.ref (n + 1), .ref (n + 3), .ref (n + 80), .ref (n + 82), .ref c, .ref cd, .ref s, .ref sd, .int (nI (B.mk + wr)), .int (nI (B.ps + 1)), .int (nI B.kw), .int (nI B.kc)])) rfl ?_
      obtain ⟨σ2, eσ2⟩ : ∃ hp_, hp_ = gw_up σ1 n (.inr (0, [.ref (n + 1), .ref (n + 3), .ref (n + 80), .ref (n + 82), .ref c, .ref cd, .ref s, .ref sd, .int (nI (B.mk + wr)), .int (nI (B.ps + 1)), .int (nI B.kw), .int (nI B.kc)])) := ⟨_, rfl⟩
      refine gw_heap eσ2.symm ?_
      have h0 : σ2.2 n = some (.inr (0, [.ref (n + 1), .ref (n + 3), .ref (n + 80), .ref (n + 82), .ref c, .ref cd, .ref s, .ref sd, .int (nI (B.mk + wr)), .int (nI (B.ps + 1)), .int (nI B.kw), .int (nI B.kc)])) := by rw [eσ2]; exact gw_up_eq _ _ _
      have c0 : σ2.2 c = some (.inr (2, [.ref (c + 1), .int (nI B.ss.length)])) := by rw [eσ2, gw_up_ne (by omega)]; exact c0
      have c1 : σ2.2 (c + 1) = some ((gw_Q3 (gw_z X) 8 (fun j => some (c + 2 + 2 * j)))) := by rw [eσ2, gw_up_ne (by omega)]; exact c1
      have fr : gw_f2 σ0 σ2 n (n + 1) (n + 5) (n + 84) := by first | exact gw_f2_l fr (show gw_fr _ σ2 n (n + 1) by rw [eσ2]; exact gw_fr_up _ _ _ (by omega) (by omega)) | exact gw_f2_r fr (show gw_fr _ σ2 (n + 5) (n + 84) by rw [eσ2]; exact gw_fr_up _ _ _ (by omega) (by omega))
      have g9 : gw_fr σ σ2 n (n + 1) := gw_fr_tr g9 (show gw_fr _ σ2 n (n + 1) by rw [eσ2]; exact gw_fr_up _ _ _ (by omega) (by omega))
      refine gw_iload_n hX nd_LL_learnCorpus_60 rfl 1 rfl ?_
      exact gw_iret hX hQ hr nd_LL_learnCorpus_61 (by decide) (by decide) ⟨by rw [hp], by rw [hp]; exact cw_re hl8 hC (gw_f2_l (gw_f2_rf _ _ _ _ _) g9) rfl rfl h0 (de_at_fr hde g9 (by omega)) (we_at_fr hwe g9 (by omega)) (we_at_fr hte g9 (by omega)), fr⟩
    · have hb : ¬ B.ss.length ≤ k := fun h => hb ((nI_leI (a := B.ss.length) (b := k) (by omega) (by omega)).mpr h)
      have hk8 : k < B.ss.length := by omega
      have hkk : A.ss[k]'(by omega) = B.ss[k] := by simp only [hss]
      refine gw_aload_n hX nd_LL_learnCorpus_15 rfl 0 rfl ?_
      refine gw_aload_n hX nd_LL_learnCorpus_16 rfl 0 rfl ?_
      refine gw_get hX kf_LL_36 nd_LL_learnCorpus_17 h0 rfl ?_
      refine gw_get hX kf_LL_165 nd_LL_learnCorpus_20 c0 rfl ?_
      refine gw_iload_n hX nd_LL_learnCorpus_23 rfl 2 rfl ?_
      refine gw_ald3 hX nd_LL_learnCorpus_24 c1 k rfl (by omega) (by decide) (r := c + 2 + 2 * k) rfl ?_
      refine gw_callV (rest := []) hX ks_LL_175 (ct_LL_learnSentence _ _ _ σ n c cd s sd B hB hC (c + 2 + 2 * k) B.ss[k] (c3 k _ (List.getElem?_eq_getElem hk8)).1 (hB.2.2.2.1 _ (List.getElem_mem hk8)) (by omega) (ab_bd_B hbB (by omega) 0)) h0 rfl rfl (Nat.le_of_ble_eq_true rfl) nd_LL_learnCorpus_25 (by decide) ?_
      rintro _ σ3 ⟨rfl, hC1, hf⟩
      have fr : gw_f2 σ0 σ3 n (n + 1) (n + 5) (n + 84) := gw_f2_tr fr hf
      have hmi : (ab_ls B B.ss[k]).1 ≤ 1 := ab_mis_le _ _
      show gw_W X σ3 0 0 28 [(0, .ref n), (1, .int (nI wr)), (2, .int (nI k))] [.int (nI ((ab_ls B B.ss[k]).1))]
      refine gw_if_eq (tgt := 34) hX nd_LL_learnCorpus_28 rfl (fun hb => ?_) (fun hb => ?_)
      · have hb : (ab_ls B B.ss[k]).1 = 0 := (nI_eq (a := (ab_ls B B.ss[k]).1) (b := 0) (by omega) (by omega)).mp hb
        refine gw_iinc hX nd_LL_learnCorpus_34 2 rfl (v := nI (k + 1)) (show nI k + nI 1 = nI (k + 1) from nI_add _ _) (by decide) (L' := [(2, .int (nI (k + 1))), (0, .ref n), (1, .int (nI wr))]) rfl ?_
        refine gw_goto (tgt := 4) hX nd_LL_learnCorpus_37 rfl ?_
        refine gw_cut (ks := [1, 2, 0]) (L' := [(0, .ref n), (1, .int (nI wr)), (2, .int (nI (k + 1)))]) rfl ?_
        exact ih (m - 1) (by omega) (k + 1) (wr) (ab_ls B B.ss[k]).2 _ (by rw [ab_run_s (by omega), hrun]; show (wr + (ab_ls B (A.ss[k]'(by omega))).1, (ab_ls B (A.ss[k]'(by omega))).2) = _; rw [hkk, show (ab_ls B B.ss[k]).1 = wr - wr by omega]; congr 1; omega) (by omega) hC1 fr
      · have hb : ¬ (ab_ls B B.ss[k]).1 = 0 := fun h => hb ((nI_eq (a := (ab_ls B B.ss[k]).1) (b := 0) (by omega) (by omega)).mpr h)
        refine gw_iinc hX nd_LL_learnCorpus_31 1 rfl (v := nI (wr + 1)) (show nI wr + nI 1 = nI (wr + 1) from nI_add _ _) (by decide) (L' := [(1, .int (nI (wr + 1))), (0, .ref n), (2, .int (nI k))]) rfl ?_
        refine gw_iinc hX nd_LL_learnCorpus_34 2 rfl (v := nI (k + 1)) (show nI k + nI 1 = nI (k + 1) from nI_add _ _) (by decide) (L' := [(2, .int (nI (k + 1))), (1, .int (nI (wr + 1))), (0, .ref n)]) rfl ?_
        refine gw_goto (tgt := 4) hX nd_LL_learnCorpus_37 rfl ?_
        refine gw_cut (ks := [2, 1, 0]) (L' := [(0, .ref n), (1, .int (nI (wr + 1))), (2, .int (nI (k + 1)))]) rfl ?_
        exact ih (m - 1) (by omega) (k + 1) (wr + 1) (ab_ls B B.ss[k]).2 _ (by rw [ab_run_s (by omega), hrun]; show (wr + (ab_ls B (A.ss[k]'(by omega))).1, (ab_ls B (A.ss[k]'(by omega))).2) = _; rw [hkk, show (ab_ls B B.ss[k]).1 = wr + 1 - wr by omega]; congr 1; omega) (by omega) hC1 fr
set_option maxRecDepth 100000 in
set_option maxHeartbeats 4000000 in
theorem ct_LL_learnCorpus (l : Launch) (Z : gw_Z) (b0 : Nat) (σ : gw_S) (n c cd s sd : Nat) (A : ab_A) (hA : ab_ok A) (N : Nat) (hbd : ab_bd A N) (hN : N + 8 ≤ 100000) (hC : cw_at σ Z n A c cd s sd) : gw_M l ny_LL_learnCorpus nc_LL_learnCorpus (3, 5, 124, 0, 0) (some .int) Z b0 σ [.ref n] (fun v σ' => v = some (.int (nI (ab_pass A).1)) ∧ cw_at σ' Z n (ab_pass A).2 c cd s sd ∧ gw_f2 σ σ' n (n + 1) (n + 5) (n + 84)) := by
  refine gw_M_of rfl (Nat.le_of_ble_eq_true rfl) ?_
  intro X hX hl hz hb0 hr hnm hQ
  subst hz hb0 hl
  have hX : gw_ok X nc_LL_learnCorpus "LabelLearner" (3, 5, 124, 0, 0) := hX
  show gw_W X σ 0 0 0 [(0, .ref n)] []
  refine gw_iconst (v := nI 0) hX nd_LL_learnCorpus_0 rfl ?_
  refine gw_istore_n hX nd_LL_learnCorpus_1 rfl (by decide) (L' := [(1, .int (nI 0)), (0, .ref n)]) rfl ?_
  refine gw_iconst (v := nI 0) hX nd_LL_learnCorpus_2 rfl ?_
  refine gw_istore_n hX nd_LL_learnCorpus_3 rfl (by decide) (L' := [(2, .int (nI 0)), (1, .int (nI 0)), (0, .ref n)]) rfl ?_
  refine gw_cut (ks := [2, 1, 0]) (L' := [(0, .ref n), (1, .int (nI 0)), (2, .int (nI 0))]) rfl ?_
  exact lp_LL_learnCorpus n c cd s sd A hA N hbd hN hX hQ hr A.ss.length 0 0 A σ rfl (by omega) hC (gw_f2_rf _ _ _ _ _)
set_option maxRecDepth 100000 in
set_option maxHeartbeats 4000000 in
theorem lp_LL_errors {X : gw_C} (n c cd s sd : Nat) (A : ab_A) (hA : ab_ok A) (q : Nat) (hq : q < 2) (hB : dc_B (ab_w A q)) {σ0 : gw_S} (hX : gw_ok X nc_LL_errors "LabelLearner" (6, 4, 101, 0, 0)) (hQ : X.2.2.2.2 = gw_end X (fun v σ' => v = some (.int (nI (ab_err A q A.ss.length))) ∧ cw_at σ' (gw_z X) n A c cd s sd ∧ gw_f2 σ0 σ' n (n + 1) (n + 5) (n + 84)) 0 0) (hr : X.2.2.1.1.sig.returnType = (some .int)) : ∀ (m : Nat) (k wr : Nat) (σ : gw_S), wr = ab_err A q k → k + m = A.ss.length → cw_at σ (gw_z X) n A c cd s sd → gw_f2 σ0 σ n (n + 1) (n + 5) (n + 84) → gw_W X σ 0 0 4 [(0, .ref n), (1, .int (nI q)), (2, .int (nI wr)), (3, .int (nI k))] [] := by
  intro m
  induction m using Nat.strongRecOn with
  | ind m ih =>
    intro k wr σ
    intro hwr hkm hC fr
    have hkl : k ≤ A.ss.length := by omega
    have hwl := ab_err_le q hA k hkl
    obtain ⟨hsw, h0, ⟨kt, hkt, htx⟩, hde, hwe, hte, hrc, hrd, hsp, hsd⟩ := id hC
    obtain ⟨sw1, sw2⟩ := id hsw
    obtain ⟨c0, c1, c2, c3⟩ := id hrc
    have hl8 := hA.2.2.1
    refine gw_iload_n hX nd_LL_errors_4 rfl 3 rfl ?_
    refine gw_aload_n hX nd_LL_errors_5 rfl 0 rfl ?_
    refine gw_get hX kf_LL_36 nd_LL_errors_6 h0 rfl ?_
    refine gw_get hX kf_LL_85 nd_LL_errors_9 c0 rfl ?_
    refine gw_icmp_ge (tgt := 71) hX nd_LL_errors_12 rfl (fun hb => ?_) (fun hb => ?_)
    · have hb : A.ss.length ≤ k := (nI_leI (a := A.ss.length) (b := k) (by omega) (by omega)).mp hb
      have hke : k = A.ss.length := by omega
      refine gw_iload_n hX nd_LL_errors_71 rfl 2 rfl ?_
      exact gw_iret hX hQ hr nd_LL_errors_72 (by decide) (by decide) ⟨by rw [hwr, hke], hC, fr⟩
    · have hb : ¬ A.ss.length ≤ k := fun h => hb ((nI_leI (a := A.ss.length) (b := k) (by omega) (by omega)).mpr h)
      obtain ⟨ws, hws⟩ : ∃ ws, ws = A.ss[k]'(by omega) := ⟨_, rfl⟩
      obtain ⟨a, ha⟩ : ∃ a, a = c + 2 + 2 * k := ⟨_, rfl⟩
      have hse : se_at σ (gw_z X) a ws := by rw [ha, hws]; exact (c3 k _ (List.getElem?_eq_getElem (by omega))).1
      obtain ⟨bws, g0, g1, hbk⟩ := id hse
      obtain ⟨⟨hso, hsl6⟩, hne⟩ := (by rw [hws]; exact hA.2.2.2.1 _ (List.getElem_mem (by omega)) : ab_g ws ∧ ws ≠ [])
      have hws0 := List.length_pos_iff.mpr hne
      refine gw_aload_n hX nd_LL_errors_15 rfl 0 rfl ?_
      refine gw_get hX kf_LL_36 nd_LL_errors_16 h0 rfl ?_
      refine gw_get hX kf_LL_165 nd_LL_errors_19 c0 rfl ?_
      refine gw_iload_n hX nd_LL_errors_22 rfl 3 rfl ?_
      refine gw_ald3 hX nd_LL_errors_23 c1 k rfl (by omega) (by decide) (r := a) (by rw [ha]) ?_
      refine gw_astore hX nd_LL_errors_24 (by decide) (L' := [(4, .ref a), (0, .ref n), (1, .int (nI q)), (2, .int (nI wr)), (3, .int (nI k))]) rfl ?_
      refine gw_aload_n hX nd_LL_errors_26 rfl 1 rfl ?_
      refine gw_get hX kf_LL_19 nd_LL_errors_27 h0 rfl ?_
      refine gw_aload hX nd_LL_errors_30 0 rfl ?_
      refine gw_aload_n hX nd_LL_errors_32 rfl 1 rfl ?_
      refine gw_iload_n hX nd_LL_errors_33 rfl 2 rfl ?_
      refine gw_callV (rest := [.ref a, .ref (n + 3)]) hX ks_LL_133 (ct_LL_weightsOrTotals _ _ _ σ n c cd s sd A hA hC q hq) h0 rfl rfl (Nat.le_of_ble_eq_true rfl) nd_LL_errors_34 (by decide) ?_
      rintro v_ s_ ⟨hv_, hs_⟩
      have hs_ := hs_.symm
      subst hs_ hv_
      show gw_W X σ 0 0 37 [(4, .ref a), (0, .ref n), (1, .int (nI q)), (2, .int (nI wr)), (3, .int (nI k))] [.ref (if q = 0 then n + 80 else n + 82), .ref a, .ref (n + 3)]
      obtain ⟨hw0, hw1⟩ := cw_w hC q
      have hE9 : dc_E σ (gw_z X) (n + 3) (if q = 0 then n + 80 else n + 82) a (ab_w A q) bws (nI (se_c ws)) ws.length := ⟨hde.1, hde.2.1, hw0, hw1, g0, g1, hde.2.2.1, hde.2.2.2⟩
      refine gw_callV (rest := []) hX ks_LL_141 (ct_De_rank _ _ _ σ (n + 3) (if q = 0 then n + 80 else n + 82) a (ab_w A q) bws (se_B ws) _ ws.length (se_B_ok hbk hso) hsl6 hB (by refine ⟨?_, ?_⟩ <;> (first | omega | (split <;> omega))) hws0 hE9) hde.1 rfl rfl (Nat.le_of_ble_eq_true rfl) nd_LL_errors_37 (by decide) ?_
      rintro _ σ1 ⟨rfl, hrk, hE_, hf⟩
      have h0 : σ1.2 n = some (.inr (0, [.ref (n + 1), .ref (n + 3), .ref (n + 80), .ref (n + 82), .ref c, .ref cd, .ref s, .ref sd, .int (nI A.mk), .int (nI A.ps), .int (nI A.kw), .int (nI A.kc)])) := (hf.2 n (by omega)).trans h0
      have c0 : σ1.2 c = some (.inr (2, [.ref (c + 1), .int (nI A.ss.length)])) := (hf.2 c (by omega)).trans c0
      have c1 : σ1.2 (c + 1) = some ((gw_Q3 (gw_z X) 8 (fun j => some (c + 2 + 2 * j)))) := (hf.2 (c + 1) (by omega)).trans c1
      have g0 : σ1.2 a = some (.inr (5, [.ref (a + 1), .int (nI (se_c ws)), .int (nI ws.length)])) := (hf.2 a (by omega)).trans g0
      have g1 : σ1.2 (a + 1) = some ((gw_I (gw_z X) 18 bws)) := (hf.2 (a + 1) (by omega)).trans g1
      have fr : gw_f2 σ0 σ1 n (n + 1) (n + 5) (n + 84) := gw_f2_r fr hf
      have hrk : rk_at σ1 (gw_z X) (n + 3 + 2) (ab_rk (ab_w A q) ws) := hrk
      obtain ⟨fs, fl, r0, r1, r2, hR⟩ := id hrk
      rw [ab_rk_len hne] at r0
      have hde : de_at σ1 (gw_z X) (n + 3) := ⟨hE_.1, hE_.2.1, hE_.2.2.2.2.2.2.1, hE_.2.2.2.2.2.2.2⟩
      show gw_W X σ1 0 0 40 [(4, .ref a), (0, .ref n), (1, .int (nI q)), (2, .int (nI wr)), (3, .int (nI k))] [.ref (n + 3 + 2)]
      have hC : cw_at σ1 (gw_z X) n A c cd s sd := cw_re hl8 hC (gw_f2_r (gw_f2_rf _ _ _ _ _) hf) rfl rfl h0 hde (we_at_fr hwe hf (by omega)) (we_at_fr hte hf (by omega))
      refine gw_get hX kf_LL_148 nd_LL_errors_40 r0 rfl ?_
      refine gw_iconst (v := nI 0) hX nd_LL_errors_43 rfl ?_
      refine gw_iald hX nd_LL_errors_44 r2 0 rfl (by omega) (by decide) ?_
      refine gw_topi (y := nI ((ab_best (ab_w A q) ws 0).2)) (hR 0 _ (ab_best_at hne (by decide))).2 ?_
      refine gw_istore hX nd_LL_errors_45 (by decide) (L' := [(5, .int (nI ((ab_best (ab_w A q) ws 0).2))), (4, .ref a), (0, .ref n), (1, .int (nI q)), (2, .int (nI wr)), (3, .int (nI k))]) rfl ?_
      refine gw_iload_n hX nd_LL_errors_47 rfl 4 rfl ?_
      refine gw_aload hX nd_LL_errors_48 1 rfl ?_
      refine gw_get hX kf_LL_94 nd_LL_errors_50 g0 rfl ?_
      refine gw_iload hX nd_LL_errors_53 0 rfl ?_
      refine gw_aload hX nd_LL_errors_55 1 rfl ?_
      refine gw_get hX kf_LL_108 nd_LL_errors_57 g0 rfl ?_
      refine gw_callS (rest := [.int (nI wr)]) hX ks_LL_169 (ct_LL_differences _ _ _ σ1 ws.length (nI (ab_best (ab_w A q) ws 0).2) (nI (se_c ws)) hsl6) rfl rfl (Nat.le_of_ble_eq_true rfl) nd_LL_errors_60 (by decide) ?_
      rintro v_ s_ ⟨hv_, hs_⟩
      have hs_ := hs_.symm
      subst hs_ hv_
      show gw_W X σ1 0 0 63 [(5, .int (nI ((ab_best (ab_w A q) ws 0).2))), (4, .ref a), (0, .ref n), (1, .int (nI q)), (2, .int (nI wr)), (3, .int (nI k))] [.int (nI (df_n (nI (ab_best (ab_w A q) ws 0).2) (nI (se_c ws)) ws.length)), .int (nI wr)]
      refine gw_iadd hX nd_LL_errors_63 ?_
      refine gw_topi (y := nI (wr + (df_n (nI (ab_best (ab_w A q) ws 0).2) (nI (se_c ws)) ws.length))) (nI_add _ _) ?_
      refine gw_istore_n hX nd_LL_errors_64 rfl (by decide) (L' := [(2, .int (nI (wr + (df_n (nI (ab_best (ab_w A q) ws 0).2) (nI (se_c ws)) ws.length)))), (5, .int (nI ((ab_best (ab_w A q) ws 0).2))), (4, .ref a), (0, .ref n), (1, .int (nI q)), (3, .int (nI k))]) rfl ?_
      refine gw_iinc hX nd_LL_errors_65 5 rfl (v := nI (k + 1)) (show nI k + nI 1 = nI (k + 1) from nI_add _ _) (by decide) (L' := [(3, .int (nI (k + 1))), (2, .int (nI (wr + (df_n (nI (ab_best (ab_w A q) ws 0).2) (nI (se_c ws)) ws.length)))), (5, .int (nI ((ab_best (ab_w A q) ws 0).2))), (4, .ref a), (0, .ref n), (1, .int (nI q))]) rfl ?_
      refine gw_goto (tgt := 4) hX nd_LL_errors_68 rfl ?_
      refine gw_cut (ks := [4, 5, 1, 0]) (L' := [(0, .ref n), (1, .int (nI q)), (2, .int (nI (wr + (df_n (nI (ab_best (ab_w A q) ws 0).2) (nI (se_c ws)) ws.length)))), (3, .int (nI (k + 1)))]) rfl ?_
      exact ih (m - 1) (by omega) (k + 1) _ _ (by rw [ab_err_s (by omega), hwr, ← hws]; rfl) (by omega) hC fr
set_option maxRecDepth 100000 in
set_option maxHeartbeats 4000000 in
theorem ct_LL_errors (l : Launch) (Z : gw_Z) (b0 : Nat) (σ : gw_S) (n c cd s sd : Nat) (A : ab_A) (hA : ab_ok A) (q : Nat) (hq : q < 2) (hB : dc_B (ab_w A q)) (hC : cw_at σ Z n A c cd s sd) : gw_M l ny_LL_errors nc_LL_errors (6, 4, 101, 0, 0) (some .int) Z b0 σ [.ref n, .int (nI q)] (fun v σ' => v = some (.int (nI (ab_err A q A.ss.length))) ∧ cw_at σ' Z n A c cd s sd ∧ gw_f2 σ σ' n (n + 1) (n + 5) (n + 84)) := by
  refine gw_M_of rfl (Nat.le_of_ble_eq_true rfl) ?_
  intro X hX hl hz hb0 hr hnm hQ
  subst hz hb0 hl
  have hX : gw_ok X nc_LL_errors "LabelLearner" (6, 4, 101, 0, 0) := hX
  show gw_W X σ 0 0 0 [(0, .ref n), (1, .int (nI q))] []
  refine gw_iconst (v := nI 0) hX nd_LL_errors_0 rfl ?_
  refine gw_istore_n hX nd_LL_errors_1 rfl (by decide) (L' := [(2, .int (nI 0)), (0, .ref n), (1, .int (nI q))]) rfl ?_
  refine gw_iconst (v := nI 0) hX nd_LL_errors_2 rfl ?_
  refine gw_istore_n hX nd_LL_errors_3 rfl (by decide) (L' := [(3, .int (nI 0)), (2, .int (nI 0)), (0, .ref n), (1, .int (nI q))]) rfl ?_
  refine gw_cut (ks := [2, 3, 1, 0]) (L' := [(0, .ref n), (1, .int (nI q)), (2, .int (nI 0)), (3, .int (nI 0))]) rfl ?_
  exact lp_LL_errors n c cd s sd A hA q hq hB hX hQ hr A.ss.length 0 0 σ rfl (by omega) hC (gw_f2_rf _ _ _ _ _)
end
