section
-- ===== PART A: goes FIRST, ahead of the names: the tables' words, and 'selects' of the private methods out of them =====
/-- a private method of a class that the tables say can be made, by its rows of tables_1 -/
def lw_okq (q : MethodName × Nat) : Prop := (q.1.cls ≠ "java/lang/invoke/MethodHandle" ∧ q.1.cls ≠ "java/lang/invoke/VarHandle") ∧ Cond.instantiable q.1.cls q.2 ∈ tables_1 ∧ Cond.privateMethod q.1 ∈ tables_1 ∧ Cond.instanceMethod q.1 ∈ tables_1
theorem lw_p0 : lw_okq (⟨"LabelLearner$Text", "append", "(JI)Z"⟩, 3) := ⟨⟨by decide +kernel, by decide +kernel⟩, List.mem_of_getElem? (i := 25) (by decide +kernel), List.mem_of_getElem? (i := 168) (by decide +kernel), List.mem_of_getElem? (i := 169) (by decide +kernel)⟩
theorem lw_p1 : lw_okq (⟨"LabelLearner$Text", "keep", "(I)Z"⟩, 3) := ⟨⟨by decide +kernel, by decide +kernel⟩, List.mem_of_getElem? (i := 25) (by decide +kernel), List.mem_of_getElem? (i := 179) (by decide +kernel), List.mem_of_getElem? (i := 180) (by decide +kernel)⟩
theorem lw_p2 : lw_okq (⟨"LabelLearner", "weightsOrTotals", "(Z)LLabelLearner$Weights;"⟩, 12) := ⟨⟨by decide +kernel, by decide +kernel⟩, List.mem_of_getElem? (i := 17) (by decide +kernel), List.mem_of_getElem? (i := 199) (by decide +kernel), List.mem_of_getElem? (i := 200) (by decide +kernel)⟩
theorem lw_p3 : lw_okq (⟨"LabelLearner$Decoder", "rank", "(LLabelLearner$Sentence;LLabelLearner$Weights;)LLabelLearner$Ranking;"⟩, 2) := ⟨⟨by decide +kernel, by decide +kernel⟩, List.mem_of_getElem? (i := 42) (by decide +kernel), List.mem_of_getElem? (i := 203) (by decide +kernel), List.mem_of_getElem? (i := 204) (by decide +kernel)⟩
theorem lw_p4 : lw_okq (⟨"LabelLearner$Decoder", "rankTails", "(LLabelLearner$Sentence;LLabelLearner$Weights;II)V"⟩, 2) := ⟨⟨by decide +kernel, by decide +kernel⟩, List.mem_of_getElem? (i := 42) (by decide +kernel), List.mem_of_getElem? (i := 207) (by decide +kernel), List.mem_of_getElem? (i := 208) (by decide +kernel)⟩
theorem lw_p5 : lw_okq (⟨"LabelLearner$Decoder", "tailsFrom", "(II)LLabelLearner$Ranking;"⟩, 2) := ⟨⟨by decide +kernel, by decide +kernel⟩, List.mem_of_getElem? (i := 42) (by decide +kernel), List.mem_of_getElem? (i := 211) (by decide +kernel), List.mem_of_getElem? (i := 212) (by decide +kernel)⟩
theorem lw_p6 : lw_okq (⟨"LabelLearner$Weights", "ofWord", "(LLabelLearner$Sentence;II)J"⟩, 1) := ⟨⟨by decide +kernel, by decide +kernel⟩, List.mem_of_getElem? (i := 76) (by decide +kernel), List.mem_of_getElem? (i := 215) (by decide +kernel), List.mem_of_getElem? (i := 216) (by decide +kernel)⟩
theorem lw_p7 : lw_okq (⟨"LabelLearner$Sentence", "bucketOf", "(II)I"⟩, 3) := ⟨⟨by decide +kernel, by decide +kernel⟩, List.mem_of_getElem? (i := 93) (by decide +kernel), List.mem_of_getElem? (i := 219) (by decide +kernel), List.mem_of_getElem? (i := 220) (by decide +kernel)⟩
theorem lw_p8 : lw_okq (⟨"LabelLearner$Weights", "at", "(II)J"⟩, 1) := ⟨⟨by decide +kernel, by decide +kernel⟩, List.mem_of_getElem? (i := 76) (by decide +kernel), List.mem_of_getElem? (i := 223) (by decide +kernel), List.mem_of_getElem? (i := 224) (by decide +kernel)⟩
theorem lw_p9 : lw_okq (⟨"LabelLearner$Ranking", "clear", "()V"⟩, 3) := ⟨⟨by decide +kernel, by decide +kernel⟩, List.mem_of_getElem? (i := 49) (by decide +kernel), List.mem_of_getElem? (i := 227) (by decide +kernel), List.mem_of_getElem? (i := 228) (by decide +kernel)⟩
theorem lw_p10 : lw_okq (⟨"LabelLearner$Ranking", "offer", "(JI)V"⟩, 3) := ⟨⟨by decide +kernel, by decide +kernel⟩, List.mem_of_getElem? (i := 49) (by decide +kernel), List.mem_of_getElem? (i := 231) (by decide +kernel), List.mem_of_getElem? (i := 232) (by decide +kernel)⟩
theorem lw_p11 : lw_okq (⟨"LabelLearner$Ranking", "offerLonger", "(LLabelLearner$Ranking;JI)V"⟩, 3) := ⟨⟨by decide +kernel, by decide +kernel⟩, List.mem_of_getElem? (i := 49) (by decide +kernel), List.mem_of_getElem? (i := 236) (by decide +kernel), List.mem_of_getElem? (i := 237) (by decide +kernel)⟩
theorem lw_p12 : lw_okq (⟨"LabelLearner$Text", "readCorpus", "(LLabelLearner$Corpus;)Z"⟩, 3) := ⟨⟨by decide +kernel, by decide +kernel⟩, List.mem_of_getElem? (i := 25) (by decide +kernel), List.mem_of_getElem? (i := 255) (by decide +kernel), List.mem_of_getElem? (i := 256) (by decide +kernel)⟩
theorem lw_p13 : lw_okq (⟨"LabelLearner$Text", "readSentence", "(LLabelLearner$Sentence;Z)Z"⟩, 3) := ⟨⟨by decide +kernel, by decide +kernel⟩, List.mem_of_getElem? (i := 25) (by decide +kernel), List.mem_of_getElem? (i := 259) (by decide +kernel), List.mem_of_getElem? (i := 260) (by decide +kernel)⟩
theorem lw_p14 : lw_okq (⟨"LabelLearner$Sentence", "clear", "()V"⟩, 3) := ⟨⟨by decide +kernel, by decide +kernel⟩, List.mem_of_getElem? (i := 93) (by decide +kernel), List.mem_of_getElem? (i := 263) (by decide +kernel), List.mem_of_getElem? (i := 264) (by decide +kernel)⟩
theorem lw_p15 : lw_okq (⟨"LabelLearner$Text", "skipSpaces", "()Z"⟩, 3) := ⟨⟨by decide +kernel, by decide +kernel⟩, List.mem_of_getElem? (i := 25) (by decide +kernel), List.mem_of_getElem? (i := 267) (by decide +kernel), List.mem_of_getElem? (i := 268) (by decide +kernel)⟩
def lw_privs_1 : List (MethodName × Nat) := [(⟨"LabelLearner$Text", "append", "(JI)Z"⟩, 3), (⟨"LabelLearner$Text", "keep", "(I)Z"⟩, 3), (⟨"LabelLearner", "weightsOrTotals", "(Z)LLabelLearner$Weights;"⟩, 12), (⟨"LabelLearner$Decoder", "rank", "(LLabelLearner$Sentence;LLabelLearner$Weights;)LLabelLearner$Ranking;"⟩, 2), (⟨"LabelLearner$Decoder", "rankTails", "(LLabelLearner$Sentence;LLabelLearner$Weights;II)V"⟩, 2), (⟨"LabelLearner$Decoder", "tailsFrom", "(II)LLabelLearner$Ranking;"⟩, 2), (⟨"LabelLearner$Weights", "ofWord", "(LLabelLearner$Sentence;II)J"⟩, 1), (⟨"LabelLearner$Sentence", "bucketOf", "(II)I"⟩, 3), (⟨"LabelLearner$Weights", "at", "(II)J"⟩, 1), (⟨"LabelLearner$Ranking", "clear", "()V"⟩, 3), (⟨"LabelLearner$Ranking", "offer", "(JI)V"⟩, 3), (⟨"LabelLearner$Ranking", "offerLonger", "(LLabelLearner$Ranking;JI)V"⟩, 3), (⟨"LabelLearner$Text", "readCorpus", "(LLabelLearner$Corpus;)Z"⟩, 3), (⟨"LabelLearner$Text", "readSentence", "(LLabelLearner$Sentence;Z)Z"⟩, 3), (⟨"LabelLearner$Sentence", "clear", "()V"⟩, 3), (⟨"LabelLearner$Text", "skipSpaces", "()Z"⟩, 3)]
theorem lw_r1 : ∀ q ∈ lw_privs_1, lw_okq q := List.forall_mem_cons.mpr ⟨lw_p0, List.forall_mem_cons.mpr ⟨lw_p1, List.forall_mem_cons.mpr ⟨lw_p2, List.forall_mem_cons.mpr ⟨lw_p3, List.forall_mem_cons.mpr ⟨lw_p4, List.forall_mem_cons.mpr ⟨lw_p5, List.forall_mem_cons.mpr ⟨lw_p6, List.forall_mem_cons.mpr ⟨lw_p7, List.forall_mem_cons.mpr ⟨lw_p8, List.forall_mem_cons.mpr ⟨lw_p9, List.forall_mem_cons.mpr ⟨lw_p10, List.forall_mem_cons.mpr ⟨lw_p11, List.forall_mem_cons.mpr ⟨lw_p12, List.forall_mem_cons.mpr ⟨lw_p13, List.forall_mem_cons.mpr ⟨lw_p14, List.forall_mem_cons.mpr ⟨lw_p15, fun _ h => absurd h List.not_mem_nil⟩⟩⟩⟩⟩⟩⟩⟩⟩⟩⟩⟩⟩⟩⟩⟩
theorem lw_p16 : lw_okq (⟨"LabelLearner$Text", "current", "()I"⟩, 3) := ⟨⟨by decide +kernel, by decide +kernel⟩, List.mem_of_getElem? (i := 25) (by decide +kernel), List.mem_of_getElem? (i := 271) (by decide +kernel), List.mem_of_getElem? (i := 272) (by decide +kernel)⟩
theorem lw_p17 : lw_okq (⟨"LabelLearner$Text", "skipLetters", "()V"⟩, 3) := ⟨⟨by decide +kernel, by decide +kernel⟩, List.mem_of_getElem? (i := 25) (by decide +kernel), List.mem_of_getElem? (i := 278) (by decide +kernel), List.mem_of_getElem? (i := 279) (by decide +kernel)⟩
theorem lw_p18 : lw_okq (⟨"LabelLearner$Text", "setFeatures", "(LLabelLearner$Sentence;III)V"⟩, 3) := ⟨⟨by decide +kernel, by decide +kernel⟩, List.mem_of_getElem? (i := 25) (by decide +kernel), List.mem_of_getElem? (i := 282) (by decide +kernel), List.mem_of_getElem? (i := 283) (by decide +kernel)⟩
theorem lw_p19 : lw_okq (⟨"LabelLearner$Text", "hash", "(III)I"⟩, 3) := ⟨⟨by decide +kernel, by decide +kernel⟩, List.mem_of_getElem? (i := 25) (by decide +kernel), List.mem_of_getElem? (i := 289) (by decide +kernel), List.mem_of_getElem? (i := 290) (by decide +kernel)⟩
theorem lw_p20 : lw_okq (⟨"LabelLearner$Sentence", "setBucket", "(III)V"⟩, 3) := ⟨⟨by decide +kernel, by decide +kernel⟩, List.mem_of_getElem? (i := 93) (by decide +kernel), List.mem_of_getElem? (i := 299) (by decide +kernel), List.mem_of_getElem? (i := 300) (by decide +kernel)⟩
theorem lw_p21 : lw_okq (⟨"LabelLearner$Text", "readLabel", "(LLabelLearner$Sentence;)Z"⟩, 3) := ⟨⟨by decide +kernel, by decide +kernel⟩, List.mem_of_getElem? (i := 25) (by decide +kernel), List.mem_of_getElem? (i := 303) (by decide +kernel), List.mem_of_getElem? (i := 304) (by decide +kernel)⟩
theorem lw_p22 : lw_okq (⟨"LabelLearner$Text", "take", "(C)Z"⟩, 3) := ⟨⟨by decide +kernel, by decide +kernel⟩, List.mem_of_getElem? (i := 25) (by decide +kernel), List.mem_of_getElem? (i := 307) (by decide +kernel), List.mem_of_getElem? (i := 308) (by decide +kernel)⟩
theorem lw_p23 : lw_okq (⟨"java/lang/Throwable", "fillInStackTrace", "(I)Ljava/lang/Throwable;"⟩, 6) := ⟨⟨by decide +kernel, by decide +kernel⟩, List.mem_of_getElem? (i := 349) (by decide +kernel), List.mem_of_getElem? (i := 347) (by decide +kernel), List.mem_of_getElem? (i := 348) (by decide +kernel)⟩
theorem lw_p24 : lw_okq (⟨"LabelLearner$Weights", "clear", "()V"⟩, 1) := ⟨⟨by decide +kernel, by decide +kernel⟩, List.mem_of_getElem? (i := 76) (by decide +kernel), List.mem_of_getElem? (i := 379) (by decide +kernel), List.mem_of_getElem? (i := 380) (by decide +kernel)⟩
theorem lw_p25 : lw_okq (⟨"LabelLearner", "forgetDecoding", "()V"⟩, 12) := ⟨⟨by decide +kernel, by decide +kernel⟩, List.mem_of_getElem? (i := 17) (by decide +kernel), List.mem_of_getElem? (i := 383) (by decide +kernel), List.mem_of_getElem? (i := 384) (by decide +kernel)⟩
theorem lw_p26 : lw_okq (⟨"LabelLearner$Text", "readSpeech", "(LLabelLearner$Sentence;)Z"⟩, 3) := ⟨⟨by decide +kernel, by decide +kernel⟩, List.mem_of_getElem? (i := 25) (by decide +kernel), List.mem_of_getElem? (i := 394) (by decide +kernel), List.mem_of_getElem? (i := 395) (by decide +kernel)⟩
theorem lw_p27 : lw_okq (⟨"LabelLearner", "sentenceNumbered", "(I)LLabelLearner$Sentence;"⟩, 12) := ⟨⟨by decide +kernel, by decide +kernel⟩, List.mem_of_getElem? (i := 17) (by decide +kernel), List.mem_of_getElem? (i := 407) (by decide +kernel), List.mem_of_getElem? (i := 408) (by decide +kernel)⟩
theorem lw_p28 : lw_okq (⟨"LabelLearner", "learnCorpus", "()I"⟩, 12) := ⟨⟨by decide +kernel, by decide +kernel⟩, List.mem_of_getElem? (i := 17) (by decide +kernel), List.mem_of_getElem? (i := 473) (by decide +kernel), List.mem_of_getElem? (i := 474) (by decide +kernel)⟩
theorem lw_p29 : lw_okq (⟨"LabelLearner", "learnSentence", "(LLabelLearner$Sentence;)Z"⟩, 12) := ⟨⟨by decide +kernel, by decide +kernel⟩, List.mem_of_getElem? (i := 17) (by decide +kernel), List.mem_of_getElem? (i := 477) (by decide +kernel), List.mem_of_getElem? (i := 478) (by decide +kernel)⟩
theorem lw_p30 : lw_okq (⟨"LabelLearner$Weights", "change", "(LLabelLearner$Sentence;IJ)V"⟩, 1) := ⟨⟨by decide +kernel, by decide +kernel⟩, List.mem_of_getElem? (i := 76) (by decide +kernel), List.mem_of_getElem? (i := 481) (by decide +kernel), List.mem_of_getElem? (i := 482) (by decide +kernel)⟩
theorem lw_p31 : lw_okq (⟨"LabelLearner$Weights", "add", "(IIJ)V"⟩, 1) := ⟨⟨by decide +kernel, by decide +kernel⟩, List.mem_of_getElem? (i := 76) (by decide +kernel), List.mem_of_getElem? (i := 486) (by decide +kernel), List.mem_of_getElem? (i := 487) (by decide +kernel)⟩
def lw_privs_2 : List (MethodName × Nat) := [(⟨"LabelLearner$Text", "current", "()I"⟩, 3), (⟨"LabelLearner$Text", "skipLetters", "()V"⟩, 3), (⟨"LabelLearner$Text", "setFeatures", "(LLabelLearner$Sentence;III)V"⟩, 3), (⟨"LabelLearner$Text", "hash", "(III)I"⟩, 3), (⟨"LabelLearner$Sentence", "setBucket", "(III)V"⟩, 3), (⟨"LabelLearner$Text", "readLabel", "(LLabelLearner$Sentence;)Z"⟩, 3), (⟨"LabelLearner$Text", "take", "(C)Z"⟩, 3), (⟨"java/lang/Throwable", "fillInStackTrace", "(I)Ljava/lang/Throwable;"⟩, 6), (⟨"LabelLearner$Weights", "clear", "()V"⟩, 1), (⟨"LabelLearner", "forgetDecoding", "()V"⟩, 12), (⟨"LabelLearner$Text", "readSpeech", "(LLabelLearner$Sentence;)Z"⟩, 3), (⟨"LabelLearner", "sentenceNumbered", "(I)LLabelLearner$Sentence;"⟩, 12), (⟨"LabelLearner", "learnCorpus", "()I"⟩, 12), (⟨"LabelLearner", "learnSentence", "(LLabelLearner$Sentence;)Z"⟩, 12), (⟨"LabelLearner$Weights", "change", "(LLabelLearner$Sentence;IJ)V"⟩, 1), (⟨"LabelLearner$Weights", "add", "(IIJ)V"⟩, 1)]
theorem lw_r2 : ∀ q ∈ lw_privs_2, lw_okq q := List.forall_mem_cons.mpr ⟨lw_p16, List.forall_mem_cons.mpr ⟨lw_p17, List.forall_mem_cons.mpr ⟨lw_p18, List.forall_mem_cons.mpr ⟨lw_p19, List.forall_mem_cons.mpr ⟨lw_p20, List.forall_mem_cons.mpr ⟨lw_p21, List.forall_mem_cons.mpr ⟨lw_p22, List.forall_mem_cons.mpr ⟨lw_p23, List.forall_mem_cons.mpr ⟨lw_p24, List.forall_mem_cons.mpr ⟨lw_p25, List.forall_mem_cons.mpr ⟨lw_p26, List.forall_mem_cons.mpr ⟨lw_p27, List.forall_mem_cons.mpr ⟨lw_p28, List.forall_mem_cons.mpr ⟨lw_p29, List.forall_mem_cons.mpr ⟨lw_p30, List.forall_mem_cons.mpr ⟨lw_p31, fun _ h => absurd h List.not_mem_nil⟩⟩⟩⟩⟩⟩⟩⟩⟩⟩⟩⟩⟩⟩⟩⟩
theorem lw_p32 : lw_okq (⟨"LabelLearner$Weights", "addAll", "(LLabelLearner$Weights;)V"⟩, 1) := ⟨⟨by decide +kernel, by decide +kernel⟩, List.mem_of_getElem? (i := 76) (by decide +kernel), List.mem_of_getElem? (i := 491) (by decide +kernel), List.mem_of_getElem? (i := 492) (by decide +kernel)⟩
theorem lw_p33 : lw_okq (⟨"LabelLearner$Weights", "sum", "(LLabelLearner$Sentence;I)J"⟩, 1) := ⟨⟨by decide +kernel, by decide +kernel⟩, List.mem_of_getElem? (i := 76) (by decide +kernel), List.mem_of_getElem? (i := 525) (by decide +kernel), List.mem_of_getElem? (i := 526) (by decide +kernel)⟩
theorem lw_p34 : lw_okq (⟨"LabelLearnerModel", "readSentence", "(IIZ)I"⟩, 24) := ⟨⟨by decide +kernel, by decide +kernel⟩, List.mem_of_getElem? (i := 530) (by decide +kernel), List.mem_of_getElem? (i := 629) (by decide +kernel), List.mem_of_getElem? (i := 630) (by decide +kernel)⟩
theorem lw_p35 : lw_okq (⟨"LabelLearnerModel", "skip", "(I)I"⟩, 24) := ⟨⟨by decide +kernel, by decide +kernel⟩, List.mem_of_getElem? (i := 530) (by decide +kernel), List.mem_of_getElem? (i := 633) (by decide +kernel), List.mem_of_getElem? (i := 634) (by decide +kernel)⟩
theorem lw_p36 : lw_okq (⟨"LabelLearnerModel", "is", "(II)Z"⟩, 24) := ⟨⟨by decide +kernel, by decide +kernel⟩, List.mem_of_getElem? (i := 530) (by decide +kernel), List.mem_of_getElem? (i := 637) (by decide +kernel), List.mem_of_getElem? (i := 638) (by decide +kernel)⟩
theorem lw_p37 : lw_okq (⟨"LabelLearnerModel", "isLetter", "(I)Z"⟩, 24) := ⟨⟨by decide +kernel, by decide +kernel⟩, List.mem_of_getElem? (i := 530) (by decide +kernel), List.mem_of_getElem? (i := 641) (by decide +kernel), List.mem_of_getElem? (i := 642) (by decide +kernel)⟩
theorem lw_p38 : lw_okq (⟨"LabelLearnerModel", "hash", "(III)I"⟩, 24) := ⟨⟨by decide +kernel, by decide +kernel⟩, List.mem_of_getElem? (i := 530) (by decide +kernel), List.mem_of_getElem? (i := 645) (by decide +kernel), List.mem_of_getElem? (i := 646) (by decide +kernel)⟩
theorem lw_p39 : lw_okq (⟨"LabelLearnerModel", "take", "(I)V"⟩, 24) := ⟨⟨by decide +kernel, by decide +kernel⟩, List.mem_of_getElem? (i := 530) (by decide +kernel), List.mem_of_getElem? (i := 652) (by decide +kernel), List.mem_of_getElem? (i := 653) (by decide +kernel)⟩
theorem lw_p40 : lw_okq (⟨"LabelLearnerModel", "place", "(I)I"⟩, 24) := ⟨⟨by decide +kernel, by decide +kernel⟩, List.mem_of_getElem? (i := 530) (by decide +kernel), List.mem_of_getElem? (i := 668) (by decide +kernel), List.mem_of_getElem? (i := 669) (by decide +kernel)⟩
theorem lw_p41 : lw_okq (⟨"LabelLearnerModel", "wordsOf", "(I)I"⟩, 24) := ⟨⟨by decide +kernel, by decide +kernel⟩, List.mem_of_getElem? (i := 530) (by decide +kernel), List.mem_of_getElem? (i := 672) (by decide +kernel), List.mem_of_getElem? (i := 673) (by decide +kernel)⟩
theorem lw_p42 : lw_okq (⟨"LabelLearnerModel", "onePass", "()I"⟩, 24) := ⟨⟨by decide +kernel, by decide +kernel⟩, List.mem_of_getElem? (i := 530) (by decide +kernel), List.mem_of_getElem? (i := 688) (by decide +kernel), List.mem_of_getElem? (i := 689) (by decide +kernel)⟩
theorem lw_p43 : lw_okq (⟨"LabelLearnerModel", "search", "(I[J)V"⟩, 24) := ⟨⟨by decide +kernel, by decide +kernel⟩, List.mem_of_getElem? (i := 530) (by decide +kernel), List.mem_of_getElem? (i := 692) (by decide +kernel), List.mem_of_getElem? (i := 693) (by decide +kernel)⟩
theorem lw_p44 : lw_okq (⟨"LabelLearnerModel", "prepare", "(I[J)V"⟩, 24) := ⟨⟨by decide +kernel, by decide +kernel⟩, List.mem_of_getElem? (i := 530) (by decide +kernel), List.mem_of_getElem? (i := 696) (by decide +kernel), List.mem_of_getElem? (i := 697) (by decide +kernel)⟩
theorem lw_p45 : lw_okq (⟨"LabelLearnerModel", "sumFrom", "(II[J)V"⟩, 24) := ⟨⟨by decide +kernel, by decide +kernel⟩, List.mem_of_getElem? (i := 530) (by decide +kernel), List.mem_of_getElem? (i := 703) (by decide +kernel), List.mem_of_getElem? (i := 704) (by decide +kernel)⟩
theorem lw_p46 : lw_okq (⟨"LabelLearnerModel", "packed", "(I)I"⟩, 24) := ⟨⟨by decide +kernel, by decide +kernel⟩, List.mem_of_getElem? (i := 530) (by decide +kernel), List.mem_of_getElem? (i := 707) (by decide +kernel), List.mem_of_getElem? (i := 708) (by decide +kernel)⟩
theorem lw_p47 : lw_okq (⟨"LabelLearnerModel", "givenRow", "(I)I"⟩, 24) := ⟨⟨by decide +kernel, by decide +kernel⟩, List.mem_of_getElem? (i := 530) (by decide +kernel), List.mem_of_getElem? (i := 711) (by decide +kernel), List.mem_of_getElem? (i := 712) (by decide +kernel)⟩
def lw_privs_3 : List (MethodName × Nat) := [(⟨"LabelLearner$Weights", "addAll", "(LLabelLearner$Weights;)V"⟩, 1), (⟨"LabelLearner$Weights", "sum", "(LLabelLearner$Sentence;I)J"⟩, 1), (⟨"LabelLearnerModel", "readSentence", "(IIZ)I"⟩, 24), (⟨"LabelLearnerModel", "skip", "(I)I"⟩, 24), (⟨"LabelLearnerModel", "is", "(II)Z"⟩, 24), (⟨"LabelLearnerModel", "isLetter", "(I)Z"⟩, 24), (⟨"LabelLearnerModel", "hash", "(III)I"⟩, 24), (⟨"LabelLearnerModel", "take", "(I)V"⟩, 24), (⟨"LabelLearnerModel", "place", "(I)I"⟩, 24), (⟨"LabelLearnerModel", "wordsOf", "(I)I"⟩, 24), (⟨"LabelLearnerModel", "onePass", "()I"⟩, 24), (⟨"LabelLearnerModel", "search", "(I[J)V"⟩, 24), (⟨"LabelLearnerModel", "prepare", "(I[J)V"⟩, 24), (⟨"LabelLearnerModel", "sumFrom", "(II[J)V"⟩, 24), (⟨"LabelLearnerModel", "packed", "(I)I"⟩, 24), (⟨"LabelLearnerModel", "givenRow", "(I)I"⟩, 24)]
theorem lw_r3 : ∀ q ∈ lw_privs_3, lw_okq q := List.forall_mem_cons.mpr ⟨lw_p32, List.forall_mem_cons.mpr ⟨lw_p33, List.forall_mem_cons.mpr ⟨lw_p34, List.forall_mem_cons.mpr ⟨lw_p35, List.forall_mem_cons.mpr ⟨lw_p36, List.forall_mem_cons.mpr ⟨lw_p37, List.forall_mem_cons.mpr ⟨lw_p38, List.forall_mem_cons.mpr ⟨lw_p39, List.forall_mem_cons.mpr ⟨lw_p40, List.forall_mem_cons.mpr ⟨lw_p41, List.forall_mem_cons.mpr ⟨lw_p42, List.forall_mem_cons.mpr ⟨lw_p43, List.forall_mem_cons.mpr ⟨lw_p44, List.forall_mem_cons.mpr ⟨lw_p45, List.forall_mem_cons.mpr ⟨lw_p46, List.forall_mem_cons.mpr ⟨lw_p47, fun _ h => absurd h List.not_mem_nil⟩⟩⟩⟩⟩⟩⟩⟩⟩⟩⟩⟩⟩⟩⟩⟩
theorem lw_p48 : lw_okq (⟨"LabelLearnerModel", "mend", "(III)V"⟩, 24) := ⟨⟨by decide +kernel, by decide +kernel⟩, List.mem_of_getElem? (i := 530) (by decide +kernel), List.mem_of_getElem? (i := 715) (by decide +kernel), List.mem_of_getElem? (i := 716) (by decide +kernel)⟩
theorem lw_p49 : lw_okq (⟨"LabelLearnerModel", "searchBy", "(IZ)V"⟩, 24) := ⟨⟨by decide +kernel, by decide +kernel⟩, List.mem_of_getElem? (i := 530) (by decide +kernel), List.mem_of_getElem? (i := 735) (by decide +kernel), List.mem_of_getElem? (i := 736) (by decide +kernel)⟩
def lw_privs_4 : List (MethodName × Nat) := [(⟨"LabelLearnerModel", "mend", "(III)V"⟩, 24), (⟨"LabelLearnerModel", "searchBy", "(IZ)V"⟩, 24)]
theorem lw_r4 : ∀ q ∈ lw_privs_4, lw_okq q := List.forall_mem_cons.mpr ⟨lw_p48, List.forall_mem_cons.mpr ⟨lw_p49, fun _ h => absurd h List.not_mem_nil⟩⟩
def lw_privs : List (MethodName × Nat) := lw_privs_1 ++ (lw_privs_2 ++ (lw_privs_3 ++ (lw_privs_4)))
def lw_tbl : List Cond := k2_sels lw_privs ++ tables_1
theorem lw_privs_ok : ∀ q ∈ lw_privs, lw_okq q := by
  show ∀ q ∈ lw_privs_1 ++ (lw_privs_2 ++ (lw_privs_3 ++ (lw_privs_4))), lw_okq q
  exact List.forall_mem_append.mpr ⟨lw_r1, List.forall_mem_append.mpr ⟨lw_r2, List.forall_mem_append.mpr ⟨lw_r3, lw_r4⟩⟩⟩
-- ===== end of PART A; then your names; then what follows =====
end
section
def nR_LL : String := "LabelLearner"
def nF_LL : u_T := fun k => match k with
  | 0 => ("LabelLearner", "text", "LLabelLearner$Text;", true)
  | 1 => ("LabelLearner", "decoder", "LLabelLearner$Decoder;", true)
  | 2 => ("LabelLearner", "weights", "LLabelLearner$Weights;", true)
  | 3 => ("LabelLearner", "totals", "LLabelLearner$Weights;", true)
  | 4 => ("LabelLearner", "corpus", "LLabelLearner$Corpus;", false)
  | 5 => ("LabelLearner", "corpusDraft", "LLabelLearner$Corpus;", false)
  | 6 => ("LabelLearner", "speech", "LLabelLearner$Sentence;", false)
  | 7 => ("LabelLearner", "speechDraft", "LLabelLearner$Sentence;", false)
  | 8 => ("LabelLearner", "mistakeCount", "I", false)
  | 9 => ("LabelLearner", "passCount", "I", false)
  | 10 => ("LabelLearner", "keptWords", "I", false)
  | _ => ("LabelLearner", "keptLabelling", "I", false)
def nT_LL : Nat → FieldType := fun k => match k with
  | 0 => .object "LabelLearner$Text"
  | 1 => .object "LabelLearner$Decoder"
  | 2 => .object "LabelLearner$Weights"
  | 3 => .object "LabelLearner$Weights"
  | 4 => .object "LabelLearner$Corpus"
  | 5 => .object "LabelLearner$Corpus"
  | 6 => .object "LabelLearner$Sentence"
  | 7 => .object "LabelLearner$Sentence"
  | 8 => .int
  | 9 => .int
  | 10 => .int
  | _ => .int
theorem nN_LL : ∀ a, a < 12 → ∀ b, b < 12 → a ≠ b → (nF_LL a).2.1 ≠ (nF_LL b).2.1 := by decide +kernel
theorem nO_LL : ∀ k, k < 12 → parseFieldDescriptor (nF_LL k).2.2.1 = some (nT_LL k) := by decide +kernel
def nR_Mo : String := "LabelLearnerModel"
def nF_Mo : u_T := fun k => match k with
  | 0 => ("LabelLearnerModel", "thrown", "I", false)
  | 1 => ("LabelLearnerModel", "size", "I", false)
  | 2 => ("LabelLearnerModel", "text", "[I", true)
  | 3 => ("LabelLearnerModel", "sentences", "I", false)
  | 4 => ("LabelLearnerModel", "many", "[I", true)
  | 5 => ("LabelLearnerModel", "buckets", "[I", true)
  | 6 => ("LabelLearnerModel", "labels", "[I", true)
  | 7 => ("LabelLearnerModel", "readSentences", "I", false)
  | 8 => ("LabelLearnerModel", "readMany", "[I", true)
  | 9 => ("LabelLearnerModel", "readBuckets", "[I", true)
  | 10 => ("LabelLearnerModel", "readLabels", "[I", true)
  | 11 => ("LabelLearnerModel", "weights", "[J", true)
  | 12 => ("LabelLearnerModel", "totals", "[J", true)
  | 13 => ("LabelLearnerModel", "mistakes", "I", false)
  | 14 => ("LabelLearnerModel", "passes", "I", false)
  | 15 => ("LabelLearnerModel", "scores", "[J", true)
  | 16 => ("LabelLearnerModel", "now", "[I", true)
  | 17 => ("LabelLearnerModel", "sums", "[J", true)
  | 18 => ("LabelLearnerModel", "bestScore", "J", false)
  | 19 => ("LabelLearnerModel", "secondScore", "J", false)
  | 20 => ("LabelLearnerModel", "best", "I", false)
  | 21 => ("LabelLearnerModel", "second", "I", false)
  | 22 => ("LabelLearnerModel", "kept", "I", false)
  | _ => ("LabelLearnerModel", "keptWords", "I", false)
def nT_Mo : Nat → FieldType := fun k => match k with
  | 0 => .int
  | 1 => .int
  | 2 => .array .int
  | 3 => .int
  | 4 => .array .int
  | 5 => .array .int
  | 6 => .array .int
  | 7 => .int
  | 8 => .array .int
  | 9 => .array .int
  | 10 => .array .int
  | 11 => .array .long
  | 12 => .array .long
  | 13 => .int
  | 14 => .int
  | 15 => .array .long
  | 16 => .array .int
  | 17 => .array .long
  | 18 => .long
  | 19 => .long
  | 20 => .int
  | 21 => .int
  | 22 => .int
  | _ => .int
theorem nN_Mo : ∀ a, a < 24 → ∀ b, b < 24 → a ≠ b → (nF_Mo a).2.1 ≠ (nF_Mo b).2.1 := by decide +kernel
theorem nO_Mo : ∀ k, k < 24 → parseFieldDescriptor (nF_Mo k).2.2.1 = some (nT_Mo k) := by decide +kernel
def nR_Co : String := "LabelLearner$Corpus"
def nF_Co : u_T := fun k => match k with
  | 0 => ("LabelLearner$Corpus", "members", "[LLabelLearner$Sentence;", true)
  | _ => ("LabelLearner$Corpus", "size", "I", false)
def nT_Co : Nat → FieldType := fun k => match k with
  | 0 => .array (.object "LabelLearner$Sentence")
  | _ => .int
theorem nN_Co : ∀ a, a < 2 → ∀ b, b < 2 → a ≠ b → (nF_Co a).2.1 ≠ (nF_Co b).2.1 := by decide +kernel
theorem nO_Co : ∀ k, k < 2 → parseFieldDescriptor (nF_Co k).2.2.1 = some (nT_Co k) := by decide +kernel
def nR_De : String := "LabelLearner$Decoder"
def nF_De : u_T := fun k => match k with
  | 0 => ("LabelLearner$Decoder", "tails", "[LLabelLearner$Ranking;", true)
  | _ => ("LabelLearner$Decoder", "whole", "LLabelLearner$Ranking;", true)
def nT_De : Nat → FieldType := fun k => match k with
  | 0 => .array (.object "LabelLearner$Ranking")
  | _ => .object "LabelLearner$Ranking"
theorem nN_De : ∀ a, a < 2 → ∀ b, b < 2 → a ≠ b → (nF_De a).2.1 ≠ (nF_De b).2.1 := by decide +kernel
theorem nO_De : ∀ k, k < 2 → parseFieldDescriptor (nF_De k).2.2.1 = some (nT_De k) := by decide +kernel
def nR_Ra : String := "LabelLearner$Ranking"
def nF_Ra : u_T := fun k => match k with
  | 0 => ("LabelLearner$Ranking", "scores", "[J", true)
  | 1 => ("LabelLearner$Ranking", "labellings", "[I", true)
  | _ => ("LabelLearner$Ranking", "size", "I", false)
def nT_Ra : Nat → FieldType := fun k => match k with
  | 0 => .array .long
  | 1 => .array .int
  | _ => .int
theorem nN_Ra : ∀ a, a < 3 → ∀ b, b < 3 → a ≠ b → (nF_Ra a).2.1 ≠ (nF_Ra b).2.1 := by decide +kernel
theorem nO_Ra : ∀ k, k < 3 → parseFieldDescriptor (nF_Ra k).2.2.1 = some (nT_Ra k) := by decide +kernel
def nR_Se : String := "LabelLearner$Sentence"
def nF_Se : u_T := fun k => match k with
  | 0 => ("LabelLearner$Sentence", "buckets", "[I", true)
  | 1 => ("LabelLearner$Sentence", "labelling", "I", false)
  | _ => ("LabelLearner$Sentence", "size", "I", false)
def nT_Se : Nat → FieldType := fun k => match k with
  | 0 => .array .int
  | 1 => .int
  | _ => .int
theorem nN_Se : ∀ a, a < 3 → ∀ b, b < 3 → a ≠ b → (nF_Se a).2.1 ≠ (nF_Se b).2.1 := by decide +kernel
theorem nO_Se : ∀ k, k < 3 → parseFieldDescriptor (nF_Se k).2.2.1 = some (nT_Se k) := by decide +kernel
def nR_Te : String := "LabelLearner$Text"
def nF_Te : u_T := fun k => match k with
  | 0 => ("LabelLearner$Text", "characters", "[C", true)
  | 1 => ("LabelLearner$Text", "length", "I", false)
  | _ => ("LabelLearner$Text", "at", "I", false)
def nT_Te : Nat → FieldType := fun k => match k with
  | 0 => .array .char
  | 1 => .int
  | _ => .int
theorem nN_Te : ∀ a, a < 3 → ∀ b, b < 3 → a ≠ b → (nF_Te a).2.1 ≠ (nF_Te b).2.1 := by decide +kernel
theorem nO_Te : ∀ k, k < 3 → parseFieldDescriptor (nF_Te k).2.2.1 = some (nT_Te k) := by decide +kernel
def nR_We : String := "LabelLearner$Weights"
def nF_We : u_T := fun k => match k with
  | _ => ("LabelLearner$Weights", "values", "[J", true)
def nT_We : Nat → FieldType := fun k => match k with
  | _ => .array .long
theorem nN_We : ∀ a, a < 1 → ∀ b, b < 1 → a ≠ b → (nF_We a).2.1 ≠ (nF_We b).2.1 := by decide +kernel
theorem nO_We : ∀ k, k < 1 → parseFieldDescriptor (nF_We k).2.2.1 = some (nT_We k) := by decide +kernel
def nR_La : String := "LabelLearnerLaw"
abbrev nv_cl : List vw_C := [(nR_LL, nF_LL, 12), (nR_Mo, nF_Mo, 24), (nR_Co, nF_Co, 2), (nR_De, nF_De, 2), (nR_Ra, nF_Ra, 3), (nR_Se, nF_Se, 3), (nR_Te, nF_Te, 3), (nR_We, nF_We, 1)]
abbrev nc_LL_init : ByteArray := prog_1_method_1_code
def ny_LL_init : MethodName := ⟨"LabelLearner", "<init>", "()V"⟩
abbrev nc_LL_type : ByteArray := prog_1_method_2_code
def ny_LL_type : MethodName := ⟨"LabelLearner", "type", "(JI)Z"⟩
abbrev nc_LL_cut : ByteArray := prog_1_method_3_code
def ny_LL_cut : MethodName := ⟨"LabelLearner", "cut", "(I)Z"⟩
abbrev nc_LL_load : ByteArray := prog_1_method_4_code
def ny_LL_load : MethodName := ⟨"LabelLearner", "load", "()I"⟩
abbrev nc_LL_speak : ByteArray := prog_1_method_5_code
def ny_LL_speak : MethodName := ⟨"LabelLearner", "speak", "()I"⟩
abbrev nc_LL_sentences : ByteArray := prog_1_method_6_code
def ny_LL_sentences : MethodName := ⟨"LabelLearner", "sentences", "()I"⟩
abbrev nc_LL_words : ByteArray := prog_1_method_7_code
def ny_LL_words : MethodName := ⟨"LabelLearner", "words", "(I)I"⟩
abbrev nc_LL_given : ByteArray := prog_1_method_8_code
def ny_LL_given : MethodName := ⟨"LabelLearner", "given", "(II)I"⟩
abbrev nc_LL_feature : ByteArray := prog_1_method_9_code
def ny_LL_feature : MethodName := ⟨"LabelLearner", "feature", "(III)I"⟩
abbrev nc_LL_learn : ByteArray := prog_1_method_10_code
def ny_LL_learn : MethodName := ⟨"LabelLearner", "learn", "(I)I"⟩
abbrev nc_LL_mistakes : ByteArray := prog_1_method_11_code
def ny_LL_mistakes : MethodName := ⟨"LabelLearner", "mistakes", "()I"⟩
abbrev nc_LL_passes : ByteArray := prog_1_method_12_code
def ny_LL_passes : MethodName := ⟨"LabelLearner", "passes", "()I"⟩
abbrev nc_LL_weight : ByteArray := prog_1_method_13_code
def ny_LL_weight : MethodName := ⟨"LabelLearner", "weight", "(IIZ)J"⟩
abbrev nc_LL_decode : ByteArray := prog_1_method_14_code
def ny_LL_decode : MethodName := ⟨"LabelLearner", "decode", "(IZZ)J"⟩
abbrev nc_LL_label : ByteArray := prog_1_method_15_code
def ny_LL_label : MethodName := ⟨"LabelLearner", "label", "(I)I"⟩
abbrev nc_LL_score : ByteArray := prog_1_method_16_code
def ny_LL_score : MethodName := ⟨"LabelLearner", "score", "(IIZ)J"⟩
abbrev nc_LL_errors : ByteArray := prog_1_method_17_code
def ny_LL_errors : MethodName := ⟨"LabelLearner", "errors", "(Z)I"⟩
abbrev nc_LL_sentenceNumbered : ByteArray := prog_1_method_18_code
def ny_LL_sentenceNumbered : MethodName := ⟨"LabelLearner", "sentenceNumbered", "(I)LLabelLearner$Sentence;"⟩
abbrev nc_LL_forgetDecoding : ByteArray := prog_1_method_19_code
def ny_LL_forgetDecoding : MethodName := ⟨"LabelLearner", "forgetDecoding", "()V"⟩
abbrev nc_LL_weightsOrTotals : ByteArray := prog_1_method_20_code
def ny_LL_weightsOrTotals : MethodName := ⟨"LabelLearner", "weightsOrTotals", "(Z)LLabelLearner$Weights;"⟩
abbrev nc_LL_learnCorpus : ByteArray := prog_1_method_21_code
def ny_LL_learnCorpus : MethodName := ⟨"LabelLearner", "learnCorpus", "()I"⟩
abbrev nc_LL_learnSentence : ByteArray := prog_1_method_22_code
def ny_LL_learnSentence : MethodName := ⟨"LabelLearner", "learnSentence", "(LLabelLearner$Sentence;)Z"⟩
abbrev nc_LL_requireWord : ByteArray := prog_1_method_23_code
def ny_LL_requireWord : MethodName := ⟨"LabelLearner", "requireWord", "(II)V"⟩
abbrev nc_LL_labelIn : ByteArray := prog_1_method_24_code
def ny_LL_labelIn : MethodName := ⟨"LabelLearner", "labelIn", "(II)I"⟩
abbrev nc_LL_differences : ByteArray := prog_1_method_25_code
def ny_LL_differences : MethodName := ⟨"LabelLearner", "differences", "(III)I"⟩
abbrev nc_Mo_init : ByteArray := prog_9_method_1_code
def ny_Mo_init : MethodName := ⟨"LabelLearnerModel", "<init>", "()V"⟩
abbrev nc_Mo_thrown : ByteArray := prog_9_method_2_code
def ny_Mo_thrown : MethodName := ⟨"LabelLearnerModel", "thrown", "()I"⟩
abbrev nc_Mo_letter : ByteArray := prog_9_method_4_code
def ny_Mo_letter : MethodName := ⟨"LabelLearnerModel", "letter", "(JI)I"⟩
abbrev nc_Mo_type : ByteArray := prog_9_method_5_code
def ny_Mo_type : MethodName := ⟨"LabelLearnerModel", "type", "(JI)Z"⟩
abbrev nc_Mo_cut : ByteArray := prog_9_method_6_code
def ny_Mo_cut : MethodName := ⟨"LabelLearnerModel", "cut", "(I)Z"⟩
abbrev nc_Mo_isLetter : ByteArray := prog_9_method_7_code
def ny_Mo_isLetter : MethodName := ⟨"LabelLearnerModel", "isLetter", "(I)Z"⟩
abbrev nc_Mo_is : ByteArray := prog_9_method_8_code
def ny_Mo_is : MethodName := ⟨"LabelLearnerModel", "is", "(II)Z"⟩
abbrev nc_Mo_skip : ByteArray := prog_9_method_9_code
def ny_Mo_skip : MethodName := ⟨"LabelLearnerModel", "skip", "(I)I"⟩
abbrev nc_Mo_bucketOf : ByteArray := prog_9_method_10_code
def ny_Mo_bucketOf : MethodName := ⟨"LabelLearnerModel", "bucketOf", "(I)I"⟩
abbrev nc_Mo_hash : ByteArray := prog_9_method_11_code
def ny_Mo_hash : MethodName := ⟨"LabelLearnerModel", "hash", "(III)I"⟩
abbrev nc_Mo_readSentence : ByteArray := prog_9_method_12_code
def ny_Mo_readSentence : MethodName := ⟨"LabelLearnerModel", "readSentence", "(IIZ)I"⟩
abbrev nc_Mo_take : ByteArray := prog_9_method_13_code
def ny_Mo_take : MethodName := ⟨"LabelLearnerModel", "take", "(I)V"⟩
abbrev nc_Mo_load : ByteArray := prog_9_method_14_code
def ny_Mo_load : MethodName := ⟨"LabelLearnerModel", "load", "()I"⟩
abbrev nc_Mo_speak : ByteArray := prog_9_method_15_code
def ny_Mo_speak : MethodName := ⟨"LabelLearnerModel", "speak", "()I"⟩
abbrev nc_Mo_sentences : ByteArray := prog_9_method_16_code
def ny_Mo_sentences : MethodName := ⟨"LabelLearnerModel", "sentences", "()I"⟩
abbrev nc_Mo_place : ByteArray := prog_9_method_17_code
def ny_Mo_place : MethodName := ⟨"LabelLearnerModel", "place", "(I)I"⟩
abbrev nc_Mo_wordsOf : ByteArray := prog_9_method_18_code
def ny_Mo_wordsOf : MethodName := ⟨"LabelLearnerModel", "wordsOf", "(I)I"⟩
abbrev nc_Mo_words : ByteArray := prog_9_method_19_code
def ny_Mo_words : MethodName := ⟨"LabelLearnerModel", "words", "(I)I"⟩
abbrev nc_Mo_given : ByteArray := prog_9_method_20_code
def ny_Mo_given : MethodName := ⟨"LabelLearnerModel", "given", "(II)I"⟩
abbrev nc_Mo_feature : ByteArray := prog_9_method_21_code
def ny_Mo_feature : MethodName := ⟨"LabelLearnerModel", "feature", "(III)I"⟩
abbrev nc_Mo_of : ByteArray := prog_9_method_22_code
def ny_Mo_of : MethodName := ⟨"LabelLearnerModel", "of", "([JII)J"⟩
abbrev nc_Mo_prepare : ByteArray := prog_9_method_23_code
def ny_Mo_prepare : MethodName := ⟨"LabelLearnerModel", "prepare", "(I[J)V"⟩
abbrev nc_Mo_packed : ByteArray := prog_9_method_24_code
def ny_Mo_packed : MethodName := ⟨"LabelLearnerModel", "packed", "(I)I"⟩
abbrev nc_Mo_sumFrom : ByteArray := prog_9_method_25_code
def ny_Mo_sumFrom : MethodName := ⟨"LabelLearnerModel", "sumFrom", "(II[J)V"⟩
abbrev nc_Mo_search : ByteArray := prog_9_method_26_code
def ny_Mo_search : MethodName := ⟨"LabelLearnerModel", "search", "(I[J)V"⟩
abbrev nc_Mo_mend : ByteArray := prog_9_method_27_code
def ny_Mo_mend : MethodName := ⟨"LabelLearnerModel", "mend", "(III)V"⟩
abbrev nc_Mo_givenRow : ByteArray := prog_9_method_28_code
def ny_Mo_givenRow : MethodName := ⟨"LabelLearnerModel", "givenRow", "(I)I"⟩
abbrev nc_Mo_onePass : ByteArray := prog_9_method_29_code
def ny_Mo_onePass : MethodName := ⟨"LabelLearnerModel", "onePass", "()I"⟩
abbrev nc_Mo_learn : ByteArray := prog_9_method_30_code
def ny_Mo_learn : MethodName := ⟨"LabelLearnerModel", "learn", "(I)I"⟩
abbrev nc_Mo_mistakes : ByteArray := prog_9_method_31_code
def ny_Mo_mistakes : MethodName := ⟨"LabelLearnerModel", "mistakes", "()I"⟩
abbrev nc_Mo_passes : ByteArray := prog_9_method_32_code
def ny_Mo_passes : MethodName := ⟨"LabelLearnerModel", "passes", "()I"⟩
abbrev nc_Mo_weight : ByteArray := prog_9_method_33_code
def ny_Mo_weight : MethodName := ⟨"LabelLearnerModel", "weight", "(IIZ)J"⟩
abbrev nc_Mo_searchBy : ByteArray := prog_9_method_34_code
def ny_Mo_searchBy : MethodName := ⟨"LabelLearnerModel", "searchBy", "(IZ)V"⟩
abbrev nc_Mo_decode : ByteArray := prog_9_method_35_code
def ny_Mo_decode : MethodName := ⟨"LabelLearnerModel", "decode", "(IZZ)J"⟩
abbrev nc_Mo_label : ByteArray := prog_9_method_36_code
def ny_Mo_label : MethodName := ⟨"LabelLearnerModel", "label", "(I)I"⟩
abbrev nc_Mo_score : ByteArray := prog_9_method_37_code
def ny_Mo_score : MethodName := ⟨"LabelLearnerModel", "score", "(IIZ)J"⟩
abbrev nc_Mo_errors : ByteArray := prog_9_method_38_code
def ny_Mo_errors : MethodName := ⟨"LabelLearnerModel", "errors", "(Z)I"⟩
abbrev nc_Co_init : ByteArray := prog_2_method_1_code
def ny_Co_init : MethodName := ⟨"LabelLearner$Corpus", "<init>", "()V"⟩
abbrev nc_De_init : ByteArray := prog_3_method_1_code
def ny_De_init : MethodName := ⟨"LabelLearner$Decoder", "<init>", "()V"⟩
abbrev nc_De_rank : ByteArray := prog_3_method_2_code
def ny_De_rank : MethodName := ⟨"LabelLearner$Decoder", "rank", "(LLabelLearner$Sentence;LLabelLearner$Weights;)LLabelLearner$Ranking;"⟩
abbrev nc_De_rankTails : ByteArray := prog_3_method_3_code
def ny_De_rankTails : MethodName := ⟨"LabelLearner$Decoder", "rankTails", "(LLabelLearner$Sentence;LLabelLearner$Weights;II)V"⟩
abbrev nc_De_tailsFrom : ByteArray := prog_3_method_4_code
def ny_De_tailsFrom : MethodName := ⟨"LabelLearner$Decoder", "tailsFrom", "(II)LLabelLearner$Ranking;"⟩
abbrev nc_Ra_init : ByteArray := prog_4_method_1_code
def ny_Ra_init : MethodName := ⟨"LabelLearner$Ranking", "<init>", "()V"⟩
abbrev nc_Ra_clear : ByteArray := prog_4_method_2_code
def ny_Ra_clear : MethodName := ⟨"LabelLearner$Ranking", "clear", "()V"⟩
abbrev nc_Ra_offer : ByteArray := prog_4_method_3_code
def ny_Ra_offer : MethodName := ⟨"LabelLearner$Ranking", "offer", "(JI)V"⟩
abbrev nc_Ra_offerLonger : ByteArray := prog_4_method_4_code
def ny_Ra_offerLonger : MethodName := ⟨"LabelLearner$Ranking", "offerLonger", "(LLabelLearner$Ranking;JI)V"⟩
abbrev nc_Se_init : ByteArray := prog_5_method_1_code
def ny_Se_init : MethodName := ⟨"LabelLearner$Sentence", "<init>", "()V"⟩
abbrev nc_Se_clear : ByteArray := prog_5_method_2_code
def ny_Se_clear : MethodName := ⟨"LabelLearner$Sentence", "clear", "()V"⟩
abbrev nc_Se_bucketOf : ByteArray := prog_5_method_3_code
def ny_Se_bucketOf : MethodName := ⟨"LabelLearner$Sentence", "bucketOf", "(II)I"⟩
abbrev nc_Se_setBucket : ByteArray := prog_5_method_4_code
def ny_Se_setBucket : MethodName := ⟨"LabelLearner$Sentence", "setBucket", "(III)V"⟩
abbrev nc_Te_init : ByteArray := prog_6_method_1_code
def ny_Te_init : MethodName := ⟨"LabelLearner$Text", "<init>", "()V"⟩
abbrev nc_Te_append : ByteArray := prog_6_method_2_code
def ny_Te_append : MethodName := ⟨"LabelLearner$Text", "append", "(JI)Z"⟩
abbrev nc_Te_keep : ByteArray := prog_6_method_3_code
def ny_Te_keep : MethodName := ⟨"LabelLearner$Text", "keep", "(I)Z"⟩
abbrev nc_Te_byteOf : ByteArray := prog_6_method_4_code
def ny_Te_byteOf : MethodName := ⟨"LabelLearner$Text", "byteOf", "(JI)I"⟩
abbrev nc_Te_readCorpus : ByteArray := prog_6_method_5_code
def ny_Te_readCorpus : MethodName := ⟨"LabelLearner$Text", "readCorpus", "(LLabelLearner$Corpus;)Z"⟩
abbrev nc_Te_readSpeech : ByteArray := prog_6_method_6_code
def ny_Te_readSpeech : MethodName := ⟨"LabelLearner$Text", "readSpeech", "(LLabelLearner$Sentence;)Z"⟩
abbrev nc_Te_readSentence : ByteArray := prog_6_method_7_code
def ny_Te_readSentence : MethodName := ⟨"LabelLearner$Text", "readSentence", "(LLabelLearner$Sentence;Z)Z"⟩
abbrev nc_Te_setFeatures : ByteArray := prog_6_method_8_code
def ny_Te_setFeatures : MethodName := ⟨"LabelLearner$Text", "setFeatures", "(LLabelLearner$Sentence;III)V"⟩
abbrev nc_Te_readLabel : ByteArray := prog_6_method_9_code
def ny_Te_readLabel : MethodName := ⟨"LabelLearner$Text", "readLabel", "(LLabelLearner$Sentence;)Z"⟩
abbrev nc_Te_take : ByteArray := prog_6_method_10_code
def ny_Te_take : MethodName := ⟨"LabelLearner$Text", "take", "(C)Z"⟩
abbrev nc_Te_skipSpaces : ByteArray := prog_6_method_11_code
def ny_Te_skipSpaces : MethodName := ⟨"LabelLearner$Text", "skipSpaces", "()Z"⟩
abbrev nc_Te_skipLetters : ByteArray := prog_6_method_12_code
def ny_Te_skipLetters : MethodName := ⟨"LabelLearner$Text", "skipLetters", "()V"⟩
abbrev nc_Te_current : ByteArray := prog_6_method_13_code
def ny_Te_current : MethodName := ⟨"LabelLearner$Text", "current", "()I"⟩
abbrev nc_Te_hash : ByteArray := prog_6_method_14_code
def ny_Te_hash : MethodName := ⟨"LabelLearner$Text", "hash", "(III)I"⟩
abbrev nc_Te_mix : ByteArray := prog_6_method_15_code
def ny_Te_mix : MethodName := ⟨"LabelLearner$Text", "mix", "(IC)I"⟩
abbrev nc_Te_bucket : ByteArray := prog_6_method_16_code
def ny_Te_bucket : MethodName := ⟨"LabelLearner$Text", "bucket", "(I)I"⟩
abbrev nc_Te_isLetter : ByteArray := prog_6_method_17_code
def ny_Te_isLetter : MethodName := ⟨"LabelLearner$Text", "isLetter", "(I)Z"⟩
abbrev nc_We_init : ByteArray := prog_7_method_1_code
def ny_We_init : MethodName := ⟨"LabelLearner$Weights", "<init>", "()V"⟩
abbrev nc_We_at : ByteArray := prog_7_method_2_code
def ny_We_at : MethodName := ⟨"LabelLearner$Weights", "at", "(II)J"⟩
abbrev nc_We_add : ByteArray := prog_7_method_3_code
def ny_We_add : MethodName := ⟨"LabelLearner$Weights", "add", "(IIJ)V"⟩
abbrev nc_We_clear : ByteArray := prog_7_method_4_code
def ny_We_clear : MethodName := ⟨"LabelLearner$Weights", "clear", "()V"⟩
abbrev nc_We_addAll : ByteArray := prog_7_method_5_code
def ny_We_addAll : MethodName := ⟨"LabelLearner$Weights", "addAll", "(LLabelLearner$Weights;)V"⟩
abbrev nc_We_ofWord : ByteArray := prog_7_method_6_code
def ny_We_ofWord : MethodName := ⟨"LabelLearner$Weights", "ofWord", "(LLabelLearner$Sentence;II)J"⟩
abbrev nc_We_sum : ByteArray := prog_7_method_7_code
def ny_We_sum : MethodName := ⟨"LabelLearner$Weights", "sum", "(LLabelLearner$Sentence;I)J"⟩
abbrev nc_We_change : ByteArray := prog_7_method_8_code
def ny_We_change : MethodName := ⟨"LabelLearner$Weights", "change", "(LLabelLearner$Sentence;IJ)V"⟩
abbrev nc_La_load : ByteArray := method_3_code
def ny_La_load : MethodName := ⟨"LabelLearnerLaw", "load", "(LLabelLearner;[J)I"⟩
abbrev nc_La_speak : ByteArray := method_4_code
def ny_La_speak : MethodName := ⟨"LabelLearnerLaw", "speak", "(LLabelLearner;[J)I"⟩
abbrev nc_La_words : ByteArray := method_5_code
def ny_La_words : MethodName := ⟨"LabelLearnerLaw", "words", "(LLabelLearner;I[J)I"⟩
abbrev nc_La_given : ByteArray := method_6_code
def ny_La_given : MethodName := ⟨"LabelLearnerLaw", "given", "(LLabelLearner;II[J)I"⟩
abbrev nc_La_feature : ByteArray := method_7_code
def ny_La_feature : MethodName := ⟨"LabelLearnerLaw", "feature", "(LLabelLearner;III[J)I"⟩
abbrev nc_La_learn : ByteArray := method_8_code
def ny_La_learn : MethodName := ⟨"LabelLearnerLaw", "learn", "(LLabelLearner;I[J)I"⟩
abbrev nc_La_weight : ByteArray := method_9_code
def ny_La_weight : MethodName := ⟨"LabelLearnerLaw", "weight", "(LLabelLearner;IIZ[J)I"⟩
abbrev nc_La_decode : ByteArray := method_10_code
def ny_La_decode : MethodName := ⟨"LabelLearnerLaw", "decode", "(LLabelLearner;IZZ[J)I"⟩
abbrev nc_La_label : ByteArray := method_11_code
def ny_La_label : MethodName := ⟨"LabelLearnerLaw", "label", "(LLabelLearner;I[J)I"⟩
abbrev nc_La_score : ByteArray := method_12_code
def ny_La_score : MethodName := ⟨"LabelLearnerLaw", "score", "(LLabelLearner;IIZ[J)I"⟩
abbrev nc_La_law : ByteArray := code
def ny_La_law : MethodName := ⟨"LabelLearnerLaw", "law", "([I)Z"⟩
end
section
theorem nd_LL_init_0 : decode nc_LL_init 0 = .ok (.aload_n 0, 1) := by decide +kernel
theorem nd_LL_init_1 : decode nc_LL_init 1 = .ok (.invokespecial 1, 3) := by decide +kernel
theorem nd_LL_init_4 : decode nc_LL_init 4 = .ok (.aload_n 0, 1) := by decide +kernel
theorem nd_LL_init_5 : decode nc_LL_init 5 = .ok (.new 7, 3) := by decide +kernel
theorem nd_LL_init_8 : decode nc_LL_init 8 = .ok (.dup, 1) := by decide +kernel
theorem nd_LL_init_9 : decode nc_LL_init 9 = .ok (.invokespecial 9, 3) := by decide +kernel
theorem nd_LL_init_12 : decode nc_LL_init 12 = .ok (.putfield 10, 3) := by decide +kernel
theorem nd_LL_init_15 : decode nc_LL_init 15 = .ok (.aload_n 0, 1) := by decide +kernel
theorem nd_LL_init_16 : decode nc_LL_init 16 = .ok (.new 16, 3) := by decide +kernel
theorem nd_LL_init_19 : decode nc_LL_init 19 = .ok (.dup, 1) := by decide +kernel
theorem nd_LL_init_20 : decode nc_LL_init 20 = .ok (.invokespecial 18, 3) := by decide +kernel
theorem nd_LL_init_23 : decode nc_LL_init 23 = .ok (.putfield 19, 3) := by decide +kernel
theorem nd_LL_init_26 : decode nc_LL_init 26 = .ok (.aload_n 0, 1) := by decide +kernel
theorem nd_LL_init_27 : decode nc_LL_init 27 = .ok (.new 23, 3) := by decide +kernel
theorem nd_LL_init_30 : decode nc_LL_init 30 = .ok (.dup, 1) := by decide +kernel
theorem nd_LL_init_31 : decode nc_LL_init 31 = .ok (.invokespecial 25, 3) := by decide +kernel
theorem nd_LL_init_34 : decode nc_LL_init 34 = .ok (.putfield 26, 3) := by decide +kernel
theorem nd_LL_init_37 : decode nc_LL_init 37 = .ok (.aload_n 0, 1) := by decide +kernel
theorem nd_LL_init_38 : decode nc_LL_init 38 = .ok (.new 23, 3) := by decide +kernel
theorem nd_LL_init_41 : decode nc_LL_init 41 = .ok (.dup, 1) := by decide +kernel
theorem nd_LL_init_42 : decode nc_LL_init 42 = .ok (.invokespecial 25, 3) := by decide +kernel
theorem nd_LL_init_45 : decode nc_LL_init 45 = .ok (.putfield 30, 3) := by decide +kernel
theorem nd_LL_init_48 : decode nc_LL_init 48 = .ok (.aload_n 0, 1) := by decide +kernel
theorem nd_LL_init_49 : decode nc_LL_init 49 = .ok (.new 33, 3) := by decide +kernel
theorem nd_LL_init_52 : decode nc_LL_init 52 = .ok (.dup, 1) := by decide +kernel
theorem nd_LL_init_53 : decode nc_LL_init 53 = .ok (.invokespecial 35, 3) := by decide +kernel
theorem nd_LL_init_56 : decode nc_LL_init 56 = .ok (.putfield 36, 3) := by decide +kernel
theorem nd_LL_init_59 : decode nc_LL_init 59 = .ok (.aload_n 0, 1) := by decide +kernel
theorem nd_LL_init_60 : decode nc_LL_init 60 = .ok (.new 33, 3) := by decide +kernel
theorem nd_LL_init_63 : decode nc_LL_init 63 = .ok (.dup, 1) := by decide +kernel
theorem nd_LL_init_64 : decode nc_LL_init 64 = .ok (.invokespecial 35, 3) := by decide +kernel
theorem nd_LL_init_67 : decode nc_LL_init 67 = .ok (.putfield 40, 3) := by decide +kernel
theorem nd_LL_init_70 : decode nc_LL_init 70 = .ok (.aload_n 0, 1) := by decide +kernel
theorem nd_LL_init_71 : decode nc_LL_init 71 = .ok (.new 43, 3) := by decide +kernel
theorem nd_LL_init_74 : decode nc_LL_init 74 = .ok (.dup, 1) := by decide +kernel
theorem nd_LL_init_75 : decode nc_LL_init 75 = .ok (.invokespecial 45, 3) := by decide +kernel
theorem nd_LL_init_78 : decode nc_LL_init 78 = .ok (.putfield 46, 3) := by decide +kernel
theorem nd_LL_init_81 : decode nc_LL_init 81 = .ok (.aload_n 0, 1) := by decide +kernel
theorem nd_LL_init_82 : decode nc_LL_init 82 = .ok (.new 43, 3) := by decide +kernel
theorem nd_LL_init_85 : decode nc_LL_init 85 = .ok (.dup, 1) := by decide +kernel
theorem nd_LL_init_86 : decode nc_LL_init 86 = .ok (.invokespecial 45, 3) := by decide +kernel
theorem nd_LL_init_89 : decode nc_LL_init 89 = .ok (.putfield 50, 3) := by decide +kernel
theorem nd_LL_init_92 : decode nc_LL_init 92 = .ok (.return_, 1) := by decide +kernel
theorem nd_LL_type_0 : decode nc_LL_type 0 = .ok (.aload_n 0, 1) := by decide +kernel
theorem nd_LL_type_1 : decode nc_LL_type 1 = .ok (.getfield 10, 3) := by decide +kernel
theorem nd_LL_type_4 : decode nc_LL_type 4 = .ok (.lload_n 1, 1) := by decide +kernel
theorem nd_LL_type_5 : decode nc_LL_type 5 = .ok (.iload_n 3, 1) := by decide +kernel
theorem nd_LL_type_6 : decode nc_LL_type 6 = .ok (.invokevirtual 53, 3) := by decide +kernel
theorem nd_LL_type_9 : decode nc_LL_type 9 = .ok (.ireturn, 1) := by decide +kernel
theorem nd_LL_cut_0 : decode nc_LL_cut 0 = .ok (.aload_n 0, 1) := by decide +kernel
theorem nd_LL_cut_1 : decode nc_LL_cut 1 = .ok (.getfield 10, 3) := by decide +kernel
theorem nd_LL_cut_4 : decode nc_LL_cut 4 = .ok (.iload_n 1, 1) := by decide +kernel
theorem nd_LL_cut_5 : decode nc_LL_cut 5 = .ok (.invokevirtual 57, 3) := by decide +kernel
theorem nd_LL_cut_8 : decode nc_LL_cut 8 = .ok (.ireturn, 1) := by decide +kernel
theorem nd_LL_load_0 : decode nc_LL_load 0 = .ok (.aload_n 0, 1) := by decide +kernel
theorem nd_LL_load_1 : decode nc_LL_load 1 = .ok (.getfield 10, 3) := by decide +kernel
theorem nd_LL_load_4 : decode nc_LL_load 4 = .ok (.aload_n 0, 1) := by decide +kernel
theorem nd_LL_load_5 : decode nc_LL_load 5 = .ok (.getfield 40, 3) := by decide +kernel
theorem nd_LL_load_8 : decode nc_LL_load 8 = .ok (.invokevirtual 61, 3) := by decide +kernel
theorem nd_LL_load_11 : decode nc_LL_load 11 = .ok (.ifCond .ne 13, 3) := by decide +kernel
theorem nd_LL_load_14 : decode nc_LL_load 14 = .ok (.new 65, 3) := by decide +kernel
theorem nd_LL_load_17 : decode nc_LL_load 17 = .ok (.dup, 1) := by decide +kernel
theorem nd_LL_load_18 : decode nc_LL_load 18 = .ok (.ldc 67, 2) := by decide +kernel
theorem nd_LL_load_20 : decode nc_LL_load 20 = .ok (.invokespecial 69, 3) := by decide +kernel
theorem nd_LL_load_23 : decode nc_LL_load 23 = .ok (.athrow, 1) := by decide +kernel
theorem nd_LL_load_24 : decode nc_LL_load 24 = .ok (.aload_n 0, 1) := by decide +kernel
theorem nd_LL_load_25 : decode nc_LL_load 25 = .ok (.getfield 36, 3) := by decide +kernel
theorem nd_LL_load_28 : decode nc_LL_load 28 = .ok (.astore_n 1, 1) := by decide +kernel
theorem nd_LL_load_29 : decode nc_LL_load 29 = .ok (.aload_n 0, 1) := by decide +kernel
theorem nd_LL_load_30 : decode nc_LL_load 30 = .ok (.aload_n 0, 1) := by decide +kernel
theorem nd_LL_load_31 : decode nc_LL_load 31 = .ok (.getfield 40, 3) := by decide +kernel
theorem nd_LL_load_34 : decode nc_LL_load 34 = .ok (.putfield 36, 3) := by decide +kernel
theorem nd_LL_load_37 : decode nc_LL_load 37 = .ok (.aload_n 0, 1) := by decide +kernel
theorem nd_LL_load_38 : decode nc_LL_load 38 = .ok (.aload_n 1, 1) := by decide +kernel
theorem nd_LL_load_39 : decode nc_LL_load 39 = .ok (.putfield 40, 3) := by decide +kernel
theorem nd_LL_load_42 : decode nc_LL_load 42 = .ok (.aload_n 0, 1) := by decide +kernel
theorem nd_LL_load_43 : decode nc_LL_load 43 = .ok (.getfield 10, 3) := by decide +kernel
theorem nd_LL_load_46 : decode nc_LL_load 46 = .ok (.iconst 0, 1) := by decide +kernel
theorem nd_LL_load_47 : decode nc_LL_load 47 = .ok (.invokevirtual 57, 3) := by decide +kernel
theorem nd_LL_load_50 : decode nc_LL_load 50 = .ok (.pop, 1) := by decide +kernel
theorem nd_LL_load_51 : decode nc_LL_load 51 = .ok (.aload_n 0, 1) := by decide +kernel
theorem nd_LL_load_52 : decode nc_LL_load 52 = .ok (.getfield 26, 3) := by decide +kernel
theorem nd_LL_load_55 : decode nc_LL_load 55 = .ok (.invokevirtual 72, 3) := by decide +kernel
theorem nd_LL_load_58 : decode nc_LL_load 58 = .ok (.aload_n 0, 1) := by decide +kernel
theorem nd_LL_load_59 : decode nc_LL_load 59 = .ok (.getfield 30, 3) := by decide +kernel
theorem nd_LL_load_62 : decode nc_LL_load 62 = .ok (.invokevirtual 72, 3) := by decide +kernel
theorem nd_LL_load_65 : decode nc_LL_load 65 = .ok (.aload_n 0, 1) := by decide +kernel
theorem nd_LL_load_66 : decode nc_LL_load 66 = .ok (.iconst 0, 1) := by decide +kernel
theorem nd_LL_load_67 : decode nc_LL_load 67 = .ok (.putfield 75, 3) := by decide +kernel
theorem nd_LL_load_70 : decode nc_LL_load 70 = .ok (.aload_n 0, 1) := by decide +kernel
theorem nd_LL_load_71 : decode nc_LL_load 71 = .ok (.iconst 0, 1) := by decide +kernel
theorem nd_LL_load_72 : decode nc_LL_load 72 = .ok (.putfield 79, 3) := by decide +kernel
theorem nd_LL_load_75 : decode nc_LL_load 75 = .ok (.aload_n 0, 1) := by decide +kernel
theorem nd_LL_load_76 : decode nc_LL_load 76 = .ok (.invokevirtual 82, 3) := by decide +kernel
theorem nd_LL_load_79 : decode nc_LL_load 79 = .ok (.aload_n 0, 1) := by decide +kernel
theorem nd_LL_load_80 : decode nc_LL_load 80 = .ok (.getfield 36, 3) := by decide +kernel
theorem nd_LL_load_83 : decode nc_LL_load 83 = .ok (.getfield 85, 3) := by decide +kernel
theorem nd_LL_load_86 : decode nc_LL_load 86 = .ok (.ireturn, 1) := by decide +kernel
theorem nd_LL_speak_0 : decode nc_LL_speak 0 = .ok (.aload_n 0, 1) := by decide +kernel
theorem nd_LL_speak_1 : decode nc_LL_speak 1 = .ok (.getfield 10, 3) := by decide +kernel
theorem nd_LL_speak_4 : decode nc_LL_speak 4 = .ok (.aload_n 0, 1) := by decide +kernel
theorem nd_LL_speak_5 : decode nc_LL_speak 5 = .ok (.getfield 50, 3) := by decide +kernel
theorem nd_LL_speak_8 : decode nc_LL_speak 8 = .ok (.invokevirtual 88, 3) := by decide +kernel
theorem nd_LL_speak_11 : decode nc_LL_speak 11 = .ok (.ifCond .ne 13, 3) := by decide +kernel
theorem nd_LL_speak_14 : decode nc_LL_speak 14 = .ok (.new 65, 3) := by decide +kernel
theorem nd_LL_speak_17 : decode nc_LL_speak 17 = .ok (.dup, 1) := by decide +kernel
theorem nd_LL_speak_18 : decode nc_LL_speak 18 = .ok (.ldc 92, 2) := by decide +kernel
theorem nd_LL_speak_20 : decode nc_LL_speak 20 = .ok (.invokespecial 69, 3) := by decide +kernel
theorem nd_LL_speak_23 : decode nc_LL_speak 23 = .ok (.athrow, 1) := by decide +kernel
theorem nd_LL_speak_24 : decode nc_LL_speak 24 = .ok (.aload_n 0, 1) := by decide +kernel
theorem nd_LL_speak_25 : decode nc_LL_speak 25 = .ok (.getfield 46, 3) := by decide +kernel
theorem nd_LL_speak_28 : decode nc_LL_speak 28 = .ok (.astore_n 1, 1) := by decide +kernel
theorem nd_LL_speak_29 : decode nc_LL_speak 29 = .ok (.aload_n 0, 1) := by decide +kernel
theorem nd_LL_speak_30 : decode nc_LL_speak 30 = .ok (.aload_n 0, 1) := by decide +kernel
theorem nd_LL_speak_31 : decode nc_LL_speak 31 = .ok (.getfield 50, 3) := by decide +kernel
theorem nd_LL_speak_34 : decode nc_LL_speak 34 = .ok (.putfield 46, 3) := by decide +kernel
theorem nd_LL_speak_37 : decode nc_LL_speak 37 = .ok (.aload_n 0, 1) := by decide +kernel
theorem nd_LL_speak_38 : decode nc_LL_speak 38 = .ok (.aload_n 1, 1) := by decide +kernel
theorem nd_LL_speak_39 : decode nc_LL_speak 39 = .ok (.putfield 50, 3) := by decide +kernel
theorem nd_LL_speak_42 : decode nc_LL_speak 42 = .ok (.aload_n 0, 1) := by decide +kernel
theorem nd_LL_speak_43 : decode nc_LL_speak 43 = .ok (.getfield 10, 3) := by decide +kernel
theorem nd_LL_speak_46 : decode nc_LL_speak 46 = .ok (.iconst 0, 1) := by decide +kernel
theorem nd_LL_speak_47 : decode nc_LL_speak 47 = .ok (.invokevirtual 57, 3) := by decide +kernel
theorem nd_LL_speak_50 : decode nc_LL_speak 50 = .ok (.pop, 1) := by decide +kernel
theorem nd_LL_speak_51 : decode nc_LL_speak 51 = .ok (.aload_n 0, 1) := by decide +kernel
theorem nd_LL_speak_52 : decode nc_LL_speak 52 = .ok (.invokevirtual 82, 3) := by decide +kernel
theorem nd_LL_speak_55 : decode nc_LL_speak 55 = .ok (.aload_n 0, 1) := by decide +kernel
theorem nd_LL_speak_56 : decode nc_LL_speak 56 = .ok (.getfield 46, 3) := by decide +kernel
theorem nd_LL_speak_59 : decode nc_LL_speak 59 = .ok (.getfield 94, 3) := by decide +kernel
theorem nd_LL_speak_62 : decode nc_LL_speak 62 = .ok (.ireturn, 1) := by decide +kernel
theorem nd_LL_sentences_0 : decode nc_LL_sentences 0 = .ok (.aload_n 0, 1) := by decide +kernel
theorem nd_LL_sentences_1 : decode nc_LL_sentences 1 = .ok (.getfield 36, 3) := by decide +kernel
theorem nd_LL_sentences_4 : decode nc_LL_sentences 4 = .ok (.getfield 85, 3) := by decide +kernel
theorem nd_LL_sentences_7 : decode nc_LL_sentences 7 = .ok (.ireturn, 1) := by decide +kernel
theorem nd_LL_words_0 : decode nc_LL_words 0 = .ok (.aload_n 0, 1) := by decide +kernel
theorem nd_LL_words_1 : decode nc_LL_words 1 = .ok (.iload_n 1, 1) := by decide +kernel
theorem nd_LL_words_2 : decode nc_LL_words 2 = .ok (.invokevirtual 95, 3) := by decide +kernel
theorem nd_LL_words_5 : decode nc_LL_words 5 = .ok (.getfield 94, 3) := by decide +kernel
theorem nd_LL_words_8 : decode nc_LL_words 8 = .ok (.ireturn, 1) := by decide +kernel
theorem nd_LL_given_0 : decode nc_LL_given 0 = .ok (.iload_n 1, 1) := by decide +kernel
theorem nd_LL_given_1 : decode nc_LL_given 1 = .ok (.iconst (-1), 1) := by decide +kernel
theorem nd_LL_given_2 : decode nc_LL_given 2 = .ok (.if_icmp .ne 13, 3) := by decide +kernel
theorem nd_LL_given_5 : decode nc_LL_given 5 = .ok (.new 99, 3) := by decide +kernel
theorem nd_LL_given_8 : decode nc_LL_given 8 = .ok (.dup, 1) := by decide +kernel
theorem nd_LL_given_9 : decode nc_LL_given 9 = .ok (.ldc 101, 2) := by decide +kernel
theorem nd_LL_given_11 : decode nc_LL_given 11 = .ok (.invokespecial 103, 3) := by decide +kernel
theorem nd_LL_given_14 : decode nc_LL_given 14 = .ok (.athrow, 1) := by decide +kernel
theorem nd_LL_given_15 : decode nc_LL_given 15 = .ok (.aload_n 0, 1) := by decide +kernel
theorem nd_LL_given_16 : decode nc_LL_given 16 = .ok (.iload_n 1, 1) := by decide +kernel
theorem nd_LL_given_17 : decode nc_LL_given 17 = .ok (.invokevirtual 95, 3) := by decide +kernel
theorem nd_LL_given_20 : decode nc_LL_given 20 = .ok (.astore_n 3, 1) := by decide +kernel
theorem nd_LL_given_21 : decode nc_LL_given 21 = .ok (.iload_n 2, 1) := by decide +kernel
theorem nd_LL_given_22 : decode nc_LL_given 22 = .ok (.aload_n 3, 1) := by decide +kernel
theorem nd_LL_given_23 : decode nc_LL_given 23 = .ok (.getfield 94, 3) := by decide +kernel
theorem nd_LL_given_26 : decode nc_LL_given 26 = .ok (.invokestatic 104, 3) := by decide +kernel
theorem nd_LL_given_29 : decode nc_LL_given 29 = .ok (.aload_n 3, 1) := by decide +kernel
theorem nd_LL_given_30 : decode nc_LL_given 30 = .ok (.getfield 108, 3) := by decide +kernel
theorem nd_LL_given_33 : decode nc_LL_given 33 = .ok (.iload_n 2, 1) := by decide +kernel
theorem nd_LL_given_34 : decode nc_LL_given 34 = .ok (.invokestatic 111, 3) := by decide +kernel
theorem nd_LL_given_37 : decode nc_LL_given 37 = .ok (.ireturn, 1) := by decide +kernel
theorem nd_LL_feature_0 : decode nc_LL_feature 0 = .ok (.aload_n 0, 1) := by decide +kernel
theorem nd_LL_feature_1 : decode nc_LL_feature 1 = .ok (.iload_n 1, 1) := by decide +kernel
theorem nd_LL_feature_2 : decode nc_LL_feature 2 = .ok (.invokevirtual 95, 3) := by decide +kernel
theorem nd_LL_feature_5 : decode nc_LL_feature 5 = .ok (.astore 4, 2) := by decide +kernel
theorem nd_LL_feature_7 : decode nc_LL_feature 7 = .ok (.iload_n 2, 1) := by decide +kernel
theorem nd_LL_feature_8 : decode nc_LL_feature 8 = .ok (.aload 4, 2) := by decide +kernel
theorem nd_LL_feature_10 : decode nc_LL_feature 10 = .ok (.getfield 94, 3) := by decide +kernel
theorem nd_LL_feature_13 : decode nc_LL_feature 13 = .ok (.invokestatic 104, 3) := by decide +kernel
theorem nd_LL_feature_16 : decode nc_LL_feature 16 = .ok (.iload_n 3, 1) := by decide +kernel
theorem nd_LL_feature_17 : decode nc_LL_feature 17 = .ok (.ifCond .lt 8, 3) := by decide +kernel
theorem nd_LL_feature_20 : decode nc_LL_feature 20 = .ok (.iload_n 3, 1) := by decide +kernel
theorem nd_LL_feature_21 : decode nc_LL_feature 21 = .ok (.iconst 3, 1) := by decide +kernel
theorem nd_LL_feature_22 : decode nc_LL_feature 22 = .ok (.if_icmp .lt 13, 3) := by decide +kernel
theorem nd_LL_feature_25 : decode nc_LL_feature 25 = .ok (.new 99, 3) := by decide +kernel
theorem nd_LL_feature_28 : decode nc_LL_feature 28 = .ok (.dup, 1) := by decide +kernel
theorem nd_LL_feature_29 : decode nc_LL_feature 29 = .ok (.ldc 115, 2) := by decide +kernel
theorem nd_LL_feature_31 : decode nc_LL_feature 31 = .ok (.invokespecial 103, 3) := by decide +kernel
theorem nd_LL_feature_34 : decode nc_LL_feature 34 = .ok (.athrow, 1) := by decide +kernel
theorem nd_LL_feature_35 : decode nc_LL_feature 35 = .ok (.aload 4, 2) := by decide +kernel
theorem nd_LL_feature_37 : decode nc_LL_feature 37 = .ok (.iload_n 2, 1) := by decide +kernel
theorem nd_LL_feature_38 : decode nc_LL_feature 38 = .ok (.iload_n 3, 1) := by decide +kernel
theorem nd_LL_feature_39 : decode nc_LL_feature 39 = .ok (.invokevirtual 117, 3) := by decide +kernel
theorem nd_LL_feature_42 : decode nc_LL_feature 42 = .ok (.ireturn, 1) := by decide +kernel
theorem nd_LL_learn_0 : decode nc_LL_learn 0 = .ok (.iload_n 1, 1) := by decide +kernel
theorem nd_LL_learn_1 : decode nc_LL_learn 1 = .ok (.iconst 1, 1) := by decide +kernel
theorem nd_LL_learn_2 : decode nc_LL_learn 2 = .ok (.if_icmp .lt 9, 3) := by decide +kernel
theorem nd_LL_learn_5 : decode nc_LL_learn 5 = .ok (.iload_n 1, 1) := by decide +kernel
theorem nd_LL_learn_6 : decode nc_LL_learn 6 = .ok (.bipush 6, 2) := by decide +kernel
theorem nd_LL_learn_8 : decode nc_LL_learn 8 = .ok (.if_icmp .le 13, 3) := by decide +kernel
theorem nd_LL_learn_11 : decode nc_LL_learn 11 = .ok (.new 65, 3) := by decide +kernel
theorem nd_LL_learn_14 : decode nc_LL_learn 14 = .ok (.dup, 1) := by decide +kernel
theorem nd_LL_learn_15 : decode nc_LL_learn 15 = .ok (.ldc 120, 2) := by decide +kernel
theorem nd_LL_learn_17 : decode nc_LL_learn 17 = .ok (.invokespecial 69, 3) := by decide +kernel
theorem nd_LL_learn_20 : decode nc_LL_learn 20 = .ok (.athrow, 1) := by decide +kernel
theorem nd_LL_learn_21 : decode nc_LL_learn 21 = .ok (.aload_n 0, 1) := by decide +kernel
theorem nd_LL_learn_22 : decode nc_LL_learn 22 = .ok (.getfield 36, 3) := by decide +kernel
theorem nd_LL_learn_25 : decode nc_LL_learn 25 = .ok (.getfield 85, 3) := by decide +kernel
theorem nd_LL_learn_28 : decode nc_LL_learn 28 = .ok (.ifCond .ne 13, 3) := by decide +kernel
theorem nd_LL_learn_31 : decode nc_LL_learn 31 = .ok (.new 122, 3) := by decide +kernel
theorem nd_LL_learn_34 : decode nc_LL_learn 34 = .ok (.dup, 1) := by decide +kernel
theorem nd_LL_learn_35 : decode nc_LL_learn 35 = .ok (.ldc 124, 2) := by decide +kernel
theorem nd_LL_learn_37 : decode nc_LL_learn 37 = .ok (.invokespecial 126, 3) := by decide +kernel
theorem nd_LL_learn_40 : decode nc_LL_learn 40 = .ok (.athrow, 1) := by decide +kernel
theorem nd_LL_learn_41 : decode nc_LL_learn 41 = .ok (.aload_n 0, 1) := by decide +kernel
theorem nd_LL_learn_42 : decode nc_LL_learn 42 = .ok (.invokevirtual 127, 3) := by decide +kernel
theorem nd_LL_learn_45 : decode nc_LL_learn 45 = .ok (.istore_n 2, 1) := by decide +kernel
theorem nd_LL_learn_46 : decode nc_LL_learn 46 = .ok (.iconst 1, 1) := by decide +kernel
theorem nd_LL_learn_47 : decode nc_LL_learn 47 = .ok (.istore_n 3, 1) := by decide +kernel
theorem nd_LL_learn_48 : decode nc_LL_learn 48 = .ok (.iload_n 3, 1) := by decide +kernel
theorem nd_LL_learn_49 : decode nc_LL_learn 49 = .ok (.iload_n 1, 1) := by decide +kernel
theorem nd_LL_learn_50 : decode nc_LL_learn 50 = .ok (.if_icmp .ge 18, 3) := by decide +kernel
theorem nd_LL_learn_53 : decode nc_LL_learn 53 = .ok (.iload_n 2, 1) := by decide +kernel
theorem nd_LL_learn_54 : decode nc_LL_learn 54 = .ok (.ifCond .le 14, 3) := by decide +kernel
theorem nd_LL_learn_57 : decode nc_LL_learn 57 = .ok (.aload_n 0, 1) := by decide +kernel
theorem nd_LL_learn_58 : decode nc_LL_learn 58 = .ok (.invokevirtual 127, 3) := by decide +kernel
theorem nd_LL_learn_61 : decode nc_LL_learn 61 = .ok (.istore_n 2, 1) := by decide +kernel
theorem nd_LL_learn_62 : decode nc_LL_learn 62 = .ok (.iinc 3 1, 3) := by decide +kernel
theorem nd_LL_learn_65 : decode nc_LL_learn 65 = .ok (.goto (-17), 3) := by decide +kernel
theorem nd_LL_learn_68 : decode nc_LL_learn 68 = .ok (.iload_n 2, 1) := by decide +kernel
theorem nd_LL_learn_69 : decode nc_LL_learn 69 = .ok (.ireturn, 1) := by decide +kernel
theorem nd_LL_mistakes_0 : decode nc_LL_mistakes 0 = .ok (.aload_n 0, 1) := by decide +kernel
theorem nd_LL_mistakes_1 : decode nc_LL_mistakes 1 = .ok (.getfield 75, 3) := by decide +kernel
theorem nd_LL_mistakes_4 : decode nc_LL_mistakes 4 = .ok (.ireturn, 1) := by decide +kernel
theorem nd_LL_passes_0 : decode nc_LL_passes 0 = .ok (.aload_n 0, 1) := by decide +kernel
theorem nd_LL_passes_1 : decode nc_LL_passes 1 = .ok (.getfield 79, 3) := by decide +kernel
theorem nd_LL_passes_4 : decode nc_LL_passes 4 = .ok (.ireturn, 1) := by decide +kernel
theorem nd_LL_weight_0 : decode nc_LL_weight 0 = .ok (.iload_n 1, 1) := by decide +kernel
theorem nd_LL_weight_1 : decode nc_LL_weight 1 = .ok (.ifCond .lt 18, 3) := by decide +kernel
theorem nd_LL_weight_4 : decode nc_LL_weight 4 = .ok (.iload_n 1, 1) := by decide +kernel
theorem nd_LL_weight_5 : decode nc_LL_weight 5 = .ok (.bipush 37, 2) := by decide +kernel
theorem nd_LL_weight_7 : decode nc_LL_weight 7 = .ok (.if_icmp .ge 12, 3) := by decide +kernel
theorem nd_LL_weight_10 : decode nc_LL_weight 10 = .ok (.iload_n 2, 1) := by decide +kernel
theorem nd_LL_weight_11 : decode nc_LL_weight 11 = .ok (.ifCond .lt 8, 3) := by decide +kernel
theorem nd_LL_weight_14 : decode nc_LL_weight 14 = .ok (.iload_n 2, 1) := by decide +kernel
theorem nd_LL_weight_15 : decode nc_LL_weight 15 = .ok (.iconst 4, 1) := by decide +kernel
theorem nd_LL_weight_16 : decode nc_LL_weight 16 = .ok (.if_icmp .lt 13, 3) := by decide +kernel
theorem nd_LL_weight_19 : decode nc_LL_weight 19 = .ok (.new 99, 3) := by decide +kernel
theorem nd_LL_weight_22 : decode nc_LL_weight 22 = .ok (.dup, 1) := by decide +kernel
theorem nd_LL_weight_23 : decode nc_LL_weight 23 = .ok (.ldc 131, 2) := by decide +kernel
theorem nd_LL_weight_25 : decode nc_LL_weight 25 = .ok (.invokespecial 103, 3) := by decide +kernel
theorem nd_LL_weight_28 : decode nc_LL_weight 28 = .ok (.athrow, 1) := by decide +kernel
theorem nd_LL_weight_29 : decode nc_LL_weight 29 = .ok (.aload_n 0, 1) := by decide +kernel
theorem nd_LL_weight_30 : decode nc_LL_weight 30 = .ok (.iload_n 3, 1) := by decide +kernel
theorem nd_LL_weight_31 : decode nc_LL_weight 31 = .ok (.invokevirtual 133, 3) := by decide +kernel
theorem nd_LL_weight_34 : decode nc_LL_weight 34 = .ok (.iload_n 1, 1) := by decide +kernel
theorem nd_LL_weight_35 : decode nc_LL_weight 35 = .ok (.iload_n 2, 1) := by decide +kernel
theorem nd_LL_weight_36 : decode nc_LL_weight 36 = .ok (.invokevirtual 137, 3) := by decide +kernel
theorem nd_LL_weight_39 : decode nc_LL_weight 39 = .ok (.lreturn, 1) := by decide +kernel
theorem nd_LL_decode_0 : decode nc_LL_decode 0 = .ok (.aload_n 0, 1) := by decide +kernel
theorem nd_LL_decode_1 : decode nc_LL_decode 1 = .ok (.iload_n 1, 1) := by decide +kernel
theorem nd_LL_decode_2 : decode nc_LL_decode 2 = .ok (.invokevirtual 95, 3) := by decide +kernel
theorem nd_LL_decode_5 : decode nc_LL_decode 5 = .ok (.astore 4, 2) := by decide +kernel
theorem nd_LL_decode_7 : decode nc_LL_decode 7 = .ok (.aload_n 0, 1) := by decide +kernel
theorem nd_LL_decode_8 : decode nc_LL_decode 8 = .ok (.getfield 19, 3) := by decide +kernel
theorem nd_LL_decode_11 : decode nc_LL_decode 11 = .ok (.aload 4, 2) := by decide +kernel
theorem nd_LL_decode_13 : decode nc_LL_decode 13 = .ok (.aload_n 0, 1) := by decide +kernel
theorem nd_LL_decode_14 : decode nc_LL_decode 14 = .ok (.iload_n 2, 1) := by decide +kernel
theorem nd_LL_decode_15 : decode nc_LL_decode 15 = .ok (.invokevirtual 133, 3) := by decide +kernel
theorem nd_LL_decode_18 : decode nc_LL_decode 18 = .ok (.invokevirtual 141, 3) := by decide +kernel
theorem nd_LL_decode_21 : decode nc_LL_decode 21 = .ok (.astore 5, 2) := by decide +kernel
theorem nd_LL_decode_23 : decode nc_LL_decode 23 = .ok (.iload_n 3, 1) := by decide +kernel
theorem nd_LL_decode_24 : decode nc_LL_decode 24 = .ok (.ifCond .eq 7, 3) := by decide +kernel
theorem nd_LL_decode_27 : decode nc_LL_decode 27 = .ok (.iconst 1, 1) := by decide +kernel
theorem nd_LL_decode_28 : decode nc_LL_decode 28 = .ok (.goto 4, 3) := by decide +kernel
theorem nd_LL_decode_31 : decode nc_LL_decode 31 = .ok (.iconst 0, 1) := by decide +kernel
theorem nd_LL_decode_32 : decode nc_LL_decode 32 = .ok (.istore 6, 2) := by decide +kernel
theorem nd_LL_decode_34 : decode nc_LL_decode 34 = .ok (.aload_n 0, 1) := by decide +kernel
theorem nd_LL_decode_35 : decode nc_LL_decode 35 = .ok (.aload 4, 2) := by decide +kernel
theorem nd_LL_decode_37 : decode nc_LL_decode 37 = .ok (.getfield 94, 3) := by decide +kernel
theorem nd_LL_decode_40 : decode nc_LL_decode 40 = .ok (.putfield 145, 3) := by decide +kernel
theorem nd_LL_decode_43 : decode nc_LL_decode 43 = .ok (.aload_n 0, 1) := by decide +kernel
theorem nd_LL_decode_44 : decode nc_LL_decode 44 = .ok (.aload 5, 2) := by decide +kernel
theorem nd_LL_decode_46 : decode nc_LL_decode 46 = .ok (.getfield 148, 3) := by decide +kernel
theorem nd_LL_decode_49 : decode nc_LL_decode 49 = .ok (.iload 6, 2) := by decide +kernel
theorem nd_LL_decode_51 : decode nc_LL_decode 51 = .ok (.iaload, 1) := by decide +kernel
theorem nd_LL_decode_52 : decode nc_LL_decode 52 = .ok (.putfield 154, 3) := by decide +kernel
theorem nd_LL_decode_55 : decode nc_LL_decode 55 = .ok (.aload 5, 2) := by decide +kernel
theorem nd_LL_decode_57 : decode nc_LL_decode 57 = .ok (.getfield 157, 3) := by decide +kernel
theorem nd_LL_decode_60 : decode nc_LL_decode 60 = .ok (.iload 6, 2) := by decide +kernel
theorem nd_LL_decode_62 : decode nc_LL_decode 62 = .ok (.laload, 1) := by decide +kernel
theorem nd_LL_decode_63 : decode nc_LL_decode 63 = .ok (.lreturn, 1) := by decide +kernel
theorem nd_LL_label_0 : decode nc_LL_label 0 = .ok (.iload_n 1, 1) := by decide +kernel
theorem nd_LL_label_1 : decode nc_LL_label 1 = .ok (.aload_n 0, 1) := by decide +kernel
theorem nd_LL_label_2 : decode nc_LL_label 2 = .ok (.getfield 145, 3) := by decide +kernel
theorem nd_LL_label_5 : decode nc_LL_label 5 = .ok (.invokestatic 104, 3) := by decide +kernel
theorem nd_LL_label_8 : decode nc_LL_label 8 = .ok (.aload_n 0, 1) := by decide +kernel
theorem nd_LL_label_9 : decode nc_LL_label 9 = .ok (.getfield 154, 3) := by decide +kernel
theorem nd_LL_label_12 : decode nc_LL_label 12 = .ok (.iload_n 1, 1) := by decide +kernel
theorem nd_LL_label_13 : decode nc_LL_label 13 = .ok (.invokestatic 111, 3) := by decide +kernel
theorem nd_LL_label_16 : decode nc_LL_label 16 = .ok (.ireturn, 1) := by decide +kernel
theorem nd_LL_score_0 : decode nc_LL_score 0 = .ok (.aload_n 0, 1) := by decide +kernel
theorem nd_LL_score_1 : decode nc_LL_score 1 = .ok (.iload_n 3, 1) := by decide +kernel
theorem nd_LL_score_2 : decode nc_LL_score 2 = .ok (.invokevirtual 133, 3) := by decide +kernel
theorem nd_LL_score_5 : decode nc_LL_score 5 = .ok (.aload_n 0, 1) := by decide +kernel
theorem nd_LL_score_6 : decode nc_LL_score 6 = .ok (.iload_n 1, 1) := by decide +kernel
theorem nd_LL_score_7 : decode nc_LL_score 7 = .ok (.invokevirtual 95, 3) := by decide +kernel
theorem nd_LL_score_10 : decode nc_LL_score 10 = .ok (.iload_n 2, 1) := by decide +kernel
theorem nd_LL_score_11 : decode nc_LL_score 11 = .ok (.invokevirtual 161, 3) := by decide +kernel
theorem nd_LL_score_14 : decode nc_LL_score 14 = .ok (.lreturn, 1) := by decide +kernel
theorem nd_LL_errors_0 : decode nc_LL_errors 0 = .ok (.iconst 0, 1) := by decide +kernel
theorem nd_LL_errors_1 : decode nc_LL_errors 1 = .ok (.istore_n 2, 1) := by decide +kernel
theorem nd_LL_errors_2 : decode nc_LL_errors 2 = .ok (.iconst 0, 1) := by decide +kernel
theorem nd_LL_errors_3 : decode nc_LL_errors 3 = .ok (.istore_n 3, 1) := by decide +kernel
theorem nd_LL_errors_4 : decode nc_LL_errors 4 = .ok (.iload_n 3, 1) := by decide +kernel
theorem nd_LL_errors_5 : decode nc_LL_errors 5 = .ok (.aload_n 0, 1) := by decide +kernel
theorem nd_LL_errors_6 : decode nc_LL_errors 6 = .ok (.getfield 36, 3) := by decide +kernel
theorem nd_LL_errors_9 : decode nc_LL_errors 9 = .ok (.getfield 85, 3) := by decide +kernel
theorem nd_LL_errors_12 : decode nc_LL_errors 12 = .ok (.if_icmp .ge 59, 3) := by decide +kernel
theorem nd_LL_errors_15 : decode nc_LL_errors 15 = .ok (.aload_n 0, 1) := by decide +kernel
theorem nd_LL_errors_16 : decode nc_LL_errors 16 = .ok (.getfield 36, 3) := by decide +kernel
theorem nd_LL_errors_19 : decode nc_LL_errors 19 = .ok (.getfield 165, 3) := by decide +kernel
theorem nd_LL_errors_22 : decode nc_LL_errors 22 = .ok (.iload_n 3, 1) := by decide +kernel
theorem nd_LL_errors_23 : decode nc_LL_errors 23 = .ok (.aaload, 1) := by decide +kernel
theorem nd_LL_errors_24 : decode nc_LL_errors 24 = .ok (.astore 4, 2) := by decide +kernel
theorem nd_LL_errors_26 : decode nc_LL_errors 26 = .ok (.aload_n 0, 1) := by decide +kernel
theorem nd_LL_errors_27 : decode nc_LL_errors 27 = .ok (.getfield 19, 3) := by decide +kernel
theorem nd_LL_errors_30 : decode nc_LL_errors 30 = .ok (.aload 4, 2) := by decide +kernel
theorem nd_LL_errors_32 : decode nc_LL_errors 32 = .ok (.aload_n 0, 1) := by decide +kernel
theorem nd_LL_errors_33 : decode nc_LL_errors 33 = .ok (.iload_n 1, 1) := by decide +kernel
theorem nd_LL_errors_34 : decode nc_LL_errors 34 = .ok (.invokevirtual 133, 3) := by decide +kernel
theorem nd_LL_errors_37 : decode nc_LL_errors 37 = .ok (.invokevirtual 141, 3) := by decide +kernel
theorem nd_LL_errors_40 : decode nc_LL_errors 40 = .ok (.getfield 148, 3) := by decide +kernel
theorem nd_LL_errors_43 : decode nc_LL_errors 43 = .ok (.iconst 0, 1) := by decide +kernel
theorem nd_LL_errors_44 : decode nc_LL_errors 44 = .ok (.iaload, 1) := by decide +kernel
theorem nd_LL_errors_45 : decode nc_LL_errors 45 = .ok (.istore 5, 2) := by decide +kernel
theorem nd_LL_errors_47 : decode nc_LL_errors 47 = .ok (.iload_n 2, 1) := by decide +kernel
theorem nd_LL_errors_48 : decode nc_LL_errors 48 = .ok (.aload 4, 2) := by decide +kernel
theorem nd_LL_errors_50 : decode nc_LL_errors 50 = .ok (.getfield 94, 3) := by decide +kernel
theorem nd_LL_errors_53 : decode nc_LL_errors 53 = .ok (.iload 5, 2) := by decide +kernel
theorem nd_LL_errors_55 : decode nc_LL_errors 55 = .ok (.aload 4, 2) := by decide +kernel
theorem nd_LL_errors_57 : decode nc_LL_errors 57 = .ok (.getfield 108, 3) := by decide +kernel
theorem nd_LL_errors_60 : decode nc_LL_errors 60 = .ok (.invokestatic 169, 3) := by decide +kernel
theorem nd_LL_errors_63 : decode nc_LL_errors 63 = .ok (.iadd, 1) := by decide +kernel
theorem nd_LL_errors_64 : decode nc_LL_errors 64 = .ok (.istore_n 2, 1) := by decide +kernel
theorem nd_LL_errors_65 : decode nc_LL_errors 65 = .ok (.iinc 3 1, 3) := by decide +kernel
theorem nd_LL_errors_68 : decode nc_LL_errors 68 = .ok (.goto (-64), 3) := by decide +kernel
theorem nd_LL_errors_71 : decode nc_LL_errors 71 = .ok (.iload_n 2, 1) := by decide +kernel
theorem nd_LL_errors_72 : decode nc_LL_errors 72 = .ok (.ireturn, 1) := by decide +kernel
theorem nd_LL_sentenceNumbered_0 : decode nc_LL_sentenceNumbered 0 = .ok (.iload_n 1, 1) := by decide +kernel
theorem nd_LL_sentenceNumbered_1 : decode nc_LL_sentenceNumbered 1 = .ok (.iconst (-1), 1) := by decide +kernel
theorem nd_LL_sentenceNumbered_2 : decode nc_LL_sentenceNumbered 2 = .ok (.if_icmp .ne 18, 3) := by decide +kernel
theorem nd_LL_sentenceNumbered_5 : decode nc_LL_sentenceNumbered 5 = .ok (.aload_n 0, 1) := by decide +kernel
theorem nd_LL_sentenceNumbered_6 : decode nc_LL_sentenceNumbered 6 = .ok (.getfield 46, 3) := by decide +kernel
theorem nd_LL_sentenceNumbered_9 : decode nc_LL_sentenceNumbered 9 = .ok (.getfield 94, 3) := by decide +kernel
theorem nd_LL_sentenceNumbered_12 : decode nc_LL_sentenceNumbered 12 = .ok (.ifCond .le 8, 3) := by decide +kernel
theorem nd_LL_sentenceNumbered_15 : decode nc_LL_sentenceNumbered 15 = .ok (.aload_n 0, 1) := by decide +kernel
theorem nd_LL_sentenceNumbered_16 : decode nc_LL_sentenceNumbered 16 = .ok (.getfield 46, 3) := by decide +kernel
theorem nd_LL_sentenceNumbered_19 : decode nc_LL_sentenceNumbered 19 = .ok (.areturn, 1) := by decide +kernel
theorem nd_LL_sentenceNumbered_20 : decode nc_LL_sentenceNumbered 20 = .ok (.iload_n 1, 1) := by decide +kernel
theorem nd_LL_sentenceNumbered_21 : decode nc_LL_sentenceNumbered 21 = .ok (.ifCond .lt 14, 3) := by decide +kernel
theorem nd_LL_sentenceNumbered_24 : decode nc_LL_sentenceNumbered 24 = .ok (.iload_n 1, 1) := by decide +kernel
theorem nd_LL_sentenceNumbered_25 : decode nc_LL_sentenceNumbered 25 = .ok (.aload_n 0, 1) := by decide +kernel
theorem nd_LL_sentenceNumbered_26 : decode nc_LL_sentenceNumbered 26 = .ok (.getfield 36, 3) := by decide +kernel
theorem nd_LL_sentenceNumbered_29 : decode nc_LL_sentenceNumbered 29 = .ok (.getfield 85, 3) := by decide +kernel
theorem nd_LL_sentenceNumbered_32 : decode nc_LL_sentenceNumbered 32 = .ok (.if_icmp .lt 13, 3) := by decide +kernel
theorem nd_LL_sentenceNumbered_35 : decode nc_LL_sentenceNumbered 35 = .ok (.new 99, 3) := by decide +kernel
theorem nd_LL_sentenceNumbered_38 : decode nc_LL_sentenceNumbered 38 = .ok (.dup, 1) := by decide +kernel
theorem nd_LL_sentenceNumbered_39 : decode nc_LL_sentenceNumbered 39 = .ok (.ldc 173, 2) := by decide +kernel
theorem nd_LL_sentenceNumbered_41 : decode nc_LL_sentenceNumbered 41 = .ok (.invokespecial 103, 3) := by decide +kernel
theorem nd_LL_sentenceNumbered_44 : decode nc_LL_sentenceNumbered 44 = .ok (.athrow, 1) := by decide +kernel
theorem nd_LL_sentenceNumbered_45 : decode nc_LL_sentenceNumbered 45 = .ok (.aload_n 0, 1) := by decide +kernel
theorem nd_LL_sentenceNumbered_46 : decode nc_LL_sentenceNumbered 46 = .ok (.getfield 36, 3) := by decide +kernel
theorem nd_LL_sentenceNumbered_49 : decode nc_LL_sentenceNumbered 49 = .ok (.getfield 165, 3) := by decide +kernel
theorem nd_LL_sentenceNumbered_52 : decode nc_LL_sentenceNumbered 52 = .ok (.iload_n 1, 1) := by decide +kernel
theorem nd_LL_sentenceNumbered_53 : decode nc_LL_sentenceNumbered 53 = .ok (.aaload, 1) := by decide +kernel
theorem nd_LL_sentenceNumbered_54 : decode nc_LL_sentenceNumbered 54 = .ok (.areturn, 1) := by decide +kernel
theorem nd_LL_forgetDecoding_0 : decode nc_LL_forgetDecoding 0 = .ok (.aload_n 0, 1) := by decide +kernel
theorem nd_LL_forgetDecoding_1 : decode nc_LL_forgetDecoding 1 = .ok (.iconst 0, 1) := by decide +kernel
theorem nd_LL_forgetDecoding_2 : decode nc_LL_forgetDecoding 2 = .ok (.putfield 145, 3) := by decide +kernel
theorem nd_LL_forgetDecoding_5 : decode nc_LL_forgetDecoding 5 = .ok (.aload_n 0, 1) := by decide +kernel
theorem nd_LL_forgetDecoding_6 : decode nc_LL_forgetDecoding 6 = .ok (.iconst 0, 1) := by decide +kernel
theorem nd_LL_forgetDecoding_7 : decode nc_LL_forgetDecoding 7 = .ok (.putfield 154, 3) := by decide +kernel
theorem nd_LL_forgetDecoding_10 : decode nc_LL_forgetDecoding 10 = .ok (.return_, 1) := by decide +kernel
theorem nd_LL_weightsOrTotals_0 : decode nc_LL_weightsOrTotals 0 = .ok (.iload_n 1, 1) := by decide +kernel
theorem nd_LL_weightsOrTotals_1 : decode nc_LL_weightsOrTotals 1 = .ok (.ifCond .eq 10, 3) := by decide +kernel
theorem nd_LL_weightsOrTotals_4 : decode nc_LL_weightsOrTotals 4 = .ok (.aload_n 0, 1) := by decide +kernel
theorem nd_LL_weightsOrTotals_5 : decode nc_LL_weightsOrTotals 5 = .ok (.getfield 30, 3) := by decide +kernel
theorem nd_LL_weightsOrTotals_8 : decode nc_LL_weightsOrTotals 8 = .ok (.goto 7, 3) := by decide +kernel
theorem nd_LL_weightsOrTotals_11 : decode nc_LL_weightsOrTotals 11 = .ok (.aload_n 0, 1) := by decide +kernel
theorem nd_LL_weightsOrTotals_12 : decode nc_LL_weightsOrTotals 12 = .ok (.getfield 26, 3) := by decide +kernel
theorem nd_LL_weightsOrTotals_15 : decode nc_LL_weightsOrTotals 15 = .ok (.areturn, 1) := by decide +kernel
theorem nd_LL_learnCorpus_0 : decode nc_LL_learnCorpus 0 = .ok (.iconst 0, 1) := by decide +kernel
theorem nd_LL_learnCorpus_1 : decode nc_LL_learnCorpus 1 = .ok (.istore_n 1, 1) := by decide +kernel
theorem nd_LL_learnCorpus_2 : decode nc_LL_learnCorpus 2 = .ok (.iconst 0, 1) := by decide +kernel
theorem nd_LL_learnCorpus_3 : decode nc_LL_learnCorpus 3 = .ok (.istore_n 2, 1) := by decide +kernel
theorem nd_LL_learnCorpus_4 : decode nc_LL_learnCorpus 4 = .ok (.iload_n 2, 1) := by decide +kernel
theorem nd_LL_learnCorpus_5 : decode nc_LL_learnCorpus 5 = .ok (.aload_n 0, 1) := by decide +kernel
theorem nd_LL_learnCorpus_6 : decode nc_LL_learnCorpus 6 = .ok (.getfield 36, 3) := by decide +kernel
theorem nd_LL_learnCorpus_9 : decode nc_LL_learnCorpus 9 = .ok (.getfield 85, 3) := by decide +kernel
theorem nd_LL_learnCorpus_12 : decode nc_LL_learnCorpus 12 = .ok (.if_icmp .ge 28, 3) := by decide +kernel
theorem nd_LL_learnCorpus_15 : decode nc_LL_learnCorpus 15 = .ok (.aload_n 0, 1) := by decide +kernel
theorem nd_LL_learnCorpus_16 : decode nc_LL_learnCorpus 16 = .ok (.aload_n 0, 1) := by decide +kernel
theorem nd_LL_learnCorpus_17 : decode nc_LL_learnCorpus 17 = .ok (.getfield 36, 3) := by decide +kernel
theorem nd_LL_learnCorpus_20 : decode nc_LL_learnCorpus 20 = .ok (.getfield 165, 3) := by decide +kernel
theorem nd_LL_learnCorpus_23 : decode nc_LL_learnCorpus 23 = .ok (.iload_n 2, 1) := by decide +kernel
theorem nd_LL_learnCorpus_24 : decode nc_LL_learnCorpus 24 = .ok (.aaload, 1) := by decide +kernel
theorem nd_LL_learnCorpus_25 : decode nc_LL_learnCorpus 25 = .ok (.invokevirtual 175, 3) := by decide +kernel
theorem nd_LL_learnCorpus_28 : decode nc_LL_learnCorpus 28 = .ok (.ifCond .eq 6, 3) := by decide +kernel
theorem nd_LL_learnCorpus_31 : decode nc_LL_learnCorpus 31 = .ok (.iinc 1 1, 3) := by decide +kernel
theorem nd_LL_learnCorpus_34 : decode nc_LL_learnCorpus 34 = .ok (.iinc 2 1, 3) := by decide +kernel
theorem nd_LL_learnCorpus_37 : decode nc_LL_learnCorpus 37 = .ok (.goto (-33), 3) := by decide +kernel
theorem nd_LL_learnCorpus_40 : decode nc_LL_learnCorpus 40 = .ok (.aload_n 0, 1) := by decide +kernel
theorem nd_LL_learnCorpus_41 : decode nc_LL_learnCorpus 41 = .ok (.dup, 1) := by decide +kernel
theorem nd_LL_learnCorpus_42 : decode nc_LL_learnCorpus 42 = .ok (.getfield 75, 3) := by decide +kernel
theorem nd_LL_learnCorpus_45 : decode nc_LL_learnCorpus 45 = .ok (.iload_n 1, 1) := by decide +kernel
theorem nd_LL_learnCorpus_46 : decode nc_LL_learnCorpus 46 = .ok (.iadd, 1) := by decide +kernel
theorem nd_LL_learnCorpus_47 : decode nc_LL_learnCorpus 47 = .ok (.putfield 75, 3) := by decide +kernel
theorem nd_LL_learnCorpus_50 : decode nc_LL_learnCorpus 50 = .ok (.aload_n 0, 1) := by decide +kernel
theorem nd_LL_learnCorpus_51 : decode nc_LL_learnCorpus 51 = .ok (.dup, 1) := by decide +kernel
theorem nd_LL_learnCorpus_52 : decode nc_LL_learnCorpus 52 = .ok (.getfield 79, 3) := by decide +kernel
theorem nd_LL_learnCorpus_55 : decode nc_LL_learnCorpus 55 = .ok (.iconst 1, 1) := by decide +kernel
theorem nd_LL_learnCorpus_56 : decode nc_LL_learnCorpus 56 = .ok (.iadd, 1) := by decide +kernel
theorem nd_LL_learnCorpus_57 : decode nc_LL_learnCorpus 57 = .ok (.putfield 79, 3) := by decide +kernel
theorem nd_LL_learnCorpus_60 : decode nc_LL_learnCorpus 60 = .ok (.iload_n 1, 1) := by decide +kernel
theorem nd_LL_learnCorpus_61 : decode nc_LL_learnCorpus 61 = .ok (.ireturn, 1) := by decide +kernel
theorem nd_LL_learnSentence_0 : decode nc_LL_learnSentence 0 = .ok (.aload_n 0, 1) := by decide +kernel
theorem nd_LL_learnSentence_1 : decode nc_LL_learnSentence 1 = .ok (.getfield 19, 3) := by decide +kernel
theorem nd_LL_learnSentence_4 : decode nc_LL_learnSentence 4 = .ok (.aload_n 1, 1) := by decide +kernel
theorem nd_LL_learnSentence_5 : decode nc_LL_learnSentence 5 = .ok (.aload_n 0, 1) := by decide +kernel
theorem nd_LL_learnSentence_6 : decode nc_LL_learnSentence 6 = .ok (.getfield 26, 3) := by decide +kernel
theorem nd_LL_learnSentence_9 : decode nc_LL_learnSentence 9 = .ok (.invokevirtual 141, 3) := by decide +kernel
theorem nd_LL_learnSentence_12 : decode nc_LL_learnSentence 12 = .ok (.getfield 148, 3) := by decide +kernel
theorem nd_LL_learnSentence_15 : decode nc_LL_learnSentence 15 = .ok (.iconst 0, 1) := by decide +kernel
theorem nd_LL_learnSentence_16 : decode nc_LL_learnSentence 16 = .ok (.iaload, 1) := by decide +kernel
theorem nd_LL_learnSentence_17 : decode nc_LL_learnSentence 17 = .ok (.istore_n 2, 1) := by decide +kernel
theorem nd_LL_learnSentence_18 : decode nc_LL_learnSentence 18 = .ok (.iload_n 2, 1) := by decide +kernel
theorem nd_LL_learnSentence_19 : decode nc_LL_learnSentence 19 = .ok (.aload_n 1, 1) := by decide +kernel
theorem nd_LL_learnSentence_20 : decode nc_LL_learnSentence 20 = .ok (.getfield 108, 3) := by decide +kernel
theorem nd_LL_learnSentence_23 : decode nc_LL_learnSentence 23 = .ok (.if_icmp .eq 7, 3) := by decide +kernel
theorem nd_LL_learnSentence_26 : decode nc_LL_learnSentence 26 = .ok (.iconst 1, 1) := by decide +kernel
theorem nd_LL_learnSentence_27 : decode nc_LL_learnSentence 27 = .ok (.goto 4, 3) := by decide +kernel
theorem nd_LL_learnSentence_30 : decode nc_LL_learnSentence 30 = .ok (.iconst 0, 1) := by decide +kernel
theorem nd_LL_learnSentence_31 : decode nc_LL_learnSentence 31 = .ok (.istore_n 3, 1) := by decide +kernel
theorem nd_LL_learnSentence_32 : decode nc_LL_learnSentence 32 = .ok (.iload_n 3, 1) := by decide +kernel
theorem nd_LL_learnSentence_33 : decode nc_LL_learnSentence 33 = .ok (.ifCond .eq 28, 3) := by decide +kernel
theorem nd_LL_learnSentence_36 : decode nc_LL_learnSentence 36 = .ok (.aload_n 0, 1) := by decide +kernel
theorem nd_LL_learnSentence_37 : decode nc_LL_learnSentence 37 = .ok (.getfield 26, 3) := by decide +kernel
theorem nd_LL_learnSentence_40 : decode nc_LL_learnSentence 40 = .ok (.aload_n 1, 1) := by decide +kernel
theorem nd_LL_learnSentence_41 : decode nc_LL_learnSentence 41 = .ok (.aload_n 1, 1) := by decide +kernel
theorem nd_LL_learnSentence_42 : decode nc_LL_learnSentence 42 = .ok (.getfield 108, 3) := by decide +kernel
theorem nd_LL_learnSentence_45 : decode nc_LL_learnSentence 45 = .ok (.lconst 1, 1) := by decide +kernel
theorem nd_LL_learnSentence_46 : decode nc_LL_learnSentence 46 = .ok (.invokevirtual 178, 3) := by decide +kernel
theorem nd_LL_learnSentence_49 : decode nc_LL_learnSentence 49 = .ok (.aload_n 0, 1) := by decide +kernel
theorem nd_LL_learnSentence_50 : decode nc_LL_learnSentence 50 = .ok (.getfield 26, 3) := by decide +kernel
theorem nd_LL_learnSentence_53 : decode nc_LL_learnSentence 53 = .ok (.aload_n 1, 1) := by decide +kernel
theorem nd_LL_learnSentence_54 : decode nc_LL_learnSentence 54 = .ok (.iload_n 2, 1) := by decide +kernel
theorem nd_LL_learnSentence_55 : decode nc_LL_learnSentence 55 = .ok (.ldc2_w 182, 3) := by decide +kernel
theorem nd_LL_learnSentence_58 : decode nc_LL_learnSentence 58 = .ok (.invokevirtual 178, 3) := by decide +kernel
theorem nd_LL_learnSentence_61 : decode nc_LL_learnSentence 61 = .ok (.aload_n 0, 1) := by decide +kernel
theorem nd_LL_learnSentence_62 : decode nc_LL_learnSentence 62 = .ok (.getfield 30, 3) := by decide +kernel
end
section
theorem nd_LL_learnSentence_65 : decode nc_LL_learnSentence 65 = .ok (.aload_n 0, 1) := by decide +kernel
theorem nd_LL_learnSentence_66 : decode nc_LL_learnSentence 66 = .ok (.getfield 26, 3) := by decide +kernel
theorem nd_LL_learnSentence_69 : decode nc_LL_learnSentence 69 = .ok (.invokevirtual 184, 3) := by decide +kernel
theorem nd_LL_learnSentence_72 : decode nc_LL_learnSentence 72 = .ok (.iload_n 3, 1) := by decide +kernel
theorem nd_LL_learnSentence_73 : decode nc_LL_learnSentence 73 = .ok (.ireturn, 1) := by decide +kernel
theorem nd_LL_requireWord_0 : decode nc_LL_requireWord 0 = .ok (.iload_n 0, 1) := by decide +kernel
theorem nd_LL_requireWord_1 : decode nc_LL_requireWord 1 = .ok (.ifCond .lt 8, 3) := by decide +kernel
theorem nd_LL_requireWord_4 : decode nc_LL_requireWord 4 = .ok (.iload_n 0, 1) := by decide +kernel
theorem nd_LL_requireWord_5 : decode nc_LL_requireWord 5 = .ok (.iload_n 1, 1) := by decide +kernel
theorem nd_LL_requireWord_6 : decode nc_LL_requireWord 6 = .ok (.if_icmp .lt 13, 3) := by decide +kernel
theorem nd_LL_requireWord_9 : decode nc_LL_requireWord 9 = .ok (.new 99, 3) := by decide +kernel
theorem nd_LL_requireWord_12 : decode nc_LL_requireWord 12 = .ok (.dup, 1) := by decide +kernel
theorem nd_LL_requireWord_13 : decode nc_LL_requireWord 13 = .ok (.ldc 188, 2) := by decide +kernel
theorem nd_LL_requireWord_15 : decode nc_LL_requireWord 15 = .ok (.invokespecial 103, 3) := by decide +kernel
theorem nd_LL_requireWord_18 : decode nc_LL_requireWord 18 = .ok (.athrow, 1) := by decide +kernel
theorem nd_LL_requireWord_19 : decode nc_LL_requireWord 19 = .ok (.return_, 1) := by decide +kernel
theorem nd_LL_labelIn_0 : decode nc_LL_labelIn 0 = .ok (.iload_n 0, 1) := by decide +kernel
theorem nd_LL_labelIn_1 : decode nc_LL_labelIn 1 = .ok (.iconst 2, 1) := by decide +kernel
theorem nd_LL_labelIn_2 : decode nc_LL_labelIn 2 = .ok (.iload_n 1, 1) := by decide +kernel
theorem nd_LL_labelIn_3 : decode nc_LL_labelIn 3 = .ok (.imul, 1) := by decide +kernel
theorem nd_LL_labelIn_4 : decode nc_LL_labelIn 4 = .ok (.iushr, 1) := by decide +kernel
theorem nd_LL_labelIn_5 : decode nc_LL_labelIn 5 = .ok (.iconst 3, 1) := by decide +kernel
theorem nd_LL_labelIn_6 : decode nc_LL_labelIn 6 = .ok (.iand, 1) := by decide +kernel
theorem nd_LL_labelIn_7 : decode nc_LL_labelIn 7 = .ok (.ireturn, 1) := by decide +kernel
theorem nd_LL_differences_0 : decode nc_LL_differences 0 = .ok (.iconst 0, 1) := by decide +kernel
theorem nd_LL_differences_1 : decode nc_LL_differences 1 = .ok (.istore_n 3, 1) := by decide +kernel
theorem nd_LL_differences_2 : decode nc_LL_differences 2 = .ok (.iconst 0, 1) := by decide +kernel
theorem nd_LL_differences_3 : decode nc_LL_differences 3 = .ok (.istore 4, 2) := by decide +kernel
theorem nd_LL_differences_5 : decode nc_LL_differences 5 = .ok (.iload 4, 2) := by decide +kernel
theorem nd_LL_differences_7 : decode nc_LL_differences 7 = .ok (.iload_n 0, 1) := by decide +kernel
theorem nd_LL_differences_8 : decode nc_LL_differences 8 = .ok (.if_icmp .ge 27, 3) := by decide +kernel
theorem nd_LL_differences_11 : decode nc_LL_differences 11 = .ok (.iload_n 1, 1) := by decide +kernel
theorem nd_LL_differences_12 : decode nc_LL_differences 12 = .ok (.iload 4, 2) := by decide +kernel
theorem nd_LL_differences_14 : decode nc_LL_differences 14 = .ok (.invokestatic 111, 3) := by decide +kernel
theorem nd_LL_differences_17 : decode nc_LL_differences 17 = .ok (.iload_n 2, 1) := by decide +kernel
theorem nd_LL_differences_18 : decode nc_LL_differences 18 = .ok (.iload 4, 2) := by decide +kernel
theorem nd_LL_differences_20 : decode nc_LL_differences 20 = .ok (.invokestatic 111, 3) := by decide +kernel
theorem nd_LL_differences_23 : decode nc_LL_differences 23 = .ok (.if_icmp .eq 6, 3) := by decide +kernel
theorem nd_LL_differences_26 : decode nc_LL_differences 26 = .ok (.iinc 3 1, 3) := by decide +kernel
theorem nd_LL_differences_29 : decode nc_LL_differences 29 = .ok (.iinc 4 1, 3) := by decide +kernel
theorem nd_LL_differences_32 : decode nc_LL_differences 32 = .ok (.goto (-27), 3) := by decide +kernel
theorem nd_LL_differences_35 : decode nc_LL_differences 35 = .ok (.iload_n 3, 1) := by decide +kernel
theorem nd_LL_differences_36 : decode nc_LL_differences 36 = .ok (.ireturn, 1) := by decide +kernel
theorem nd_Mo_init_0 : decode nc_Mo_init 0 = .ok (.aload_n 0, 1) := by decide +kernel
theorem nd_Mo_init_1 : decode nc_Mo_init 1 = .ok (.invokespecial 1, 3) := by decide +kernel
theorem nd_Mo_init_4 : decode nc_Mo_init 4 = .ok (.aload_n 0, 1) := by decide +kernel
theorem nd_Mo_init_5 : decode nc_Mo_init 5 = .ok (.sipush 240, 3) := by decide +kernel
theorem nd_Mo_init_8 : decode nc_Mo_init 8 = .ok (.newarray .int, 2) := by decide +kernel
theorem nd_Mo_init_10 : decode nc_Mo_init 10 = .ok (.putfield 7, 3) := by decide +kernel
theorem nd_Mo_init_13 : decode nc_Mo_init 13 = .ok (.aload_n 0, 1) := by decide +kernel
theorem nd_Mo_init_14 : decode nc_Mo_init 14 = .ok (.bipush 9, 2) := by decide +kernel
theorem nd_Mo_init_16 : decode nc_Mo_init 16 = .ok (.newarray .int, 2) := by decide +kernel
theorem nd_Mo_init_18 : decode nc_Mo_init 18 = .ok (.putfield 13, 3) := by decide +kernel
theorem nd_Mo_init_21 : decode nc_Mo_init 21 = .ok (.aload_n 0, 1) := by decide +kernel
theorem nd_Mo_init_22 : decode nc_Mo_init 22 = .ok (.sipush 162, 3) := by decide +kernel
theorem nd_Mo_init_25 : decode nc_Mo_init 25 = .ok (.newarray .int, 2) := by decide +kernel
theorem nd_Mo_init_27 : decode nc_Mo_init 27 = .ok (.putfield 16, 3) := by decide +kernel
theorem nd_Mo_init_30 : decode nc_Mo_init 30 = .ok (.aload_n 0, 1) := by decide +kernel
theorem nd_Mo_init_31 : decode nc_Mo_init 31 = .ok (.bipush 54, 2) := by decide +kernel
theorem nd_Mo_init_33 : decode nc_Mo_init 33 = .ok (.newarray .int, 2) := by decide +kernel
theorem nd_Mo_init_35 : decode nc_Mo_init 35 = .ok (.putfield 19, 3) := by decide +kernel
theorem nd_Mo_init_38 : decode nc_Mo_init 38 = .ok (.aload_n 0, 1) := by decide +kernel
theorem nd_Mo_init_39 : decode nc_Mo_init 39 = .ok (.bipush 9, 2) := by decide +kernel
theorem nd_Mo_init_41 : decode nc_Mo_init 41 = .ok (.newarray .int, 2) := by decide +kernel
theorem nd_Mo_init_43 : decode nc_Mo_init 43 = .ok (.putfield 22, 3) := by decide +kernel
theorem nd_Mo_init_46 : decode nc_Mo_init 46 = .ok (.aload_n 0, 1) := by decide +kernel
theorem nd_Mo_init_47 : decode nc_Mo_init 47 = .ok (.sipush 162, 3) := by decide +kernel
theorem nd_Mo_init_50 : decode nc_Mo_init 50 = .ok (.newarray .int, 2) := by decide +kernel
theorem nd_Mo_init_52 : decode nc_Mo_init 52 = .ok (.putfield 25, 3) := by decide +kernel
theorem nd_Mo_init_55 : decode nc_Mo_init 55 = .ok (.aload_n 0, 1) := by decide +kernel
theorem nd_Mo_init_56 : decode nc_Mo_init 56 = .ok (.bipush 54, 2) := by decide +kernel
theorem nd_Mo_init_58 : decode nc_Mo_init 58 = .ok (.newarray .int, 2) := by decide +kernel
theorem nd_Mo_init_60 : decode nc_Mo_init 60 = .ok (.putfield 28, 3) := by decide +kernel
theorem nd_Mo_init_63 : decode nc_Mo_init 63 = .ok (.aload_n 0, 1) := by decide +kernel
theorem nd_Mo_init_64 : decode nc_Mo_init 64 = .ok (.sipush 148, 3) := by decide +kernel
theorem nd_Mo_init_67 : decode nc_Mo_init 67 = .ok (.newarray .long, 2) := by decide +kernel
theorem nd_Mo_init_69 : decode nc_Mo_init 69 = .ok (.putfield 31, 3) := by decide +kernel
theorem nd_Mo_init_72 : decode nc_Mo_init 72 = .ok (.aload_n 0, 1) := by decide +kernel
theorem nd_Mo_init_73 : decode nc_Mo_init 73 = .ok (.sipush 148, 3) := by decide +kernel
theorem nd_Mo_init_76 : decode nc_Mo_init 76 = .ok (.newarray .long, 2) := by decide +kernel
theorem nd_Mo_init_78 : decode nc_Mo_init 78 = .ok (.putfield 35, 3) := by decide +kernel
theorem nd_Mo_init_81 : decode nc_Mo_init 81 = .ok (.aload_n 0, 1) := by decide +kernel
theorem nd_Mo_init_82 : decode nc_Mo_init 82 = .ok (.bipush 24, 2) := by decide +kernel
theorem nd_Mo_init_84 : decode nc_Mo_init 84 = .ok (.newarray .long, 2) := by decide +kernel
theorem nd_Mo_init_86 : decode nc_Mo_init 86 = .ok (.putfield 38, 3) := by decide +kernel
theorem nd_Mo_init_89 : decode nc_Mo_init 89 = .ok (.aload_n 0, 1) := by decide +kernel
theorem nd_Mo_init_90 : decode nc_Mo_init 90 = .ok (.bipush 6, 2) := by decide +kernel
theorem nd_Mo_init_92 : decode nc_Mo_init 92 = .ok (.newarray .int, 2) := by decide +kernel
theorem nd_Mo_init_94 : decode nc_Mo_init 94 = .ok (.putfield 41, 3) := by decide +kernel
theorem nd_Mo_init_97 : decode nc_Mo_init 97 = .ok (.aload_n 0, 1) := by decide +kernel
theorem nd_Mo_init_98 : decode nc_Mo_init 98 = .ok (.bipush 7, 2) := by decide +kernel
theorem nd_Mo_init_100 : decode nc_Mo_init 100 = .ok (.newarray .long, 2) := by decide +kernel
theorem nd_Mo_init_102 : decode nc_Mo_init 102 = .ok (.putfield 44, 3) := by decide +kernel
theorem nd_Mo_init_105 : decode nc_Mo_init 105 = .ok (.aload_n 0, 1) := by decide +kernel
theorem nd_Mo_init_106 : decode nc_Mo_init 106 = .ok (.iconst (-1), 1) := by decide +kernel
theorem nd_Mo_init_107 : decode nc_Mo_init 107 = .ok (.putfield 47, 3) := by decide +kernel
theorem nd_Mo_init_110 : decode nc_Mo_init 110 = .ok (.return_, 1) := by decide +kernel
theorem nd_Mo_thrown_0 : decode nc_Mo_thrown 0 = .ok (.aload_n 0, 1) := by decide +kernel
theorem nd_Mo_thrown_1 : decode nc_Mo_thrown 1 = .ok (.getfield 51, 3) := by decide +kernel
theorem nd_Mo_thrown_4 : decode nc_Mo_thrown 4 = .ok (.ireturn, 1) := by decide +kernel
theorem nd_Mo_letter_0 : decode nc_Mo_letter 0 = .ok (.lload_n 0, 1) := by decide +kernel
theorem nd_Mo_letter_1 : decode nc_Mo_letter 1 = .ok (.bipush 8, 2) := by decide +kernel
theorem nd_Mo_letter_3 : decode nc_Mo_letter 3 = .ok (.iload_n 2, 1) := by decide +kernel
theorem nd_Mo_letter_4 : decode nc_Mo_letter 4 = .ok (.imul, 1) := by decide +kernel
theorem nd_Mo_letter_5 : decode nc_Mo_letter 5 = .ok (.lshr, 1) := by decide +kernel
theorem nd_Mo_letter_6 : decode nc_Mo_letter 6 = .ok (.ldc2_w 54, 3) := by decide +kernel
theorem nd_Mo_letter_9 : decode nc_Mo_letter 9 = .ok (.land, 1) := by decide +kernel
theorem nd_Mo_letter_10 : decode nc_Mo_letter 10 = .ok (.l2i, 1) := by decide +kernel
theorem nd_Mo_letter_11 : decode nc_Mo_letter 11 = .ok (.ireturn, 1) := by decide +kernel
theorem nd_Mo_type_0 : decode nc_Mo_type 0 = .ok (.aload_n 0, 1) := by decide +kernel
theorem nd_Mo_type_1 : decode nc_Mo_type 1 = .ok (.iconst 0, 1) := by decide +kernel
theorem nd_Mo_type_2 : decode nc_Mo_type 2 = .ok (.putfield 51, 3) := by decide +kernel
theorem nd_Mo_type_5 : decode nc_Mo_type 5 = .ok (.iload_n 3, 1) := by decide +kernel
theorem nd_Mo_type_6 : decode nc_Mo_type 6 = .ok (.ifCond .le 25, 3) := by decide +kernel
theorem nd_Mo_type_9 : decode nc_Mo_type 9 = .ok (.iload_n 3, 1) := by decide +kernel
theorem nd_Mo_type_10 : decode nc_Mo_type 10 = .ok (.bipush 9, 2) := by decide +kernel
theorem nd_Mo_type_12 : decode nc_Mo_type 12 = .ok (.if_icmp .ge 19, 3) := by decide +kernel
theorem nd_Mo_type_15 : decode nc_Mo_type 15 = .ok (.aload_n 0, 1) := by decide +kernel
theorem nd_Mo_type_16 : decode nc_Mo_type 16 = .ok (.getfield 56, 3) := by decide +kernel
theorem nd_Mo_type_19 : decode nc_Mo_type 19 = .ok (.iload_n 3, 1) := by decide +kernel
theorem nd_Mo_type_20 : decode nc_Mo_type 20 = .ok (.iadd, 1) := by decide +kernel
theorem nd_Mo_type_21 : decode nc_Mo_type 21 = .ok (.sipush 240, 3) := by decide +kernel
theorem nd_Mo_type_24 : decode nc_Mo_type 24 = .ok (.if_icmp .gt 7, 3) := by decide +kernel
theorem nd_Mo_type_27 : decode nc_Mo_type 27 = .ok (.iconst 1, 1) := by decide +kernel
theorem nd_Mo_type_28 : decode nc_Mo_type 28 = .ok (.goto 4, 3) := by decide +kernel
theorem nd_Mo_type_31 : decode nc_Mo_type 31 = .ok (.iconst 0, 1) := by decide +kernel
theorem nd_Mo_type_32 : decode nc_Mo_type 32 = .ok (.istore 4, 2) := by decide +kernel
theorem nd_Mo_type_34 : decode nc_Mo_type 34 = .ok (.iconst 0, 1) := by decide +kernel
theorem nd_Mo_type_35 : decode nc_Mo_type 35 = .ok (.istore 5, 2) := by decide +kernel
theorem nd_Mo_type_37 : decode nc_Mo_type 37 = .ok (.iload 5, 2) := by decide +kernel
theorem nd_Mo_type_39 : decode nc_Mo_type 39 = .ok (.iload_n 3, 1) := by decide +kernel
theorem nd_Mo_type_40 : decode nc_Mo_type 40 = .ok (.if_icmp .ge 43, 3) := by decide +kernel
theorem nd_Mo_type_43 : decode nc_Mo_type 43 = .ok (.iload 4, 2) := by decide +kernel
theorem nd_Mo_type_45 : decode nc_Mo_type 45 = .ok (.ifCond .eq 38, 3) := by decide +kernel
theorem nd_Mo_type_48 : decode nc_Mo_type 48 = .ok (.lload_n 1, 1) := by decide +kernel
theorem nd_Mo_type_49 : decode nc_Mo_type 49 = .ok (.iload 5, 2) := by decide +kernel
theorem nd_Mo_type_51 : decode nc_Mo_type 51 = .ok (.invokestatic 59, 3) := by decide +kernel
theorem nd_Mo_type_54 : decode nc_Mo_type 54 = .ok (.bipush 31, 2) := by decide +kernel
theorem nd_Mo_type_56 : decode nc_Mo_type 56 = .ok (.if_icmp .le 18, 3) := by decide +kernel
theorem nd_Mo_type_59 : decode nc_Mo_type 59 = .ok (.lload_n 1, 1) := by decide +kernel
theorem nd_Mo_type_60 : decode nc_Mo_type 60 = .ok (.iload 5, 2) := by decide +kernel
theorem nd_Mo_type_62 : decode nc_Mo_type 62 = .ok (.invokestatic 59, 3) := by decide +kernel
theorem nd_Mo_type_65 : decode nc_Mo_type 65 = .ok (.bipush 127, 2) := by decide +kernel
theorem nd_Mo_type_67 : decode nc_Mo_type 67 = .ok (.if_icmp .ge 7, 3) := by decide +kernel
theorem nd_Mo_type_70 : decode nc_Mo_type 70 = .ok (.iconst 1, 1) := by decide +kernel
theorem nd_Mo_type_71 : decode nc_Mo_type 71 = .ok (.goto 4, 3) := by decide +kernel
theorem nd_Mo_type_74 : decode nc_Mo_type 74 = .ok (.iconst 0, 1) := by decide +kernel
theorem nd_Mo_type_75 : decode nc_Mo_type 75 = .ok (.istore 4, 2) := by decide +kernel
theorem nd_Mo_type_77 : decode nc_Mo_type 77 = .ok (.iinc 5 1, 3) := by decide +kernel
theorem nd_Mo_type_80 : decode nc_Mo_type 80 = .ok (.goto (-43), 3) := by decide +kernel
theorem nd_Mo_type_83 : decode nc_Mo_type 83 = .ok (.iconst 0, 1) := by decide +kernel
theorem nd_Mo_type_84 : decode nc_Mo_type 84 = .ok (.istore 5, 2) := by decide +kernel
theorem nd_Mo_type_86 : decode nc_Mo_type 86 = .ok (.iload 5, 2) := by decide +kernel
theorem nd_Mo_type_88 : decode nc_Mo_type 88 = .ok (.iload_n 3, 1) := by decide +kernel
theorem nd_Mo_type_89 : decode nc_Mo_type 89 = .ok (.if_icmp .ge 39, 3) := by decide +kernel
theorem nd_Mo_type_92 : decode nc_Mo_type 92 = .ok (.iload 4, 2) := by decide +kernel
theorem nd_Mo_type_94 : decode nc_Mo_type 94 = .ok (.ifCond .eq 34, 3) := by decide +kernel
theorem nd_Mo_type_97 : decode nc_Mo_type 97 = .ok (.aload_n 0, 1) := by decide +kernel
theorem nd_Mo_type_98 : decode nc_Mo_type 98 = .ok (.getfield 7, 3) := by decide +kernel
theorem nd_Mo_type_101 : decode nc_Mo_type 101 = .ok (.aload_n 0, 1) := by decide +kernel
theorem nd_Mo_type_102 : decode nc_Mo_type 102 = .ok (.getfield 56, 3) := by decide +kernel
theorem nd_Mo_type_105 : decode nc_Mo_type 105 = .ok (.lload_n 1, 1) := by decide +kernel
theorem nd_Mo_type_106 : decode nc_Mo_type 106 = .ok (.iload 5, 2) := by decide +kernel
theorem nd_Mo_type_108 : decode nc_Mo_type 108 = .ok (.invokestatic 59, 3) := by decide +kernel
theorem nd_Mo_type_111 : decode nc_Mo_type 111 = .ok (.iastore, 1) := by decide +kernel
theorem nd_Mo_type_112 : decode nc_Mo_type 112 = .ok (.aload_n 0, 1) := by decide +kernel
theorem nd_Mo_type_113 : decode nc_Mo_type 113 = .ok (.dup, 1) := by decide +kernel
theorem nd_Mo_type_114 : decode nc_Mo_type 114 = .ok (.getfield 56, 3) := by decide +kernel
theorem nd_Mo_type_117 : decode nc_Mo_type 117 = .ok (.iconst 1, 1) := by decide +kernel
theorem nd_Mo_type_118 : decode nc_Mo_type 118 = .ok (.iadd, 1) := by decide +kernel
theorem nd_Mo_type_119 : decode nc_Mo_type 119 = .ok (.putfield 56, 3) := by decide +kernel
theorem nd_Mo_type_122 : decode nc_Mo_type 122 = .ok (.iinc 5 1, 3) := by decide +kernel
theorem nd_Mo_type_125 : decode nc_Mo_type 125 = .ok (.goto (-39), 3) := by decide +kernel
theorem nd_Mo_type_128 : decode nc_Mo_type 128 = .ok (.iload 4, 2) := by decide +kernel
theorem nd_Mo_type_130 : decode nc_Mo_type 130 = .ok (.ireturn, 1) := by decide +kernel
theorem nd_Mo_cut_0 : decode nc_Mo_cut 0 = .ok (.aload_n 0, 1) := by decide +kernel
theorem nd_Mo_cut_1 : decode nc_Mo_cut 1 = .ok (.iconst 0, 1) := by decide +kernel
theorem nd_Mo_cut_2 : decode nc_Mo_cut 2 = .ok (.putfield 51, 3) := by decide +kernel
theorem nd_Mo_cut_5 : decode nc_Mo_cut 5 = .ok (.iload_n 1, 1) := by decide +kernel
theorem nd_Mo_cut_6 : decode nc_Mo_cut 6 = .ok (.ifCond .lt 11, 3) := by decide +kernel
theorem nd_Mo_cut_9 : decode nc_Mo_cut 9 = .ok (.iload_n 1, 1) := by decide +kernel
theorem nd_Mo_cut_10 : decode nc_Mo_cut 10 = .ok (.aload_n 0, 1) := by decide +kernel
theorem nd_Mo_cut_11 : decode nc_Mo_cut 11 = .ok (.getfield 56, 3) := by decide +kernel
theorem nd_Mo_cut_14 : decode nc_Mo_cut 14 = .ok (.if_icmp .le 5, 3) := by decide +kernel
theorem nd_Mo_cut_17 : decode nc_Mo_cut 17 = .ok (.iconst 0, 1) := by decide +kernel
theorem nd_Mo_cut_18 : decode nc_Mo_cut 18 = .ok (.ireturn, 1) := by decide +kernel
theorem nd_Mo_cut_19 : decode nc_Mo_cut 19 = .ok (.aload_n 0, 1) := by decide +kernel
theorem nd_Mo_cut_20 : decode nc_Mo_cut 20 = .ok (.iload_n 1, 1) := by decide +kernel
theorem nd_Mo_cut_21 : decode nc_Mo_cut 21 = .ok (.putfield 56, 3) := by decide +kernel
theorem nd_Mo_cut_24 : decode nc_Mo_cut 24 = .ok (.iconst 1, 1) := by decide +kernel
theorem nd_Mo_cut_25 : decode nc_Mo_cut 25 = .ok (.ireturn, 1) := by decide +kernel
theorem nd_Mo_isLetter_0 : decode nc_Mo_isLetter 0 = .ok (.iload_n 1, 1) := by decide +kernel
theorem nd_Mo_isLetter_1 : decode nc_Mo_isLetter 1 = .ok (.aload_n 0, 1) := by decide +kernel
theorem nd_Mo_isLetter_2 : decode nc_Mo_isLetter 2 = .ok (.getfield 56, 3) := by decide +kernel
theorem nd_Mo_isLetter_5 : decode nc_Mo_isLetter 5 = .ok (.if_icmp .ge 29, 3) := by decide +kernel
theorem nd_Mo_isLetter_8 : decode nc_Mo_isLetter 8 = .ok (.aload_n 0, 1) := by decide +kernel
theorem nd_Mo_isLetter_9 : decode nc_Mo_isLetter 9 = .ok (.getfield 7, 3) := by decide +kernel
theorem nd_Mo_isLetter_12 : decode nc_Mo_isLetter 12 = .ok (.iload_n 1, 1) := by decide +kernel
theorem nd_Mo_isLetter_13 : decode nc_Mo_isLetter 13 = .ok (.iaload, 1) := by decide +kernel
theorem nd_Mo_isLetter_14 : decode nc_Mo_isLetter 14 = .ok (.bipush 97, 2) := by decide +kernel
theorem nd_Mo_isLetter_16 : decode nc_Mo_isLetter 16 = .ok (.if_icmp .lt 18, 3) := by decide +kernel
theorem nd_Mo_isLetter_19 : decode nc_Mo_isLetter 19 = .ok (.aload_n 0, 1) := by decide +kernel
theorem nd_Mo_isLetter_20 : decode nc_Mo_isLetter 20 = .ok (.getfield 7, 3) := by decide +kernel
theorem nd_Mo_isLetter_23 : decode nc_Mo_isLetter 23 = .ok (.iload_n 1, 1) := by decide +kernel
theorem nd_Mo_isLetter_24 : decode nc_Mo_isLetter 24 = .ok (.iaload, 1) := by decide +kernel
theorem nd_Mo_isLetter_25 : decode nc_Mo_isLetter 25 = .ok (.bipush 122, 2) := by decide +kernel
theorem nd_Mo_isLetter_27 : decode nc_Mo_isLetter 27 = .ok (.if_icmp .gt 7, 3) := by decide +kernel
theorem nd_Mo_isLetter_30 : decode nc_Mo_isLetter 30 = .ok (.iconst 1, 1) := by decide +kernel
theorem nd_Mo_isLetter_31 : decode nc_Mo_isLetter 31 = .ok (.goto 4, 3) := by decide +kernel
theorem nd_Mo_isLetter_34 : decode nc_Mo_isLetter 34 = .ok (.iconst 0, 1) := by decide +kernel
theorem nd_Mo_isLetter_35 : decode nc_Mo_isLetter 35 = .ok (.ireturn, 1) := by decide +kernel
theorem nd_Mo_is_0 : decode nc_Mo_is 0 = .ok (.iload_n 1, 1) := by decide +kernel
theorem nd_Mo_is_1 : decode nc_Mo_is 1 = .ok (.aload_n 0, 1) := by decide +kernel
theorem nd_Mo_is_2 : decode nc_Mo_is 2 = .ok (.getfield 56, 3) := by decide +kernel
theorem nd_Mo_is_5 : decode nc_Mo_is 5 = .ok (.if_icmp .ge 17, 3) := by decide +kernel
theorem nd_Mo_is_8 : decode nc_Mo_is 8 = .ok (.aload_n 0, 1) := by decide +kernel
theorem nd_Mo_is_9 : decode nc_Mo_is 9 = .ok (.getfield 7, 3) := by decide +kernel
theorem nd_Mo_is_12 : decode nc_Mo_is 12 = .ok (.iload_n 1, 1) := by decide +kernel
theorem nd_Mo_is_13 : decode nc_Mo_is 13 = .ok (.iaload, 1) := by decide +kernel
theorem nd_Mo_is_14 : decode nc_Mo_is 14 = .ok (.iload_n 2, 1) := by decide +kernel
theorem nd_Mo_is_15 : decode nc_Mo_is 15 = .ok (.if_icmp .ne 7, 3) := by decide +kernel
theorem nd_Mo_is_18 : decode nc_Mo_is 18 = .ok (.iconst 1, 1) := by decide +kernel
theorem nd_Mo_is_19 : decode nc_Mo_is 19 = .ok (.goto 4, 3) := by decide +kernel
theorem nd_Mo_is_22 : decode nc_Mo_is 22 = .ok (.iconst 0, 1) := by decide +kernel
theorem nd_Mo_is_23 : decode nc_Mo_is 23 = .ok (.ireturn, 1) := by decide +kernel
theorem nd_Mo_skip_0 : decode nc_Mo_skip 0 = .ok (.iload_n 1, 1) := by decide +kernel
theorem nd_Mo_skip_1 : decode nc_Mo_skip 1 = .ok (.istore_n 2, 1) := by decide +kernel
theorem nd_Mo_skip_2 : decode nc_Mo_skip 2 = .ok (.aload_n 0, 1) := by decide +kernel
theorem nd_Mo_skip_3 : decode nc_Mo_skip 3 = .ok (.iload_n 2, 1) := by decide +kernel
theorem nd_Mo_skip_4 : decode nc_Mo_skip 4 = .ok (.bipush 32, 2) := by decide +kernel
theorem nd_Mo_skip_6 : decode nc_Mo_skip 6 = .ok (.invokevirtual 63, 3) := by decide +kernel
theorem nd_Mo_skip_9 : decode nc_Mo_skip 9 = .ok (.ifCond .eq 9, 3) := by decide +kernel
theorem nd_Mo_skip_12 : decode nc_Mo_skip 12 = .ok (.iinc 2 1, 3) := by decide +kernel
theorem nd_Mo_skip_15 : decode nc_Mo_skip 15 = .ok (.goto (-13), 3) := by decide +kernel
theorem nd_Mo_skip_18 : decode nc_Mo_skip 18 = .ok (.iload_n 2, 1) := by decide +kernel
theorem nd_Mo_skip_19 : decode nc_Mo_skip 19 = .ok (.ireturn, 1) := by decide +kernel
theorem nd_Mo_bucketOf_0 : decode nc_Mo_bucketOf 0 = .ok (.iload_n 0, 1) := by decide +kernel
theorem nd_Mo_bucketOf_1 : decode nc_Mo_bucketOf 1 = .ok (.iload_n 0, 1) := by decide +kernel
theorem nd_Mo_bucketOf_2 : decode nc_Mo_bucketOf 2 = .ok (.bipush 15, 2) := by decide +kernel
theorem nd_Mo_bucketOf_4 : decode nc_Mo_bucketOf 4 = .ok (.iushr, 1) := by decide +kernel
theorem nd_Mo_bucketOf_5 : decode nc_Mo_bucketOf 5 = .ok (.ixor, 1) := by decide +kernel
theorem nd_Mo_bucketOf_6 : decode nc_Mo_bucketOf 6 = .ok (.bipush 31, 2) := by decide +kernel
theorem nd_Mo_bucketOf_8 : decode nc_Mo_bucketOf 8 = .ok (.iand, 1) := by decide +kernel
theorem nd_Mo_bucketOf_9 : decode nc_Mo_bucketOf 9 = .ok (.ireturn, 1) := by decide +kernel
theorem nd_Mo_hash_0 : decode nc_Mo_hash 0 = .ok (.iload_n 1, 1) := by decide +kernel
theorem nd_Mo_hash_1 : decode nc_Mo_hash 1 = .ok (.ifCond .ne 8, 3) := by decide +kernel
theorem nd_Mo_hash_4 : decode nc_Mo_hash 4 = .ok (.bipush 7, 2) := by decide +kernel
theorem nd_Mo_hash_6 : decode nc_Mo_hash 6 = .ok (.goto 8, 3) := by decide +kernel
theorem nd_Mo_hash_9 : decode nc_Mo_hash 9 = .ok (.sipush 217, 3) := by decide +kernel
theorem nd_Mo_hash_12 : decode nc_Mo_hash 12 = .ok (.iload_n 1, 1) := by decide +kernel
theorem nd_Mo_hash_13 : decode nc_Mo_hash 13 = .ok (.iadd, 1) := by decide +kernel
theorem nd_Mo_hash_14 : decode nc_Mo_hash 14 = .ok (.istore 4, 2) := by decide +kernel
theorem nd_Mo_hash_16 : decode nc_Mo_hash 16 = .ok (.iload_n 2, 1) := by decide +kernel
theorem nd_Mo_hash_17 : decode nc_Mo_hash 17 = .ok (.istore 5, 2) := by decide +kernel
theorem nd_Mo_hash_19 : decode nc_Mo_hash 19 = .ok (.iload 5, 2) := by decide +kernel
theorem nd_Mo_hash_21 : decode nc_Mo_hash 21 = .ok (.iload_n 3, 1) := by decide +kernel
theorem nd_Mo_hash_22 : decode nc_Mo_hash 22 = .ok (.if_icmp .ge 24, 3) := by decide +kernel
theorem nd_Mo_hash_25 : decode nc_Mo_hash 25 = .ok (.bipush 31, 2) := by decide +kernel
theorem nd_Mo_hash_27 : decode nc_Mo_hash 27 = .ok (.iload 4, 2) := by decide +kernel
theorem nd_Mo_hash_29 : decode nc_Mo_hash 29 = .ok (.imul, 1) := by decide +kernel
theorem nd_Mo_hash_30 : decode nc_Mo_hash 30 = .ok (.aload_n 0, 1) := by decide +kernel
theorem nd_Mo_hash_31 : decode nc_Mo_hash 31 = .ok (.getfield 7, 3) := by decide +kernel
theorem nd_Mo_hash_34 : decode nc_Mo_hash 34 = .ok (.iload 5, 2) := by decide +kernel
theorem nd_Mo_hash_36 : decode nc_Mo_hash 36 = .ok (.iaload, 1) := by decide +kernel
theorem nd_Mo_hash_37 : decode nc_Mo_hash 37 = .ok (.iadd, 1) := by decide +kernel
theorem nd_Mo_hash_38 : decode nc_Mo_hash 38 = .ok (.istore 4, 2) := by decide +kernel
theorem nd_Mo_hash_40 : decode nc_Mo_hash 40 = .ok (.iinc 5 1, 3) := by decide +kernel
theorem nd_Mo_hash_43 : decode nc_Mo_hash 43 = .ok (.goto (-24), 3) := by decide +kernel
theorem nd_Mo_hash_46 : decode nc_Mo_hash 46 = .ok (.iload 4, 2) := by decide +kernel
theorem nd_Mo_hash_48 : decode nc_Mo_hash 48 = .ok (.invokestatic 67, 3) := by decide +kernel
theorem nd_Mo_hash_51 : decode nc_Mo_hash 51 = .ok (.ireturn, 1) := by decide +kernel
theorem nd_Mo_readSentence_0 : decode nc_Mo_readSentence 0 = .ok (.iconst 0, 1) := by decide +kernel
theorem nd_Mo_readSentence_1 : decode nc_Mo_readSentence 1 = .ok (.istore 4, 2) := by decide +kernel
theorem nd_Mo_readSentence_3 : decode nc_Mo_readSentence 3 = .ok (.aload_n 0, 1) := by decide +kernel
theorem nd_Mo_readSentence_4 : decode nc_Mo_readSentence 4 = .ok (.iload_n 2, 1) := by decide +kernel
theorem nd_Mo_readSentence_5 : decode nc_Mo_readSentence 5 = .ok (.invokevirtual 71, 3) := by decide +kernel
theorem nd_Mo_readSentence_8 : decode nc_Mo_readSentence 8 = .ok (.istore 5, 2) := by decide +kernel
theorem nd_Mo_readSentence_10 : decode nc_Mo_readSentence 10 = .ok (.iload 5, 2) := by decide +kernel
theorem nd_Mo_readSentence_12 : decode nc_Mo_readSentence 12 = .ok (.istore 6, 2) := by decide +kernel
theorem nd_Mo_readSentence_14 : decode nc_Mo_readSentence 14 = .ok (.iload 5, 2) := by decide +kernel
theorem nd_Mo_readSentence_16 : decode nc_Mo_readSentence 16 = .ok (.istore 7, 2) := by decide +kernel
theorem nd_Mo_readSentence_18 : decode nc_Mo_readSentence 18 = .ok (.aload_n 0, 1) := by decide +kernel
theorem nd_Mo_readSentence_19 : decode nc_Mo_readSentence 19 = .ok (.iload 5, 2) := by decide +kernel
theorem nd_Mo_readSentence_21 : decode nc_Mo_readSentence 21 = .ok (.invokevirtual 74, 3) := by decide +kernel
theorem nd_Mo_readSentence_24 : decode nc_Mo_readSentence 24 = .ok (.ifCond .eq 256, 3) := by decide +kernel
theorem nd_Mo_readSentence_27 : decode nc_Mo_readSentence 27 = .ok (.iload 5, 2) := by decide +kernel
theorem nd_Mo_readSentence_29 : decode nc_Mo_readSentence 29 = .ok (.istore 8, 2) := by decide +kernel
theorem nd_Mo_readSentence_31 : decode nc_Mo_readSentence 31 = .ok (.aload_n 0, 1) := by decide +kernel
theorem nd_Mo_readSentence_32 : decode nc_Mo_readSentence 32 = .ok (.iload 8, 2) := by decide +kernel
theorem nd_Mo_readSentence_34 : decode nc_Mo_readSentence 34 = .ok (.invokevirtual 74, 3) := by decide +kernel
theorem nd_Mo_readSentence_37 : decode nc_Mo_readSentence 37 = .ok (.ifCond .eq 9, 3) := by decide +kernel
theorem nd_Mo_readSentence_40 : decode nc_Mo_readSentence 40 = .ok (.iinc 8 1, 3) := by decide +kernel
theorem nd_Mo_readSentence_43 : decode nc_Mo_readSentence 43 = .ok (.goto (-12), 3) := by decide +kernel
theorem nd_Mo_readSentence_46 : decode nc_Mo_readSentence 46 = .ok (.iload 8, 2) := by decide +kernel
theorem nd_Mo_readSentence_48 : decode nc_Mo_readSentence 48 = .ok (.iload 5, 2) := by decide +kernel
theorem nd_Mo_readSentence_50 : decode nc_Mo_readSentence 50 = .ok (.isub, 1) := by decide +kernel
theorem nd_Mo_readSentence_51 : decode nc_Mo_readSentence 51 = .ok (.bipush 6, 2) := by decide +kernel
theorem nd_Mo_readSentence_53 : decode nc_Mo_readSentence 53 = .ok (.if_icmp .gt 10, 3) := by decide +kernel
theorem nd_Mo_readSentence_56 : decode nc_Mo_readSentence 56 = .ok (.iload 4, 2) := by decide +kernel
theorem nd_Mo_readSentence_58 : decode nc_Mo_readSentence 58 = .ok (.bipush 6, 2) := by decide +kernel
theorem nd_Mo_readSentence_60 : decode nc_Mo_readSentence 60 = .ok (.if_icmp .ne 5, 3) := by decide +kernel
theorem nd_Mo_readSentence_63 : decode nc_Mo_readSentence 63 = .ok (.iconst (-1), 1) := by decide +kernel
theorem nd_Mo_readSentence_64 : decode nc_Mo_readSentence 64 = .ok (.ireturn, 1) := by decide +kernel
theorem nd_Mo_readSentence_65 : decode nc_Mo_readSentence 65 = .ok (.iconst 3, 1) := by decide +kernel
theorem nd_Mo_readSentence_66 : decode nc_Mo_readSentence 66 = .ok (.bipush 6, 2) := by decide +kernel
theorem nd_Mo_readSentence_68 : decode nc_Mo_readSentence 68 = .ok (.iload_n 1, 1) := by decide +kernel
theorem nd_Mo_readSentence_69 : decode nc_Mo_readSentence 69 = .ok (.imul, 1) := by decide +kernel
theorem nd_Mo_readSentence_70 : decode nc_Mo_readSentence 70 = .ok (.iload 4, 2) := by decide +kernel
theorem nd_Mo_readSentence_72 : decode nc_Mo_readSentence 72 = .ok (.iadd, 1) := by decide +kernel
theorem nd_Mo_readSentence_73 : decode nc_Mo_readSentence 73 = .ok (.imul, 1) := by decide +kernel
theorem nd_Mo_readSentence_74 : decode nc_Mo_readSentence 74 = .ok (.istore 9, 2) := by decide +kernel
theorem nd_Mo_readSentence_76 : decode nc_Mo_readSentence 76 = .ok (.aload_n 0, 1) := by decide +kernel
theorem nd_Mo_readSentence_77 : decode nc_Mo_readSentence 77 = .ok (.getfield 25, 3) := by decide +kernel
theorem nd_Mo_readSentence_80 : decode nc_Mo_readSentence 80 = .ok (.iload 9, 2) := by decide +kernel
theorem nd_Mo_readSentence_82 : decode nc_Mo_readSentence 82 = .ok (.aload_n 0, 1) := by decide +kernel
theorem nd_Mo_readSentence_83 : decode nc_Mo_readSentence 83 = .ok (.iconst 0, 1) := by decide +kernel
theorem nd_Mo_readSentence_84 : decode nc_Mo_readSentence 84 = .ok (.iload 5, 2) := by decide +kernel
theorem nd_Mo_readSentence_86 : decode nc_Mo_readSentence 86 = .ok (.iload 8, 2) := by decide +kernel
theorem nd_Mo_readSentence_88 : decode nc_Mo_readSentence 88 = .ok (.invokevirtual 78, 3) := by decide +kernel
theorem nd_Mo_readSentence_91 : decode nc_Mo_readSentence 91 = .ok (.iastore, 1) := by decide +kernel
theorem nd_Mo_readSentence_92 : decode nc_Mo_readSentence 92 = .ok (.aload_n 0, 1) := by decide +kernel
theorem nd_Mo_readSentence_93 : decode nc_Mo_readSentence 93 = .ok (.getfield 25, 3) := by decide +kernel
theorem nd_Mo_readSentence_96 : decode nc_Mo_readSentence 96 = .ok (.iload 9, 2) := by decide +kernel
theorem nd_Mo_readSentence_98 : decode nc_Mo_readSentence 98 = .ok (.iconst 1, 1) := by decide +kernel
theorem nd_Mo_readSentence_99 : decode nc_Mo_readSentence 99 = .ok (.iadd, 1) := by decide +kernel
theorem nd_Mo_readSentence_100 : decode nc_Mo_readSentence 100 = .ok (.aload_n 0, 1) := by decide +kernel
theorem nd_Mo_readSentence_101 : decode nc_Mo_readSentence 101 = .ok (.bipush 45, 2) := by decide +kernel
theorem nd_Mo_readSentence_103 : decode nc_Mo_readSentence 103 = .ok (.iload 8, 2) := by decide +kernel
theorem nd_Mo_readSentence_105 : decode nc_Mo_readSentence 105 = .ok (.iload 5, 2) := by decide +kernel
theorem nd_Mo_readSentence_107 : decode nc_Mo_readSentence 107 = .ok (.isub, 1) := by decide +kernel
theorem nd_Mo_readSentence_108 : decode nc_Mo_readSentence 108 = .ok (.iconst 1, 1) := by decide +kernel
theorem nd_Mo_readSentence_109 : decode nc_Mo_readSentence 109 = .ok (.if_icmp .le 10, 3) := by decide +kernel
theorem nd_Mo_readSentence_112 : decode nc_Mo_readSentence 112 = .ok (.iload 8, 2) := by decide +kernel
theorem nd_Mo_readSentence_114 : decode nc_Mo_readSentence 114 = .ok (.iconst 2, 1) := by decide +kernel
theorem nd_Mo_readSentence_115 : decode nc_Mo_readSentence 115 = .ok (.isub, 1) := by decide +kernel
theorem nd_Mo_readSentence_116 : decode nc_Mo_readSentence 116 = .ok (.goto 5, 3) := by decide +kernel
theorem nd_Mo_readSentence_119 : decode nc_Mo_readSentence 119 = .ok (.iload 5, 2) := by decide +kernel
theorem nd_Mo_readSentence_121 : decode nc_Mo_readSentence 121 = .ok (.iload 8, 2) := by decide +kernel
theorem nd_Mo_readSentence_123 : decode nc_Mo_readSentence 123 = .ok (.invokevirtual 78, 3) := by decide +kernel
theorem nd_Mo_readSentence_126 : decode nc_Mo_readSentence 126 = .ok (.iastore, 1) := by decide +kernel
theorem nd_Mo_readSentence_127 : decode nc_Mo_readSentence 127 = .ok (.aload_n 0, 1) := by decide +kernel
theorem nd_Mo_readSentence_128 : decode nc_Mo_readSentence 128 = .ok (.getfield 25, 3) := by decide +kernel
theorem nd_Mo_readSentence_131 : decode nc_Mo_readSentence 131 = .ok (.iload 9, 2) := by decide +kernel
theorem nd_Mo_readSentence_133 : decode nc_Mo_readSentence 133 = .ok (.iconst 2, 1) := by decide +kernel
theorem nd_Mo_readSentence_134 : decode nc_Mo_readSentence 134 = .ok (.iadd, 1) := by decide +kernel
theorem nd_Mo_readSentence_135 : decode nc_Mo_readSentence 135 = .ok (.aload_n 0, 1) := by decide +kernel
theorem nd_Mo_readSentence_136 : decode nc_Mo_readSentence 136 = .ok (.bipush 60, 2) := by decide +kernel
theorem nd_Mo_readSentence_138 : decode nc_Mo_readSentence 138 = .ok (.iload 6, 2) := by decide +kernel
theorem nd_Mo_readSentence_140 : decode nc_Mo_readSentence 140 = .ok (.iload 7, 2) := by decide +kernel
theorem nd_Mo_readSentence_142 : decode nc_Mo_readSentence 142 = .ok (.invokevirtual 78, 3) := by decide +kernel
theorem nd_Mo_readSentence_145 : decode nc_Mo_readSentence 145 = .ok (.iastore, 1) := by decide +kernel
theorem nd_Mo_readSentence_146 : decode nc_Mo_readSentence 146 = .ok (.iload 5, 2) := by decide +kernel
theorem nd_Mo_readSentence_148 : decode nc_Mo_readSentence 148 = .ok (.istore 6, 2) := by decide +kernel
theorem nd_Mo_readSentence_150 : decode nc_Mo_readSentence 150 = .ok (.iload 8, 2) := by decide +kernel
theorem nd_Mo_readSentence_152 : decode nc_Mo_readSentence 152 = .ok (.istore 7, 2) := by decide +kernel
theorem nd_Mo_readSentence_154 : decode nc_Mo_readSentence 154 = .ok (.iload 8, 2) := by decide +kernel
theorem nd_Mo_readSentence_156 : decode nc_Mo_readSentence 156 = .ok (.istore 5, 2) := by decide +kernel
theorem nd_Mo_readSentence_158 : decode nc_Mo_readSentence 158 = .ok (.iload_n 3, 1) := by decide +kernel
theorem nd_Mo_readSentence_159 : decode nc_Mo_readSentence 159 = .ok (.ifCond .eq 85, 3) := by decide +kernel
theorem nd_Mo_readSentence_162 : decode nc_Mo_readSentence 162 = .ok (.aload_n 0, 1) := by decide +kernel
theorem nd_Mo_readSentence_163 : decode nc_Mo_readSentence 163 = .ok (.iload 5, 2) := by decide +kernel
theorem nd_Mo_readSentence_165 : decode nc_Mo_readSentence 165 = .ok (.bipush 47, 2) := by decide +kernel
theorem nd_Mo_readSentence_167 : decode nc_Mo_readSentence 167 = .ok (.invokevirtual 63, 3) := by decide +kernel
theorem nd_Mo_readSentence_170 : decode nc_Mo_readSentence 170 = .ok (.ifCond .eq 42, 3) := by decide +kernel
theorem nd_Mo_readSentence_173 : decode nc_Mo_readSentence 173 = .ok (.iload 5, 2) := by decide +kernel
theorem nd_Mo_readSentence_175 : decode nc_Mo_readSentence 175 = .ok (.iconst 1, 1) := by decide +kernel
theorem nd_Mo_readSentence_176 : decode nc_Mo_readSentence 176 = .ok (.iadd, 1) := by decide +kernel
theorem nd_Mo_readSentence_177 : decode nc_Mo_readSentence 177 = .ok (.aload_n 0, 1) := by decide +kernel
theorem nd_Mo_readSentence_178 : decode nc_Mo_readSentence 178 = .ok (.getfield 56, 3) := by decide +kernel
theorem nd_Mo_readSentence_181 : decode nc_Mo_readSentence 181 = .ok (.if_icmp .ge 31, 3) := by decide +kernel
theorem nd_Mo_readSentence_184 : decode nc_Mo_readSentence 184 = .ok (.aload_n 0, 1) := by decide +kernel
theorem nd_Mo_readSentence_185 : decode nc_Mo_readSentence 185 = .ok (.getfield 7, 3) := by decide +kernel
theorem nd_Mo_readSentence_188 : decode nc_Mo_readSentence 188 = .ok (.iload 5, 2) := by decide +kernel
theorem nd_Mo_readSentence_190 : decode nc_Mo_readSentence 190 = .ok (.iconst 1, 1) := by decide +kernel
theorem nd_Mo_readSentence_191 : decode nc_Mo_readSentence 191 = .ok (.iadd, 1) := by decide +kernel
theorem nd_Mo_readSentence_192 : decode nc_Mo_readSentence 192 = .ok (.iaload, 1) := by decide +kernel
theorem nd_Mo_readSentence_193 : decode nc_Mo_readSentence 193 = .ok (.bipush 65, 2) := by decide +kernel
theorem nd_Mo_readSentence_195 : decode nc_Mo_readSentence 195 = .ok (.if_icmp .lt 17, 3) := by decide +kernel
theorem nd_Mo_readSentence_198 : decode nc_Mo_readSentence 198 = .ok (.aload_n 0, 1) := by decide +kernel
theorem nd_Mo_readSentence_199 : decode nc_Mo_readSentence 199 = .ok (.getfield 7, 3) := by decide +kernel
theorem nd_Mo_readSentence_202 : decode nc_Mo_readSentence 202 = .ok (.iload 5, 2) := by decide +kernel
theorem nd_Mo_readSentence_204 : decode nc_Mo_readSentence 204 = .ok (.iconst 1, 1) := by decide +kernel
theorem nd_Mo_readSentence_205 : decode nc_Mo_readSentence 205 = .ok (.iadd, 1) := by decide +kernel
theorem nd_Mo_readSentence_206 : decode nc_Mo_readSentence 206 = .ok (.iaload, 1) := by decide +kernel
theorem nd_Mo_readSentence_207 : decode nc_Mo_readSentence 207 = .ok (.bipush 68, 2) := by decide +kernel
theorem nd_Mo_readSentence_209 : decode nc_Mo_readSentence 209 = .ok (.if_icmp .le 5, 3) := by decide +kernel
theorem nd_Mo_readSentence_212 : decode nc_Mo_readSentence 212 = .ok (.iconst (-1), 1) := by decide +kernel
theorem nd_Mo_readSentence_213 : decode nc_Mo_readSentence 213 = .ok (.ireturn, 1) := by decide +kernel
theorem nd_Mo_readSentence_214 : decode nc_Mo_readSentence 214 = .ok (.aload_n 0, 1) := by decide +kernel
theorem nd_Mo_readSentence_215 : decode nc_Mo_readSentence 215 = .ok (.getfield 28, 3) := by decide +kernel
theorem nd_Mo_readSentence_218 : decode nc_Mo_readSentence 218 = .ok (.bipush 6, 2) := by decide +kernel
theorem nd_Mo_readSentence_220 : decode nc_Mo_readSentence 220 = .ok (.iload_n 1, 1) := by decide +kernel
theorem nd_Mo_readSentence_221 : decode nc_Mo_readSentence 221 = .ok (.imul, 1) := by decide +kernel
theorem nd_Mo_readSentence_222 : decode nc_Mo_readSentence 222 = .ok (.iload 4, 2) := by decide +kernel
theorem nd_Mo_readSentence_224 : decode nc_Mo_readSentence 224 = .ok (.iadd, 1) := by decide +kernel
theorem nd_Mo_readSentence_225 : decode nc_Mo_readSentence 225 = .ok (.aload_n 0, 1) := by decide +kernel
theorem nd_Mo_readSentence_226 : decode nc_Mo_readSentence 226 = .ok (.getfield 7, 3) := by decide +kernel
theorem nd_Mo_readSentence_229 : decode nc_Mo_readSentence 229 = .ok (.iload 5, 2) := by decide +kernel
theorem nd_Mo_readSentence_231 : decode nc_Mo_readSentence 231 = .ok (.iconst 1, 1) := by decide +kernel
theorem nd_Mo_readSentence_232 : decode nc_Mo_readSentence 232 = .ok (.iadd, 1) := by decide +kernel
theorem nd_Mo_readSentence_233 : decode nc_Mo_readSentence 233 = .ok (.iaload, 1) := by decide +kernel
theorem nd_Mo_readSentence_234 : decode nc_Mo_readSentence 234 = .ok (.bipush 65, 2) := by decide +kernel
theorem nd_Mo_readSentence_236 : decode nc_Mo_readSentence 236 = .ok (.isub, 1) := by decide +kernel
theorem nd_Mo_readSentence_237 : decode nc_Mo_readSentence 237 = .ok (.iastore, 1) := by decide +kernel
theorem nd_Mo_readSentence_238 : decode nc_Mo_readSentence 238 = .ok (.iload 5, 2) := by decide +kernel
theorem nd_Mo_readSentence_240 : decode nc_Mo_readSentence 240 = .ok (.iconst 2, 1) := by decide +kernel
theorem nd_Mo_readSentence_241 : decode nc_Mo_readSentence 241 = .ok (.iadd, 1) := by decide +kernel
theorem nd_Mo_readSentence_242 : decode nc_Mo_readSentence 242 = .ok (.istore 5, 2) := by decide +kernel
theorem nd_Mo_readSentence_244 : decode nc_Mo_readSentence 244 = .ok (.iinc 4 1, 3) := by decide +kernel
theorem nd_Mo_readSentence_247 : decode nc_Mo_readSentence 247 = .ok (.aload_n 0, 1) := by decide +kernel
theorem nd_Mo_readSentence_248 : decode nc_Mo_readSentence 248 = .ok (.iload 5, 2) := by decide +kernel
theorem nd_Mo_readSentence_250 : decode nc_Mo_readSentence 250 = .ok (.invokevirtual 71, 3) := by decide +kernel
theorem nd_Mo_readSentence_253 : decode nc_Mo_readSentence 253 = .ok (.istore 10, 2) := by decide +kernel
theorem nd_Mo_readSentence_255 : decode nc_Mo_readSentence 255 = .ok (.iload 10, 2) := by decide +kernel
theorem nd_Mo_readSentence_257 : decode nc_Mo_readSentence 257 = .ok (.iload 5, 2) := by decide +kernel
theorem nd_Mo_readSentence_259 : decode nc_Mo_readSentence 259 = .ok (.if_icmp .ne 14, 3) := by decide +kernel
theorem nd_Mo_readSentence_262 : decode nc_Mo_readSentence 262 = .ok (.aload_n 0, 1) := by decide +kernel
theorem nd_Mo_readSentence_263 : decode nc_Mo_readSentence 263 = .ok (.iload 5, 2) := by decide +kernel
theorem nd_Mo_readSentence_265 : decode nc_Mo_readSentence 265 = .ok (.invokevirtual 74, 3) := by decide +kernel
theorem nd_Mo_readSentence_268 : decode nc_Mo_readSentence 268 = .ok (.ifCond .eq 5, 3) := by decide +kernel
theorem nd_Mo_readSentence_271 : decode nc_Mo_readSentence 271 = .ok (.iconst (-1), 1) := by decide +kernel
theorem nd_Mo_readSentence_272 : decode nc_Mo_readSentence 272 = .ok (.ireturn, 1) := by decide +kernel
theorem nd_Mo_readSentence_273 : decode nc_Mo_readSentence 273 = .ok (.iload 10, 2) := by decide +kernel
theorem nd_Mo_readSentence_275 : decode nc_Mo_readSentence 275 = .ok (.istore 5, 2) := by decide +kernel
theorem nd_Mo_readSentence_277 : decode nc_Mo_readSentence 277 = .ok (.goto (-259), 3) := by decide +kernel
theorem nd_Mo_readSentence_280 : decode nc_Mo_readSentence 280 = .ok (.aload_n 0, 1) := by decide +kernel
theorem nd_Mo_readSentence_281 : decode nc_Mo_readSentence 281 = .ok (.getfield 22, 3) := by decide +kernel
theorem nd_Mo_readSentence_284 : decode nc_Mo_readSentence 284 = .ok (.iload_n 1, 1) := by decide +kernel
theorem nd_Mo_readSentence_285 : decode nc_Mo_readSentence 285 = .ok (.iload 4, 2) := by decide +kernel
theorem nd_Mo_readSentence_287 : decode nc_Mo_readSentence 287 = .ok (.iastore, 1) := by decide +kernel
theorem nd_Mo_readSentence_288 : decode nc_Mo_readSentence 288 = .ok (.iload 4, 2) := by decide +kernel
theorem nd_Mo_readSentence_290 : decode nc_Mo_readSentence 290 = .ok (.ifCond .ne 7, 3) := by decide +kernel
theorem nd_Mo_readSentence_293 : decode nc_Mo_readSentence 293 = .ok (.iconst (-1), 1) := by decide +kernel
theorem nd_Mo_readSentence_294 : decode nc_Mo_readSentence 294 = .ok (.goto 5, 3) := by decide +kernel
theorem nd_Mo_readSentence_297 : decode nc_Mo_readSentence 297 = .ok (.iload 5, 2) := by decide +kernel
theorem nd_Mo_readSentence_299 : decode nc_Mo_readSentence 299 = .ok (.ireturn, 1) := by decide +kernel
theorem nd_Mo_take_0 : decode nc_Mo_take 0 = .ok (.aload_n 0, 1) := by decide +kernel
theorem nd_Mo_take_1 : decode nc_Mo_take 1 = .ok (.getfield 13, 3) := by decide +kernel
theorem nd_Mo_take_4 : decode nc_Mo_take 4 = .ok (.iload_n 1, 1) := by decide +kernel
theorem nd_Mo_take_5 : decode nc_Mo_take 5 = .ok (.aload_n 0, 1) := by decide +kernel
theorem nd_Mo_take_6 : decode nc_Mo_take 6 = .ok (.getfield 22, 3) := by decide +kernel
theorem nd_Mo_take_9 : decode nc_Mo_take 9 = .ok (.iload_n 1, 1) := by decide +kernel
theorem nd_Mo_take_10 : decode nc_Mo_take 10 = .ok (.iaload, 1) := by decide +kernel
theorem nd_Mo_take_11 : decode nc_Mo_take 11 = .ok (.iastore, 1) := by decide +kernel
theorem nd_Mo_take_12 : decode nc_Mo_take 12 = .ok (.iconst 0, 1) := by decide +kernel
theorem nd_Mo_take_13 : decode nc_Mo_take 13 = .ok (.istore_n 2, 1) := by decide +kernel
theorem nd_Mo_take_14 : decode nc_Mo_take 14 = .ok (.iload_n 2, 1) := by decide +kernel
theorem nd_Mo_take_15 : decode nc_Mo_take 15 = .ok (.bipush 18, 2) := by decide +kernel
theorem nd_Mo_take_17 : decode nc_Mo_take 17 = .ok (.if_icmp .ge 31, 3) := by decide +kernel
theorem nd_Mo_take_20 : decode nc_Mo_take 20 = .ok (.aload_n 0, 1) := by decide +kernel
end
section
theorem nd_Mo_take_21 : decode nc_Mo_take 21 = .ok (.getfield 16, 3) := by decide +kernel
theorem nd_Mo_take_24 : decode nc_Mo_take 24 = .ok (.bipush 18, 2) := by decide +kernel
theorem nd_Mo_take_26 : decode nc_Mo_take 26 = .ok (.iload_n 1, 1) := by decide +kernel
theorem nd_Mo_take_27 : decode nc_Mo_take 27 = .ok (.imul, 1) := by decide +kernel
theorem nd_Mo_take_28 : decode nc_Mo_take 28 = .ok (.iload_n 2, 1) := by decide +kernel
theorem nd_Mo_take_29 : decode nc_Mo_take 29 = .ok (.iadd, 1) := by decide +kernel
theorem nd_Mo_take_30 : decode nc_Mo_take 30 = .ok (.aload_n 0, 1) := by decide +kernel
theorem nd_Mo_take_31 : decode nc_Mo_take 31 = .ok (.getfield 25, 3) := by decide +kernel
theorem nd_Mo_take_34 : decode nc_Mo_take 34 = .ok (.bipush 18, 2) := by decide +kernel
theorem nd_Mo_take_36 : decode nc_Mo_take 36 = .ok (.iload_n 1, 1) := by decide +kernel
theorem nd_Mo_take_37 : decode nc_Mo_take 37 = .ok (.imul, 1) := by decide +kernel
theorem nd_Mo_take_38 : decode nc_Mo_take 38 = .ok (.iload_n 2, 1) := by decide +kernel
theorem nd_Mo_take_39 : decode nc_Mo_take 39 = .ok (.iadd, 1) := by decide +kernel
theorem nd_Mo_take_40 : decode nc_Mo_take 40 = .ok (.iaload, 1) := by decide +kernel
theorem nd_Mo_take_41 : decode nc_Mo_take 41 = .ok (.iastore, 1) := by decide +kernel
theorem nd_Mo_take_42 : decode nc_Mo_take 42 = .ok (.iinc 2 1, 3) := by decide +kernel
theorem nd_Mo_take_45 : decode nc_Mo_take 45 = .ok (.goto (-31), 3) := by decide +kernel
theorem nd_Mo_take_48 : decode nc_Mo_take 48 = .ok (.iconst 0, 1) := by decide +kernel
theorem nd_Mo_take_49 : decode nc_Mo_take 49 = .ok (.istore_n 2, 1) := by decide +kernel
theorem nd_Mo_take_50 : decode nc_Mo_take 50 = .ok (.iload_n 2, 1) := by decide +kernel
theorem nd_Mo_take_51 : decode nc_Mo_take 51 = .ok (.bipush 6, 2) := by decide +kernel
theorem nd_Mo_take_53 : decode nc_Mo_take 53 = .ok (.if_icmp .ge 31, 3) := by decide +kernel
theorem nd_Mo_take_56 : decode nc_Mo_take 56 = .ok (.aload_n 0, 1) := by decide +kernel
theorem nd_Mo_take_57 : decode nc_Mo_take 57 = .ok (.getfield 19, 3) := by decide +kernel
theorem nd_Mo_take_60 : decode nc_Mo_take 60 = .ok (.bipush 6, 2) := by decide +kernel
theorem nd_Mo_take_62 : decode nc_Mo_take 62 = .ok (.iload_n 1, 1) := by decide +kernel
theorem nd_Mo_take_63 : decode nc_Mo_take 63 = .ok (.imul, 1) := by decide +kernel
theorem nd_Mo_take_64 : decode nc_Mo_take 64 = .ok (.iload_n 2, 1) := by decide +kernel
theorem nd_Mo_take_65 : decode nc_Mo_take 65 = .ok (.iadd, 1) := by decide +kernel
theorem nd_Mo_take_66 : decode nc_Mo_take 66 = .ok (.aload_n 0, 1) := by decide +kernel
theorem nd_Mo_take_67 : decode nc_Mo_take 67 = .ok (.getfield 28, 3) := by decide +kernel
theorem nd_Mo_take_70 : decode nc_Mo_take 70 = .ok (.bipush 6, 2) := by decide +kernel
theorem nd_Mo_take_72 : decode nc_Mo_take 72 = .ok (.iload_n 1, 1) := by decide +kernel
theorem nd_Mo_take_73 : decode nc_Mo_take 73 = .ok (.imul, 1) := by decide +kernel
theorem nd_Mo_take_74 : decode nc_Mo_take 74 = .ok (.iload_n 2, 1) := by decide +kernel
theorem nd_Mo_take_75 : decode nc_Mo_take 75 = .ok (.iadd, 1) := by decide +kernel
theorem nd_Mo_take_76 : decode nc_Mo_take 76 = .ok (.iaload, 1) := by decide +kernel
theorem nd_Mo_take_77 : decode nc_Mo_take 77 = .ok (.iastore, 1) := by decide +kernel
theorem nd_Mo_take_78 : decode nc_Mo_take 78 = .ok (.iinc 2 1, 3) := by decide +kernel
theorem nd_Mo_take_81 : decode nc_Mo_take 81 = .ok (.goto (-31), 3) := by decide +kernel
theorem nd_Mo_take_84 : decode nc_Mo_take 84 = .ok (.return_, 1) := by decide +kernel
theorem nd_Mo_load_0 : decode nc_Mo_load 0 = .ok (.aload_n 0, 1) := by decide +kernel
theorem nd_Mo_load_1 : decode nc_Mo_load 1 = .ok (.iconst 0, 1) := by decide +kernel
theorem nd_Mo_load_2 : decode nc_Mo_load 2 = .ok (.putfield 82, 3) := by decide +kernel
theorem nd_Mo_load_5 : decode nc_Mo_load 5 = .ok (.iconst 0, 1) := by decide +kernel
theorem nd_Mo_load_6 : decode nc_Mo_load 6 = .ok (.istore_n 1, 1) := by decide +kernel
theorem nd_Mo_load_7 : decode nc_Mo_load 7 = .ok (.iconst 1, 1) := by decide +kernel
theorem nd_Mo_load_8 : decode nc_Mo_load 8 = .ok (.istore_n 2, 1) := by decide +kernel
theorem nd_Mo_load_9 : decode nc_Mo_load 9 = .ok (.iload_n 2, 1) := by decide +kernel
theorem nd_Mo_load_10 : decode nc_Mo_load 10 = .ok (.ifCond .eq 72, 3) := by decide +kernel
theorem nd_Mo_load_13 : decode nc_Mo_load 13 = .ok (.aload_n 0, 1) := by decide +kernel
theorem nd_Mo_load_14 : decode nc_Mo_load 14 = .ok (.getfield 82, 3) := by decide +kernel
theorem nd_Mo_load_17 : decode nc_Mo_load 17 = .ok (.bipush 8, 2) := by decide +kernel
theorem nd_Mo_load_19 : decode nc_Mo_load 19 = .ok (.if_icmp .ne 7, 3) := by decide +kernel
theorem nd_Mo_load_22 : decode nc_Mo_load 22 = .ok (.iconst (-1), 1) := by decide +kernel
theorem nd_Mo_load_23 : decode nc_Mo_load 23 = .ok (.goto 13, 3) := by decide +kernel
theorem nd_Mo_load_26 : decode nc_Mo_load 26 = .ok (.aload_n 0, 1) := by decide +kernel
theorem nd_Mo_load_27 : decode nc_Mo_load 27 = .ok (.aload_n 0, 1) := by decide +kernel
theorem nd_Mo_load_28 : decode nc_Mo_load 28 = .ok (.getfield 82, 3) := by decide +kernel
theorem nd_Mo_load_31 : decode nc_Mo_load 31 = .ok (.iload_n 1, 1) := by decide +kernel
theorem nd_Mo_load_32 : decode nc_Mo_load 32 = .ok (.iconst 1, 1) := by decide +kernel
theorem nd_Mo_load_33 : decode nc_Mo_load 33 = .ok (.invokevirtual 85, 3) := by decide +kernel
theorem nd_Mo_load_36 : decode nc_Mo_load 36 = .ok (.istore_n 1, 1) := by decide +kernel
theorem nd_Mo_load_37 : decode nc_Mo_load 37 = .ok (.aload_n 0, 1) := by decide +kernel
theorem nd_Mo_load_38 : decode nc_Mo_load 38 = .ok (.dup, 1) := by decide +kernel
theorem nd_Mo_load_39 : decode nc_Mo_load 39 = .ok (.getfield 82, 3) := by decide +kernel
theorem nd_Mo_load_42 : decode nc_Mo_load 42 = .ok (.iconst 1, 1) := by decide +kernel
theorem nd_Mo_load_43 : decode nc_Mo_load 43 = .ok (.iadd, 1) := by decide +kernel
theorem nd_Mo_load_44 : decode nc_Mo_load 44 = .ok (.putfield 82, 3) := by decide +kernel
theorem nd_Mo_load_47 : decode nc_Mo_load 47 = .ok (.iload_n 1, 1) := by decide +kernel
theorem nd_Mo_load_48 : decode nc_Mo_load 48 = .ok (.ifCond .lt 17, 3) := by decide +kernel
theorem nd_Mo_load_51 : decode nc_Mo_load 51 = .ok (.aload_n 0, 1) := by decide +kernel
theorem nd_Mo_load_52 : decode nc_Mo_load 52 = .ok (.iload_n 1, 1) := by decide +kernel
theorem nd_Mo_load_53 : decode nc_Mo_load 53 = .ok (.bipush 59, 2) := by decide +kernel
theorem nd_Mo_load_55 : decode nc_Mo_load 55 = .ok (.invokevirtual 63, 3) := by decide +kernel
theorem nd_Mo_load_58 : decode nc_Mo_load 58 = .ok (.ifCond .eq 7, 3) := by decide +kernel
theorem nd_Mo_load_61 : decode nc_Mo_load 61 = .ok (.iconst 1, 1) := by decide +kernel
theorem nd_Mo_load_62 : decode nc_Mo_load 62 = .ok (.goto 4, 3) := by decide +kernel
theorem nd_Mo_load_65 : decode nc_Mo_load 65 = .ok (.iconst 0, 1) := by decide +kernel
theorem nd_Mo_load_66 : decode nc_Mo_load 66 = .ok (.istore_n 2, 1) := by decide +kernel
theorem nd_Mo_load_67 : decode nc_Mo_load 67 = .ok (.iload_n 2, 1) := by decide +kernel
theorem nd_Mo_load_68 : decode nc_Mo_load 68 = .ok (.ifCond .eq 9, 3) := by decide +kernel
theorem nd_Mo_load_71 : decode nc_Mo_load 71 = .ok (.iload_n 1, 1) := by decide +kernel
theorem nd_Mo_load_72 : decode nc_Mo_load 72 = .ok (.iconst 1, 1) := by decide +kernel
theorem nd_Mo_load_73 : decode nc_Mo_load 73 = .ok (.iadd, 1) := by decide +kernel
theorem nd_Mo_load_74 : decode nc_Mo_load 74 = .ok (.goto 4, 3) := by decide +kernel
theorem nd_Mo_load_77 : decode nc_Mo_load 77 = .ok (.iload_n 1, 1) := by decide +kernel
theorem nd_Mo_load_78 : decode nc_Mo_load 78 = .ok (.istore_n 1, 1) := by decide +kernel
theorem nd_Mo_load_79 : decode nc_Mo_load 79 = .ok (.goto (-70), 3) := by decide +kernel
theorem nd_Mo_load_82 : decode nc_Mo_load 82 = .ok (.aload_n 0, 1) := by decide +kernel
theorem nd_Mo_load_83 : decode nc_Mo_load 83 = .ok (.iload_n 1, 1) := by decide +kernel
theorem nd_Mo_load_84 : decode nc_Mo_load 84 = .ok (.aload_n 0, 1) := by decide +kernel
theorem nd_Mo_load_85 : decode nc_Mo_load 85 = .ok (.getfield 56, 3) := by decide +kernel
theorem nd_Mo_load_88 : decode nc_Mo_load 88 = .ok (.if_icmp .ne 7, 3) := by decide +kernel
theorem nd_Mo_load_91 : decode nc_Mo_load 91 = .ok (.iconst 0, 1) := by decide +kernel
theorem nd_Mo_load_92 : decode nc_Mo_load 92 = .ok (.goto 4, 3) := by decide +kernel
theorem nd_Mo_load_95 : decode nc_Mo_load 95 = .ok (.iconst 1, 1) := by decide +kernel
theorem nd_Mo_load_96 : decode nc_Mo_load 96 = .ok (.putfield 51, 3) := by decide +kernel
theorem nd_Mo_load_99 : decode nc_Mo_load 99 = .ok (.aload_n 0, 1) := by decide +kernel
theorem nd_Mo_load_100 : decode nc_Mo_load 100 = .ok (.getfield 51, 3) := by decide +kernel
theorem nd_Mo_load_103 : decode nc_Mo_load 103 = .ok (.ifCond .le 5, 3) := by decide +kernel
theorem nd_Mo_load_106 : decode nc_Mo_load 106 = .ok (.iconst 0, 1) := by decide +kernel
theorem nd_Mo_load_107 : decode nc_Mo_load 107 = .ok (.ireturn, 1) := by decide +kernel
theorem nd_Mo_load_108 : decode nc_Mo_load 108 = .ok (.aload_n 0, 1) := by decide +kernel
theorem nd_Mo_load_109 : decode nc_Mo_load 109 = .ok (.aload_n 0, 1) := by decide +kernel
theorem nd_Mo_load_110 : decode nc_Mo_load 110 = .ok (.getfield 82, 3) := by decide +kernel
theorem nd_Mo_load_113 : decode nc_Mo_load 113 = .ok (.putfield 89, 3) := by decide +kernel
theorem nd_Mo_load_116 : decode nc_Mo_load 116 = .ok (.iconst 0, 1) := by decide +kernel
theorem nd_Mo_load_117 : decode nc_Mo_load 117 = .ok (.istore_n 3, 1) := by decide +kernel
theorem nd_Mo_load_118 : decode nc_Mo_load 118 = .ok (.iload_n 3, 1) := by decide +kernel
theorem nd_Mo_load_119 : decode nc_Mo_load 119 = .ok (.aload_n 0, 1) := by decide +kernel
theorem nd_Mo_load_120 : decode nc_Mo_load 120 = .ok (.getfield 89, 3) := by decide +kernel
theorem nd_Mo_load_123 : decode nc_Mo_load 123 = .ok (.if_icmp .ge 14, 3) := by decide +kernel
theorem nd_Mo_load_126 : decode nc_Mo_load 126 = .ok (.aload_n 0, 1) := by decide +kernel
theorem nd_Mo_load_127 : decode nc_Mo_load 127 = .ok (.iload_n 3, 1) := by decide +kernel
theorem nd_Mo_load_128 : decode nc_Mo_load 128 = .ok (.invokevirtual 92, 3) := by decide +kernel
theorem nd_Mo_load_131 : decode nc_Mo_load 131 = .ok (.iinc 3 1, 3) := by decide +kernel
theorem nd_Mo_load_134 : decode nc_Mo_load 134 = .ok (.goto (-16), 3) := by decide +kernel
theorem nd_Mo_load_137 : decode nc_Mo_load 137 = .ok (.aload_n 0, 1) := by decide +kernel
theorem nd_Mo_load_138 : decode nc_Mo_load 138 = .ok (.iconst 0, 1) := by decide +kernel
theorem nd_Mo_load_139 : decode nc_Mo_load 139 = .ok (.putfield 56, 3) := by decide +kernel
theorem nd_Mo_load_142 : decode nc_Mo_load 142 = .ok (.iconst 0, 1) := by decide +kernel
theorem nd_Mo_load_143 : decode nc_Mo_load 143 = .ok (.istore_n 3, 1) := by decide +kernel
theorem nd_Mo_load_144 : decode nc_Mo_load 144 = .ok (.iload_n 3, 1) := by decide +kernel
theorem nd_Mo_load_145 : decode nc_Mo_load 145 = .ok (.sipush 148, 3) := by decide +kernel
theorem nd_Mo_load_148 : decode nc_Mo_load 148 = .ok (.if_icmp .ge 23, 3) := by decide +kernel
theorem nd_Mo_load_151 : decode nc_Mo_load 151 = .ok (.aload_n 0, 1) := by decide +kernel
theorem nd_Mo_load_152 : decode nc_Mo_load 152 = .ok (.getfield 31, 3) := by decide +kernel
theorem nd_Mo_load_155 : decode nc_Mo_load 155 = .ok (.iload_n 3, 1) := by decide +kernel
theorem nd_Mo_load_156 : decode nc_Mo_load 156 = .ok (.lconst 0, 1) := by decide +kernel
theorem nd_Mo_load_157 : decode nc_Mo_load 157 = .ok (.lastore, 1) := by decide +kernel
theorem nd_Mo_load_158 : decode nc_Mo_load 158 = .ok (.aload_n 0, 1) := by decide +kernel
theorem nd_Mo_load_159 : decode nc_Mo_load 159 = .ok (.getfield 35, 3) := by decide +kernel
theorem nd_Mo_load_162 : decode nc_Mo_load 162 = .ok (.iload_n 3, 1) := by decide +kernel
theorem nd_Mo_load_163 : decode nc_Mo_load 163 = .ok (.lconst 0, 1) := by decide +kernel
theorem nd_Mo_load_164 : decode nc_Mo_load 164 = .ok (.lastore, 1) := by decide +kernel
theorem nd_Mo_load_165 : decode nc_Mo_load 165 = .ok (.iinc 3 1, 3) := by decide +kernel
theorem nd_Mo_load_168 : decode nc_Mo_load 168 = .ok (.goto (-24), 3) := by decide +kernel
theorem nd_Mo_load_171 : decode nc_Mo_load 171 = .ok (.aload_n 0, 1) := by decide +kernel
theorem nd_Mo_load_172 : decode nc_Mo_load 172 = .ok (.iconst 0, 1) := by decide +kernel
theorem nd_Mo_load_173 : decode nc_Mo_load 173 = .ok (.putfield 96, 3) := by decide +kernel
theorem nd_Mo_load_176 : decode nc_Mo_load 176 = .ok (.aload_n 0, 1) := by decide +kernel
theorem nd_Mo_load_177 : decode nc_Mo_load 177 = .ok (.iconst 0, 1) := by decide +kernel
theorem nd_Mo_load_178 : decode nc_Mo_load 178 = .ok (.putfield 99, 3) := by decide +kernel
theorem nd_Mo_load_181 : decode nc_Mo_load 181 = .ok (.aload_n 0, 1) := by decide +kernel
theorem nd_Mo_load_182 : decode nc_Mo_load 182 = .ok (.iconst (-1), 1) := by decide +kernel
theorem nd_Mo_load_183 : decode nc_Mo_load 183 = .ok (.putfield 47, 3) := by decide +kernel
theorem nd_Mo_load_186 : decode nc_Mo_load 186 = .ok (.aload_n 0, 1) := by decide +kernel
theorem nd_Mo_load_187 : decode nc_Mo_load 187 = .ok (.getfield 89, 3) := by decide +kernel
theorem nd_Mo_load_190 : decode nc_Mo_load 190 = .ok (.ireturn, 1) := by decide +kernel
theorem nd_Mo_speak_0 : decode nc_Mo_speak 0 = .ok (.aload_n 0, 1) := by decide +kernel
theorem nd_Mo_speak_1 : decode nc_Mo_speak 1 = .ok (.bipush 8, 2) := by decide +kernel
theorem nd_Mo_speak_3 : decode nc_Mo_speak 3 = .ok (.iconst 0, 1) := by decide +kernel
theorem nd_Mo_speak_4 : decode nc_Mo_speak 4 = .ok (.iconst 0, 1) := by decide +kernel
theorem nd_Mo_speak_5 : decode nc_Mo_speak 5 = .ok (.invokevirtual 85, 3) := by decide +kernel
theorem nd_Mo_speak_8 : decode nc_Mo_speak 8 = .ok (.istore_n 1, 1) := by decide +kernel
theorem nd_Mo_speak_9 : decode nc_Mo_speak 9 = .ok (.aload_n 0, 1) := by decide +kernel
theorem nd_Mo_speak_10 : decode nc_Mo_speak 10 = .ok (.iload_n 1, 1) := by decide +kernel
theorem nd_Mo_speak_11 : decode nc_Mo_speak 11 = .ok (.aload_n 0, 1) := by decide +kernel
theorem nd_Mo_speak_12 : decode nc_Mo_speak 12 = .ok (.getfield 56, 3) := by decide +kernel
theorem nd_Mo_speak_15 : decode nc_Mo_speak 15 = .ok (.if_icmp .ne 11, 3) := by decide +kernel
theorem nd_Mo_speak_18 : decode nc_Mo_speak 18 = .ok (.iload_n 1, 1) := by decide +kernel
theorem nd_Mo_speak_19 : decode nc_Mo_speak 19 = .ok (.ifCond .lt 7, 3) := by decide +kernel
theorem nd_Mo_speak_22 : decode nc_Mo_speak 22 = .ok (.iconst 0, 1) := by decide +kernel
theorem nd_Mo_speak_23 : decode nc_Mo_speak 23 = .ok (.goto 4, 3) := by decide +kernel
theorem nd_Mo_speak_26 : decode nc_Mo_speak 26 = .ok (.iconst 1, 1) := by decide +kernel
theorem nd_Mo_speak_27 : decode nc_Mo_speak 27 = .ok (.putfield 51, 3) := by decide +kernel
theorem nd_Mo_speak_30 : decode nc_Mo_speak 30 = .ok (.aload_n 0, 1) := by decide +kernel
theorem nd_Mo_speak_31 : decode nc_Mo_speak 31 = .ok (.getfield 51, 3) := by decide +kernel
theorem nd_Mo_speak_34 : decode nc_Mo_speak 34 = .ok (.ifCond .le 5, 3) := by decide +kernel
theorem nd_Mo_speak_37 : decode nc_Mo_speak 37 = .ok (.iconst 0, 1) := by decide +kernel
theorem nd_Mo_speak_38 : decode nc_Mo_speak 38 = .ok (.ireturn, 1) := by decide +kernel
theorem nd_Mo_speak_39 : decode nc_Mo_speak 39 = .ok (.aload_n 0, 1) := by decide +kernel
theorem nd_Mo_speak_40 : decode nc_Mo_speak 40 = .ok (.bipush 8, 2) := by decide +kernel
theorem nd_Mo_speak_42 : decode nc_Mo_speak 42 = .ok (.invokevirtual 92, 3) := by decide +kernel
theorem nd_Mo_speak_45 : decode nc_Mo_speak 45 = .ok (.aload_n 0, 1) := by decide +kernel
theorem nd_Mo_speak_46 : decode nc_Mo_speak 46 = .ok (.iconst 0, 1) := by decide +kernel
theorem nd_Mo_speak_47 : decode nc_Mo_speak 47 = .ok (.putfield 56, 3) := by decide +kernel
theorem nd_Mo_speak_50 : decode nc_Mo_speak 50 = .ok (.aload_n 0, 1) := by decide +kernel
theorem nd_Mo_speak_51 : decode nc_Mo_speak 51 = .ok (.iconst (-1), 1) := by decide +kernel
theorem nd_Mo_speak_52 : decode nc_Mo_speak 52 = .ok (.putfield 47, 3) := by decide +kernel
theorem nd_Mo_speak_55 : decode nc_Mo_speak 55 = .ok (.aload_n 0, 1) := by decide +kernel
theorem nd_Mo_speak_56 : decode nc_Mo_speak 56 = .ok (.getfield 13, 3) := by decide +kernel
theorem nd_Mo_speak_59 : decode nc_Mo_speak 59 = .ok (.bipush 8, 2) := by decide +kernel
theorem nd_Mo_speak_61 : decode nc_Mo_speak 61 = .ok (.iaload, 1) := by decide +kernel
theorem nd_Mo_speak_62 : decode nc_Mo_speak 62 = .ok (.ireturn, 1) := by decide +kernel
theorem nd_Mo_sentences_0 : decode nc_Mo_sentences 0 = .ok (.aload_n 0, 1) := by decide +kernel
theorem nd_Mo_sentences_1 : decode nc_Mo_sentences 1 = .ok (.iconst 0, 1) := by decide +kernel
theorem nd_Mo_sentences_2 : decode nc_Mo_sentences 2 = .ok (.putfield 51, 3) := by decide +kernel
theorem nd_Mo_sentences_5 : decode nc_Mo_sentences 5 = .ok (.aload_n 0, 1) := by decide +kernel
theorem nd_Mo_sentences_6 : decode nc_Mo_sentences 6 = .ok (.getfield 89, 3) := by decide +kernel
theorem nd_Mo_sentences_9 : decode nc_Mo_sentences 9 = .ok (.ireturn, 1) := by decide +kernel
theorem nd_Mo_place_0 : decode nc_Mo_place 0 = .ok (.iload_n 1, 1) := by decide +kernel
theorem nd_Mo_place_1 : decode nc_Mo_place 1 = .ok (.iconst (-1), 1) := by decide +kernel
theorem nd_Mo_place_2 : decode nc_Mo_place 2 = .ok (.if_icmp .ne 22, 3) := by decide +kernel
theorem nd_Mo_place_5 : decode nc_Mo_place 5 = .ok (.aload_n 0, 1) := by decide +kernel
theorem nd_Mo_place_6 : decode nc_Mo_place 6 = .ok (.getfield 13, 3) := by decide +kernel
theorem nd_Mo_place_9 : decode nc_Mo_place 9 = .ok (.bipush 8, 2) := by decide +kernel
theorem nd_Mo_place_11 : decode nc_Mo_place 11 = .ok (.iaload, 1) := by decide +kernel
theorem nd_Mo_place_12 : decode nc_Mo_place 12 = .ok (.ifCond .le 8, 3) := by decide +kernel
theorem nd_Mo_place_15 : decode nc_Mo_place 15 = .ok (.bipush 8, 2) := by decide +kernel
theorem nd_Mo_place_17 : decode nc_Mo_place 17 = .ok (.goto 24, 3) := by decide +kernel
theorem nd_Mo_place_20 : decode nc_Mo_place 20 = .ok (.iconst (-1), 1) := by decide +kernel
theorem nd_Mo_place_21 : decode nc_Mo_place 21 = .ok (.goto 20, 3) := by decide +kernel
theorem nd_Mo_place_24 : decode nc_Mo_place 24 = .ok (.iload_n 1, 1) := by decide +kernel
theorem nd_Mo_place_25 : decode nc_Mo_place 25 = .ok (.ifCond .lt 15, 3) := by decide +kernel
theorem nd_Mo_place_28 : decode nc_Mo_place 28 = .ok (.iload_n 1, 1) := by decide +kernel
theorem nd_Mo_place_29 : decode nc_Mo_place 29 = .ok (.aload_n 0, 1) := by decide +kernel
theorem nd_Mo_place_30 : decode nc_Mo_place 30 = .ok (.getfield 89, 3) := by decide +kernel
theorem nd_Mo_place_33 : decode nc_Mo_place 33 = .ok (.if_icmp .ge 7, 3) := by decide +kernel
theorem nd_Mo_place_36 : decode nc_Mo_place 36 = .ok (.iload_n 1, 1) := by decide +kernel
theorem nd_Mo_place_37 : decode nc_Mo_place 37 = .ok (.goto 4, 3) := by decide +kernel
theorem nd_Mo_place_40 : decode nc_Mo_place 40 = .ok (.iconst (-1), 1) := by decide +kernel
theorem nd_Mo_place_41 : decode nc_Mo_place 41 = .ok (.ireturn, 1) := by decide +kernel
theorem nd_Mo_wordsOf_0 : decode nc_Mo_wordsOf 0 = .ok (.aload_n 0, 1) := by decide +kernel
theorem nd_Mo_wordsOf_1 : decode nc_Mo_wordsOf 1 = .ok (.iload_n 1, 1) := by decide +kernel
theorem nd_Mo_wordsOf_2 : decode nc_Mo_wordsOf 2 = .ok (.invokevirtual 102, 3) := by decide +kernel
theorem nd_Mo_wordsOf_5 : decode nc_Mo_wordsOf 5 = .ok (.ifCond .ge 7, 3) := by decide +kernel
theorem nd_Mo_wordsOf_8 : decode nc_Mo_wordsOf 8 = .ok (.iconst 0, 1) := by decide +kernel
theorem nd_Mo_wordsOf_9 : decode nc_Mo_wordsOf 9 = .ok (.goto 13, 3) := by decide +kernel
theorem nd_Mo_wordsOf_12 : decode nc_Mo_wordsOf 12 = .ok (.aload_n 0, 1) := by decide +kernel
theorem nd_Mo_wordsOf_13 : decode nc_Mo_wordsOf 13 = .ok (.getfield 13, 3) := by decide +kernel
theorem nd_Mo_wordsOf_16 : decode nc_Mo_wordsOf 16 = .ok (.aload_n 0, 1) := by decide +kernel
theorem nd_Mo_wordsOf_17 : decode nc_Mo_wordsOf 17 = .ok (.iload_n 1, 1) := by decide +kernel
theorem nd_Mo_wordsOf_18 : decode nc_Mo_wordsOf 18 = .ok (.invokevirtual 102, 3) := by decide +kernel
theorem nd_Mo_wordsOf_21 : decode nc_Mo_wordsOf 21 = .ok (.iaload, 1) := by decide +kernel
theorem nd_Mo_wordsOf_22 : decode nc_Mo_wordsOf 22 = .ok (.ireturn, 1) := by decide +kernel
theorem nd_Mo_words_0 : decode nc_Mo_words 0 = .ok (.aload_n 0, 1) := by decide +kernel
theorem nd_Mo_words_1 : decode nc_Mo_words 1 = .ok (.aload_n 0, 1) := by decide +kernel
theorem nd_Mo_words_2 : decode nc_Mo_words 2 = .ok (.iload_n 1, 1) := by decide +kernel
theorem nd_Mo_words_3 : decode nc_Mo_words 3 = .ok (.invokevirtual 102, 3) := by decide +kernel
theorem nd_Mo_words_6 : decode nc_Mo_words 6 = .ok (.ifCond .ge 7, 3) := by decide +kernel
theorem nd_Mo_words_9 : decode nc_Mo_words 9 = .ok (.iconst 1, 1) := by decide +kernel
theorem nd_Mo_words_10 : decode nc_Mo_words 10 = .ok (.goto 4, 3) := by decide +kernel
theorem nd_Mo_words_13 : decode nc_Mo_words 13 = .ok (.iconst 0, 1) := by decide +kernel
theorem nd_Mo_words_14 : decode nc_Mo_words 14 = .ok (.putfield 51, 3) := by decide +kernel
theorem nd_Mo_words_17 : decode nc_Mo_words 17 = .ok (.aload_n 0, 1) := by decide +kernel
theorem nd_Mo_words_18 : decode nc_Mo_words 18 = .ok (.iload_n 1, 1) := by decide +kernel
theorem nd_Mo_words_19 : decode nc_Mo_words 19 = .ok (.invokevirtual 105, 3) := by decide +kernel
theorem nd_Mo_words_22 : decode nc_Mo_words 22 = .ok (.ireturn, 1) := by decide +kernel
theorem nd_Mo_given_0 : decode nc_Mo_given 0 = .ok (.aload_n 0, 1) := by decide +kernel
theorem nd_Mo_given_1 : decode nc_Mo_given 1 = .ok (.iload_n 1, 1) := by decide +kernel
theorem nd_Mo_given_2 : decode nc_Mo_given 2 = .ok (.ifCond .lt 16, 3) := by decide +kernel
theorem nd_Mo_given_5 : decode nc_Mo_given 5 = .ok (.iload_n 2, 1) := by decide +kernel
theorem nd_Mo_given_6 : decode nc_Mo_given 6 = .ok (.ifCond .lt 12, 3) := by decide +kernel
theorem nd_Mo_given_9 : decode nc_Mo_given 9 = .ok (.iload_n 2, 1) := by decide +kernel
theorem nd_Mo_given_10 : decode nc_Mo_given 10 = .ok (.aload_n 0, 1) := by decide +kernel
theorem nd_Mo_given_11 : decode nc_Mo_given 11 = .ok (.iload_n 1, 1) := by decide +kernel
theorem nd_Mo_given_12 : decode nc_Mo_given 12 = .ok (.invokevirtual 105, 3) := by decide +kernel
theorem nd_Mo_given_15 : decode nc_Mo_given 15 = .ok (.if_icmp .lt 7, 3) := by decide +kernel
theorem nd_Mo_given_18 : decode nc_Mo_given 18 = .ok (.iconst 1, 1) := by decide +kernel
theorem nd_Mo_given_19 : decode nc_Mo_given 19 = .ok (.goto 4, 3) := by decide +kernel
theorem nd_Mo_given_22 : decode nc_Mo_given 22 = .ok (.iconst 0, 1) := by decide +kernel
theorem nd_Mo_given_23 : decode nc_Mo_given 23 = .ok (.putfield 51, 3) := by decide +kernel
theorem nd_Mo_given_26 : decode nc_Mo_given 26 = .ok (.aload_n 0, 1) := by decide +kernel
theorem nd_Mo_given_27 : decode nc_Mo_given 27 = .ok (.getfield 51, 3) := by decide +kernel
theorem nd_Mo_given_30 : decode nc_Mo_given 30 = .ok (.ifCond .le 7, 3) := by decide +kernel
theorem nd_Mo_given_33 : decode nc_Mo_given 33 = .ok (.iconst 0, 1) := by decide +kernel
theorem nd_Mo_given_34 : decode nc_Mo_given 34 = .ok (.goto 14, 3) := by decide +kernel
theorem nd_Mo_given_37 : decode nc_Mo_given 37 = .ok (.aload_n 0, 1) := by decide +kernel
theorem nd_Mo_given_38 : decode nc_Mo_given 38 = .ok (.getfield 19, 3) := by decide +kernel
theorem nd_Mo_given_41 : decode nc_Mo_given 41 = .ok (.bipush 6, 2) := by decide +kernel
theorem nd_Mo_given_43 : decode nc_Mo_given 43 = .ok (.iload_n 1, 1) := by decide +kernel
theorem nd_Mo_given_44 : decode nc_Mo_given 44 = .ok (.imul, 1) := by decide +kernel
theorem nd_Mo_given_45 : decode nc_Mo_given 45 = .ok (.iload_n 2, 1) := by decide +kernel
theorem nd_Mo_given_46 : decode nc_Mo_given 46 = .ok (.iadd, 1) := by decide +kernel
theorem nd_Mo_given_47 : decode nc_Mo_given 47 = .ok (.iaload, 1) := by decide +kernel
theorem nd_Mo_given_48 : decode nc_Mo_given 48 = .ok (.ireturn, 1) := by decide +kernel
theorem nd_Mo_feature_0 : decode nc_Mo_feature 0 = .ok (.aload_n 0, 1) := by decide +kernel
theorem nd_Mo_feature_1 : decode nc_Mo_feature 1 = .ok (.iload_n 2, 1) := by decide +kernel
theorem nd_Mo_feature_2 : decode nc_Mo_feature 2 = .ok (.ifCond .lt 21, 3) := by decide +kernel
theorem nd_Mo_feature_5 : decode nc_Mo_feature 5 = .ok (.iload_n 2, 1) := by decide +kernel
theorem nd_Mo_feature_6 : decode nc_Mo_feature 6 = .ok (.aload_n 0, 1) := by decide +kernel
theorem nd_Mo_feature_7 : decode nc_Mo_feature 7 = .ok (.iload_n 1, 1) := by decide +kernel
theorem nd_Mo_feature_8 : decode nc_Mo_feature 8 = .ok (.invokevirtual 105, 3) := by decide +kernel
theorem nd_Mo_feature_11 : decode nc_Mo_feature 11 = .ok (.if_icmp .ge 12, 3) := by decide +kernel
theorem nd_Mo_feature_14 : decode nc_Mo_feature 14 = .ok (.iload_n 3, 1) := by decide +kernel
theorem nd_Mo_feature_15 : decode nc_Mo_feature 15 = .ok (.ifCond .lt 8, 3) := by decide +kernel
theorem nd_Mo_feature_18 : decode nc_Mo_feature 18 = .ok (.iload_n 3, 1) := by decide +kernel
theorem nd_Mo_feature_19 : decode nc_Mo_feature 19 = .ok (.iconst 2, 1) := by decide +kernel
theorem nd_Mo_feature_20 : decode nc_Mo_feature 20 = .ok (.if_icmp .le 7, 3) := by decide +kernel
theorem nd_Mo_feature_23 : decode nc_Mo_feature 23 = .ok (.iconst 1, 1) := by decide +kernel
theorem nd_Mo_feature_24 : decode nc_Mo_feature 24 = .ok (.goto 4, 3) := by decide +kernel
theorem nd_Mo_feature_27 : decode nc_Mo_feature 27 = .ok (.iconst 0, 1) := by decide +kernel
theorem nd_Mo_feature_28 : decode nc_Mo_feature 28 = .ok (.putfield 51, 3) := by decide +kernel
theorem nd_Mo_feature_31 : decode nc_Mo_feature 31 = .ok (.aload_n 0, 1) := by decide +kernel
theorem nd_Mo_feature_32 : decode nc_Mo_feature 32 = .ok (.getfield 51, 3) := by decide +kernel
theorem nd_Mo_feature_35 : decode nc_Mo_feature 35 = .ok (.ifCond .le 7, 3) := by decide +kernel
theorem nd_Mo_feature_38 : decode nc_Mo_feature 38 = .ok (.iconst 0, 1) := by decide +kernel
theorem nd_Mo_feature_39 : decode nc_Mo_feature 39 = .ok (.goto 22, 3) := by decide +kernel
theorem nd_Mo_feature_42 : decode nc_Mo_feature 42 = .ok (.aload_n 0, 1) := by decide +kernel
theorem nd_Mo_feature_43 : decode nc_Mo_feature 43 = .ok (.getfield 16, 3) := by decide +kernel
theorem nd_Mo_feature_46 : decode nc_Mo_feature 46 = .ok (.iconst 3, 1) := by decide +kernel
theorem nd_Mo_feature_47 : decode nc_Mo_feature 47 = .ok (.bipush 6, 2) := by decide +kernel
theorem nd_Mo_feature_49 : decode nc_Mo_feature 49 = .ok (.aload_n 0, 1) := by decide +kernel
theorem nd_Mo_feature_50 : decode nc_Mo_feature 50 = .ok (.iload_n 1, 1) := by decide +kernel
theorem nd_Mo_feature_51 : decode nc_Mo_feature 51 = .ok (.invokevirtual 102, 3) := by decide +kernel
theorem nd_Mo_feature_54 : decode nc_Mo_feature 54 = .ok (.imul, 1) := by decide +kernel
theorem nd_Mo_feature_55 : decode nc_Mo_feature 55 = .ok (.iload_n 2, 1) := by decide +kernel
theorem nd_Mo_feature_56 : decode nc_Mo_feature 56 = .ok (.iadd, 1) := by decide +kernel
theorem nd_Mo_feature_57 : decode nc_Mo_feature 57 = .ok (.imul, 1) := by decide +kernel
theorem nd_Mo_feature_58 : decode nc_Mo_feature 58 = .ok (.iload_n 3, 1) := by decide +kernel
theorem nd_Mo_feature_59 : decode nc_Mo_feature 59 = .ok (.iadd, 1) := by decide +kernel
theorem nd_Mo_feature_60 : decode nc_Mo_feature 60 = .ok (.iaload, 1) := by decide +kernel
theorem nd_Mo_feature_61 : decode nc_Mo_feature 61 = .ok (.ireturn, 1) := by decide +kernel
theorem nd_Mo_of_0 : decode nc_Mo_of 0 = .ok (.aload_n 0, 1) := by decide +kernel
theorem nd_Mo_of_1 : decode nc_Mo_of 1 = .ok (.iconst 4, 1) := by decide +kernel
theorem nd_Mo_of_2 : decode nc_Mo_of 2 = .ok (.iload_n 1, 1) := by decide +kernel
theorem nd_Mo_of_3 : decode nc_Mo_of 3 = .ok (.imul, 1) := by decide +kernel
theorem nd_Mo_of_4 : decode nc_Mo_of 4 = .ok (.iload_n 2, 1) := by decide +kernel
theorem nd_Mo_of_5 : decode nc_Mo_of 5 = .ok (.iadd, 1) := by decide +kernel
theorem nd_Mo_of_6 : decode nc_Mo_of 6 = .ok (.laload, 1) := by decide +kernel
theorem nd_Mo_of_7 : decode nc_Mo_of 7 = .ok (.lreturn, 1) := by decide +kernel
theorem nd_Mo_prepare_0 : decode nc_Mo_prepare 0 = .ok (.iconst 0, 1) := by decide +kernel
theorem nd_Mo_prepare_1 : decode nc_Mo_prepare 1 = .ok (.istore_n 3, 1) := by decide +kernel
theorem nd_Mo_prepare_2 : decode nc_Mo_prepare 2 = .ok (.iload_n 3, 1) := by decide +kernel
theorem nd_Mo_prepare_3 : decode nc_Mo_prepare 3 = .ok (.aload_n 0, 1) := by decide +kernel
theorem nd_Mo_prepare_4 : decode nc_Mo_prepare 4 = .ok (.getfield 13, 3) := by decide +kernel
theorem nd_Mo_prepare_7 : decode nc_Mo_prepare 7 = .ok (.iload_n 1, 1) := by decide +kernel
theorem nd_Mo_prepare_8 : decode nc_Mo_prepare 8 = .ok (.iaload, 1) := by decide +kernel
theorem nd_Mo_prepare_9 : decode nc_Mo_prepare 9 = .ok (.if_icmp .ge 97, 3) := by decide +kernel
theorem nd_Mo_prepare_12 : decode nc_Mo_prepare 12 = .ok (.iconst 0, 1) := by decide +kernel
theorem nd_Mo_prepare_13 : decode nc_Mo_prepare 13 = .ok (.istore 4, 2) := by decide +kernel
theorem nd_Mo_prepare_15 : decode nc_Mo_prepare 15 = .ok (.iload 4, 2) := by decide +kernel
theorem nd_Mo_prepare_17 : decode nc_Mo_prepare 17 = .ok (.iconst 4, 1) := by decide +kernel
theorem nd_Mo_prepare_18 : decode nc_Mo_prepare 18 = .ok (.if_icmp .ge 82, 3) := by decide +kernel
theorem nd_Mo_prepare_21 : decode nc_Mo_prepare 21 = .ok (.iload_n 3, 1) := by decide +kernel
theorem nd_Mo_prepare_22 : decode nc_Mo_prepare 22 = .ok (.ifCond .ne 14, 3) := by decide +kernel
theorem nd_Mo_prepare_25 : decode nc_Mo_prepare 25 = .ok (.aload_n 2, 1) := by decide +kernel
theorem nd_Mo_prepare_26 : decode nc_Mo_prepare 26 = .ok (.bipush 32, 2) := by decide +kernel
theorem nd_Mo_prepare_28 : decode nc_Mo_prepare 28 = .ok (.iload 4, 2) := by decide +kernel
theorem nd_Mo_prepare_30 : decode nc_Mo_prepare 30 = .ok (.invokestatic 108, 3) := by decide +kernel
theorem nd_Mo_prepare_33 : decode nc_Mo_prepare 33 = .ok (.goto 4, 3) := by decide +kernel
theorem nd_Mo_prepare_36 : decode nc_Mo_prepare 36 = .ok (.lconst 0, 1) := by decide +kernel
theorem nd_Mo_prepare_37 : decode nc_Mo_prepare 37 = .ok (.lstore 5, 2) := by decide +kernel
theorem nd_Mo_prepare_39 : decode nc_Mo_prepare 39 = .ok (.iconst 0, 1) := by decide +kernel
theorem nd_Mo_prepare_40 : decode nc_Mo_prepare 40 = .ok (.istore 7, 2) := by decide +kernel
theorem nd_Mo_prepare_42 : decode nc_Mo_prepare 42 = .ok (.iload 7, 2) := by decide +kernel
theorem nd_Mo_prepare_44 : decode nc_Mo_prepare 44 = .ok (.iconst 3, 1) := by decide +kernel
theorem nd_Mo_prepare_45 : decode nc_Mo_prepare 45 = .ok (.if_icmp .ge 36, 3) := by decide +kernel
theorem nd_Mo_prepare_48 : decode nc_Mo_prepare 48 = .ok (.lload 5, 2) := by decide +kernel
theorem nd_Mo_prepare_50 : decode nc_Mo_prepare 50 = .ok (.aload_n 2, 1) := by decide +kernel
theorem nd_Mo_prepare_51 : decode nc_Mo_prepare 51 = .ok (.aload_n 0, 1) := by decide +kernel
theorem nd_Mo_prepare_52 : decode nc_Mo_prepare 52 = .ok (.getfield 16, 3) := by decide +kernel
theorem nd_Mo_prepare_55 : decode nc_Mo_prepare 55 = .ok (.iconst 3, 1) := by decide +kernel
theorem nd_Mo_prepare_56 : decode nc_Mo_prepare 56 = .ok (.bipush 6, 2) := by decide +kernel
theorem nd_Mo_prepare_58 : decode nc_Mo_prepare 58 = .ok (.iload_n 1, 1) := by decide +kernel
theorem nd_Mo_prepare_59 : decode nc_Mo_prepare 59 = .ok (.imul, 1) := by decide +kernel
theorem nd_Mo_prepare_60 : decode nc_Mo_prepare 60 = .ok (.iload_n 3, 1) := by decide +kernel
theorem nd_Mo_prepare_61 : decode nc_Mo_prepare 61 = .ok (.iadd, 1) := by decide +kernel
theorem nd_Mo_prepare_62 : decode nc_Mo_prepare 62 = .ok (.imul, 1) := by decide +kernel
theorem nd_Mo_prepare_63 : decode nc_Mo_prepare 63 = .ok (.iload 7, 2) := by decide +kernel
theorem nd_Mo_prepare_65 : decode nc_Mo_prepare 65 = .ok (.iadd, 1) := by decide +kernel
theorem nd_Mo_prepare_66 : decode nc_Mo_prepare 66 = .ok (.iaload, 1) := by decide +kernel
theorem nd_Mo_prepare_67 : decode nc_Mo_prepare 67 = .ok (.iload 4, 2) := by decide +kernel
theorem nd_Mo_prepare_69 : decode nc_Mo_prepare 69 = .ok (.invokestatic 108, 3) := by decide +kernel
theorem nd_Mo_prepare_72 : decode nc_Mo_prepare 72 = .ok (.ladd, 1) := by decide +kernel
theorem nd_Mo_prepare_73 : decode nc_Mo_prepare 73 = .ok (.lstore 5, 2) := by decide +kernel
theorem nd_Mo_prepare_75 : decode nc_Mo_prepare 75 = .ok (.iinc 7 1, 3) := by decide +kernel
theorem nd_Mo_prepare_78 : decode nc_Mo_prepare 78 = .ok (.goto (-36), 3) := by decide +kernel
theorem nd_Mo_prepare_81 : decode nc_Mo_prepare 81 = .ok (.aload_n 0, 1) := by decide +kernel
theorem nd_Mo_prepare_82 : decode nc_Mo_prepare 82 = .ok (.getfield 38, 3) := by decide +kernel
theorem nd_Mo_prepare_85 : decode nc_Mo_prepare 85 = .ok (.iconst 4, 1) := by decide +kernel
theorem nd_Mo_prepare_86 : decode nc_Mo_prepare 86 = .ok (.iload_n 3, 1) := by decide +kernel
theorem nd_Mo_prepare_87 : decode nc_Mo_prepare 87 = .ok (.imul, 1) := by decide +kernel
theorem nd_Mo_prepare_88 : decode nc_Mo_prepare 88 = .ok (.iload 4, 2) := by decide +kernel
theorem nd_Mo_prepare_90 : decode nc_Mo_prepare 90 = .ok (.iadd, 1) := by decide +kernel
theorem nd_Mo_prepare_91 : decode nc_Mo_prepare 91 = .ok (.lload 5, 2) := by decide +kernel
theorem nd_Mo_prepare_93 : decode nc_Mo_prepare 93 = .ok (.lastore, 1) := by decide +kernel
theorem nd_Mo_prepare_94 : decode nc_Mo_prepare 94 = .ok (.iinc 4 1, 3) := by decide +kernel
theorem nd_Mo_prepare_97 : decode nc_Mo_prepare 97 = .ok (.goto (-82), 3) := by decide +kernel
theorem nd_Mo_prepare_100 : decode nc_Mo_prepare 100 = .ok (.iinc 3 1, 3) := by decide +kernel
theorem nd_Mo_prepare_103 : decode nc_Mo_prepare 103 = .ok (.goto (-101), 3) := by decide +kernel
theorem nd_Mo_prepare_106 : decode nc_Mo_prepare 106 = .ok (.return_, 1) := by decide +kernel
theorem nd_Mo_packed_0 : decode nc_Mo_packed 0 = .ok (.iconst 0, 1) := by decide +kernel
theorem nd_Mo_packed_1 : decode nc_Mo_packed 1 = .ok (.istore_n 2, 1) := by decide +kernel
theorem nd_Mo_packed_2 : decode nc_Mo_packed 2 = .ok (.iconst 0, 1) := by decide +kernel
theorem nd_Mo_packed_3 : decode nc_Mo_packed 3 = .ok (.istore_n 3, 1) := by decide +kernel
theorem nd_Mo_packed_4 : decode nc_Mo_packed 4 = .ok (.iload_n 3, 1) := by decide +kernel
theorem nd_Mo_packed_5 : decode nc_Mo_packed 5 = .ok (.iload_n 1, 1) := by decide +kernel
theorem nd_Mo_packed_6 : decode nc_Mo_packed 6 = .ok (.if_icmp .ge 22, 3) := by decide +kernel
theorem nd_Mo_packed_9 : decode nc_Mo_packed 9 = .ok (.iload_n 2, 1) := by decide +kernel
theorem nd_Mo_packed_10 : decode nc_Mo_packed 10 = .ok (.aload_n 0, 1) := by decide +kernel
theorem nd_Mo_packed_11 : decode nc_Mo_packed 11 = .ok (.getfield 41, 3) := by decide +kernel
theorem nd_Mo_packed_14 : decode nc_Mo_packed 14 = .ok (.iload_n 3, 1) := by decide +kernel
theorem nd_Mo_packed_15 : decode nc_Mo_packed 15 = .ok (.iaload, 1) := by decide +kernel
theorem nd_Mo_packed_16 : decode nc_Mo_packed 16 = .ok (.iconst 2, 1) := by decide +kernel
theorem nd_Mo_packed_17 : decode nc_Mo_packed 17 = .ok (.iload_n 3, 1) := by decide +kernel
theorem nd_Mo_packed_18 : decode nc_Mo_packed 18 = .ok (.imul, 1) := by decide +kernel
theorem nd_Mo_packed_19 : decode nc_Mo_packed 19 = .ok (.ishl, 1) := by decide +kernel
theorem nd_Mo_packed_20 : decode nc_Mo_packed 20 = .ok (.ior, 1) := by decide +kernel
theorem nd_Mo_packed_21 : decode nc_Mo_packed 21 = .ok (.istore_n 2, 1) := by decide +kernel
theorem nd_Mo_packed_22 : decode nc_Mo_packed 22 = .ok (.iinc 3 1, 3) := by decide +kernel
theorem nd_Mo_packed_25 : decode nc_Mo_packed 25 = .ok (.goto (-21), 3) := by decide +kernel
theorem nd_Mo_packed_28 : decode nc_Mo_packed 28 = .ok (.iload_n 2, 1) := by decide +kernel
theorem nd_Mo_packed_29 : decode nc_Mo_packed 29 = .ok (.ireturn, 1) := by decide +kernel
theorem nd_Mo_sumFrom_0 : decode nc_Mo_sumFrom 0 = .ok (.iload_n 1, 1) := by decide +kernel
theorem nd_Mo_sumFrom_1 : decode nc_Mo_sumFrom 1 = .ok (.istore 4, 2) := by decide +kernel
theorem nd_Mo_sumFrom_3 : decode nc_Mo_sumFrom 3 = .ok (.iload 4, 2) := by decide +kernel
theorem nd_Mo_sumFrom_5 : decode nc_Mo_sumFrom 5 = .ok (.iload_n 2, 1) := by decide +kernel
theorem nd_Mo_sumFrom_6 : decode nc_Mo_sumFrom 6 = .ok (.if_icmp .ge 76, 3) := by decide +kernel
theorem nd_Mo_sumFrom_9 : decode nc_Mo_sumFrom 9 = .ok (.aload_n 0, 1) := by decide +kernel
theorem nd_Mo_sumFrom_10 : decode nc_Mo_sumFrom 10 = .ok (.getfield 44, 3) := by decide +kernel
theorem nd_Mo_sumFrom_13 : decode nc_Mo_sumFrom 13 = .ok (.iload 4, 2) := by decide +kernel
theorem nd_Mo_sumFrom_15 : decode nc_Mo_sumFrom 15 = .ok (.iconst 1, 1) := by decide +kernel
theorem nd_Mo_sumFrom_16 : decode nc_Mo_sumFrom 16 = .ok (.iadd, 1) := by decide +kernel
theorem nd_Mo_sumFrom_17 : decode nc_Mo_sumFrom 17 = .ok (.aload_n 0, 1) := by decide +kernel
theorem nd_Mo_sumFrom_18 : decode nc_Mo_sumFrom 18 = .ok (.getfield 44, 3) := by decide +kernel
theorem nd_Mo_sumFrom_21 : decode nc_Mo_sumFrom 21 = .ok (.iload 4, 2) := by decide +kernel
theorem nd_Mo_sumFrom_23 : decode nc_Mo_sumFrom 23 = .ok (.laload, 1) := by decide +kernel
theorem nd_Mo_sumFrom_24 : decode nc_Mo_sumFrom 24 = .ok (.aload_n 0, 1) := by decide +kernel
theorem nd_Mo_sumFrom_25 : decode nc_Mo_sumFrom 25 = .ok (.getfield 38, 3) := by decide +kernel
theorem nd_Mo_sumFrom_28 : decode nc_Mo_sumFrom 28 = .ok (.iconst 4, 1) := by decide +kernel
theorem nd_Mo_sumFrom_29 : decode nc_Mo_sumFrom 29 = .ok (.iload 4, 2) := by decide +kernel
theorem nd_Mo_sumFrom_31 : decode nc_Mo_sumFrom 31 = .ok (.imul, 1) := by decide +kernel
theorem nd_Mo_sumFrom_32 : decode nc_Mo_sumFrom 32 = .ok (.aload_n 0, 1) := by decide +kernel
theorem nd_Mo_sumFrom_33 : decode nc_Mo_sumFrom 33 = .ok (.getfield 41, 3) := by decide +kernel
theorem nd_Mo_sumFrom_36 : decode nc_Mo_sumFrom 36 = .ok (.iload 4, 2) := by decide +kernel
theorem nd_Mo_sumFrom_38 : decode nc_Mo_sumFrom 38 = .ok (.iaload, 1) := by decide +kernel
theorem nd_Mo_sumFrom_39 : decode nc_Mo_sumFrom 39 = .ok (.iadd, 1) := by decide +kernel
theorem nd_Mo_sumFrom_40 : decode nc_Mo_sumFrom 40 = .ok (.laload, 1) := by decide +kernel
theorem nd_Mo_sumFrom_41 : decode nc_Mo_sumFrom 41 = .ok (.ladd, 1) := by decide +kernel
theorem nd_Mo_sumFrom_42 : decode nc_Mo_sumFrom 42 = .ok (.iload 4, 2) := by decide +kernel
theorem nd_Mo_sumFrom_44 : decode nc_Mo_sumFrom 44 = .ok (.ifCond .ne 7, 3) := by decide +kernel
theorem nd_Mo_sumFrom_47 : decode nc_Mo_sumFrom 47 = .ok (.lconst 0, 1) := by decide +kernel
theorem nd_Mo_sumFrom_48 : decode nc_Mo_sumFrom 48 = .ok (.goto 26, 3) := by decide +kernel
theorem nd_Mo_sumFrom_51 : decode nc_Mo_sumFrom 51 = .ok (.aload_n 3, 1) := by decide +kernel
theorem nd_Mo_sumFrom_52 : decode nc_Mo_sumFrom 52 = .ok (.bipush 33, 2) := by decide +kernel
theorem nd_Mo_sumFrom_54 : decode nc_Mo_sumFrom 54 = .ok (.aload_n 0, 1) := by decide +kernel
theorem nd_Mo_sumFrom_55 : decode nc_Mo_sumFrom 55 = .ok (.getfield 41, 3) := by decide +kernel
theorem nd_Mo_sumFrom_58 : decode nc_Mo_sumFrom 58 = .ok (.iload 4, 2) := by decide +kernel
theorem nd_Mo_sumFrom_60 : decode nc_Mo_sumFrom 60 = .ok (.iconst 1, 1) := by decide +kernel
theorem nd_Mo_sumFrom_61 : decode nc_Mo_sumFrom 61 = .ok (.isub, 1) := by decide +kernel
theorem nd_Mo_sumFrom_62 : decode nc_Mo_sumFrom 62 = .ok (.iaload, 1) := by decide +kernel
theorem nd_Mo_sumFrom_63 : decode nc_Mo_sumFrom 63 = .ok (.iadd, 1) := by decide +kernel
theorem nd_Mo_sumFrom_64 : decode nc_Mo_sumFrom 64 = .ok (.aload_n 0, 1) := by decide +kernel
theorem nd_Mo_sumFrom_65 : decode nc_Mo_sumFrom 65 = .ok (.getfield 41, 3) := by decide +kernel
theorem nd_Mo_sumFrom_68 : decode nc_Mo_sumFrom 68 = .ok (.iload 4, 2) := by decide +kernel
theorem nd_Mo_sumFrom_70 : decode nc_Mo_sumFrom 70 = .ok (.iaload, 1) := by decide +kernel
theorem nd_Mo_sumFrom_71 : decode nc_Mo_sumFrom 71 = .ok (.invokestatic 108, 3) := by decide +kernel
theorem nd_Mo_sumFrom_74 : decode nc_Mo_sumFrom 74 = .ok (.ladd, 1) := by decide +kernel
theorem nd_Mo_sumFrom_75 : decode nc_Mo_sumFrom 75 = .ok (.lastore, 1) := by decide +kernel
theorem nd_Mo_sumFrom_76 : decode nc_Mo_sumFrom 76 = .ok (.iinc 4 1, 3) := by decide +kernel
theorem nd_Mo_sumFrom_79 : decode nc_Mo_sumFrom 79 = .ok (.goto (-76), 3) := by decide +kernel
theorem nd_Mo_sumFrom_82 : decode nc_Mo_sumFrom 82 = .ok (.return_, 1) := by decide +kernel
theorem nd_Mo_search_0 : decode nc_Mo_search 0 = .ok (.aload_n 0, 1) := by decide +kernel
theorem nd_Mo_search_1 : decode nc_Mo_search 1 = .ok (.getfield 13, 3) := by decide +kernel
theorem nd_Mo_search_4 : decode nc_Mo_search 4 = .ok (.iload_n 1, 1) := by decide +kernel
theorem nd_Mo_search_5 : decode nc_Mo_search 5 = .ok (.iaload, 1) := by decide +kernel
theorem nd_Mo_search_6 : decode nc_Mo_search 6 = .ok (.istore_n 3, 1) := by decide +kernel
end
section
theorem nd_Mo_search_7 : decode nc_Mo_search 7 = .ok (.aload_n 0, 1) := by decide +kernel
theorem nd_Mo_search_8 : decode nc_Mo_search 8 = .ok (.iload_n 1, 1) := by decide +kernel
theorem nd_Mo_search_9 : decode nc_Mo_search 9 = .ok (.aload_n 2, 1) := by decide +kernel
theorem nd_Mo_search_10 : decode nc_Mo_search 10 = .ok (.invokevirtual 112, 3) := by decide +kernel
theorem nd_Mo_search_13 : decode nc_Mo_search 13 = .ok (.iconst 0, 1) := by decide +kernel
theorem nd_Mo_search_14 : decode nc_Mo_search 14 = .ok (.istore 4, 2) := by decide +kernel
theorem nd_Mo_search_16 : decode nc_Mo_search 16 = .ok (.iload 4, 2) := by decide +kernel
theorem nd_Mo_search_18 : decode nc_Mo_search 18 = .ok (.bipush 6, 2) := by decide +kernel
theorem nd_Mo_search_20 : decode nc_Mo_search 20 = .ok (.if_icmp .ge 17, 3) := by decide +kernel
theorem nd_Mo_search_23 : decode nc_Mo_search 23 = .ok (.aload_n 0, 1) := by decide +kernel
theorem nd_Mo_search_24 : decode nc_Mo_search 24 = .ok (.getfield 41, 3) := by decide +kernel
theorem nd_Mo_search_27 : decode nc_Mo_search 27 = .ok (.iload 4, 2) := by decide +kernel
theorem nd_Mo_search_29 : decode nc_Mo_search 29 = .ok (.iconst 0, 1) := by decide +kernel
theorem nd_Mo_search_30 : decode nc_Mo_search 30 = .ok (.iastore, 1) := by decide +kernel
theorem nd_Mo_search_31 : decode nc_Mo_search 31 = .ok (.iinc 4 1, 3) := by decide +kernel
theorem nd_Mo_search_34 : decode nc_Mo_search 34 = .ok (.goto (-18), 3) := by decide +kernel
theorem nd_Mo_search_37 : decode nc_Mo_search 37 = .ok (.iconst 0, 1) := by decide +kernel
theorem nd_Mo_search_38 : decode nc_Mo_search 38 = .ok (.istore 4, 2) := by decide +kernel
theorem nd_Mo_search_40 : decode nc_Mo_search 40 = .ok (.iconst 0, 1) := by decide +kernel
theorem nd_Mo_search_41 : decode nc_Mo_search 41 = .ok (.istore 5, 2) := by decide +kernel
theorem nd_Mo_search_43 : decode nc_Mo_search 43 = .ok (.iconst 0, 1) := by decide +kernel
theorem nd_Mo_search_44 : decode nc_Mo_search 44 = .ok (.istore 6, 2) := by decide +kernel
theorem nd_Mo_search_46 : decode nc_Mo_search 46 = .ok (.iload 4, 2) := by decide +kernel
theorem nd_Mo_search_48 : decode nc_Mo_search 48 = .ok (.ifCond .lt 162, 3) := by decide +kernel
theorem nd_Mo_search_51 : decode nc_Mo_search 51 = .ok (.aload_n 0, 1) := by decide +kernel
theorem nd_Mo_search_52 : decode nc_Mo_search 52 = .ok (.iload 4, 2) := by decide +kernel
theorem nd_Mo_search_54 : decode nc_Mo_search 54 = .ok (.iload_n 3, 1) := by decide +kernel
theorem nd_Mo_search_55 : decode nc_Mo_search 55 = .ok (.aload_n 2, 1) := by decide +kernel
theorem nd_Mo_search_56 : decode nc_Mo_search 56 = .ok (.invokevirtual 116, 3) := by decide +kernel
theorem nd_Mo_search_59 : decode nc_Mo_search 59 = .ok (.aload_n 0, 1) := by decide +kernel
theorem nd_Mo_search_60 : decode nc_Mo_search 60 = .ok (.getfield 44, 3) := by decide +kernel
theorem nd_Mo_search_63 : decode nc_Mo_search 63 = .ok (.iload_n 3, 1) := by decide +kernel
theorem nd_Mo_search_64 : decode nc_Mo_search 64 = .ok (.laload, 1) := by decide +kernel
theorem nd_Mo_search_65 : decode nc_Mo_search 65 = .ok (.lstore 7, 2) := by decide +kernel
theorem nd_Mo_search_67 : decode nc_Mo_search 67 = .ok (.iload 5, 2) := by decide +kernel
theorem nd_Mo_search_69 : decode nc_Mo_search 69 = .ok (.ifCond .eq 13, 3) := by decide +kernel
theorem nd_Mo_search_72 : decode nc_Mo_search 72 = .ok (.lload 7, 2) := by decide +kernel
theorem nd_Mo_search_74 : decode nc_Mo_search 74 = .ok (.aload_n 0, 1) := by decide +kernel
theorem nd_Mo_search_75 : decode nc_Mo_search 75 = .ok (.getfield 120, 3) := by decide +kernel
theorem nd_Mo_search_78 : decode nc_Mo_search 78 = .ok (.lcmp, 1) := by decide +kernel
theorem nd_Mo_search_79 : decode nc_Mo_search 79 = .ok (.ifCond .le 44, 3) := by decide +kernel
theorem nd_Mo_search_82 : decode nc_Mo_search 82 = .ok (.iload 5, 2) := by decide +kernel
theorem nd_Mo_search_84 : decode nc_Mo_search 84 = .ok (.istore 6, 2) := by decide +kernel
theorem nd_Mo_search_86 : decode nc_Mo_search 86 = .ok (.aload_n 0, 1) := by decide +kernel
theorem nd_Mo_search_87 : decode nc_Mo_search 87 = .ok (.aload_n 0, 1) := by decide +kernel
theorem nd_Mo_search_88 : decode nc_Mo_search 88 = .ok (.getfield 124, 3) := by decide +kernel
theorem nd_Mo_search_91 : decode nc_Mo_search 91 = .ok (.putfield 127, 3) := by decide +kernel
theorem nd_Mo_search_94 : decode nc_Mo_search 94 = .ok (.aload_n 0, 1) := by decide +kernel
theorem nd_Mo_search_95 : decode nc_Mo_search 95 = .ok (.aload_n 0, 1) := by decide +kernel
theorem nd_Mo_search_96 : decode nc_Mo_search 96 = .ok (.getfield 120, 3) := by decide +kernel
theorem nd_Mo_search_99 : decode nc_Mo_search 99 = .ok (.putfield 130, 3) := by decide +kernel
theorem nd_Mo_search_102 : decode nc_Mo_search 102 = .ok (.aload_n 0, 1) := by decide +kernel
theorem nd_Mo_search_103 : decode nc_Mo_search 103 = .ok (.aload_n 0, 1) := by decide +kernel
theorem nd_Mo_search_104 : decode nc_Mo_search 104 = .ok (.iload_n 3, 1) := by decide +kernel
theorem nd_Mo_search_105 : decode nc_Mo_search 105 = .ok (.invokevirtual 133, 3) := by decide +kernel
theorem nd_Mo_search_108 : decode nc_Mo_search 108 = .ok (.putfield 124, 3) := by decide +kernel
theorem nd_Mo_search_111 : decode nc_Mo_search 111 = .ok (.aload_n 0, 1) := by decide +kernel
theorem nd_Mo_search_112 : decode nc_Mo_search 112 = .ok (.lload 7, 2) := by decide +kernel
theorem nd_Mo_search_114 : decode nc_Mo_search 114 = .ok (.putfield 120, 3) := by decide +kernel
theorem nd_Mo_search_117 : decode nc_Mo_search 117 = .ok (.iconst 1, 1) := by decide +kernel
theorem nd_Mo_search_118 : decode nc_Mo_search 118 = .ok (.istore 5, 2) := by decide +kernel
theorem nd_Mo_search_120 : decode nc_Mo_search 120 = .ok (.goto 36, 3) := by decide +kernel
theorem nd_Mo_search_123 : decode nc_Mo_search 123 = .ok (.iload 6, 2) := by decide +kernel
theorem nd_Mo_search_125 : decode nc_Mo_search 125 = .ok (.ifCond .eq 13, 3) := by decide +kernel
theorem nd_Mo_search_128 : decode nc_Mo_search 128 = .ok (.lload 7, 2) := by decide +kernel
theorem nd_Mo_search_130 : decode nc_Mo_search 130 = .ok (.aload_n 0, 1) := by decide +kernel
theorem nd_Mo_search_131 : decode nc_Mo_search 131 = .ok (.getfield 130, 3) := by decide +kernel
theorem nd_Mo_search_134 : decode nc_Mo_search 134 = .ok (.lcmp, 1) := by decide +kernel
theorem nd_Mo_search_135 : decode nc_Mo_search 135 = .ok (.ifCond .le 21, 3) := by decide +kernel
theorem nd_Mo_search_138 : decode nc_Mo_search 138 = .ok (.aload_n 0, 1) := by decide +kernel
theorem nd_Mo_search_139 : decode nc_Mo_search 139 = .ok (.aload_n 0, 1) := by decide +kernel
theorem nd_Mo_search_140 : decode nc_Mo_search 140 = .ok (.iload_n 3, 1) := by decide +kernel
theorem nd_Mo_search_141 : decode nc_Mo_search 141 = .ok (.invokevirtual 133, 3) := by decide +kernel
theorem nd_Mo_search_144 : decode nc_Mo_search 144 = .ok (.putfield 127, 3) := by decide +kernel
theorem nd_Mo_search_147 : decode nc_Mo_search 147 = .ok (.aload_n 0, 1) := by decide +kernel
theorem nd_Mo_search_148 : decode nc_Mo_search 148 = .ok (.lload 7, 2) := by decide +kernel
theorem nd_Mo_search_150 : decode nc_Mo_search 150 = .ok (.putfield 130, 3) := by decide +kernel
theorem nd_Mo_search_153 : decode nc_Mo_search 153 = .ok (.iconst 1, 1) := by decide +kernel
theorem nd_Mo_search_154 : decode nc_Mo_search 154 = .ok (.istore 6, 2) := by decide +kernel
theorem nd_Mo_search_156 : decode nc_Mo_search 156 = .ok (.iload_n 3, 1) := by decide +kernel
theorem nd_Mo_search_157 : decode nc_Mo_search 157 = .ok (.iconst 1, 1) := by decide +kernel
theorem nd_Mo_search_158 : decode nc_Mo_search 158 = .ok (.isub, 1) := by decide +kernel
theorem nd_Mo_search_159 : decode nc_Mo_search 159 = .ok (.istore 4, 2) := by decide +kernel
theorem nd_Mo_search_161 : decode nc_Mo_search 161 = .ok (.iload 4, 2) := by decide +kernel
theorem nd_Mo_search_163 : decode nc_Mo_search 163 = .ok (.ifCond .lt 28, 3) := by decide +kernel
theorem nd_Mo_search_166 : decode nc_Mo_search 166 = .ok (.aload_n 0, 1) := by decide +kernel
theorem nd_Mo_search_167 : decode nc_Mo_search 167 = .ok (.getfield 41, 3) := by decide +kernel
theorem nd_Mo_search_170 : decode nc_Mo_search 170 = .ok (.iload 4, 2) := by decide +kernel
theorem nd_Mo_search_172 : decode nc_Mo_search 172 = .ok (.iaload, 1) := by decide +kernel
theorem nd_Mo_search_173 : decode nc_Mo_search 173 = .ok (.iconst 3, 1) := by decide +kernel
theorem nd_Mo_search_174 : decode nc_Mo_search 174 = .ok (.if_icmp .ne 17, 3) := by decide +kernel
theorem nd_Mo_search_177 : decode nc_Mo_search 177 = .ok (.aload_n 0, 1) := by decide +kernel
theorem nd_Mo_search_178 : decode nc_Mo_search 178 = .ok (.getfield 41, 3) := by decide +kernel
theorem nd_Mo_search_181 : decode nc_Mo_search 181 = .ok (.iload 4, 2) := by decide +kernel
theorem nd_Mo_search_183 : decode nc_Mo_search 183 = .ok (.iconst 0, 1) := by decide +kernel
theorem nd_Mo_search_184 : decode nc_Mo_search 184 = .ok (.iastore, 1) := by decide +kernel
theorem nd_Mo_search_185 : decode nc_Mo_search 185 = .ok (.iinc 4 (-1), 3) := by decide +kernel
theorem nd_Mo_search_188 : decode nc_Mo_search 188 = .ok (.goto (-27), 3) := by decide +kernel
theorem nd_Mo_search_191 : decode nc_Mo_search 191 = .ok (.iload 4, 2) := by decide +kernel
theorem nd_Mo_search_193 : decode nc_Mo_search 193 = .ok (.ifCond .lt 14, 3) := by decide +kernel
theorem nd_Mo_search_196 : decode nc_Mo_search 196 = .ok (.aload_n 0, 1) := by decide +kernel
theorem nd_Mo_search_197 : decode nc_Mo_search 197 = .ok (.getfield 41, 3) := by decide +kernel
theorem nd_Mo_search_200 : decode nc_Mo_search 200 = .ok (.iload 4, 2) := by decide +kernel
theorem nd_Mo_search_202 : decode nc_Mo_search 202 = .ok (.dup2, 1) := by decide +kernel
theorem nd_Mo_search_203 : decode nc_Mo_search 203 = .ok (.iaload, 1) := by decide +kernel
theorem nd_Mo_search_204 : decode nc_Mo_search 204 = .ok (.iconst 1, 1) := by decide +kernel
theorem nd_Mo_search_205 : decode nc_Mo_search 205 = .ok (.iadd, 1) := by decide +kernel
theorem nd_Mo_search_206 : decode nc_Mo_search 206 = .ok (.iastore, 1) := by decide +kernel
theorem nd_Mo_search_207 : decode nc_Mo_search 207 = .ok (.goto (-161), 3) := by decide +kernel
theorem nd_Mo_search_210 : decode nc_Mo_search 210 = .ok (.return_, 1) := by decide +kernel
theorem nd_Mo_mend_0 : decode nc_Mo_mend 0 = .ok (.iconst 0, 1) := by decide +kernel
theorem nd_Mo_mend_1 : decode nc_Mo_mend 1 = .ok (.istore 4, 2) := by decide +kernel
theorem nd_Mo_mend_3 : decode nc_Mo_mend 3 = .ok (.iload 4, 2) := by decide +kernel
theorem nd_Mo_mend_5 : decode nc_Mo_mend 5 = .ok (.aload_n 0, 1) := by decide +kernel
theorem nd_Mo_mend_6 : decode nc_Mo_mend 6 = .ok (.getfield 13, 3) := by decide +kernel
theorem nd_Mo_mend_9 : decode nc_Mo_mend 9 = .ok (.iload_n 1, 1) := by decide +kernel
theorem nd_Mo_mend_10 : decode nc_Mo_mend 10 = .ok (.iaload, 1) := by decide +kernel
theorem nd_Mo_mend_11 : decode nc_Mo_mend 11 = .ok (.if_icmp .ge 126, 3) := by decide +kernel
theorem nd_Mo_mend_14 : decode nc_Mo_mend 14 = .ok (.iload_n 2, 1) := by decide +kernel
theorem nd_Mo_mend_15 : decode nc_Mo_mend 15 = .ok (.iconst 2, 1) := by decide +kernel
theorem nd_Mo_mend_16 : decode nc_Mo_mend 16 = .ok (.iload 4, 2) := by decide +kernel
theorem nd_Mo_mend_18 : decode nc_Mo_mend 18 = .ok (.imul, 1) := by decide +kernel
theorem nd_Mo_mend_19 : decode nc_Mo_mend 19 = .ok (.ishr, 1) := by decide +kernel
theorem nd_Mo_mend_20 : decode nc_Mo_mend 20 = .ok (.iconst 3, 1) := by decide +kernel
theorem nd_Mo_mend_21 : decode nc_Mo_mend 21 = .ok (.iand, 1) := by decide +kernel
theorem nd_Mo_mend_22 : decode nc_Mo_mend 22 = .ok (.istore 5, 2) := by decide +kernel
theorem nd_Mo_mend_24 : decode nc_Mo_mend 24 = .ok (.iconst 0, 1) := by decide +kernel
theorem nd_Mo_mend_25 : decode nc_Mo_mend 25 = .ok (.istore 6, 2) := by decide +kernel
theorem nd_Mo_mend_27 : decode nc_Mo_mend 27 = .ok (.iload 6, 2) := by decide +kernel
theorem nd_Mo_mend_29 : decode nc_Mo_mend 29 = .ok (.iconst 3, 1) := by decide +kernel
theorem nd_Mo_mend_30 : decode nc_Mo_mend 30 = .ok (.if_icmp .ge 50, 3) := by decide +kernel
theorem nd_Mo_mend_33 : decode nc_Mo_mend 33 = .ok (.iconst 4, 1) := by decide +kernel
theorem nd_Mo_mend_34 : decode nc_Mo_mend 34 = .ok (.aload_n 0, 1) := by decide +kernel
theorem nd_Mo_mend_35 : decode nc_Mo_mend 35 = .ok (.getfield 16, 3) := by decide +kernel
theorem nd_Mo_mend_38 : decode nc_Mo_mend 38 = .ok (.iconst 3, 1) := by decide +kernel
theorem nd_Mo_mend_39 : decode nc_Mo_mend 39 = .ok (.bipush 6, 2) := by decide +kernel
theorem nd_Mo_mend_41 : decode nc_Mo_mend 41 = .ok (.iload_n 1, 1) := by decide +kernel
theorem nd_Mo_mend_42 : decode nc_Mo_mend 42 = .ok (.imul, 1) := by decide +kernel
theorem nd_Mo_mend_43 : decode nc_Mo_mend 43 = .ok (.iload 4, 2) := by decide +kernel
theorem nd_Mo_mend_45 : decode nc_Mo_mend 45 = .ok (.iadd, 1) := by decide +kernel
theorem nd_Mo_mend_46 : decode nc_Mo_mend 46 = .ok (.imul, 1) := by decide +kernel
theorem nd_Mo_mend_47 : decode nc_Mo_mend 47 = .ok (.iload 6, 2) := by decide +kernel
theorem nd_Mo_mend_49 : decode nc_Mo_mend 49 = .ok (.iadd, 1) := by decide +kernel
theorem nd_Mo_mend_50 : decode nc_Mo_mend 50 = .ok (.iaload, 1) := by decide +kernel
theorem nd_Mo_mend_51 : decode nc_Mo_mend 51 = .ok (.imul, 1) := by decide +kernel
theorem nd_Mo_mend_52 : decode nc_Mo_mend 52 = .ok (.iload 5, 2) := by decide +kernel
theorem nd_Mo_mend_54 : decode nc_Mo_mend 54 = .ok (.iadd, 1) := by decide +kernel
theorem nd_Mo_mend_55 : decode nc_Mo_mend 55 = .ok (.istore 7, 2) := by decide +kernel
theorem nd_Mo_mend_57 : decode nc_Mo_mend 57 = .ok (.aload_n 0, 1) := by decide +kernel
theorem nd_Mo_mend_58 : decode nc_Mo_mend 58 = .ok (.getfield 31, 3) := by decide +kernel
theorem nd_Mo_mend_61 : decode nc_Mo_mend 61 = .ok (.iload 7, 2) := by decide +kernel
theorem nd_Mo_mend_63 : decode nc_Mo_mend 63 = .ok (.aload_n 0, 1) := by decide +kernel
theorem nd_Mo_mend_64 : decode nc_Mo_mend 64 = .ok (.getfield 31, 3) := by decide +kernel
theorem nd_Mo_mend_67 : decode nc_Mo_mend 67 = .ok (.iload 7, 2) := by decide +kernel
theorem nd_Mo_mend_69 : decode nc_Mo_mend 69 = .ok (.laload, 1) := by decide +kernel
theorem nd_Mo_mend_70 : decode nc_Mo_mend 70 = .ok (.iload_n 3, 1) := by decide +kernel
theorem nd_Mo_mend_71 : decode nc_Mo_mend 71 = .ok (.i2l, 1) := by decide +kernel
theorem nd_Mo_mend_72 : decode nc_Mo_mend 72 = .ok (.ladd, 1) := by decide +kernel
theorem nd_Mo_mend_73 : decode nc_Mo_mend 73 = .ok (.lastore, 1) := by decide +kernel
theorem nd_Mo_mend_74 : decode nc_Mo_mend 74 = .ok (.iinc 6 1, 3) := by decide +kernel
theorem nd_Mo_mend_77 : decode nc_Mo_mend 77 = .ok (.goto (-50), 3) := by decide +kernel
theorem nd_Mo_mend_80 : decode nc_Mo_mend 80 = .ok (.iload 4, 2) := by decide +kernel
theorem nd_Mo_mend_82 : decode nc_Mo_mend 82 = .ok (.ifCond .ne 12, 3) := by decide +kernel
theorem nd_Mo_mend_85 : decode nc_Mo_mend 85 = .ok (.sipush 128, 3) := by decide +kernel
theorem nd_Mo_mend_88 : decode nc_Mo_mend 88 = .ok (.iload 5, 2) := by decide +kernel
theorem nd_Mo_mend_90 : decode nc_Mo_mend 90 = .ok (.iadd, 1) := by decide +kernel
theorem nd_Mo_mend_91 : decode nc_Mo_mend 91 = .ok (.goto 21, 3) := by decide +kernel
theorem nd_Mo_mend_94 : decode nc_Mo_mend 94 = .ok (.iconst 4, 1) := by decide +kernel
theorem nd_Mo_mend_95 : decode nc_Mo_mend 95 = .ok (.bipush 33, 2) := by decide +kernel
theorem nd_Mo_mend_97 : decode nc_Mo_mend 97 = .ok (.iload_n 2, 1) := by decide +kernel
theorem nd_Mo_mend_98 : decode nc_Mo_mend 98 = .ok (.iconst 2, 1) := by decide +kernel
theorem nd_Mo_mend_99 : decode nc_Mo_mend 99 = .ok (.iload 4, 2) := by decide +kernel
theorem nd_Mo_mend_101 : decode nc_Mo_mend 101 = .ok (.imul, 1) := by decide +kernel
theorem nd_Mo_mend_102 : decode nc_Mo_mend 102 = .ok (.iconst 2, 1) := by decide +kernel
theorem nd_Mo_mend_103 : decode nc_Mo_mend 103 = .ok (.isub, 1) := by decide +kernel
theorem nd_Mo_mend_104 : decode nc_Mo_mend 104 = .ok (.ishr, 1) := by decide +kernel
theorem nd_Mo_mend_105 : decode nc_Mo_mend 105 = .ok (.iconst 3, 1) := by decide +kernel
theorem nd_Mo_mend_106 : decode nc_Mo_mend 106 = .ok (.iand, 1) := by decide +kernel
theorem nd_Mo_mend_107 : decode nc_Mo_mend 107 = .ok (.iadd, 1) := by decide +kernel
theorem nd_Mo_mend_108 : decode nc_Mo_mend 108 = .ok (.imul, 1) := by decide +kernel
theorem nd_Mo_mend_109 : decode nc_Mo_mend 109 = .ok (.iload 5, 2) := by decide +kernel
theorem nd_Mo_mend_111 : decode nc_Mo_mend 111 = .ok (.iadd, 1) := by decide +kernel
theorem nd_Mo_mend_112 : decode nc_Mo_mend 112 = .ok (.istore 6, 2) := by decide +kernel
theorem nd_Mo_mend_114 : decode nc_Mo_mend 114 = .ok (.aload_n 0, 1) := by decide +kernel
theorem nd_Mo_mend_115 : decode nc_Mo_mend 115 = .ok (.getfield 31, 3) := by decide +kernel
theorem nd_Mo_mend_118 : decode nc_Mo_mend 118 = .ok (.iload 6, 2) := by decide +kernel
theorem nd_Mo_mend_120 : decode nc_Mo_mend 120 = .ok (.aload_n 0, 1) := by decide +kernel
theorem nd_Mo_mend_121 : decode nc_Mo_mend 121 = .ok (.getfield 31, 3) := by decide +kernel
theorem nd_Mo_mend_124 : decode nc_Mo_mend 124 = .ok (.iload 6, 2) := by decide +kernel
theorem nd_Mo_mend_126 : decode nc_Mo_mend 126 = .ok (.laload, 1) := by decide +kernel
theorem nd_Mo_mend_127 : decode nc_Mo_mend 127 = .ok (.iload_n 3, 1) := by decide +kernel
theorem nd_Mo_mend_128 : decode nc_Mo_mend 128 = .ok (.i2l, 1) := by decide +kernel
theorem nd_Mo_mend_129 : decode nc_Mo_mend 129 = .ok (.ladd, 1) := by decide +kernel
theorem nd_Mo_mend_130 : decode nc_Mo_mend 130 = .ok (.lastore, 1) := by decide +kernel
theorem nd_Mo_mend_131 : decode nc_Mo_mend 131 = .ok (.iinc 4 1, 3) := by decide +kernel
theorem nd_Mo_mend_134 : decode nc_Mo_mend 134 = .ok (.goto (-131), 3) := by decide +kernel
theorem nd_Mo_mend_137 : decode nc_Mo_mend 137 = .ok (.return_, 1) := by decide +kernel
theorem nd_Mo_givenRow_0 : decode nc_Mo_givenRow 0 = .ok (.iconst 0, 1) := by decide +kernel
theorem nd_Mo_givenRow_1 : decode nc_Mo_givenRow 1 = .ok (.istore_n 2, 1) := by decide +kernel
theorem nd_Mo_givenRow_2 : decode nc_Mo_givenRow 2 = .ok (.iconst 0, 1) := by decide +kernel
theorem nd_Mo_givenRow_3 : decode nc_Mo_givenRow 3 = .ok (.istore_n 3, 1) := by decide +kernel
theorem nd_Mo_givenRow_4 : decode nc_Mo_givenRow 4 = .ok (.iload_n 3, 1) := by decide +kernel
theorem nd_Mo_givenRow_5 : decode nc_Mo_givenRow 5 = .ok (.aload_n 0, 1) := by decide +kernel
theorem nd_Mo_givenRow_6 : decode nc_Mo_givenRow 6 = .ok (.getfield 13, 3) := by decide +kernel
theorem nd_Mo_givenRow_9 : decode nc_Mo_givenRow 9 = .ok (.iload_n 1, 1) := by decide +kernel
theorem nd_Mo_givenRow_10 : decode nc_Mo_givenRow 10 = .ok (.iaload, 1) := by decide +kernel
theorem nd_Mo_givenRow_11 : decode nc_Mo_givenRow 11 = .ok (.if_icmp .ge 27, 3) := by decide +kernel
theorem nd_Mo_givenRow_14 : decode nc_Mo_givenRow 14 = .ok (.iload_n 2, 1) := by decide +kernel
theorem nd_Mo_givenRow_15 : decode nc_Mo_givenRow 15 = .ok (.aload_n 0, 1) := by decide +kernel
theorem nd_Mo_givenRow_16 : decode nc_Mo_givenRow 16 = .ok (.getfield 19, 3) := by decide +kernel
theorem nd_Mo_givenRow_19 : decode nc_Mo_givenRow 19 = .ok (.bipush 6, 2) := by decide +kernel
theorem nd_Mo_givenRow_21 : decode nc_Mo_givenRow 21 = .ok (.iload_n 1, 1) := by decide +kernel
theorem nd_Mo_givenRow_22 : decode nc_Mo_givenRow 22 = .ok (.imul, 1) := by decide +kernel
theorem nd_Mo_givenRow_23 : decode nc_Mo_givenRow 23 = .ok (.iload_n 3, 1) := by decide +kernel
theorem nd_Mo_givenRow_24 : decode nc_Mo_givenRow 24 = .ok (.iadd, 1) := by decide +kernel
theorem nd_Mo_givenRow_25 : decode nc_Mo_givenRow 25 = .ok (.iaload, 1) := by decide +kernel
theorem nd_Mo_givenRow_26 : decode nc_Mo_givenRow 26 = .ok (.iconst 2, 1) := by decide +kernel
theorem nd_Mo_givenRow_27 : decode nc_Mo_givenRow 27 = .ok (.iload_n 3, 1) := by decide +kernel
theorem nd_Mo_givenRow_28 : decode nc_Mo_givenRow 28 = .ok (.imul, 1) := by decide +kernel
theorem nd_Mo_givenRow_29 : decode nc_Mo_givenRow 29 = .ok (.ishl, 1) := by decide +kernel
theorem nd_Mo_givenRow_30 : decode nc_Mo_givenRow 30 = .ok (.ior, 1) := by decide +kernel
theorem nd_Mo_givenRow_31 : decode nc_Mo_givenRow 31 = .ok (.istore_n 2, 1) := by decide +kernel
theorem nd_Mo_givenRow_32 : decode nc_Mo_givenRow 32 = .ok (.iinc 3 1, 3) := by decide +kernel
theorem nd_Mo_givenRow_35 : decode nc_Mo_givenRow 35 = .ok (.goto (-31), 3) := by decide +kernel
theorem nd_Mo_givenRow_38 : decode nc_Mo_givenRow 38 = .ok (.iload_n 2, 1) := by decide +kernel
theorem nd_Mo_givenRow_39 : decode nc_Mo_givenRow 39 = .ok (.ireturn, 1) := by decide +kernel
theorem nd_Mo_onePass_0 : decode nc_Mo_onePass 0 = .ok (.iconst 0, 1) := by decide +kernel
theorem nd_Mo_onePass_1 : decode nc_Mo_onePass 1 = .ok (.istore_n 1, 1) := by decide +kernel
theorem nd_Mo_onePass_2 : decode nc_Mo_onePass 2 = .ok (.iconst 0, 1) := by decide +kernel
theorem nd_Mo_onePass_3 : decode nc_Mo_onePass 3 = .ok (.istore_n 2, 1) := by decide +kernel
theorem nd_Mo_onePass_4 : decode nc_Mo_onePass 4 = .ok (.iload_n 2, 1) := by decide +kernel
theorem nd_Mo_onePass_5 : decode nc_Mo_onePass 5 = .ok (.aload_n 0, 1) := by decide +kernel
theorem nd_Mo_onePass_6 : decode nc_Mo_onePass 6 = .ok (.getfield 89, 3) := by decide +kernel
theorem nd_Mo_onePass_9 : decode nc_Mo_onePass 9 = .ok (.if_icmp .ge 91, 3) := by decide +kernel
theorem nd_Mo_onePass_12 : decode nc_Mo_onePass 12 = .ok (.aload_n 0, 1) := by decide +kernel
theorem nd_Mo_onePass_13 : decode nc_Mo_onePass 13 = .ok (.iload_n 2, 1) := by decide +kernel
theorem nd_Mo_onePass_14 : decode nc_Mo_onePass 14 = .ok (.aload_n 0, 1) := by decide +kernel
theorem nd_Mo_onePass_15 : decode nc_Mo_onePass 15 = .ok (.getfield 31, 3) := by decide +kernel
theorem nd_Mo_onePass_18 : decode nc_Mo_onePass 18 = .ok (.invokevirtual 136, 3) := by decide +kernel
theorem nd_Mo_onePass_21 : decode nc_Mo_onePass 21 = .ok (.aload_n 0, 1) := by decide +kernel
theorem nd_Mo_onePass_22 : decode nc_Mo_onePass 22 = .ok (.iload_n 2, 1) := by decide +kernel
theorem nd_Mo_onePass_23 : decode nc_Mo_onePass 23 = .ok (.invokevirtual 139, 3) := by decide +kernel
theorem nd_Mo_onePass_26 : decode nc_Mo_onePass 26 = .ok (.istore_n 3, 1) := by decide +kernel
theorem nd_Mo_onePass_27 : decode nc_Mo_onePass 27 = .ok (.aload_n 0, 1) := by decide +kernel
theorem nd_Mo_onePass_28 : decode nc_Mo_onePass 28 = .ok (.getfield 124, 3) := by decide +kernel
theorem nd_Mo_onePass_31 : decode nc_Mo_onePass 31 = .ok (.iload_n 3, 1) := by decide +kernel
theorem nd_Mo_onePass_32 : decode nc_Mo_onePass 32 = .ok (.if_icmp .eq 23, 3) := by decide +kernel
theorem nd_Mo_onePass_35 : decode nc_Mo_onePass 35 = .ok (.iinc 1 1, 3) := by decide +kernel
theorem nd_Mo_onePass_38 : decode nc_Mo_onePass 38 = .ok (.aload_n 0, 1) := by decide +kernel
theorem nd_Mo_onePass_39 : decode nc_Mo_onePass 39 = .ok (.iload_n 2, 1) := by decide +kernel
theorem nd_Mo_onePass_40 : decode nc_Mo_onePass 40 = .ok (.iload_n 3, 1) := by decide +kernel
theorem nd_Mo_onePass_41 : decode nc_Mo_onePass 41 = .ok (.iconst 1, 1) := by decide +kernel
theorem nd_Mo_onePass_42 : decode nc_Mo_onePass 42 = .ok (.invokevirtual 142, 3) := by decide +kernel
theorem nd_Mo_onePass_45 : decode nc_Mo_onePass 45 = .ok (.aload_n 0, 1) := by decide +kernel
theorem nd_Mo_onePass_46 : decode nc_Mo_onePass 46 = .ok (.iload_n 2, 1) := by decide +kernel
theorem nd_Mo_onePass_47 : decode nc_Mo_onePass 47 = .ok (.aload_n 0, 1) := by decide +kernel
theorem nd_Mo_onePass_48 : decode nc_Mo_onePass 48 = .ok (.getfield 124, 3) := by decide +kernel
theorem nd_Mo_onePass_51 : decode nc_Mo_onePass 51 = .ok (.iconst (-1), 1) := by decide +kernel
theorem nd_Mo_onePass_52 : decode nc_Mo_onePass 52 = .ok (.invokevirtual 142, 3) := by decide +kernel
theorem nd_Mo_onePass_55 : decode nc_Mo_onePass 55 = .ok (.iconst 0, 1) := by decide +kernel
theorem nd_Mo_onePass_56 : decode nc_Mo_onePass 56 = .ok (.istore 4, 2) := by decide +kernel
theorem nd_Mo_onePass_58 : decode nc_Mo_onePass 58 = .ok (.iload 4, 2) := by decide +kernel
theorem nd_Mo_onePass_60 : decode nc_Mo_onePass 60 = .ok (.sipush 148, 3) := by decide +kernel
theorem nd_Mo_onePass_63 : decode nc_Mo_onePass 63 = .ok (.if_icmp .ge 31, 3) := by decide +kernel
theorem nd_Mo_onePass_66 : decode nc_Mo_onePass 66 = .ok (.aload_n 0, 1) := by decide +kernel
theorem nd_Mo_onePass_67 : decode nc_Mo_onePass 67 = .ok (.getfield 35, 3) := by decide +kernel
theorem nd_Mo_onePass_70 : decode nc_Mo_onePass 70 = .ok (.iload 4, 2) := by decide +kernel
theorem nd_Mo_onePass_72 : decode nc_Mo_onePass 72 = .ok (.aload_n 0, 1) := by decide +kernel
theorem nd_Mo_onePass_73 : decode nc_Mo_onePass 73 = .ok (.getfield 35, 3) := by decide +kernel
theorem nd_Mo_onePass_76 : decode nc_Mo_onePass 76 = .ok (.iload 4, 2) := by decide +kernel
theorem nd_Mo_onePass_78 : decode nc_Mo_onePass 78 = .ok (.laload, 1) := by decide +kernel
theorem nd_Mo_onePass_79 : decode nc_Mo_onePass 79 = .ok (.aload_n 0, 1) := by decide +kernel
theorem nd_Mo_onePass_80 : decode nc_Mo_onePass 80 = .ok (.getfield 31, 3) := by decide +kernel
theorem nd_Mo_onePass_83 : decode nc_Mo_onePass 83 = .ok (.iload 4, 2) := by decide +kernel
theorem nd_Mo_onePass_85 : decode nc_Mo_onePass 85 = .ok (.laload, 1) := by decide +kernel
theorem nd_Mo_onePass_86 : decode nc_Mo_onePass 86 = .ok (.ladd, 1) := by decide +kernel
theorem nd_Mo_onePass_87 : decode nc_Mo_onePass 87 = .ok (.lastore, 1) := by decide +kernel
theorem nd_Mo_onePass_88 : decode nc_Mo_onePass 88 = .ok (.iinc 4 1, 3) := by decide +kernel
theorem nd_Mo_onePass_91 : decode nc_Mo_onePass 91 = .ok (.goto (-33), 3) := by decide +kernel
theorem nd_Mo_onePass_94 : decode nc_Mo_onePass 94 = .ok (.iinc 2 1, 3) := by decide +kernel
theorem nd_Mo_onePass_97 : decode nc_Mo_onePass 97 = .ok (.goto (-93), 3) := by decide +kernel
theorem nd_Mo_onePass_100 : decode nc_Mo_onePass 100 = .ok (.aload_n 0, 1) := by decide +kernel
theorem nd_Mo_onePass_101 : decode nc_Mo_onePass 101 = .ok (.dup, 1) := by decide +kernel
theorem nd_Mo_onePass_102 : decode nc_Mo_onePass 102 = .ok (.getfield 99, 3) := by decide +kernel
theorem nd_Mo_onePass_105 : decode nc_Mo_onePass 105 = .ok (.iconst 1, 1) := by decide +kernel
theorem nd_Mo_onePass_106 : decode nc_Mo_onePass 106 = .ok (.iadd, 1) := by decide +kernel
theorem nd_Mo_onePass_107 : decode nc_Mo_onePass 107 = .ok (.putfield 99, 3) := by decide +kernel
theorem nd_Mo_onePass_110 : decode nc_Mo_onePass 110 = .ok (.aload_n 0, 1) := by decide +kernel
theorem nd_Mo_onePass_111 : decode nc_Mo_onePass 111 = .ok (.aload_n 0, 1) := by decide +kernel
theorem nd_Mo_onePass_112 : decode nc_Mo_onePass 112 = .ok (.getfield 96, 3) := by decide +kernel
theorem nd_Mo_onePass_115 : decode nc_Mo_onePass 115 = .ok (.iload_n 1, 1) := by decide +kernel
theorem nd_Mo_onePass_116 : decode nc_Mo_onePass 116 = .ok (.iadd, 1) := by decide +kernel
theorem nd_Mo_onePass_117 : decode nc_Mo_onePass 117 = .ok (.putfield 96, 3) := by decide +kernel
theorem nd_Mo_onePass_120 : decode nc_Mo_onePass 120 = .ok (.iload_n 1, 1) := by decide +kernel
theorem nd_Mo_onePass_121 : decode nc_Mo_onePass 121 = .ok (.ireturn, 1) := by decide +kernel
theorem nd_Mo_learn_0 : decode nc_Mo_learn 0 = .ok (.aload_n 0, 1) := by decide +kernel
theorem nd_Mo_learn_1 : decode nc_Mo_learn 1 = .ok (.iload_n 1, 1) := by decide +kernel
theorem nd_Mo_learn_2 : decode nc_Mo_learn 2 = .ok (.iconst 1, 1) := by decide +kernel
theorem nd_Mo_learn_3 : decode nc_Mo_learn 3 = .ok (.if_icmp .lt 9, 3) := by decide +kernel
theorem nd_Mo_learn_6 : decode nc_Mo_learn 6 = .ok (.iload_n 1, 1) := by decide +kernel
theorem nd_Mo_learn_7 : decode nc_Mo_learn 7 = .ok (.bipush 6, 2) := by decide +kernel
theorem nd_Mo_learn_9 : decode nc_Mo_learn 9 = .ok (.if_icmp .le 7, 3) := by decide +kernel
theorem nd_Mo_learn_12 : decode nc_Mo_learn 12 = .ok (.iconst 1, 1) := by decide +kernel
theorem nd_Mo_learn_13 : decode nc_Mo_learn 13 = .ok (.goto 15, 3) := by decide +kernel
theorem nd_Mo_learn_16 : decode nc_Mo_learn 16 = .ok (.aload_n 0, 1) := by decide +kernel
theorem nd_Mo_learn_17 : decode nc_Mo_learn 17 = .ok (.getfield 89, 3) := by decide +kernel
theorem nd_Mo_learn_20 : decode nc_Mo_learn 20 = .ok (.ifCond .ne 7, 3) := by decide +kernel
theorem nd_Mo_learn_23 : decode nc_Mo_learn 23 = .ok (.iconst 2, 1) := by decide +kernel
theorem nd_Mo_learn_24 : decode nc_Mo_learn 24 = .ok (.goto 4, 3) := by decide +kernel
theorem nd_Mo_learn_27 : decode nc_Mo_learn 27 = .ok (.iconst 0, 1) := by decide +kernel
theorem nd_Mo_learn_28 : decode nc_Mo_learn 28 = .ok (.putfield 51, 3) := by decide +kernel
theorem nd_Mo_learn_31 : decode nc_Mo_learn 31 = .ok (.aload_n 0, 1) := by decide +kernel
theorem nd_Mo_learn_32 : decode nc_Mo_learn 32 = .ok (.getfield 51, 3) := by decide +kernel
theorem nd_Mo_learn_35 : decode nc_Mo_learn 35 = .ok (.ifCond .le 5, 3) := by decide +kernel
theorem nd_Mo_learn_38 : decode nc_Mo_learn 38 = .ok (.iconst 0, 1) := by decide +kernel
theorem nd_Mo_learn_39 : decode nc_Mo_learn 39 = .ok (.ireturn, 1) := by decide +kernel
theorem nd_Mo_learn_40 : decode nc_Mo_learn 40 = .ok (.iconst 1, 1) := by decide +kernel
theorem nd_Mo_learn_41 : decode nc_Mo_learn 41 = .ok (.istore_n 2, 1) := by decide +kernel
theorem nd_Mo_learn_42 : decode nc_Mo_learn 42 = .ok (.iconst 0, 1) := by decide +kernel
theorem nd_Mo_learn_43 : decode nc_Mo_learn 43 = .ok (.istore_n 3, 1) := by decide +kernel
theorem nd_Mo_learn_44 : decode nc_Mo_learn 44 = .ok (.iload_n 3, 1) := by decide +kernel
theorem nd_Mo_learn_45 : decode nc_Mo_learn 45 = .ok (.iload_n 1, 1) := by decide +kernel
theorem nd_Mo_learn_46 : decode nc_Mo_learn 46 = .ok (.if_icmp .ge 18, 3) := by decide +kernel
theorem nd_Mo_learn_49 : decode nc_Mo_learn 49 = .ok (.iload_n 2, 1) := by decide +kernel
theorem nd_Mo_learn_50 : decode nc_Mo_learn 50 = .ok (.ifCond .le 14, 3) := by decide +kernel
theorem nd_Mo_learn_53 : decode nc_Mo_learn 53 = .ok (.aload_n 0, 1) := by decide +kernel
theorem nd_Mo_learn_54 : decode nc_Mo_learn 54 = .ok (.invokevirtual 146, 3) := by decide +kernel
theorem nd_Mo_learn_57 : decode nc_Mo_learn 57 = .ok (.istore_n 2, 1) := by decide +kernel
theorem nd_Mo_learn_58 : decode nc_Mo_learn 58 = .ok (.iinc 3 1, 3) := by decide +kernel
theorem nd_Mo_learn_61 : decode nc_Mo_learn 61 = .ok (.goto (-17), 3) := by decide +kernel
theorem nd_Mo_learn_64 : decode nc_Mo_learn 64 = .ok (.iload_n 2, 1) := by decide +kernel
theorem nd_Mo_learn_65 : decode nc_Mo_learn 65 = .ok (.ireturn, 1) := by decide +kernel
theorem nd_Mo_mistakes_0 : decode nc_Mo_mistakes 0 = .ok (.aload_n 0, 1) := by decide +kernel
theorem nd_Mo_mistakes_1 : decode nc_Mo_mistakes 1 = .ok (.iconst 0, 1) := by decide +kernel
theorem nd_Mo_mistakes_2 : decode nc_Mo_mistakes 2 = .ok (.putfield 51, 3) := by decide +kernel
theorem nd_Mo_mistakes_5 : decode nc_Mo_mistakes 5 = .ok (.aload_n 0, 1) := by decide +kernel
theorem nd_Mo_mistakes_6 : decode nc_Mo_mistakes 6 = .ok (.getfield 96, 3) := by decide +kernel
theorem nd_Mo_mistakes_9 : decode nc_Mo_mistakes 9 = .ok (.ireturn, 1) := by decide +kernel
theorem nd_Mo_passes_0 : decode nc_Mo_passes 0 = .ok (.aload_n 0, 1) := by decide +kernel
theorem nd_Mo_passes_1 : decode nc_Mo_passes 1 = .ok (.iconst 0, 1) := by decide +kernel
theorem nd_Mo_passes_2 : decode nc_Mo_passes 2 = .ok (.putfield 51, 3) := by decide +kernel
theorem nd_Mo_passes_5 : decode nc_Mo_passes 5 = .ok (.aload_n 0, 1) := by decide +kernel
theorem nd_Mo_passes_6 : decode nc_Mo_passes 6 = .ok (.getfield 99, 3) := by decide +kernel
theorem nd_Mo_passes_9 : decode nc_Mo_passes 9 = .ok (.ireturn, 1) := by decide +kernel
theorem nd_Mo_weight_0 : decode nc_Mo_weight 0 = .ok (.aload_n 0, 1) := by decide +kernel
theorem nd_Mo_weight_1 : decode nc_Mo_weight 1 = .ok (.iload_n 1, 1) := by decide +kernel
theorem nd_Mo_weight_2 : decode nc_Mo_weight 2 = .ok (.ifCond .lt 18, 3) := by decide +kernel
theorem nd_Mo_weight_5 : decode nc_Mo_weight 5 = .ok (.iload_n 1, 1) := by decide +kernel
theorem nd_Mo_weight_6 : decode nc_Mo_weight 6 = .ok (.bipush 36, 2) := by decide +kernel
theorem nd_Mo_weight_8 : decode nc_Mo_weight 8 = .ok (.if_icmp .gt 12, 3) := by decide +kernel
theorem nd_Mo_weight_11 : decode nc_Mo_weight 11 = .ok (.iload_n 2, 1) := by decide +kernel
theorem nd_Mo_weight_12 : decode nc_Mo_weight 12 = .ok (.ifCond .lt 8, 3) := by decide +kernel
theorem nd_Mo_weight_15 : decode nc_Mo_weight 15 = .ok (.iload_n 2, 1) := by decide +kernel
theorem nd_Mo_weight_16 : decode nc_Mo_weight 16 = .ok (.iconst 3, 1) := by decide +kernel
theorem nd_Mo_weight_17 : decode nc_Mo_weight 17 = .ok (.if_icmp .le 7, 3) := by decide +kernel
theorem nd_Mo_weight_20 : decode nc_Mo_weight 20 = .ok (.iconst 1, 1) := by decide +kernel
theorem nd_Mo_weight_21 : decode nc_Mo_weight 21 = .ok (.goto 4, 3) := by decide +kernel
theorem nd_Mo_weight_24 : decode nc_Mo_weight 24 = .ok (.iconst 0, 1) := by decide +kernel
theorem nd_Mo_weight_25 : decode nc_Mo_weight 25 = .ok (.putfield 51, 3) := by decide +kernel
theorem nd_Mo_weight_28 : decode nc_Mo_weight 28 = .ok (.aload_n 0, 1) := by decide +kernel
theorem nd_Mo_weight_29 : decode nc_Mo_weight 29 = .ok (.getfield 51, 3) := by decide +kernel
theorem nd_Mo_weight_32 : decode nc_Mo_weight 32 = .ok (.ifCond .le 7, 3) := by decide +kernel
theorem nd_Mo_weight_35 : decode nc_Mo_weight 35 = .ok (.lconst 0, 1) := by decide +kernel
theorem nd_Mo_weight_36 : decode nc_Mo_weight 36 = .ok (.goto 30, 3) := by decide +kernel
theorem nd_Mo_weight_39 : decode nc_Mo_weight 39 = .ok (.iload_n 3, 1) := by decide +kernel
theorem nd_Mo_weight_40 : decode nc_Mo_weight 40 = .ok (.ifCond .eq 16, 3) := by decide +kernel
theorem nd_Mo_weight_43 : decode nc_Mo_weight 43 = .ok (.aload_n 0, 1) := by decide +kernel
theorem nd_Mo_weight_44 : decode nc_Mo_weight 44 = .ok (.getfield 35, 3) := by decide +kernel
theorem nd_Mo_weight_47 : decode nc_Mo_weight 47 = .ok (.iconst 4, 1) := by decide +kernel
theorem nd_Mo_weight_48 : decode nc_Mo_weight 48 = .ok (.iload_n 1, 1) := by decide +kernel
theorem nd_Mo_weight_49 : decode nc_Mo_weight 49 = .ok (.imul, 1) := by decide +kernel
theorem nd_Mo_weight_50 : decode nc_Mo_weight 50 = .ok (.iload_n 2, 1) := by decide +kernel
theorem nd_Mo_weight_51 : decode nc_Mo_weight 51 = .ok (.iadd, 1) := by decide +kernel
theorem nd_Mo_weight_52 : decode nc_Mo_weight 52 = .ok (.laload, 1) := by decide +kernel
theorem nd_Mo_weight_53 : decode nc_Mo_weight 53 = .ok (.goto 13, 3) := by decide +kernel
theorem nd_Mo_weight_56 : decode nc_Mo_weight 56 = .ok (.aload_n 0, 1) := by decide +kernel
theorem nd_Mo_weight_57 : decode nc_Mo_weight 57 = .ok (.getfield 31, 3) := by decide +kernel
theorem nd_Mo_weight_60 : decode nc_Mo_weight 60 = .ok (.iconst 4, 1) := by decide +kernel
theorem nd_Mo_weight_61 : decode nc_Mo_weight 61 = .ok (.iload_n 1, 1) := by decide +kernel
theorem nd_Mo_weight_62 : decode nc_Mo_weight 62 = .ok (.imul, 1) := by decide +kernel
theorem nd_Mo_weight_63 : decode nc_Mo_weight 63 = .ok (.iload_n 2, 1) := by decide +kernel
theorem nd_Mo_weight_64 : decode nc_Mo_weight 64 = .ok (.iadd, 1) := by decide +kernel
theorem nd_Mo_weight_65 : decode nc_Mo_weight 65 = .ok (.laload, 1) := by decide +kernel
theorem nd_Mo_weight_66 : decode nc_Mo_weight 66 = .ok (.lreturn, 1) := by decide +kernel
theorem nd_Mo_searchBy_0 : decode nc_Mo_searchBy 0 = .ok (.iload_n 2, 1) := by decide +kernel
theorem nd_Mo_searchBy_1 : decode nc_Mo_searchBy 1 = .ok (.ifCond .eq 15, 3) := by decide +kernel
theorem nd_Mo_searchBy_4 : decode nc_Mo_searchBy 4 = .ok (.aload_n 0, 1) := by decide +kernel
theorem nd_Mo_searchBy_5 : decode nc_Mo_searchBy 5 = .ok (.iload_n 1, 1) := by decide +kernel
theorem nd_Mo_searchBy_6 : decode nc_Mo_searchBy 6 = .ok (.aload_n 0, 1) := by decide +kernel
theorem nd_Mo_searchBy_7 : decode nc_Mo_searchBy 7 = .ok (.getfield 35, 3) := by decide +kernel
theorem nd_Mo_searchBy_10 : decode nc_Mo_searchBy 10 = .ok (.invokevirtual 136, 3) := by decide +kernel
theorem nd_Mo_searchBy_13 : decode nc_Mo_searchBy 13 = .ok (.goto 12, 3) := by decide +kernel
theorem nd_Mo_searchBy_16 : decode nc_Mo_searchBy 16 = .ok (.aload_n 0, 1) := by decide +kernel
theorem nd_Mo_searchBy_17 : decode nc_Mo_searchBy 17 = .ok (.iload_n 1, 1) := by decide +kernel
theorem nd_Mo_searchBy_18 : decode nc_Mo_searchBy 18 = .ok (.aload_n 0, 1) := by decide +kernel
theorem nd_Mo_searchBy_19 : decode nc_Mo_searchBy 19 = .ok (.getfield 31, 3) := by decide +kernel
theorem nd_Mo_searchBy_22 : decode nc_Mo_searchBy 22 = .ok (.invokevirtual 136, 3) := by decide +kernel
theorem nd_Mo_searchBy_25 : decode nc_Mo_searchBy 25 = .ok (.return_, 1) := by decide +kernel
theorem nd_Mo_decode_0 : decode nc_Mo_decode 0 = .ok (.aload_n 0, 1) := by decide +kernel
theorem nd_Mo_decode_1 : decode nc_Mo_decode 1 = .ok (.iload_n 1, 1) := by decide +kernel
theorem nd_Mo_decode_2 : decode nc_Mo_decode 2 = .ok (.invokevirtual 102, 3) := by decide +kernel
theorem nd_Mo_decode_5 : decode nc_Mo_decode 5 = .ok (.istore 4, 2) := by decide +kernel
theorem nd_Mo_decode_7 : decode nc_Mo_decode 7 = .ok (.aload_n 0, 1) := by decide +kernel
theorem nd_Mo_decode_8 : decode nc_Mo_decode 8 = .ok (.iload 4, 2) := by decide +kernel
theorem nd_Mo_decode_10 : decode nc_Mo_decode 10 = .ok (.ifCond .ge 7, 3) := by decide +kernel
theorem nd_Mo_decode_13 : decode nc_Mo_decode 13 = .ok (.iconst 1, 1) := by decide +kernel
theorem nd_Mo_decode_14 : decode nc_Mo_decode 14 = .ok (.goto 4, 3) := by decide +kernel
theorem nd_Mo_decode_17 : decode nc_Mo_decode 17 = .ok (.iconst 0, 1) := by decide +kernel
theorem nd_Mo_decode_18 : decode nc_Mo_decode 18 = .ok (.putfield 51, 3) := by decide +kernel
theorem nd_Mo_decode_21 : decode nc_Mo_decode 21 = .ok (.aload_n 0, 1) := by decide +kernel
theorem nd_Mo_decode_22 : decode nc_Mo_decode 22 = .ok (.getfield 51, 3) := by decide +kernel
theorem nd_Mo_decode_25 : decode nc_Mo_decode 25 = .ok (.ifCond .le 5, 3) := by decide +kernel
theorem nd_Mo_decode_28 : decode nc_Mo_decode 28 = .ok (.lconst 0, 1) := by decide +kernel
theorem nd_Mo_decode_29 : decode nc_Mo_decode 29 = .ok (.lreturn, 1) := by decide +kernel
theorem nd_Mo_decode_30 : decode nc_Mo_decode 30 = .ok (.aload_n 0, 1) := by decide +kernel
theorem nd_Mo_decode_31 : decode nc_Mo_decode 31 = .ok (.iload 4, 2) := by decide +kernel
theorem nd_Mo_decode_33 : decode nc_Mo_decode 33 = .ok (.iload_n 2, 1) := by decide +kernel
theorem nd_Mo_decode_34 : decode nc_Mo_decode 34 = .ok (.invokevirtual 150, 3) := by decide +kernel
theorem nd_Mo_decode_37 : decode nc_Mo_decode 37 = .ok (.aload_n 0, 1) := by decide +kernel
theorem nd_Mo_decode_38 : decode nc_Mo_decode 38 = .ok (.iload_n 3, 1) := by decide +kernel
theorem nd_Mo_decode_39 : decode nc_Mo_decode 39 = .ok (.ifCond .eq 10, 3) := by decide +kernel
theorem nd_Mo_decode_42 : decode nc_Mo_decode 42 = .ok (.aload_n 0, 1) := by decide +kernel
theorem nd_Mo_decode_43 : decode nc_Mo_decode 43 = .ok (.getfield 127, 3) := by decide +kernel
theorem nd_Mo_decode_46 : decode nc_Mo_decode 46 = .ok (.goto 7, 3) := by decide +kernel
theorem nd_Mo_decode_49 : decode nc_Mo_decode 49 = .ok (.aload_n 0, 1) := by decide +kernel
theorem nd_Mo_decode_50 : decode nc_Mo_decode 50 = .ok (.getfield 124, 3) := by decide +kernel
theorem nd_Mo_decode_53 : decode nc_Mo_decode 53 = .ok (.putfield 47, 3) := by decide +kernel
theorem nd_Mo_decode_56 : decode nc_Mo_decode 56 = .ok (.aload_n 0, 1) := by decide +kernel
theorem nd_Mo_decode_57 : decode nc_Mo_decode 57 = .ok (.aload_n 0, 1) := by decide +kernel
theorem nd_Mo_decode_58 : decode nc_Mo_decode 58 = .ok (.getfield 13, 3) := by decide +kernel
theorem nd_Mo_decode_61 : decode nc_Mo_decode 61 = .ok (.iload 4, 2) := by decide +kernel
theorem nd_Mo_decode_63 : decode nc_Mo_decode 63 = .ok (.iaload, 1) := by decide +kernel
theorem nd_Mo_decode_64 : decode nc_Mo_decode 64 = .ok (.putfield 154, 3) := by decide +kernel
theorem nd_Mo_decode_67 : decode nc_Mo_decode 67 = .ok (.iload_n 3, 1) := by decide +kernel
theorem nd_Mo_decode_68 : decode nc_Mo_decode 68 = .ok (.ifCond .eq 10, 3) := by decide +kernel
theorem nd_Mo_decode_71 : decode nc_Mo_decode 71 = .ok (.aload_n 0, 1) := by decide +kernel
theorem nd_Mo_decode_72 : decode nc_Mo_decode 72 = .ok (.getfield 130, 3) := by decide +kernel
theorem nd_Mo_decode_75 : decode nc_Mo_decode 75 = .ok (.goto 7, 3) := by decide +kernel
theorem nd_Mo_decode_78 : decode nc_Mo_decode 78 = .ok (.aload_n 0, 1) := by decide +kernel
theorem nd_Mo_decode_79 : decode nc_Mo_decode 79 = .ok (.getfield 120, 3) := by decide +kernel
theorem nd_Mo_decode_82 : decode nc_Mo_decode 82 = .ok (.lreturn, 1) := by decide +kernel
theorem nd_Mo_label_0 : decode nc_Mo_label 0 = .ok (.aload_n 0, 1) := by decide +kernel
theorem nd_Mo_label_1 : decode nc_Mo_label 1 = .ok (.aload_n 0, 1) := by decide +kernel
theorem nd_Mo_label_2 : decode nc_Mo_label 2 = .ok (.getfield 47, 3) := by decide +kernel
theorem nd_Mo_label_5 : decode nc_Mo_label 5 = .ok (.ifCond .lt 15, 3) := by decide +kernel
theorem nd_Mo_label_8 : decode nc_Mo_label 8 = .ok (.iload_n 1, 1) := by decide +kernel
theorem nd_Mo_label_9 : decode nc_Mo_label 9 = .ok (.ifCond .lt 11, 3) := by decide +kernel
theorem nd_Mo_label_12 : decode nc_Mo_label 12 = .ok (.iload_n 1, 1) := by decide +kernel
theorem nd_Mo_label_13 : decode nc_Mo_label 13 = .ok (.aload_n 0, 1) := by decide +kernel
theorem nd_Mo_label_14 : decode nc_Mo_label 14 = .ok (.getfield 154, 3) := by decide +kernel
end
section
theorem nd_Mo_label_17 : decode nc_Mo_label 17 = .ok (.if_icmp .lt 7, 3) := by decide +kernel
theorem nd_Mo_label_20 : decode nc_Mo_label 20 = .ok (.iconst 1, 1) := by decide +kernel
theorem nd_Mo_label_21 : decode nc_Mo_label 21 = .ok (.goto 4, 3) := by decide +kernel
theorem nd_Mo_label_24 : decode nc_Mo_label 24 = .ok (.iconst 0, 1) := by decide +kernel
theorem nd_Mo_label_25 : decode nc_Mo_label 25 = .ok (.putfield 51, 3) := by decide +kernel
theorem nd_Mo_label_28 : decode nc_Mo_label 28 = .ok (.aload_n 0, 1) := by decide +kernel
theorem nd_Mo_label_29 : decode nc_Mo_label 29 = .ok (.getfield 51, 3) := by decide +kernel
theorem nd_Mo_label_32 : decode nc_Mo_label 32 = .ok (.ifCond .le 7, 3) := by decide +kernel
theorem nd_Mo_label_35 : decode nc_Mo_label 35 = .ok (.iconst 0, 1) := by decide +kernel
theorem nd_Mo_label_36 : decode nc_Mo_label 36 = .ok (.goto 13, 3) := by decide +kernel
theorem nd_Mo_label_39 : decode nc_Mo_label 39 = .ok (.aload_n 0, 1) := by decide +kernel
theorem nd_Mo_label_40 : decode nc_Mo_label 40 = .ok (.getfield 47, 3) := by decide +kernel
theorem nd_Mo_label_43 : decode nc_Mo_label 43 = .ok (.iconst 2, 1) := by decide +kernel
theorem nd_Mo_label_44 : decode nc_Mo_label 44 = .ok (.iload_n 1, 1) := by decide +kernel
theorem nd_Mo_label_45 : decode nc_Mo_label 45 = .ok (.imul, 1) := by decide +kernel
theorem nd_Mo_label_46 : decode nc_Mo_label 46 = .ok (.ishr, 1) := by decide +kernel
theorem nd_Mo_label_47 : decode nc_Mo_label 47 = .ok (.iconst 3, 1) := by decide +kernel
theorem nd_Mo_label_48 : decode nc_Mo_label 48 = .ok (.iand, 1) := by decide +kernel
theorem nd_Mo_label_49 : decode nc_Mo_label 49 = .ok (.ireturn, 1) := by decide +kernel
theorem nd_Mo_score_0 : decode nc_Mo_score 0 = .ok (.aload_n 0, 1) := by decide +kernel
theorem nd_Mo_score_1 : decode nc_Mo_score 1 = .ok (.iload_n 1, 1) := by decide +kernel
theorem nd_Mo_score_2 : decode nc_Mo_score 2 = .ok (.invokevirtual 102, 3) := by decide +kernel
theorem nd_Mo_score_5 : decode nc_Mo_score 5 = .ok (.istore 4, 2) := by decide +kernel
theorem nd_Mo_score_7 : decode nc_Mo_score 7 = .ok (.aload_n 0, 1) := by decide +kernel
theorem nd_Mo_score_8 : decode nc_Mo_score 8 = .ok (.iload 4, 2) := by decide +kernel
theorem nd_Mo_score_10 : decode nc_Mo_score 10 = .ok (.ifCond .ge 7, 3) := by decide +kernel
theorem nd_Mo_score_13 : decode nc_Mo_score 13 = .ok (.iconst 1, 1) := by decide +kernel
theorem nd_Mo_score_14 : decode nc_Mo_score 14 = .ok (.goto 4, 3) := by decide +kernel
theorem nd_Mo_score_17 : decode nc_Mo_score 17 = .ok (.iconst 0, 1) := by decide +kernel
theorem nd_Mo_score_18 : decode nc_Mo_score 18 = .ok (.putfield 51, 3) := by decide +kernel
theorem nd_Mo_score_21 : decode nc_Mo_score 21 = .ok (.aload_n 0, 1) := by decide +kernel
theorem nd_Mo_score_22 : decode nc_Mo_score 22 = .ok (.getfield 51, 3) := by decide +kernel
theorem nd_Mo_score_25 : decode nc_Mo_score 25 = .ok (.ifCond .le 5, 3) := by decide +kernel
theorem nd_Mo_score_28 : decode nc_Mo_score 28 = .ok (.lconst 0, 1) := by decide +kernel
theorem nd_Mo_score_29 : decode nc_Mo_score 29 = .ok (.lreturn, 1) := by decide +kernel
theorem nd_Mo_score_30 : decode nc_Mo_score 30 = .ok (.iconst 0, 1) := by decide +kernel
theorem nd_Mo_score_31 : decode nc_Mo_score 31 = .ok (.istore 5, 2) := by decide +kernel
theorem nd_Mo_score_33 : decode nc_Mo_score 33 = .ok (.iload 5, 2) := by decide +kernel
theorem nd_Mo_score_35 : decode nc_Mo_score 35 = .ok (.bipush 6, 2) := by decide +kernel
theorem nd_Mo_score_37 : decode nc_Mo_score 37 = .ok (.if_icmp .ge 24, 3) := by decide +kernel
theorem nd_Mo_score_40 : decode nc_Mo_score 40 = .ok (.aload_n 0, 1) := by decide +kernel
theorem nd_Mo_score_41 : decode nc_Mo_score 41 = .ok (.getfield 41, 3) := by decide +kernel
theorem nd_Mo_score_44 : decode nc_Mo_score 44 = .ok (.iload 5, 2) := by decide +kernel
theorem nd_Mo_score_46 : decode nc_Mo_score 46 = .ok (.iload_n 2, 1) := by decide +kernel
theorem nd_Mo_score_47 : decode nc_Mo_score 47 = .ok (.iconst 2, 1) := by decide +kernel
theorem nd_Mo_score_48 : decode nc_Mo_score 48 = .ok (.iload 5, 2) := by decide +kernel
theorem nd_Mo_score_50 : decode nc_Mo_score 50 = .ok (.imul, 1) := by decide +kernel
theorem nd_Mo_score_51 : decode nc_Mo_score 51 = .ok (.ishr, 1) := by decide +kernel
theorem nd_Mo_score_52 : decode nc_Mo_score 52 = .ok (.iconst 3, 1) := by decide +kernel
theorem nd_Mo_score_53 : decode nc_Mo_score 53 = .ok (.iand, 1) := by decide +kernel
theorem nd_Mo_score_54 : decode nc_Mo_score 54 = .ok (.iastore, 1) := by decide +kernel
theorem nd_Mo_score_55 : decode nc_Mo_score 55 = .ok (.iinc 5 1, 3) := by decide +kernel
theorem nd_Mo_score_58 : decode nc_Mo_score 58 = .ok (.goto (-25), 3) := by decide +kernel
theorem nd_Mo_score_61 : decode nc_Mo_score 61 = .ok (.iload_n 3, 1) := by decide +kernel
theorem nd_Mo_score_62 : decode nc_Mo_score 62 = .ok (.ifCond .eq 32, 3) := by decide +kernel
theorem nd_Mo_score_65 : decode nc_Mo_score 65 = .ok (.aload_n 0, 1) := by decide +kernel
theorem nd_Mo_score_66 : decode nc_Mo_score 66 = .ok (.iload 4, 2) := by decide +kernel
theorem nd_Mo_score_68 : decode nc_Mo_score 68 = .ok (.aload_n 0, 1) := by decide +kernel
theorem nd_Mo_score_69 : decode nc_Mo_score 69 = .ok (.getfield 35, 3) := by decide +kernel
theorem nd_Mo_score_72 : decode nc_Mo_score 72 = .ok (.invokevirtual 112, 3) := by decide +kernel
theorem nd_Mo_score_75 : decode nc_Mo_score 75 = .ok (.aload_n 0, 1) := by decide +kernel
theorem nd_Mo_score_76 : decode nc_Mo_score 76 = .ok (.iconst 0, 1) := by decide +kernel
theorem nd_Mo_score_77 : decode nc_Mo_score 77 = .ok (.aload_n 0, 1) := by decide +kernel
theorem nd_Mo_score_78 : decode nc_Mo_score 78 = .ok (.getfield 13, 3) := by decide +kernel
theorem nd_Mo_score_81 : decode nc_Mo_score 81 = .ok (.iload 4, 2) := by decide +kernel
theorem nd_Mo_score_83 : decode nc_Mo_score 83 = .ok (.iaload, 1) := by decide +kernel
theorem nd_Mo_score_84 : decode nc_Mo_score 84 = .ok (.aload_n 0, 1) := by decide +kernel
theorem nd_Mo_score_85 : decode nc_Mo_score 85 = .ok (.getfield 35, 3) := by decide +kernel
theorem nd_Mo_score_88 : decode nc_Mo_score 88 = .ok (.invokevirtual 116, 3) := by decide +kernel
theorem nd_Mo_score_91 : decode nc_Mo_score 91 = .ok (.goto 29, 3) := by decide +kernel
theorem nd_Mo_score_94 : decode nc_Mo_score 94 = .ok (.aload_n 0, 1) := by decide +kernel
theorem nd_Mo_score_95 : decode nc_Mo_score 95 = .ok (.iload 4, 2) := by decide +kernel
theorem nd_Mo_score_97 : decode nc_Mo_score 97 = .ok (.aload_n 0, 1) := by decide +kernel
theorem nd_Mo_score_98 : decode nc_Mo_score 98 = .ok (.getfield 31, 3) := by decide +kernel
theorem nd_Mo_score_101 : decode nc_Mo_score 101 = .ok (.invokevirtual 112, 3) := by decide +kernel
theorem nd_Mo_score_104 : decode nc_Mo_score 104 = .ok (.aload_n 0, 1) := by decide +kernel
theorem nd_Mo_score_105 : decode nc_Mo_score 105 = .ok (.iconst 0, 1) := by decide +kernel
theorem nd_Mo_score_106 : decode nc_Mo_score 106 = .ok (.aload_n 0, 1) := by decide +kernel
theorem nd_Mo_score_107 : decode nc_Mo_score 107 = .ok (.getfield 13, 3) := by decide +kernel
theorem nd_Mo_score_110 : decode nc_Mo_score 110 = .ok (.iload 4, 2) := by decide +kernel
theorem nd_Mo_score_112 : decode nc_Mo_score 112 = .ok (.iaload, 1) := by decide +kernel
theorem nd_Mo_score_113 : decode nc_Mo_score 113 = .ok (.aload_n 0, 1) := by decide +kernel
theorem nd_Mo_score_114 : decode nc_Mo_score 114 = .ok (.getfield 31, 3) := by decide +kernel
theorem nd_Mo_score_117 : decode nc_Mo_score 117 = .ok (.invokevirtual 116, 3) := by decide +kernel
theorem nd_Mo_score_120 : decode nc_Mo_score 120 = .ok (.aload_n 0, 1) := by decide +kernel
theorem nd_Mo_score_121 : decode nc_Mo_score 121 = .ok (.getfield 44, 3) := by decide +kernel
theorem nd_Mo_score_124 : decode nc_Mo_score 124 = .ok (.aload_n 0, 1) := by decide +kernel
theorem nd_Mo_score_125 : decode nc_Mo_score 125 = .ok (.getfield 13, 3) := by decide +kernel
theorem nd_Mo_score_128 : decode nc_Mo_score 128 = .ok (.iload 4, 2) := by decide +kernel
theorem nd_Mo_score_130 : decode nc_Mo_score 130 = .ok (.iaload, 1) := by decide +kernel
theorem nd_Mo_score_131 : decode nc_Mo_score 131 = .ok (.laload, 1) := by decide +kernel
theorem nd_Mo_score_132 : decode nc_Mo_score 132 = .ok (.lreturn, 1) := by decide +kernel
theorem nd_Mo_errors_0 : decode nc_Mo_errors 0 = .ok (.aload_n 0, 1) := by decide +kernel
theorem nd_Mo_errors_1 : decode nc_Mo_errors 1 = .ok (.iconst 0, 1) := by decide +kernel
theorem nd_Mo_errors_2 : decode nc_Mo_errors 2 = .ok (.putfield 51, 3) := by decide +kernel
theorem nd_Mo_errors_5 : decode nc_Mo_errors 5 = .ok (.iconst 0, 1) := by decide +kernel
theorem nd_Mo_errors_6 : decode nc_Mo_errors 6 = .ok (.istore_n 2, 1) := by decide +kernel
theorem nd_Mo_errors_7 : decode nc_Mo_errors 7 = .ok (.iconst 0, 1) := by decide +kernel
theorem nd_Mo_errors_8 : decode nc_Mo_errors 8 = .ok (.istore_n 3, 1) := by decide +kernel
theorem nd_Mo_errors_9 : decode nc_Mo_errors 9 = .ok (.iload_n 3, 1) := by decide +kernel
theorem nd_Mo_errors_10 : decode nc_Mo_errors 10 = .ok (.aload_n 0, 1) := by decide +kernel
theorem nd_Mo_errors_11 : decode nc_Mo_errors 11 = .ok (.getfield 89, 3) := by decide +kernel
theorem nd_Mo_errors_14 : decode nc_Mo_errors 14 = .ok (.if_icmp .ge 69, 3) := by decide +kernel
theorem nd_Mo_errors_17 : decode nc_Mo_errors 17 = .ok (.aload_n 0, 1) := by decide +kernel
theorem nd_Mo_errors_18 : decode nc_Mo_errors 18 = .ok (.iload_n 3, 1) := by decide +kernel
theorem nd_Mo_errors_19 : decode nc_Mo_errors 19 = .ok (.iload_n 1, 1) := by decide +kernel
theorem nd_Mo_errors_20 : decode nc_Mo_errors 20 = .ok (.invokevirtual 150, 3) := by decide +kernel
theorem nd_Mo_errors_23 : decode nc_Mo_errors 23 = .ok (.iconst 0, 1) := by decide +kernel
theorem nd_Mo_errors_24 : decode nc_Mo_errors 24 = .ok (.istore 4, 2) := by decide +kernel
theorem nd_Mo_errors_26 : decode nc_Mo_errors 26 = .ok (.iload 4, 2) := by decide +kernel
theorem nd_Mo_errors_28 : decode nc_Mo_errors 28 = .ok (.aload_n 0, 1) := by decide +kernel
theorem nd_Mo_errors_29 : decode nc_Mo_errors 29 = .ok (.getfield 13, 3) := by decide +kernel
theorem nd_Mo_errors_32 : decode nc_Mo_errors 32 = .ok (.iload_n 3, 1) := by decide +kernel
theorem nd_Mo_errors_33 : decode nc_Mo_errors 33 = .ok (.iaload, 1) := by decide +kernel
theorem nd_Mo_errors_34 : decode nc_Mo_errors 34 = .ok (.if_icmp .ge 43, 3) := by decide +kernel
theorem nd_Mo_errors_37 : decode nc_Mo_errors 37 = .ok (.aload_n 0, 1) := by decide +kernel
theorem nd_Mo_errors_38 : decode nc_Mo_errors 38 = .ok (.getfield 124, 3) := by decide +kernel
theorem nd_Mo_errors_41 : decode nc_Mo_errors 41 = .ok (.iconst 2, 1) := by decide +kernel
theorem nd_Mo_errors_42 : decode nc_Mo_errors 42 = .ok (.iload 4, 2) := by decide +kernel
theorem nd_Mo_errors_44 : decode nc_Mo_errors 44 = .ok (.imul, 1) := by decide +kernel
theorem nd_Mo_errors_45 : decode nc_Mo_errors 45 = .ok (.ishr, 1) := by decide +kernel
theorem nd_Mo_errors_46 : decode nc_Mo_errors 46 = .ok (.iconst 3, 1) := by decide +kernel
theorem nd_Mo_errors_47 : decode nc_Mo_errors 47 = .ok (.iand, 1) := by decide +kernel
theorem nd_Mo_errors_48 : decode nc_Mo_errors 48 = .ok (.aload_n 0, 1) := by decide +kernel
theorem nd_Mo_errors_49 : decode nc_Mo_errors 49 = .ok (.getfield 19, 3) := by decide +kernel
theorem nd_Mo_errors_52 : decode nc_Mo_errors 52 = .ok (.bipush 6, 2) := by decide +kernel
theorem nd_Mo_errors_54 : decode nc_Mo_errors 54 = .ok (.iload_n 3, 1) := by decide +kernel
theorem nd_Mo_errors_55 : decode nc_Mo_errors 55 = .ok (.imul, 1) := by decide +kernel
theorem nd_Mo_errors_56 : decode nc_Mo_errors 56 = .ok (.iload 4, 2) := by decide +kernel
theorem nd_Mo_errors_58 : decode nc_Mo_errors 58 = .ok (.iadd, 1) := by decide +kernel
theorem nd_Mo_errors_59 : decode nc_Mo_errors 59 = .ok (.iaload, 1) := by decide +kernel
theorem nd_Mo_errors_60 : decode nc_Mo_errors 60 = .ok (.if_icmp .eq 9, 3) := by decide +kernel
theorem nd_Mo_errors_63 : decode nc_Mo_errors 63 = .ok (.iload_n 2, 1) := by decide +kernel
theorem nd_Mo_errors_64 : decode nc_Mo_errors 64 = .ok (.iconst 1, 1) := by decide +kernel
theorem nd_Mo_errors_65 : decode nc_Mo_errors 65 = .ok (.iadd, 1) := by decide +kernel
theorem nd_Mo_errors_66 : decode nc_Mo_errors 66 = .ok (.goto 4, 3) := by decide +kernel
theorem nd_Mo_errors_69 : decode nc_Mo_errors 69 = .ok (.iload_n 2, 1) := by decide +kernel
theorem nd_Mo_errors_70 : decode nc_Mo_errors 70 = .ok (.istore_n 2, 1) := by decide +kernel
theorem nd_Mo_errors_71 : decode nc_Mo_errors 71 = .ok (.iinc 4 1, 3) := by decide +kernel
theorem nd_Mo_errors_74 : decode nc_Mo_errors 74 = .ok (.goto (-48), 3) := by decide +kernel
theorem nd_Mo_errors_77 : decode nc_Mo_errors 77 = .ok (.iinc 3 1, 3) := by decide +kernel
theorem nd_Mo_errors_80 : decode nc_Mo_errors 80 = .ok (.goto (-71), 3) := by decide +kernel
theorem nd_Mo_errors_83 : decode nc_Mo_errors 83 = .ok (.iload_n 2, 1) := by decide +kernel
theorem nd_Mo_errors_84 : decode nc_Mo_errors 84 = .ok (.ireturn, 1) := by decide +kernel
theorem nd_Co_init_0 : decode nc_Co_init 0 = .ok (.aload_n 0, 1) := by decide +kernel
theorem nd_Co_init_1 : decode nc_Co_init 1 = .ok (.invokespecial 3, 3) := by decide +kernel
theorem nd_Co_init_4 : decode nc_Co_init 4 = .ok (.aload_n 0, 1) := by decide +kernel
theorem nd_Co_init_5 : decode nc_Co_init 5 = .ok (.bipush 8, 2) := by decide +kernel
theorem nd_Co_init_7 : decode nc_Co_init 7 = .ok (.anewarray 9, 3) := by decide +kernel
theorem nd_Co_init_10 : decode nc_Co_init 10 = .ok (.putfield 11, 3) := by decide +kernel
theorem nd_Co_init_13 : decode nc_Co_init 13 = .ok (.iconst 0, 1) := by decide +kernel
theorem nd_Co_init_14 : decode nc_Co_init 14 = .ok (.istore_n 1, 1) := by decide +kernel
theorem nd_Co_init_15 : decode nc_Co_init 15 = .ok (.iload_n 1, 1) := by decide +kernel
theorem nd_Co_init_16 : decode nc_Co_init 16 = .ok (.bipush 8, 2) := by decide +kernel
theorem nd_Co_init_18 : decode nc_Co_init 18 = .ok (.if_icmp .ge 22, 3) := by decide +kernel
theorem nd_Co_init_21 : decode nc_Co_init 21 = .ok (.aload_n 0, 1) := by decide +kernel
theorem nd_Co_init_22 : decode nc_Co_init 22 = .ok (.getfield 11, 3) := by decide +kernel
theorem nd_Co_init_25 : decode nc_Co_init 25 = .ok (.iload_n 1, 1) := by decide +kernel
theorem nd_Co_init_26 : decode nc_Co_init 26 = .ok (.new 9, 3) := by decide +kernel
theorem nd_Co_init_29 : decode nc_Co_init 29 = .ok (.dup, 1) := by decide +kernel
theorem nd_Co_init_30 : decode nc_Co_init 30 = .ok (.invokespecial 17, 3) := by decide +kernel
theorem nd_Co_init_33 : decode nc_Co_init 33 = .ok (.aastore, 1) := by decide +kernel
theorem nd_Co_init_34 : decode nc_Co_init 34 = .ok (.iinc 1 1, 3) := by decide +kernel
theorem nd_Co_init_37 : decode nc_Co_init 37 = .ok (.goto (-22), 3) := by decide +kernel
theorem nd_Co_init_40 : decode nc_Co_init 40 = .ok (.return_, 1) := by decide +kernel
theorem nd_De_init_0 : decode nc_De_init 0 = .ok (.aload_n 0, 1) := by decide +kernel
theorem nd_De_init_1 : decode nc_De_init 1 = .ok (.invokespecial 3, 3) := by decide +kernel
theorem nd_De_init_4 : decode nc_De_init 4 = .ok (.aload_n 0, 1) := by decide +kernel
theorem nd_De_init_5 : decode nc_De_init 5 = .ok (.bipush 24, 2) := by decide +kernel
theorem nd_De_init_7 : decode nc_De_init 7 = .ok (.anewarray 9, 3) := by decide +kernel
theorem nd_De_init_10 : decode nc_De_init 10 = .ok (.putfield 11, 3) := by decide +kernel
theorem nd_De_init_13 : decode nc_De_init 13 = .ok (.aload_n 0, 1) := by decide +kernel
theorem nd_De_init_14 : decode nc_De_init 14 = .ok (.new 9, 3) := by decide +kernel
theorem nd_De_init_17 : decode nc_De_init 17 = .ok (.dup, 1) := by decide +kernel
theorem nd_De_init_18 : decode nc_De_init 18 = .ok (.invokespecial 17, 3) := by decide +kernel
theorem nd_De_init_21 : decode nc_De_init 21 = .ok (.putfield 18, 3) := by decide +kernel
theorem nd_De_init_24 : decode nc_De_init 24 = .ok (.iconst 0, 1) := by decide +kernel
theorem nd_De_init_25 : decode nc_De_init 25 = .ok (.istore_n 1, 1) := by decide +kernel
theorem nd_De_init_26 : decode nc_De_init 26 = .ok (.iload_n 1, 1) := by decide +kernel
theorem nd_De_init_27 : decode nc_De_init 27 = .ok (.aload_n 0, 1) := by decide +kernel
theorem nd_De_init_28 : decode nc_De_init 28 = .ok (.getfield 11, 3) := by decide +kernel
theorem nd_De_init_31 : decode nc_De_init 31 = .ok (.arraylength, 1) := by decide +kernel
theorem nd_De_init_32 : decode nc_De_init 32 = .ok (.if_icmp .ge 22, 3) := by decide +kernel
theorem nd_De_init_35 : decode nc_De_init 35 = .ok (.aload_n 0, 1) := by decide +kernel
theorem nd_De_init_36 : decode nc_De_init 36 = .ok (.getfield 11, 3) := by decide +kernel
theorem nd_De_init_39 : decode nc_De_init 39 = .ok (.iload_n 1, 1) := by decide +kernel
theorem nd_De_init_40 : decode nc_De_init 40 = .ok (.new 9, 3) := by decide +kernel
theorem nd_De_init_43 : decode nc_De_init 43 = .ok (.dup, 1) := by decide +kernel
theorem nd_De_init_44 : decode nc_De_init 44 = .ok (.invokespecial 17, 3) := by decide +kernel
theorem nd_De_init_47 : decode nc_De_init 47 = .ok (.aastore, 1) := by decide +kernel
theorem nd_De_init_48 : decode nc_De_init 48 = .ok (.iinc 1 1, 3) := by decide +kernel
theorem nd_De_init_51 : decode nc_De_init 51 = .ok (.goto (-25), 3) := by decide +kernel
theorem nd_De_init_54 : decode nc_De_init 54 = .ok (.return_, 1) := by decide +kernel
theorem nd_De_rank_0 : decode nc_De_rank 0 = .ok (.aload_n 1, 1) := by decide +kernel
theorem nd_De_rank_1 : decode nc_De_rank 1 = .ok (.getfield 22, 3) := by decide +kernel
theorem nd_De_rank_4 : decode nc_De_rank 4 = .ok (.iconst 1, 1) := by decide +kernel
theorem nd_De_rank_5 : decode nc_De_rank 5 = .ok (.isub, 1) := by decide +kernel
theorem nd_De_rank_6 : decode nc_De_rank 6 = .ok (.istore_n 3, 1) := by decide +kernel
theorem nd_De_rank_7 : decode nc_De_rank 7 = .ok (.iload_n 3, 1) := by decide +kernel
theorem nd_De_rank_8 : decode nc_De_rank 8 = .ok (.ifCond .lt 33, 3) := by decide +kernel
theorem nd_De_rank_11 : decode nc_De_rank 11 = .ok (.iconst 0, 1) := by decide +kernel
theorem nd_De_rank_12 : decode nc_De_rank 12 = .ok (.istore 4, 2) := by decide +kernel
theorem nd_De_rank_14 : decode nc_De_rank 14 = .ok (.iload 4, 2) := by decide +kernel
theorem nd_De_rank_16 : decode nc_De_rank 16 = .ok (.iconst 4, 1) := by decide +kernel
theorem nd_De_rank_17 : decode nc_De_rank 17 = .ok (.if_icmp .ge 18, 3) := by decide +kernel
theorem nd_De_rank_20 : decode nc_De_rank 20 = .ok (.aload_n 0, 1) := by decide +kernel
theorem nd_De_rank_21 : decode nc_De_rank 21 = .ok (.aload_n 1, 1) := by decide +kernel
theorem nd_De_rank_22 : decode nc_De_rank 22 = .ok (.aload_n 2, 1) := by decide +kernel
theorem nd_De_rank_23 : decode nc_De_rank 23 = .ok (.iload_n 3, 1) := by decide +kernel
theorem nd_De_rank_24 : decode nc_De_rank 24 = .ok (.iload 4, 2) := by decide +kernel
theorem nd_De_rank_26 : decode nc_De_rank 26 = .ok (.invokevirtual 28, 3) := by decide +kernel
theorem nd_De_rank_29 : decode nc_De_rank 29 = .ok (.iinc 4 1, 3) := by decide +kernel
theorem nd_De_rank_32 : decode nc_De_rank 32 = .ok (.goto (-18), 3) := by decide +kernel
theorem nd_De_rank_35 : decode nc_De_rank 35 = .ok (.iinc 3 (-1), 3) := by decide +kernel
theorem nd_De_rank_38 : decode nc_De_rank 38 = .ok (.goto (-31), 3) := by decide +kernel
theorem nd_De_rank_41 : decode nc_De_rank 41 = .ok (.aload_n 0, 1) := by decide +kernel
theorem nd_De_rank_42 : decode nc_De_rank 42 = .ok (.getfield 18, 3) := by decide +kernel
theorem nd_De_rank_45 : decode nc_De_rank 45 = .ok (.invokevirtual 32, 3) := by decide +kernel
theorem nd_De_rank_48 : decode nc_De_rank 48 = .ok (.iconst 0, 1) := by decide +kernel
theorem nd_De_rank_49 : decode nc_De_rank 49 = .ok (.istore_n 3, 1) := by decide +kernel
theorem nd_De_rank_50 : decode nc_De_rank 50 = .ok (.iload_n 3, 1) := by decide +kernel
theorem nd_De_rank_51 : decode nc_De_rank 51 = .ok (.iconst 4, 1) := by decide +kernel
theorem nd_De_rank_52 : decode nc_De_rank 52 = .ok (.if_icmp .ge 30, 3) := by decide +kernel
theorem nd_De_rank_55 : decode nc_De_rank 55 = .ok (.aload_n 0, 1) := by decide +kernel
theorem nd_De_rank_56 : decode nc_De_rank 56 = .ok (.getfield 18, 3) := by decide +kernel
theorem nd_De_rank_59 : decode nc_De_rank 59 = .ok (.aload_n 0, 1) := by decide +kernel
theorem nd_De_rank_60 : decode nc_De_rank 60 = .ok (.iconst 0, 1) := by decide +kernel
theorem nd_De_rank_61 : decode nc_De_rank 61 = .ok (.iload_n 3, 1) := by decide +kernel
theorem nd_De_rank_62 : decode nc_De_rank 62 = .ok (.invokevirtual 35, 3) := by decide +kernel
theorem nd_De_rank_65 : decode nc_De_rank 65 = .ok (.aload_n 2, 1) := by decide +kernel
theorem nd_De_rank_66 : decode nc_De_rank 66 = .ok (.bipush 32, 2) := by decide +kernel
theorem nd_De_rank_68 : decode nc_De_rank 68 = .ok (.iload_n 3, 1) := by decide +kernel
theorem nd_De_rank_69 : decode nc_De_rank 69 = .ok (.invokevirtual 39, 3) := by decide +kernel
theorem nd_De_rank_72 : decode nc_De_rank 72 = .ok (.iconst 0, 1) := by decide +kernel
theorem nd_De_rank_73 : decode nc_De_rank 73 = .ok (.invokevirtual 45, 3) := by decide +kernel
theorem nd_De_rank_76 : decode nc_De_rank 76 = .ok (.iinc 3 1, 3) := by decide +kernel
theorem nd_De_rank_79 : decode nc_De_rank 79 = .ok (.goto (-29), 3) := by decide +kernel
theorem nd_De_rank_82 : decode nc_De_rank 82 = .ok (.aload_n 0, 1) := by decide +kernel
theorem nd_De_rank_83 : decode nc_De_rank 83 = .ok (.getfield 18, 3) := by decide +kernel
theorem nd_De_rank_86 : decode nc_De_rank 86 = .ok (.areturn, 1) := by decide +kernel
theorem nd_De_rankTails_0 : decode nc_De_rankTails 0 = .ok (.aload_n 0, 1) := by decide +kernel
theorem nd_De_rankTails_1 : decode nc_De_rankTails 1 = .ok (.iload_n 3, 1) := by decide +kernel
theorem nd_De_rankTails_2 : decode nc_De_rankTails 2 = .ok (.iload 4, 2) := by decide +kernel
theorem nd_De_rankTails_4 : decode nc_De_rankTails 4 = .ok (.invokevirtual 35, 3) := by decide +kernel
theorem nd_De_rankTails_7 : decode nc_De_rankTails 7 = .ok (.astore 5, 2) := by decide +kernel
theorem nd_De_rankTails_9 : decode nc_De_rankTails 9 = .ok (.aload_n 2, 1) := by decide +kernel
theorem nd_De_rankTails_10 : decode nc_De_rankTails 10 = .ok (.aload_n 1, 1) := by decide +kernel
theorem nd_De_rankTails_11 : decode nc_De_rankTails 11 = .ok (.iload_n 3, 1) := by decide +kernel
theorem nd_De_rankTails_12 : decode nc_De_rankTails 12 = .ok (.iload 4, 2) := by decide +kernel
theorem nd_De_rankTails_14 : decode nc_De_rankTails 14 = .ok (.invokevirtual 49, 3) := by decide +kernel
theorem nd_De_rankTails_17 : decode nc_De_rankTails 17 = .ok (.lstore 6, 2) := by decide +kernel
theorem nd_De_rankTails_19 : decode nc_De_rankTails 19 = .ok (.iload 4, 2) := by decide +kernel
theorem nd_De_rankTails_21 : decode nc_De_rankTails 21 = .ok (.iconst 2, 1) := by decide +kernel
theorem nd_De_rankTails_22 : decode nc_De_rankTails 22 = .ok (.iload_n 3, 1) := by decide +kernel
theorem nd_De_rankTails_23 : decode nc_De_rankTails 23 = .ok (.imul, 1) := by decide +kernel
theorem nd_De_rankTails_24 : decode nc_De_rankTails 24 = .ok (.ishl, 1) := by decide +kernel
theorem nd_De_rankTails_25 : decode nc_De_rankTails 25 = .ok (.istore 8, 2) := by decide +kernel
theorem nd_De_rankTails_27 : decode nc_De_rankTails 27 = .ok (.aload 5, 2) := by decide +kernel
theorem nd_De_rankTails_29 : decode nc_De_rankTails 29 = .ok (.invokevirtual 32, 3) := by decide +kernel
theorem nd_De_rankTails_32 : decode nc_De_rankTails 32 = .ok (.iload_n 3, 1) := by decide +kernel
theorem nd_De_rankTails_33 : decode nc_De_rankTails 33 = .ok (.aload_n 1, 1) := by decide +kernel
theorem nd_De_rankTails_34 : decode nc_De_rankTails 34 = .ok (.getfield 22, 3) := by decide +kernel
theorem nd_De_rankTails_37 : decode nc_De_rankTails 37 = .ok (.iconst 1, 1) := by decide +kernel
theorem nd_De_rankTails_38 : decode nc_De_rankTails 38 = .ok (.isub, 1) := by decide +kernel
theorem nd_De_rankTails_39 : decode nc_De_rankTails 39 = .ok (.if_icmp .ne 13, 3) := by decide +kernel
theorem nd_De_rankTails_42 : decode nc_De_rankTails 42 = .ok (.aload 5, 2) := by decide +kernel
theorem nd_De_rankTails_44 : decode nc_De_rankTails 44 = .ok (.lload 6, 2) := by decide +kernel
theorem nd_De_rankTails_46 : decode nc_De_rankTails 46 = .ok (.iload 8, 2) := by decide +kernel
theorem nd_De_rankTails_48 : decode nc_De_rankTails 48 = .ok (.invokevirtual 53, 3) := by decide +kernel
theorem nd_De_rankTails_51 : decode nc_De_rankTails 51 = .ok (.return_, 1) := by decide +kernel
theorem nd_De_rankTails_52 : decode nc_De_rankTails 52 = .ok (.iconst 0, 1) := by decide +kernel
theorem nd_De_rankTails_53 : decode nc_De_rankTails 53 = .ok (.istore 9, 2) := by decide +kernel
theorem nd_De_rankTails_55 : decode nc_De_rankTails 55 = .ok (.iload 9, 2) := by decide +kernel
theorem nd_De_rankTails_57 : decode nc_De_rankTails 57 = .ok (.iconst 4, 1) := by decide +kernel
theorem nd_De_rankTails_58 : decode nc_De_rankTails 58 = .ok (.if_icmp .ge 39, 3) := by decide +kernel
theorem nd_De_rankTails_61 : decode nc_De_rankTails 61 = .ok (.aload 5, 2) := by decide +kernel
theorem nd_De_rankTails_63 : decode nc_De_rankTails 63 = .ok (.aload_n 0, 1) := by decide +kernel
theorem nd_De_rankTails_64 : decode nc_De_rankTails 64 = .ok (.iload_n 3, 1) := by decide +kernel
theorem nd_De_rankTails_65 : decode nc_De_rankTails 65 = .ok (.iconst 1, 1) := by decide +kernel
theorem nd_De_rankTails_66 : decode nc_De_rankTails 66 = .ok (.iadd, 1) := by decide +kernel
theorem nd_De_rankTails_67 : decode nc_De_rankTails 67 = .ok (.iload 9, 2) := by decide +kernel
theorem nd_De_rankTails_69 : decode nc_De_rankTails 69 = .ok (.invokevirtual 35, 3) := by decide +kernel
theorem nd_De_rankTails_72 : decode nc_De_rankTails 72 = .ok (.lload 6, 2) := by decide +kernel
theorem nd_De_rankTails_74 : decode nc_De_rankTails 74 = .ok (.aload_n 2, 1) := by decide +kernel
theorem nd_De_rankTails_75 : decode nc_De_rankTails 75 = .ok (.bipush 33, 2) := by decide +kernel
theorem nd_De_rankTails_77 : decode nc_De_rankTails 77 = .ok (.iload 4, 2) := by decide +kernel
theorem nd_De_rankTails_79 : decode nc_De_rankTails 79 = .ok (.iadd, 1) := by decide +kernel
theorem nd_De_rankTails_80 : decode nc_De_rankTails 80 = .ok (.iload 9, 2) := by decide +kernel
theorem nd_De_rankTails_82 : decode nc_De_rankTails 82 = .ok (.invokevirtual 39, 3) := by decide +kernel
theorem nd_De_rankTails_85 : decode nc_De_rankTails 85 = .ok (.ladd, 1) := by decide +kernel
theorem nd_De_rankTails_86 : decode nc_De_rankTails 86 = .ok (.iload 8, 2) := by decide +kernel
theorem nd_De_rankTails_88 : decode nc_De_rankTails 88 = .ok (.invokevirtual 45, 3) := by decide +kernel
theorem nd_De_rankTails_91 : decode nc_De_rankTails 91 = .ok (.iinc 9 1, 3) := by decide +kernel
theorem nd_De_rankTails_94 : decode nc_De_rankTails 94 = .ok (.goto (-39), 3) := by decide +kernel
theorem nd_De_rankTails_97 : decode nc_De_rankTails 97 = .ok (.return_, 1) := by decide +kernel
theorem nd_De_tailsFrom_0 : decode nc_De_tailsFrom 0 = .ok (.aload_n 0, 1) := by decide +kernel
theorem nd_De_tailsFrom_1 : decode nc_De_tailsFrom 1 = .ok (.getfield 11, 3) := by decide +kernel
theorem nd_De_tailsFrom_4 : decode nc_De_tailsFrom 4 = .ok (.iload_n 1, 1) := by decide +kernel
theorem nd_De_tailsFrom_5 : decode nc_De_tailsFrom 5 = .ok (.iconst 4, 1) := by decide +kernel
theorem nd_De_tailsFrom_6 : decode nc_De_tailsFrom 6 = .ok (.imul, 1) := by decide +kernel
theorem nd_De_tailsFrom_7 : decode nc_De_tailsFrom 7 = .ok (.iload_n 2, 1) := by decide +kernel
theorem nd_De_tailsFrom_8 : decode nc_De_tailsFrom 8 = .ok (.iadd, 1) := by decide +kernel
theorem nd_De_tailsFrom_9 : decode nc_De_tailsFrom 9 = .ok (.aaload, 1) := by decide +kernel
theorem nd_De_tailsFrom_10 : decode nc_De_tailsFrom 10 = .ok (.areturn, 1) := by decide +kernel
theorem nd_Ra_init_0 : decode nc_Ra_init 0 = .ok (.aload_n 0, 1) := by decide +kernel
theorem nd_Ra_init_1 : decode nc_Ra_init 1 = .ok (.invokespecial 3, 3) := by decide +kernel
theorem nd_Ra_init_4 : decode nc_Ra_init 4 = .ok (.aload_n 0, 1) := by decide +kernel
theorem nd_Ra_init_5 : decode nc_Ra_init 5 = .ok (.iconst 2, 1) := by decide +kernel
theorem nd_Ra_init_6 : decode nc_Ra_init 6 = .ok (.newarray .long, 2) := by decide +kernel
theorem nd_Ra_init_8 : decode nc_Ra_init 8 = .ok (.putfield 9, 3) := by decide +kernel
theorem nd_Ra_init_11 : decode nc_Ra_init 11 = .ok (.aload_n 0, 1) := by decide +kernel
theorem nd_Ra_init_12 : decode nc_Ra_init 12 = .ok (.iconst 2, 1) := by decide +kernel
theorem nd_Ra_init_13 : decode nc_Ra_init 13 = .ok (.newarray .int, 2) := by decide +kernel
theorem nd_Ra_init_15 : decode nc_Ra_init 15 = .ok (.putfield 15, 3) := by decide +kernel
theorem nd_Ra_init_18 : decode nc_Ra_init 18 = .ok (.return_, 1) := by decide +kernel
theorem nd_Ra_clear_0 : decode nc_Ra_clear 0 = .ok (.aload_n 0, 1) := by decide +kernel
theorem nd_Ra_clear_1 : decode nc_Ra_clear 1 = .ok (.iconst 0, 1) := by decide +kernel
theorem nd_Ra_clear_2 : decode nc_Ra_clear 2 = .ok (.putfield 19, 3) := by decide +kernel
theorem nd_Ra_clear_5 : decode nc_Ra_clear 5 = .ok (.return_, 1) := by decide +kernel
theorem nd_Ra_offer_0 : decode nc_Ra_offer 0 = .ok (.aload_n 0, 1) := by decide +kernel
theorem nd_Ra_offer_1 : decode nc_Ra_offer 1 = .ok (.getfield 19, 3) := by decide +kernel
theorem nd_Ra_offer_4 : decode nc_Ra_offer 4 = .ok (.ifCond .eq 14, 3) := by decide +kernel
theorem nd_Ra_offer_7 : decode nc_Ra_offer 7 = .ok (.lload_n 1, 1) := by decide +kernel
theorem nd_Ra_offer_8 : decode nc_Ra_offer 8 = .ok (.aload_n 0, 1) := by decide +kernel
theorem nd_Ra_offer_9 : decode nc_Ra_offer 9 = .ok (.getfield 9, 3) := by decide +kernel
theorem nd_Ra_offer_12 : decode nc_Ra_offer 12 = .ok (.iconst 0, 1) := by decide +kernel
theorem nd_Ra_offer_13 : decode nc_Ra_offer 13 = .ok (.laload, 1) := by decide +kernel
theorem nd_Ra_offer_14 : decode nc_Ra_offer 14 = .ok (.lcmp, 1) := by decide +kernel
theorem nd_Ra_offer_15 : decode nc_Ra_offer 15 = .ok (.ifCond .le 44, 3) := by decide +kernel
theorem nd_Ra_offer_18 : decode nc_Ra_offer 18 = .ok (.aload_n 0, 1) := by decide +kernel
theorem nd_Ra_offer_19 : decode nc_Ra_offer 19 = .ok (.getfield 9, 3) := by decide +kernel
theorem nd_Ra_offer_22 : decode nc_Ra_offer 22 = .ok (.iconst 1, 1) := by decide +kernel
theorem nd_Ra_offer_23 : decode nc_Ra_offer 23 = .ok (.aload_n 0, 1) := by decide +kernel
theorem nd_Ra_offer_24 : decode nc_Ra_offer 24 = .ok (.getfield 9, 3) := by decide +kernel
theorem nd_Ra_offer_27 : decode nc_Ra_offer 27 = .ok (.iconst 0, 1) := by decide +kernel
theorem nd_Ra_offer_28 : decode nc_Ra_offer 28 = .ok (.laload, 1) := by decide +kernel
theorem nd_Ra_offer_29 : decode nc_Ra_offer 29 = .ok (.lastore, 1) := by decide +kernel
theorem nd_Ra_offer_30 : decode nc_Ra_offer 30 = .ok (.aload_n 0, 1) := by decide +kernel
theorem nd_Ra_offer_31 : decode nc_Ra_offer 31 = .ok (.getfield 15, 3) := by decide +kernel
theorem nd_Ra_offer_34 : decode nc_Ra_offer 34 = .ok (.iconst 1, 1) := by decide +kernel
theorem nd_Ra_offer_35 : decode nc_Ra_offer 35 = .ok (.aload_n 0, 1) := by decide +kernel
theorem nd_Ra_offer_36 : decode nc_Ra_offer 36 = .ok (.getfield 15, 3) := by decide +kernel
theorem nd_Ra_offer_39 : decode nc_Ra_offer 39 = .ok (.iconst 0, 1) := by decide +kernel
theorem nd_Ra_offer_40 : decode nc_Ra_offer 40 = .ok (.iaload, 1) := by decide +kernel
theorem nd_Ra_offer_41 : decode nc_Ra_offer 41 = .ok (.iastore, 1) := by decide +kernel
theorem nd_Ra_offer_42 : decode nc_Ra_offer 42 = .ok (.aload_n 0, 1) := by decide +kernel
theorem nd_Ra_offer_43 : decode nc_Ra_offer 43 = .ok (.getfield 9, 3) := by decide +kernel
theorem nd_Ra_offer_46 : decode nc_Ra_offer 46 = .ok (.iconst 0, 1) := by decide +kernel
theorem nd_Ra_offer_47 : decode nc_Ra_offer 47 = .ok (.lload_n 1, 1) := by decide +kernel
theorem nd_Ra_offer_48 : decode nc_Ra_offer 48 = .ok (.lastore, 1) := by decide +kernel
theorem nd_Ra_offer_49 : decode nc_Ra_offer 49 = .ok (.aload_n 0, 1) := by decide +kernel
theorem nd_Ra_offer_50 : decode nc_Ra_offer 50 = .ok (.getfield 15, 3) := by decide +kernel
theorem nd_Ra_offer_53 : decode nc_Ra_offer 53 = .ok (.iconst 0, 1) := by decide +kernel
theorem nd_Ra_offer_54 : decode nc_Ra_offer 54 = .ok (.iload_n 3, 1) := by decide +kernel
theorem nd_Ra_offer_55 : decode nc_Ra_offer 55 = .ok (.iastore, 1) := by decide +kernel
theorem nd_Ra_offer_56 : decode nc_Ra_offer 56 = .ok (.goto 36, 3) := by decide +kernel
theorem nd_Ra_offer_59 : decode nc_Ra_offer 59 = .ok (.aload_n 0, 1) := by decide +kernel
theorem nd_Ra_offer_60 : decode nc_Ra_offer 60 = .ok (.getfield 19, 3) := by decide +kernel
theorem nd_Ra_offer_63 : decode nc_Ra_offer 63 = .ok (.iconst 1, 1) := by decide +kernel
theorem nd_Ra_offer_64 : decode nc_Ra_offer 64 = .ok (.if_icmp .eq 14, 3) := by decide +kernel
theorem nd_Ra_offer_67 : decode nc_Ra_offer 67 = .ok (.lload_n 1, 1) := by decide +kernel
theorem nd_Ra_offer_68 : decode nc_Ra_offer 68 = .ok (.aload_n 0, 1) := by decide +kernel
theorem nd_Ra_offer_69 : decode nc_Ra_offer 69 = .ok (.getfield 9, 3) := by decide +kernel
theorem nd_Ra_offer_72 : decode nc_Ra_offer 72 = .ok (.iconst 1, 1) := by decide +kernel
theorem nd_Ra_offer_73 : decode nc_Ra_offer 73 = .ok (.laload, 1) := by decide +kernel
theorem nd_Ra_offer_74 : decode nc_Ra_offer 74 = .ok (.lcmp, 1) := by decide +kernel
theorem nd_Ra_offer_75 : decode nc_Ra_offer 75 = .ok (.ifCond .le 17, 3) := by decide +kernel
theorem nd_Ra_offer_78 : decode nc_Ra_offer 78 = .ok (.aload_n 0, 1) := by decide +kernel
theorem nd_Ra_offer_79 : decode nc_Ra_offer 79 = .ok (.getfield 9, 3) := by decide +kernel
theorem nd_Ra_offer_82 : decode nc_Ra_offer 82 = .ok (.iconst 1, 1) := by decide +kernel
theorem nd_Ra_offer_83 : decode nc_Ra_offer 83 = .ok (.lload_n 1, 1) := by decide +kernel
theorem nd_Ra_offer_84 : decode nc_Ra_offer 84 = .ok (.lastore, 1) := by decide +kernel
theorem nd_Ra_offer_85 : decode nc_Ra_offer 85 = .ok (.aload_n 0, 1) := by decide +kernel
theorem nd_Ra_offer_86 : decode nc_Ra_offer 86 = .ok (.getfield 15, 3) := by decide +kernel
theorem nd_Ra_offer_89 : decode nc_Ra_offer 89 = .ok (.iconst 1, 1) := by decide +kernel
theorem nd_Ra_offer_90 : decode nc_Ra_offer 90 = .ok (.iload_n 3, 1) := by decide +kernel
theorem nd_Ra_offer_91 : decode nc_Ra_offer 91 = .ok (.iastore, 1) := by decide +kernel
theorem nd_Ra_offer_92 : decode nc_Ra_offer 92 = .ok (.aload_n 0, 1) := by decide +kernel
theorem nd_Ra_offer_93 : decode nc_Ra_offer 93 = .ok (.getfield 19, 3) := by decide +kernel
theorem nd_Ra_offer_96 : decode nc_Ra_offer 96 = .ok (.iconst 2, 1) := by decide +kernel
theorem nd_Ra_offer_97 : decode nc_Ra_offer 97 = .ok (.if_icmp .ge 13, 3) := by decide +kernel
theorem nd_Ra_offer_100 : decode nc_Ra_offer 100 = .ok (.aload_n 0, 1) := by decide +kernel
theorem nd_Ra_offer_101 : decode nc_Ra_offer 101 = .ok (.dup, 1) := by decide +kernel
theorem nd_Ra_offer_102 : decode nc_Ra_offer 102 = .ok (.getfield 19, 3) := by decide +kernel
theorem nd_Ra_offer_105 : decode nc_Ra_offer 105 = .ok (.iconst 1, 1) := by decide +kernel
theorem nd_Ra_offer_106 : decode nc_Ra_offer 106 = .ok (.iadd, 1) := by decide +kernel
theorem nd_Ra_offer_107 : decode nc_Ra_offer 107 = .ok (.putfield 19, 3) := by decide +kernel
theorem nd_Ra_offer_110 : decode nc_Ra_offer 110 = .ok (.return_, 1) := by decide +kernel
theorem nd_Ra_offerLonger_0 : decode nc_Ra_offerLonger 0 = .ok (.iconst 0, 1) := by decide +kernel
theorem nd_Ra_offerLonger_1 : decode nc_Ra_offerLonger 1 = .ok (.istore 5, 2) := by decide +kernel
theorem nd_Ra_offerLonger_3 : decode nc_Ra_offerLonger 3 = .ok (.iload 5, 2) := by decide +kernel
theorem nd_Ra_offerLonger_5 : decode nc_Ra_offerLonger 5 = .ok (.aload_n 1, 1) := by decide +kernel
theorem nd_Ra_offerLonger_6 : decode nc_Ra_offerLonger 6 = .ok (.getfield 19, 3) := by decide +kernel
theorem nd_Ra_offerLonger_9 : decode nc_Ra_offerLonger 9 = .ok (.if_icmp .ge 32, 3) := by decide +kernel
theorem nd_Ra_offerLonger_12 : decode nc_Ra_offerLonger 12 = .ok (.aload_n 0, 1) := by decide +kernel
theorem nd_Ra_offerLonger_13 : decode nc_Ra_offerLonger 13 = .ok (.aload_n 1, 1) := by decide +kernel
theorem nd_Ra_offerLonger_14 : decode nc_Ra_offerLonger 14 = .ok (.getfield 9, 3) := by decide +kernel
theorem nd_Ra_offerLonger_17 : decode nc_Ra_offerLonger 17 = .ok (.iload 5, 2) := by decide +kernel
theorem nd_Ra_offerLonger_19 : decode nc_Ra_offerLonger 19 = .ok (.laload, 1) := by decide +kernel
theorem nd_Ra_offerLonger_20 : decode nc_Ra_offerLonger 20 = .ok (.lload_n 2, 1) := by decide +kernel
theorem nd_Ra_offerLonger_21 : decode nc_Ra_offerLonger 21 = .ok (.ladd, 1) := by decide +kernel
theorem nd_Ra_offerLonger_22 : decode nc_Ra_offerLonger 22 = .ok (.aload_n 1, 1) := by decide +kernel
theorem nd_Ra_offerLonger_23 : decode nc_Ra_offerLonger 23 = .ok (.getfield 15, 3) := by decide +kernel
theorem nd_Ra_offerLonger_26 : decode nc_Ra_offerLonger 26 = .ok (.iload 5, 2) := by decide +kernel
theorem nd_Ra_offerLonger_28 : decode nc_Ra_offerLonger 28 = .ok (.iaload, 1) := by decide +kernel
theorem nd_Ra_offerLonger_29 : decode nc_Ra_offerLonger 29 = .ok (.iload 4, 2) := by decide +kernel
theorem nd_Ra_offerLonger_31 : decode nc_Ra_offerLonger 31 = .ok (.ior, 1) := by decide +kernel
theorem nd_Ra_offerLonger_32 : decode nc_Ra_offerLonger 32 = .ok (.invokevirtual 23, 3) := by decide +kernel
theorem nd_Ra_offerLonger_35 : decode nc_Ra_offerLonger 35 = .ok (.iinc 5 1, 3) := by decide +kernel
theorem nd_Ra_offerLonger_38 : decode nc_Ra_offerLonger 38 = .ok (.goto (-35), 3) := by decide +kernel
theorem nd_Ra_offerLonger_41 : decode nc_Ra_offerLonger 41 = .ok (.return_, 1) := by decide +kernel
theorem nd_Se_init_0 : decode nc_Se_init 0 = .ok (.aload_n 0, 1) := by decide +kernel
theorem nd_Se_init_1 : decode nc_Se_init 1 = .ok (.invokespecial 3, 3) := by decide +kernel
theorem nd_Se_init_4 : decode nc_Se_init 4 = .ok (.aload_n 0, 1) := by decide +kernel
theorem nd_Se_init_5 : decode nc_Se_init 5 = .ok (.bipush 18, 2) := by decide +kernel
theorem nd_Se_init_7 : decode nc_Se_init 7 = .ok (.newarray .int, 2) := by decide +kernel
theorem nd_Se_init_9 : decode nc_Se_init 9 = .ok (.putfield 9, 3) := by decide +kernel
theorem nd_Se_init_12 : decode nc_Se_init 12 = .ok (.return_, 1) := by decide +kernel
theorem nd_Se_clear_0 : decode nc_Se_clear 0 = .ok (.aload_n 0, 1) := by decide +kernel
theorem nd_Se_clear_1 : decode nc_Se_clear 1 = .ok (.iconst 0, 1) := by decide +kernel
theorem nd_Se_clear_2 : decode nc_Se_clear 2 = .ok (.putfield 15, 3) := by decide +kernel
theorem nd_Se_clear_5 : decode nc_Se_clear 5 = .ok (.aload_n 0, 1) := by decide +kernel
theorem nd_Se_clear_6 : decode nc_Se_clear 6 = .ok (.iconst 0, 1) := by decide +kernel
theorem nd_Se_clear_7 : decode nc_Se_clear 7 = .ok (.putfield 19, 3) := by decide +kernel
theorem nd_Se_clear_10 : decode nc_Se_clear 10 = .ok (.return_, 1) := by decide +kernel
theorem nd_Se_bucketOf_0 : decode nc_Se_bucketOf 0 = .ok (.aload_n 0, 1) := by decide +kernel
theorem nd_Se_bucketOf_1 : decode nc_Se_bucketOf 1 = .ok (.getfield 9, 3) := by decide +kernel
theorem nd_Se_bucketOf_4 : decode nc_Se_bucketOf 4 = .ok (.iload_n 1, 1) := by decide +kernel
theorem nd_Se_bucketOf_5 : decode nc_Se_bucketOf 5 = .ok (.iconst 3, 1) := by decide +kernel
theorem nd_Se_bucketOf_6 : decode nc_Se_bucketOf 6 = .ok (.imul, 1) := by decide +kernel
theorem nd_Se_bucketOf_7 : decode nc_Se_bucketOf 7 = .ok (.iload_n 2, 1) := by decide +kernel
theorem nd_Se_bucketOf_8 : decode nc_Se_bucketOf 8 = .ok (.iadd, 1) := by decide +kernel
theorem nd_Se_bucketOf_9 : decode nc_Se_bucketOf 9 = .ok (.iaload, 1) := by decide +kernel
theorem nd_Se_bucketOf_10 : decode nc_Se_bucketOf 10 = .ok (.ireturn, 1) := by decide +kernel
theorem nd_Se_setBucket_0 : decode nc_Se_setBucket 0 = .ok (.aload_n 0, 1) := by decide +kernel
theorem nd_Se_setBucket_1 : decode nc_Se_setBucket 1 = .ok (.getfield 9, 3) := by decide +kernel
theorem nd_Se_setBucket_4 : decode nc_Se_setBucket 4 = .ok (.iload_n 1, 1) := by decide +kernel
theorem nd_Se_setBucket_5 : decode nc_Se_setBucket 5 = .ok (.iconst 3, 1) := by decide +kernel
theorem nd_Se_setBucket_6 : decode nc_Se_setBucket 6 = .ok (.imul, 1) := by decide +kernel
theorem nd_Se_setBucket_7 : decode nc_Se_setBucket 7 = .ok (.iload_n 2, 1) := by decide +kernel
theorem nd_Se_setBucket_8 : decode nc_Se_setBucket 8 = .ok (.iadd, 1) := by decide +kernel
theorem nd_Se_setBucket_9 : decode nc_Se_setBucket 9 = .ok (.iload_n 3, 1) := by decide +kernel
theorem nd_Se_setBucket_10 : decode nc_Se_setBucket 10 = .ok (.iastore, 1) := by decide +kernel
theorem nd_Se_setBucket_11 : decode nc_Se_setBucket 11 = .ok (.return_, 1) := by decide +kernel
theorem nd_Te_init_0 : decode nc_Te_init 0 = .ok (.aload_n 0, 1) := by decide +kernel
theorem nd_Te_init_1 : decode nc_Te_init 1 = .ok (.invokespecial 3, 3) := by decide +kernel
theorem nd_Te_init_4 : decode nc_Te_init 4 = .ok (.aload_n 0, 1) := by decide +kernel
theorem nd_Te_init_5 : decode nc_Te_init 5 = .ok (.sipush 240, 3) := by decide +kernel
theorem nd_Te_init_8 : decode nc_Te_init 8 = .ok (.newarray .char, 2) := by decide +kernel
theorem nd_Te_init_10 : decode nc_Te_init 10 = .ok (.putfield 9, 3) := by decide +kernel
end
section
theorem nd_Te_init_13 : decode nc_Te_init 13 = .ok (.return_, 1) := by decide +kernel
theorem nd_Te_append_0 : decode nc_Te_append 0 = .ok (.iload_n 3, 1) := by decide +kernel
theorem nd_Te_append_1 : decode nc_Te_append 1 = .ok (.iconst 1, 1) := by decide +kernel
theorem nd_Te_append_2 : decode nc_Te_append 2 = .ok (.if_icmp .lt 21, 3) := by decide +kernel
theorem nd_Te_append_5 : decode nc_Te_append 5 = .ok (.iload_n 3, 1) := by decide +kernel
theorem nd_Te_append_6 : decode nc_Te_append 6 = .ok (.bipush 8, 2) := by decide +kernel
theorem nd_Te_append_8 : decode nc_Te_append 8 = .ok (.if_icmp .gt 15, 3) := by decide +kernel
theorem nd_Te_append_11 : decode nc_Te_append 11 = .ok (.iload_n 3, 1) := by decide +kernel
theorem nd_Te_append_12 : decode nc_Te_append 12 = .ok (.sipush 240, 3) := by decide +kernel
theorem nd_Te_append_15 : decode nc_Te_append 15 = .ok (.aload_n 0, 1) := by decide +kernel
theorem nd_Te_append_16 : decode nc_Te_append 16 = .ok (.getfield 15, 3) := by decide +kernel
theorem nd_Te_append_19 : decode nc_Te_append 19 = .ok (.isub, 1) := by decide +kernel
theorem nd_Te_append_20 : decode nc_Te_append 20 = .ok (.if_icmp .le 5, 3) := by decide +kernel
theorem nd_Te_append_23 : decode nc_Te_append 23 = .ok (.iconst 0, 1) := by decide +kernel
theorem nd_Te_append_24 : decode nc_Te_append 24 = .ok (.ireturn, 1) := by decide +kernel
theorem nd_Te_append_25 : decode nc_Te_append 25 = .ok (.iconst 0, 1) := by decide +kernel
theorem nd_Te_append_26 : decode nc_Te_append 26 = .ok (.istore 4, 2) := by decide +kernel
theorem nd_Te_append_28 : decode nc_Te_append 28 = .ok (.iload 4, 2) := by decide +kernel
theorem nd_Te_append_30 : decode nc_Te_append 30 = .ok (.iload_n 3, 1) := by decide +kernel
theorem nd_Te_append_31 : decode nc_Te_append 31 = .ok (.if_icmp .ge 33, 3) := by decide +kernel
theorem nd_Te_append_34 : decode nc_Te_append 34 = .ok (.lload_n 1, 1) := by decide +kernel
theorem nd_Te_append_35 : decode nc_Te_append 35 = .ok (.iload 4, 2) := by decide +kernel
theorem nd_Te_append_37 : decode nc_Te_append 37 = .ok (.invokestatic 19, 3) := by decide +kernel
theorem nd_Te_append_40 : decode nc_Te_append 40 = .ok (.istore 5, 2) := by decide +kernel
theorem nd_Te_append_42 : decode nc_Te_append 42 = .ok (.iload 5, 2) := by decide +kernel
theorem nd_Te_append_44 : decode nc_Te_append 44 = .ok (.bipush 32, 2) := by decide +kernel
theorem nd_Te_append_46 : decode nc_Te_append 46 = .ok (.if_icmp .lt 10, 3) := by decide +kernel
theorem nd_Te_append_49 : decode nc_Te_append 49 = .ok (.iload 5, 2) := by decide +kernel
theorem nd_Te_append_51 : decode nc_Te_append 51 = .ok (.bipush 126, 2) := by decide +kernel
theorem nd_Te_append_53 : decode nc_Te_append 53 = .ok (.if_icmp .le 5, 3) := by decide +kernel
theorem nd_Te_append_56 : decode nc_Te_append 56 = .ok (.iconst 0, 1) := by decide +kernel
theorem nd_Te_append_57 : decode nc_Te_append 57 = .ok (.ireturn, 1) := by decide +kernel
theorem nd_Te_append_58 : decode nc_Te_append 58 = .ok (.iinc 4 1, 3) := by decide +kernel
theorem nd_Te_append_61 : decode nc_Te_append 61 = .ok (.goto (-33), 3) := by decide +kernel
theorem nd_Te_append_64 : decode nc_Te_append 64 = .ok (.iconst 0, 1) := by decide +kernel
theorem nd_Te_append_65 : decode nc_Te_append 65 = .ok (.istore 4, 2) := by decide +kernel
theorem nd_Te_append_67 : decode nc_Te_append 67 = .ok (.iload 4, 2) := by decide +kernel
theorem nd_Te_append_69 : decode nc_Te_append 69 = .ok (.iload_n 3, 1) := by decide +kernel
theorem nd_Te_append_70 : decode nc_Te_append 70 = .ok (.if_icmp .ge 28, 3) := by decide +kernel
theorem nd_Te_append_73 : decode nc_Te_append 73 = .ok (.aload_n 0, 1) := by decide +kernel
theorem nd_Te_append_74 : decode nc_Te_append 74 = .ok (.getfield 9, 3) := by decide +kernel
theorem nd_Te_append_77 : decode nc_Te_append 77 = .ok (.aload_n 0, 1) := by decide +kernel
theorem nd_Te_append_78 : decode nc_Te_append 78 = .ok (.getfield 15, 3) := by decide +kernel
theorem nd_Te_append_81 : decode nc_Te_append 81 = .ok (.iload 4, 2) := by decide +kernel
theorem nd_Te_append_83 : decode nc_Te_append 83 = .ok (.iadd, 1) := by decide +kernel
theorem nd_Te_append_84 : decode nc_Te_append 84 = .ok (.lload_n 1, 1) := by decide +kernel
theorem nd_Te_append_85 : decode nc_Te_append 85 = .ok (.iload 4, 2) := by decide +kernel
theorem nd_Te_append_87 : decode nc_Te_append 87 = .ok (.invokestatic 19, 3) := by decide +kernel
theorem nd_Te_append_90 : decode nc_Te_append 90 = .ok (.i2c, 1) := by decide +kernel
theorem nd_Te_append_91 : decode nc_Te_append 91 = .ok (.castore, 1) := by decide +kernel
theorem nd_Te_append_92 : decode nc_Te_append 92 = .ok (.iinc 4 1, 3) := by decide +kernel
theorem nd_Te_append_95 : decode nc_Te_append 95 = .ok (.goto (-28), 3) := by decide +kernel
theorem nd_Te_append_98 : decode nc_Te_append 98 = .ok (.aload_n 0, 1) := by decide +kernel
theorem nd_Te_append_99 : decode nc_Te_append 99 = .ok (.dup, 1) := by decide +kernel
theorem nd_Te_append_100 : decode nc_Te_append 100 = .ok (.getfield 15, 3) := by decide +kernel
theorem nd_Te_append_103 : decode nc_Te_append 103 = .ok (.iload_n 3, 1) := by decide +kernel
theorem nd_Te_append_104 : decode nc_Te_append 104 = .ok (.iadd, 1) := by decide +kernel
theorem nd_Te_append_105 : decode nc_Te_append 105 = .ok (.putfield 15, 3) := by decide +kernel
theorem nd_Te_append_108 : decode nc_Te_append 108 = .ok (.iconst 1, 1) := by decide +kernel
theorem nd_Te_append_109 : decode nc_Te_append 109 = .ok (.ireturn, 1) := by decide +kernel
theorem nd_Te_keep_0 : decode nc_Te_keep 0 = .ok (.iload_n 1, 1) := by decide +kernel
theorem nd_Te_keep_1 : decode nc_Te_keep 1 = .ok (.ifCond .lt 11, 3) := by decide +kernel
theorem nd_Te_keep_4 : decode nc_Te_keep 4 = .ok (.iload_n 1, 1) := by decide +kernel
theorem nd_Te_keep_5 : decode nc_Te_keep 5 = .ok (.aload_n 0, 1) := by decide +kernel
theorem nd_Te_keep_6 : decode nc_Te_keep 6 = .ok (.getfield 15, 3) := by decide +kernel
theorem nd_Te_keep_9 : decode nc_Te_keep 9 = .ok (.if_icmp .le 5, 3) := by decide +kernel
theorem nd_Te_keep_12 : decode nc_Te_keep 12 = .ok (.iconst 0, 1) := by decide +kernel
theorem nd_Te_keep_13 : decode nc_Te_keep 13 = .ok (.ireturn, 1) := by decide +kernel
theorem nd_Te_keep_14 : decode nc_Te_keep 14 = .ok (.aload_n 0, 1) := by decide +kernel
theorem nd_Te_keep_15 : decode nc_Te_keep 15 = .ok (.iload_n 1, 1) := by decide +kernel
theorem nd_Te_keep_16 : decode nc_Te_keep 16 = .ok (.putfield 15, 3) := by decide +kernel
theorem nd_Te_keep_19 : decode nc_Te_keep 19 = .ok (.iconst 1, 1) := by decide +kernel
theorem nd_Te_keep_20 : decode nc_Te_keep 20 = .ok (.ireturn, 1) := by decide +kernel
theorem nd_Te_byteOf_0 : decode nc_Te_byteOf 0 = .ok (.lload_n 0, 1) := by decide +kernel
theorem nd_Te_byteOf_1 : decode nc_Te_byteOf 1 = .ok (.bipush 8, 2) := by decide +kernel
theorem nd_Te_byteOf_3 : decode nc_Te_byteOf 3 = .ok (.iload_n 2, 1) := by decide +kernel
theorem nd_Te_byteOf_4 : decode nc_Te_byteOf 4 = .ok (.imul, 1) := by decide +kernel
theorem nd_Te_byteOf_5 : decode nc_Te_byteOf 5 = .ok (.lushr, 1) := by decide +kernel
theorem nd_Te_byteOf_6 : decode nc_Te_byteOf 6 = .ok (.l2i, 1) := by decide +kernel
theorem nd_Te_byteOf_7 : decode nc_Te_byteOf 7 = .ok (.sipush 255, 3) := by decide +kernel
theorem nd_Te_byteOf_10 : decode nc_Te_byteOf 10 = .ok (.iand, 1) := by decide +kernel
theorem nd_Te_byteOf_11 : decode nc_Te_byteOf 11 = .ok (.ireturn, 1) := by decide +kernel
theorem nd_Te_readCorpus_0 : decode nc_Te_readCorpus 0 = .ok (.aload_n 0, 1) := by decide +kernel
theorem nd_Te_readCorpus_1 : decode nc_Te_readCorpus 1 = .ok (.iconst 0, 1) := by decide +kernel
theorem nd_Te_readCorpus_2 : decode nc_Te_readCorpus 2 = .ok (.putfield 23, 3) := by decide +kernel
theorem nd_Te_readCorpus_5 : decode nc_Te_readCorpus 5 = .ok (.aload_n 1, 1) := by decide +kernel
theorem nd_Te_readCorpus_6 : decode nc_Te_readCorpus 6 = .ok (.iconst 0, 1) := by decide +kernel
theorem nd_Te_readCorpus_7 : decode nc_Te_readCorpus 7 = .ok (.putfield 26, 3) := by decide +kernel
theorem nd_Te_readCorpus_10 : decode nc_Te_readCorpus 10 = .ok (.iconst 0, 1) := by decide +kernel
theorem nd_Te_readCorpus_11 : decode nc_Te_readCorpus 11 = .ok (.istore_n 2, 1) := by decide +kernel
theorem nd_Te_readCorpus_12 : decode nc_Te_readCorpus 12 = .ok (.iload_n 2, 1) := by decide +kernel
theorem nd_Te_readCorpus_13 : decode nc_Te_readCorpus 13 = .ok (.bipush 8, 2) := by decide +kernel
theorem nd_Te_readCorpus_15 : decode nc_Te_readCorpus 15 = .ok (.if_icmp .ge 59, 3) := by decide +kernel
theorem nd_Te_readCorpus_18 : decode nc_Te_readCorpus 18 = .ok (.aload_n 0, 1) := by decide +kernel
theorem nd_Te_readCorpus_19 : decode nc_Te_readCorpus 19 = .ok (.aload_n 1, 1) := by decide +kernel
theorem nd_Te_readCorpus_20 : decode nc_Te_readCorpus 20 = .ok (.getfield 31, 3) := by decide +kernel
theorem nd_Te_readCorpus_23 : decode nc_Te_readCorpus 23 = .ok (.iload_n 2, 1) := by decide +kernel
theorem nd_Te_readCorpus_24 : decode nc_Te_readCorpus 24 = .ok (.aaload, 1) := by decide +kernel
theorem nd_Te_readCorpus_25 : decode nc_Te_readCorpus 25 = .ok (.iconst 1, 1) := by decide +kernel
theorem nd_Te_readCorpus_26 : decode nc_Te_readCorpus 26 = .ok (.invokevirtual 35, 3) := by decide +kernel
theorem nd_Te_readCorpus_29 : decode nc_Te_readCorpus 29 = .ok (.ifCond .ne 5, 3) := by decide +kernel
theorem nd_Te_readCorpus_32 : decode nc_Te_readCorpus 32 = .ok (.iconst 0, 1) := by decide +kernel
theorem nd_Te_readCorpus_33 : decode nc_Te_readCorpus 33 = .ok (.ireturn, 1) := by decide +kernel
theorem nd_Te_readCorpus_34 : decode nc_Te_readCorpus 34 = .ok (.aload_n 1, 1) := by decide +kernel
theorem nd_Te_readCorpus_35 : decode nc_Te_readCorpus 35 = .ok (.dup, 1) := by decide +kernel
theorem nd_Te_readCorpus_36 : decode nc_Te_readCorpus 36 = .ok (.getfield 26, 3) := by decide +kernel
theorem nd_Te_readCorpus_39 : decode nc_Te_readCorpus 39 = .ok (.iconst 1, 1) := by decide +kernel
theorem nd_Te_readCorpus_40 : decode nc_Te_readCorpus 40 = .ok (.iadd, 1) := by decide +kernel
theorem nd_Te_readCorpus_41 : decode nc_Te_readCorpus 41 = .ok (.putfield 26, 3) := by decide +kernel
theorem nd_Te_readCorpus_44 : decode nc_Te_readCorpus 44 = .ok (.aload_n 0, 1) := by decide +kernel
theorem nd_Te_readCorpus_45 : decode nc_Te_readCorpus 45 = .ok (.getfield 23, 3) := by decide +kernel
theorem nd_Te_readCorpus_48 : decode nc_Te_readCorpus 48 = .ok (.aload_n 0, 1) := by decide +kernel
theorem nd_Te_readCorpus_49 : decode nc_Te_readCorpus 49 = .ok (.getfield 15, 3) := by decide +kernel
theorem nd_Te_readCorpus_52 : decode nc_Te_readCorpus 52 = .ok (.if_icmp .ne 5, 3) := by decide +kernel
theorem nd_Te_readCorpus_55 : decode nc_Te_readCorpus 55 = .ok (.iconst 1, 1) := by decide +kernel
theorem nd_Te_readCorpus_56 : decode nc_Te_readCorpus 56 = .ok (.ireturn, 1) := by decide +kernel
theorem nd_Te_readCorpus_57 : decode nc_Te_readCorpus 57 = .ok (.aload_n 0, 1) := by decide +kernel
theorem nd_Te_readCorpus_58 : decode nc_Te_readCorpus 58 = .ok (.bipush 59, 2) := by decide +kernel
theorem nd_Te_readCorpus_60 : decode nc_Te_readCorpus 60 = .ok (.invokevirtual 39, 3) := by decide +kernel
theorem nd_Te_readCorpus_63 : decode nc_Te_readCorpus 63 = .ok (.ifCond .ne 5, 3) := by decide +kernel
theorem nd_Te_readCorpus_66 : decode nc_Te_readCorpus 66 = .ok (.iconst 0, 1) := by decide +kernel
theorem nd_Te_readCorpus_67 : decode nc_Te_readCorpus 67 = .ok (.ireturn, 1) := by decide +kernel
theorem nd_Te_readCorpus_68 : decode nc_Te_readCorpus 68 = .ok (.iinc 2 1, 3) := by decide +kernel
theorem nd_Te_readCorpus_71 : decode nc_Te_readCorpus 71 = .ok (.goto (-59), 3) := by decide +kernel
theorem nd_Te_readCorpus_74 : decode nc_Te_readCorpus 74 = .ok (.iconst 0, 1) := by decide +kernel
theorem nd_Te_readCorpus_75 : decode nc_Te_readCorpus 75 = .ok (.ireturn, 1) := by decide +kernel
theorem nd_Te_readSpeech_0 : decode nc_Te_readSpeech 0 = .ok (.aload_n 0, 1) := by decide +kernel
theorem nd_Te_readSpeech_1 : decode nc_Te_readSpeech 1 = .ok (.iconst 0, 1) := by decide +kernel
theorem nd_Te_readSpeech_2 : decode nc_Te_readSpeech 2 = .ok (.putfield 23, 3) := by decide +kernel
theorem nd_Te_readSpeech_5 : decode nc_Te_readSpeech 5 = .ok (.aload_n 0, 1) := by decide +kernel
theorem nd_Te_readSpeech_6 : decode nc_Te_readSpeech 6 = .ok (.aload_n 1, 1) := by decide +kernel
theorem nd_Te_readSpeech_7 : decode nc_Te_readSpeech 7 = .ok (.iconst 0, 1) := by decide +kernel
theorem nd_Te_readSpeech_8 : decode nc_Te_readSpeech 8 = .ok (.invokevirtual 35, 3) := by decide +kernel
theorem nd_Te_readSpeech_11 : decode nc_Te_readSpeech 11 = .ok (.ifCond .eq 18, 3) := by decide +kernel
theorem nd_Te_readSpeech_14 : decode nc_Te_readSpeech 14 = .ok (.aload_n 0, 1) := by decide +kernel
theorem nd_Te_readSpeech_15 : decode nc_Te_readSpeech 15 = .ok (.getfield 23, 3) := by decide +kernel
theorem nd_Te_readSpeech_18 : decode nc_Te_readSpeech 18 = .ok (.aload_n 0, 1) := by decide +kernel
theorem nd_Te_readSpeech_19 : decode nc_Te_readSpeech 19 = .ok (.getfield 15, 3) := by decide +kernel
theorem nd_Te_readSpeech_22 : decode nc_Te_readSpeech 22 = .ok (.if_icmp .ne 7, 3) := by decide +kernel
theorem nd_Te_readSpeech_25 : decode nc_Te_readSpeech 25 = .ok (.iconst 1, 1) := by decide +kernel
theorem nd_Te_readSpeech_26 : decode nc_Te_readSpeech 26 = .ok (.goto 4, 3) := by decide +kernel
theorem nd_Te_readSpeech_29 : decode nc_Te_readSpeech 29 = .ok (.iconst 0, 1) := by decide +kernel
theorem nd_Te_readSpeech_30 : decode nc_Te_readSpeech 30 = .ok (.ireturn, 1) := by decide +kernel
theorem nd_Te_readSentence_0 : decode nc_Te_readSentence 0 = .ok (.aload_n 1, 1) := by decide +kernel
theorem nd_Te_readSentence_1 : decode nc_Te_readSentence 1 = .ok (.invokevirtual 43, 3) := by decide +kernel
theorem nd_Te_readSentence_4 : decode nc_Te_readSentence 4 = .ok (.aload_n 0, 1) := by decide +kernel
theorem nd_Te_readSentence_5 : decode nc_Te_readSentence 5 = .ok (.invokevirtual 48, 3) := by decide +kernel
theorem nd_Te_readSentence_8 : decode nc_Te_readSentence 8 = .ok (.pop, 1) := by decide +kernel
theorem nd_Te_readSentence_9 : decode nc_Te_readSentence 9 = .ok (.aload_n 0, 1) := by decide +kernel
theorem nd_Te_readSentence_10 : decode nc_Te_readSentence 10 = .ok (.getfield 23, 3) := by decide +kernel
theorem nd_Te_readSentence_13 : decode nc_Te_readSentence 13 = .ok (.istore_n 3, 1) := by decide +kernel
theorem nd_Te_readSentence_14 : decode nc_Te_readSentence 14 = .ok (.aload_n 0, 1) := by decide +kernel
theorem nd_Te_readSentence_15 : decode nc_Te_readSentence 15 = .ok (.getfield 23, 3) := by decide +kernel
theorem nd_Te_readSentence_18 : decode nc_Te_readSentence 18 = .ok (.istore 4, 2) := by decide +kernel
theorem nd_Te_readSentence_20 : decode nc_Te_readSentence 20 = .ok (.iconst 1, 1) := by decide +kernel
theorem nd_Te_readSentence_21 : decode nc_Te_readSentence 21 = .ok (.istore 5, 2) := by decide +kernel
theorem nd_Te_readSentence_23 : decode nc_Te_readSentence 23 = .ok (.iconst 0, 1) := by decide +kernel
theorem nd_Te_readSentence_24 : decode nc_Te_readSentence 24 = .ok (.istore 6, 2) := by decide +kernel
theorem nd_Te_readSentence_26 : decode nc_Te_readSentence 26 = .ok (.iload 6, 2) := by decide +kernel
theorem nd_Te_readSentence_28 : decode nc_Te_readSentence 28 = .ok (.bipush 6, 2) := by decide +kernel
theorem nd_Te_readSentence_30 : decode nc_Te_readSentence 30 = .ok (.if_icmp .ge 81, 3) := by decide +kernel
theorem nd_Te_readSentence_33 : decode nc_Te_readSentence 33 = .ok (.iload 5, 2) := by decide +kernel
theorem nd_Te_readSentence_35 : decode nc_Te_readSentence 35 = .ok (.ifCond .eq 76, 3) := by decide +kernel
theorem nd_Te_readSentence_38 : decode nc_Te_readSentence 38 = .ok (.aload_n 0, 1) := by decide +kernel
theorem nd_Te_readSentence_39 : decode nc_Te_readSentence 39 = .ok (.invokevirtual 52, 3) := by decide +kernel
theorem nd_Te_readSentence_42 : decode nc_Te_readSentence 42 = .ok (.invokestatic 56, 3) := by decide +kernel
theorem nd_Te_readSentence_45 : decode nc_Te_readSentence 45 = .ok (.ifCond .eq 66, 3) := by decide +kernel
theorem nd_Te_readSentence_48 : decode nc_Te_readSentence 48 = .ok (.aload_n 0, 1) := by decide +kernel
theorem nd_Te_readSentence_49 : decode nc_Te_readSentence 49 = .ok (.getfield 23, 3) := by decide +kernel
theorem nd_Te_readSentence_52 : decode nc_Te_readSentence 52 = .ok (.istore 7, 2) := by decide +kernel
theorem nd_Te_readSentence_54 : decode nc_Te_readSentence 54 = .ok (.aload_n 0, 1) := by decide +kernel
theorem nd_Te_readSentence_55 : decode nc_Te_readSentence 55 = .ok (.invokevirtual 60, 3) := by decide +kernel
theorem nd_Te_readSentence_58 : decode nc_Te_readSentence 58 = .ok (.aload_n 0, 1) := by decide +kernel
theorem nd_Te_readSentence_59 : decode nc_Te_readSentence 59 = .ok (.aload_n 1, 1) := by decide +kernel
theorem nd_Te_readSentence_60 : decode nc_Te_readSentence 60 = .ok (.iload 7, 2) := by decide +kernel
theorem nd_Te_readSentence_62 : decode nc_Te_readSentence 62 = .ok (.iload_n 3, 1) := by decide +kernel
theorem nd_Te_readSentence_63 : decode nc_Te_readSentence 63 = .ok (.iload 4, 2) := by decide +kernel
theorem nd_Te_readSentence_65 : decode nc_Te_readSentence 65 = .ok (.invokevirtual 63, 3) := by decide +kernel
theorem nd_Te_readSentence_68 : decode nc_Te_readSentence 68 = .ok (.iload 7, 2) := by decide +kernel
theorem nd_Te_readSentence_70 : decode nc_Te_readSentence 70 = .ok (.istore_n 3, 1) := by decide +kernel
theorem nd_Te_readSentence_71 : decode nc_Te_readSentence 71 = .ok (.aload_n 0, 1) := by decide +kernel
theorem nd_Te_readSentence_72 : decode nc_Te_readSentence 72 = .ok (.getfield 23, 3) := by decide +kernel
theorem nd_Te_readSentence_75 : decode nc_Te_readSentence 75 = .ok (.istore 4, 2) := by decide +kernel
theorem nd_Te_readSentence_77 : decode nc_Te_readSentence 77 = .ok (.iload_n 2, 1) := by decide +kernel
theorem nd_Te_readSentence_78 : decode nc_Te_readSentence 78 = .ok (.ifCond .eq 13, 3) := by decide +kernel
theorem nd_Te_readSentence_81 : decode nc_Te_readSentence 81 = .ok (.aload_n 0, 1) := by decide +kernel
theorem nd_Te_readSentence_82 : decode nc_Te_readSentence 82 = .ok (.aload_n 1, 1) := by decide +kernel
theorem nd_Te_readSentence_83 : decode nc_Te_readSentence 83 = .ok (.invokevirtual 67, 3) := by decide +kernel
theorem nd_Te_readSentence_86 : decode nc_Te_readSentence 86 = .ok (.ifCond .ne 5, 3) := by decide +kernel
theorem nd_Te_readSentence_89 : decode nc_Te_readSentence 89 = .ok (.iconst 0, 1) := by decide +kernel
theorem nd_Te_readSentence_90 : decode nc_Te_readSentence 90 = .ok (.ireturn, 1) := by decide +kernel
theorem nd_Te_readSentence_91 : decode nc_Te_readSentence 91 = .ok (.aload_n 1, 1) := by decide +kernel
theorem nd_Te_readSentence_92 : decode nc_Te_readSentence 92 = .ok (.iload 6, 2) := by decide +kernel
theorem nd_Te_readSentence_94 : decode nc_Te_readSentence 94 = .ok (.iconst 1, 1) := by decide +kernel
theorem nd_Te_readSentence_95 : decode nc_Te_readSentence 95 = .ok (.iadd, 1) := by decide +kernel
theorem nd_Te_readSentence_96 : decode nc_Te_readSentence 96 = .ok (.putfield 71, 3) := by decide +kernel
theorem nd_Te_readSentence_99 : decode nc_Te_readSentence 99 = .ok (.aload_n 0, 1) := by decide +kernel
theorem nd_Te_readSentence_100 : decode nc_Te_readSentence 100 = .ok (.invokevirtual 48, 3) := by decide +kernel
theorem nd_Te_readSentence_103 : decode nc_Te_readSentence 103 = .ok (.istore 5, 2) := by decide +kernel
theorem nd_Te_readSentence_105 : decode nc_Te_readSentence 105 = .ok (.iinc 6 1, 3) := by decide +kernel
theorem nd_Te_readSentence_108 : decode nc_Te_readSentence 108 = .ok (.goto (-82), 3) := by decide +kernel
theorem nd_Te_readSentence_111 : decode nc_Te_readSentence 111 = .ok (.aload_n 1, 1) := by decide +kernel
theorem nd_Te_readSentence_112 : decode nc_Te_readSentence 112 = .ok (.getfield 71, 3) := by decide +kernel
theorem nd_Te_readSentence_115 : decode nc_Te_readSentence 115 = .ok (.ifCond .le 7, 3) := by decide +kernel
theorem nd_Te_readSentence_118 : decode nc_Te_readSentence 118 = .ok (.iconst 1, 1) := by decide +kernel
theorem nd_Te_readSentence_119 : decode nc_Te_readSentence 119 = .ok (.goto 4, 3) := by decide +kernel
theorem nd_Te_readSentence_122 : decode nc_Te_readSentence 122 = .ok (.iconst 0, 1) := by decide +kernel
theorem nd_Te_readSentence_123 : decode nc_Te_readSentence 123 = .ok (.ireturn, 1) := by decide +kernel
theorem nd_Te_setFeatures_0 : decode nc_Te_setFeatures 0 = .ok (.iload_n 2, 1) := by decide +kernel
theorem nd_Te_setFeatures_1 : decode nc_Te_setFeatures 1 = .ok (.aload_n 0, 1) := by decide +kernel
theorem nd_Te_setFeatures_2 : decode nc_Te_setFeatures 2 = .ok (.getfield 23, 3) := by decide +kernel
theorem nd_Te_setFeatures_5 : decode nc_Te_setFeatures 5 = .ok (.iconst 2, 1) := by decide +kernel
theorem nd_Te_setFeatures_6 : decode nc_Te_setFeatures 6 = .ok (.isub, 1) := by decide +kernel
theorem nd_Te_setFeatures_7 : decode nc_Te_setFeatures 7 = .ok (.invokestatic 72, 3) := by decide +kernel
theorem nd_Te_setFeatures_10 : decode nc_Te_setFeatures 10 = .ok (.istore 5, 2) := by decide +kernel
theorem nd_Te_setFeatures_12 : decode nc_Te_setFeatures 12 = .ok (.aload_n 1, 1) := by decide +kernel
theorem nd_Te_setFeatures_13 : decode nc_Te_setFeatures 13 = .ok (.aload_n 1, 1) := by decide +kernel
theorem nd_Te_setFeatures_14 : decode nc_Te_setFeatures 14 = .ok (.getfield 71, 3) := by decide +kernel
theorem nd_Te_setFeatures_17 : decode nc_Te_setFeatures 17 = .ok (.iconst 0, 1) := by decide +kernel
theorem nd_Te_setFeatures_18 : decode nc_Te_setFeatures 18 = .ok (.aload_n 0, 1) := by decide +kernel
theorem nd_Te_setFeatures_19 : decode nc_Te_setFeatures 19 = .ok (.bipush 7, 2) := by decide +kernel
theorem nd_Te_setFeatures_21 : decode nc_Te_setFeatures 21 = .ok (.iload_n 2, 1) := by decide +kernel
theorem nd_Te_setFeatures_22 : decode nc_Te_setFeatures 22 = .ok (.aload_n 0, 1) := by decide +kernel
theorem nd_Te_setFeatures_23 : decode nc_Te_setFeatures 23 = .ok (.getfield 23, 3) := by decide +kernel
theorem nd_Te_setFeatures_26 : decode nc_Te_setFeatures 26 = .ok (.invokevirtual 78, 3) := by decide +kernel
theorem nd_Te_setFeatures_29 : decode nc_Te_setFeatures 29 = .ok (.invokestatic 82, 3) := by decide +kernel
theorem nd_Te_setFeatures_32 : decode nc_Te_setFeatures 32 = .ok (.invokevirtual 86, 3) := by decide +kernel
theorem nd_Te_setFeatures_35 : decode nc_Te_setFeatures 35 = .ok (.aload_n 1, 1) := by decide +kernel
theorem nd_Te_setFeatures_36 : decode nc_Te_setFeatures 36 = .ok (.aload_n 1, 1) := by decide +kernel
theorem nd_Te_setFeatures_37 : decode nc_Te_setFeatures 37 = .ok (.getfield 71, 3) := by decide +kernel
theorem nd_Te_setFeatures_40 : decode nc_Te_setFeatures 40 = .ok (.iconst 1, 1) := by decide +kernel
theorem nd_Te_setFeatures_41 : decode nc_Te_setFeatures 41 = .ok (.aload_n 0, 1) := by decide +kernel
theorem nd_Te_setFeatures_42 : decode nc_Te_setFeatures 42 = .ok (.bipush 7, 2) := by decide +kernel
theorem nd_Te_setFeatures_44 : decode nc_Te_setFeatures 44 = .ok (.bipush 45, 2) := by decide +kernel
theorem nd_Te_setFeatures_46 : decode nc_Te_setFeatures 46 = .ok (.invokestatic 90, 3) := by decide +kernel
theorem nd_Te_setFeatures_49 : decode nc_Te_setFeatures 49 = .ok (.iload 5, 2) := by decide +kernel
theorem nd_Te_setFeatures_51 : decode nc_Te_setFeatures 51 = .ok (.aload_n 0, 1) := by decide +kernel
theorem nd_Te_setFeatures_52 : decode nc_Te_setFeatures 52 = .ok (.getfield 23, 3) := by decide +kernel
theorem nd_Te_setFeatures_55 : decode nc_Te_setFeatures 55 = .ok (.invokevirtual 78, 3) := by decide +kernel
theorem nd_Te_setFeatures_58 : decode nc_Te_setFeatures 58 = .ok (.invokestatic 82, 3) := by decide +kernel
theorem nd_Te_setFeatures_61 : decode nc_Te_setFeatures 61 = .ok (.invokevirtual 86, 3) := by decide +kernel
theorem nd_Te_setFeatures_64 : decode nc_Te_setFeatures 64 = .ok (.aload_n 1, 1) := by decide +kernel
theorem nd_Te_setFeatures_65 : decode nc_Te_setFeatures 65 = .ok (.aload_n 1, 1) := by decide +kernel
theorem nd_Te_setFeatures_66 : decode nc_Te_setFeatures 66 = .ok (.getfield 71, 3) := by decide +kernel
theorem nd_Te_setFeatures_69 : decode nc_Te_setFeatures 69 = .ok (.iconst 2, 1) := by decide +kernel
theorem nd_Te_setFeatures_70 : decode nc_Te_setFeatures 70 = .ok (.aload_n 0, 1) := by decide +kernel
theorem nd_Te_setFeatures_71 : decode nc_Te_setFeatures 71 = .ok (.bipush 7, 2) := by decide +kernel
theorem nd_Te_setFeatures_73 : decode nc_Te_setFeatures 73 = .ok (.bipush 60, 2) := by decide +kernel
theorem nd_Te_setFeatures_75 : decode nc_Te_setFeatures 75 = .ok (.invokestatic 90, 3) := by decide +kernel
theorem nd_Te_setFeatures_78 : decode nc_Te_setFeatures 78 = .ok (.iload_n 3, 1) := by decide +kernel
theorem nd_Te_setFeatures_79 : decode nc_Te_setFeatures 79 = .ok (.iload 4, 2) := by decide +kernel
theorem nd_Te_setFeatures_81 : decode nc_Te_setFeatures 81 = .ok (.invokevirtual 78, 3) := by decide +kernel
theorem nd_Te_setFeatures_84 : decode nc_Te_setFeatures 84 = .ok (.invokestatic 82, 3) := by decide +kernel
theorem nd_Te_setFeatures_87 : decode nc_Te_setFeatures 87 = .ok (.invokevirtual 86, 3) := by decide +kernel
theorem nd_Te_setFeatures_90 : decode nc_Te_setFeatures 90 = .ok (.return_, 1) := by decide +kernel
theorem nd_Te_readLabel_0 : decode nc_Te_readLabel 0 = .ok (.aload_n 0, 1) := by decide +kernel
theorem nd_Te_readLabel_1 : decode nc_Te_readLabel 1 = .ok (.bipush 47, 2) := by decide +kernel
theorem nd_Te_readLabel_3 : decode nc_Te_readLabel 3 = .ok (.invokevirtual 39, 3) := by decide +kernel
theorem nd_Te_readLabel_6 : decode nc_Te_readLabel 6 = .ok (.ifCond .ne 5, 3) := by decide +kernel
theorem nd_Te_readLabel_9 : decode nc_Te_readLabel 9 = .ok (.iconst 0, 1) := by decide +kernel
theorem nd_Te_readLabel_10 : decode nc_Te_readLabel 10 = .ok (.ireturn, 1) := by decide +kernel
theorem nd_Te_readLabel_11 : decode nc_Te_readLabel 11 = .ok (.aload_n 0, 1) := by decide +kernel
theorem nd_Te_readLabel_12 : decode nc_Te_readLabel 12 = .ok (.invokevirtual 52, 3) := by decide +kernel
theorem nd_Te_readLabel_15 : decode nc_Te_readLabel 15 = .ok (.bipush 65, 2) := by decide +kernel
theorem nd_Te_readLabel_17 : decode nc_Te_readLabel 17 = .ok (.isub, 1) := by decide +kernel
theorem nd_Te_readLabel_18 : decode nc_Te_readLabel 18 = .ok (.istore_n 2, 1) := by decide +kernel
theorem nd_Te_readLabel_19 : decode nc_Te_readLabel 19 = .ok (.iload_n 2, 1) := by decide +kernel
theorem nd_Te_readLabel_20 : decode nc_Te_readLabel 20 = .ok (.ifCond .lt 8, 3) := by decide +kernel
theorem nd_Te_readLabel_23 : decode nc_Te_readLabel 23 = .ok (.iload_n 2, 1) := by decide +kernel
theorem nd_Te_readLabel_24 : decode nc_Te_readLabel 24 = .ok (.iconst 4, 1) := by decide +kernel
theorem nd_Te_readLabel_25 : decode nc_Te_readLabel 25 = .ok (.if_icmp .lt 5, 3) := by decide +kernel
theorem nd_Te_readLabel_28 : decode nc_Te_readLabel 28 = .ok (.iconst 0, 1) := by decide +kernel
theorem nd_Te_readLabel_29 : decode nc_Te_readLabel 29 = .ok (.ireturn, 1) := by decide +kernel
theorem nd_Te_readLabel_30 : decode nc_Te_readLabel 30 = .ok (.aload_n 0, 1) := by decide +kernel
theorem nd_Te_readLabel_31 : decode nc_Te_readLabel 31 = .ok (.dup, 1) := by decide +kernel
theorem nd_Te_readLabel_32 : decode nc_Te_readLabel 32 = .ok (.getfield 23, 3) := by decide +kernel
theorem nd_Te_readLabel_35 : decode nc_Te_readLabel 35 = .ok (.iconst 1, 1) := by decide +kernel
theorem nd_Te_readLabel_36 : decode nc_Te_readLabel 36 = .ok (.iadd, 1) := by decide +kernel
theorem nd_Te_readLabel_37 : decode nc_Te_readLabel 37 = .ok (.putfield 23, 3) := by decide +kernel
theorem nd_Te_readLabel_40 : decode nc_Te_readLabel 40 = .ok (.aload_n 1, 1) := by decide +kernel
theorem nd_Te_readLabel_41 : decode nc_Te_readLabel 41 = .ok (.dup, 1) := by decide +kernel
theorem nd_Te_readLabel_42 : decode nc_Te_readLabel 42 = .ok (.getfield 94, 3) := by decide +kernel
theorem nd_Te_readLabel_45 : decode nc_Te_readLabel 45 = .ok (.iload_n 2, 1) := by decide +kernel
theorem nd_Te_readLabel_46 : decode nc_Te_readLabel 46 = .ok (.iconst 2, 1) := by decide +kernel
theorem nd_Te_readLabel_47 : decode nc_Te_readLabel 47 = .ok (.aload_n 1, 1) := by decide +kernel
theorem nd_Te_readLabel_48 : decode nc_Te_readLabel 48 = .ok (.getfield 71, 3) := by decide +kernel
theorem nd_Te_readLabel_51 : decode nc_Te_readLabel 51 = .ok (.imul, 1) := by decide +kernel
theorem nd_Te_readLabel_52 : decode nc_Te_readLabel 52 = .ok (.ishl, 1) := by decide +kernel
theorem nd_Te_readLabel_53 : decode nc_Te_readLabel 53 = .ok (.ior, 1) := by decide +kernel
theorem nd_Te_readLabel_54 : decode nc_Te_readLabel 54 = .ok (.putfield 94, 3) := by decide +kernel
theorem nd_Te_readLabel_57 : decode nc_Te_readLabel 57 = .ok (.iconst 1, 1) := by decide +kernel
theorem nd_Te_readLabel_58 : decode nc_Te_readLabel 58 = .ok (.ireturn, 1) := by decide +kernel
theorem nd_Te_take_0 : decode nc_Te_take 0 = .ok (.aload_n 0, 1) := by decide +kernel
theorem nd_Te_take_1 : decode nc_Te_take 1 = .ok (.invokevirtual 52, 3) := by decide +kernel
theorem nd_Te_take_4 : decode nc_Te_take 4 = .ok (.iload_n 1, 1) := by decide +kernel
theorem nd_Te_take_5 : decode nc_Te_take 5 = .ok (.if_icmp .eq 5, 3) := by decide +kernel
theorem nd_Te_take_8 : decode nc_Te_take 8 = .ok (.iconst 0, 1) := by decide +kernel
theorem nd_Te_take_9 : decode nc_Te_take 9 = .ok (.ireturn, 1) := by decide +kernel
theorem nd_Te_take_10 : decode nc_Te_take 10 = .ok (.aload_n 0, 1) := by decide +kernel
theorem nd_Te_take_11 : decode nc_Te_take 11 = .ok (.dup, 1) := by decide +kernel
theorem nd_Te_take_12 : decode nc_Te_take 12 = .ok (.getfield 23, 3) := by decide +kernel
theorem nd_Te_take_15 : decode nc_Te_take 15 = .ok (.iconst 1, 1) := by decide +kernel
theorem nd_Te_take_16 : decode nc_Te_take 16 = .ok (.iadd, 1) := by decide +kernel
theorem nd_Te_take_17 : decode nc_Te_take 17 = .ok (.putfield 23, 3) := by decide +kernel
theorem nd_Te_take_20 : decode nc_Te_take 20 = .ok (.iconst 1, 1) := by decide +kernel
theorem nd_Te_take_21 : decode nc_Te_take 21 = .ok (.ireturn, 1) := by decide +kernel
theorem nd_Te_skipSpaces_0 : decode nc_Te_skipSpaces 0 = .ok (.aload_n 0, 1) := by decide +kernel
theorem nd_Te_skipSpaces_1 : decode nc_Te_skipSpaces 1 = .ok (.getfield 23, 3) := by decide +kernel
theorem nd_Te_skipSpaces_4 : decode nc_Te_skipSpaces 4 = .ok (.istore_n 1, 1) := by decide +kernel
theorem nd_Te_skipSpaces_5 : decode nc_Te_skipSpaces 5 = .ok (.aload_n 0, 1) := by decide +kernel
theorem nd_Te_skipSpaces_6 : decode nc_Te_skipSpaces 6 = .ok (.getfield 23, 3) := by decide +kernel
theorem nd_Te_skipSpaces_9 : decode nc_Te_skipSpaces 9 = .ok (.aload_n 0, 1) := by decide +kernel
theorem nd_Te_skipSpaces_10 : decode nc_Te_skipSpaces 10 = .ok (.getfield 15, 3) := by decide +kernel
theorem nd_Te_skipSpaces_13 : decode nc_Te_skipSpaces 13 = .ok (.if_icmp .ge 25, 3) := by decide +kernel
theorem nd_Te_skipSpaces_16 : decode nc_Te_skipSpaces 16 = .ok (.aload_n 0, 1) := by decide +kernel
theorem nd_Te_skipSpaces_17 : decode nc_Te_skipSpaces 17 = .ok (.invokevirtual 52, 3) := by decide +kernel
theorem nd_Te_skipSpaces_20 : decode nc_Te_skipSpaces 20 = .ok (.bipush 32, 2) := by decide +kernel
theorem nd_Te_skipSpaces_22 : decode nc_Te_skipSpaces 22 = .ok (.if_icmp .ne 16, 3) := by decide +kernel
theorem nd_Te_skipSpaces_25 : decode nc_Te_skipSpaces 25 = .ok (.aload_n 0, 1) := by decide +kernel
theorem nd_Te_skipSpaces_26 : decode nc_Te_skipSpaces 26 = .ok (.dup, 1) := by decide +kernel
theorem nd_Te_skipSpaces_27 : decode nc_Te_skipSpaces 27 = .ok (.getfield 23, 3) := by decide +kernel
theorem nd_Te_skipSpaces_30 : decode nc_Te_skipSpaces 30 = .ok (.iconst 1, 1) := by decide +kernel
theorem nd_Te_skipSpaces_31 : decode nc_Te_skipSpaces 31 = .ok (.iadd, 1) := by decide +kernel
theorem nd_Te_skipSpaces_32 : decode nc_Te_skipSpaces 32 = .ok (.putfield 23, 3) := by decide +kernel
theorem nd_Te_skipSpaces_35 : decode nc_Te_skipSpaces 35 = .ok (.goto (-30), 3) := by decide +kernel
theorem nd_Te_skipSpaces_38 : decode nc_Te_skipSpaces 38 = .ok (.aload_n 0, 1) := by decide +kernel
theorem nd_Te_skipSpaces_39 : decode nc_Te_skipSpaces 39 = .ok (.getfield 23, 3) := by decide +kernel
theorem nd_Te_skipSpaces_42 : decode nc_Te_skipSpaces 42 = .ok (.iload_n 1, 1) := by decide +kernel
theorem nd_Te_skipSpaces_43 : decode nc_Te_skipSpaces 43 = .ok (.if_icmp .le 7, 3) := by decide +kernel
theorem nd_Te_skipSpaces_46 : decode nc_Te_skipSpaces 46 = .ok (.iconst 1, 1) := by decide +kernel
theorem nd_Te_skipSpaces_47 : decode nc_Te_skipSpaces 47 = .ok (.goto 4, 3) := by decide +kernel
theorem nd_Te_skipSpaces_50 : decode nc_Te_skipSpaces 50 = .ok (.iconst 0, 1) := by decide +kernel
theorem nd_Te_skipSpaces_51 : decode nc_Te_skipSpaces 51 = .ok (.ireturn, 1) := by decide +kernel
theorem nd_Te_skipLetters_0 : decode nc_Te_skipLetters 0 = .ok (.iconst 0, 1) := by decide +kernel
theorem nd_Te_skipLetters_1 : decode nc_Te_skipLetters 1 = .ok (.istore_n 1, 1) := by decide +kernel
theorem nd_Te_skipLetters_2 : decode nc_Te_skipLetters 2 = .ok (.iload_n 1, 1) := by decide +kernel
theorem nd_Te_skipLetters_3 : decode nc_Te_skipLetters 3 = .ok (.bipush 6, 2) := by decide +kernel
theorem nd_Te_skipLetters_5 : decode nc_Te_skipLetters 5 = .ok (.if_icmp .ge 29, 3) := by decide +kernel
theorem nd_Te_skipLetters_8 : decode nc_Te_skipLetters 8 = .ok (.aload_n 0, 1) := by decide +kernel
theorem nd_Te_skipLetters_9 : decode nc_Te_skipLetters 9 = .ok (.invokevirtual 52, 3) := by decide +kernel
theorem nd_Te_skipLetters_12 : decode nc_Te_skipLetters 12 = .ok (.invokestatic 56, 3) := by decide +kernel
theorem nd_Te_skipLetters_15 : decode nc_Te_skipLetters 15 = .ok (.ifCond .eq 19, 3) := by decide +kernel
theorem nd_Te_skipLetters_18 : decode nc_Te_skipLetters 18 = .ok (.aload_n 0, 1) := by decide +kernel
theorem nd_Te_skipLetters_19 : decode nc_Te_skipLetters 19 = .ok (.dup, 1) := by decide +kernel
theorem nd_Te_skipLetters_20 : decode nc_Te_skipLetters 20 = .ok (.getfield 23, 3) := by decide +kernel
theorem nd_Te_skipLetters_23 : decode nc_Te_skipLetters 23 = .ok (.iconst 1, 1) := by decide +kernel
theorem nd_Te_skipLetters_24 : decode nc_Te_skipLetters 24 = .ok (.iadd, 1) := by decide +kernel
theorem nd_Te_skipLetters_25 : decode nc_Te_skipLetters 25 = .ok (.putfield 23, 3) := by decide +kernel
theorem nd_Te_skipLetters_28 : decode nc_Te_skipLetters 28 = .ok (.iinc 1 1, 3) := by decide +kernel
theorem nd_Te_skipLetters_31 : decode nc_Te_skipLetters 31 = .ok (.goto (-29), 3) := by decide +kernel
theorem nd_Te_skipLetters_34 : decode nc_Te_skipLetters 34 = .ok (.return_, 1) := by decide +kernel
theorem nd_Te_current_0 : decode nc_Te_current 0 = .ok (.aload_n 0, 1) := by decide +kernel
theorem nd_Te_current_1 : decode nc_Te_current 1 = .ok (.getfield 23, 3) := by decide +kernel
theorem nd_Te_current_4 : decode nc_Te_current 4 = .ok (.aload_n 0, 1) := by decide +kernel
theorem nd_Te_current_5 : decode nc_Te_current 5 = .ok (.getfield 15, 3) := by decide +kernel
theorem nd_Te_current_8 : decode nc_Te_current 8 = .ok (.if_icmp .ge 15, 3) := by decide +kernel
theorem nd_Te_current_11 : decode nc_Te_current 11 = .ok (.aload_n 0, 1) := by decide +kernel
theorem nd_Te_current_12 : decode nc_Te_current 12 = .ok (.getfield 9, 3) := by decide +kernel
theorem nd_Te_current_15 : decode nc_Te_current 15 = .ok (.aload_n 0, 1) := by decide +kernel
theorem nd_Te_current_16 : decode nc_Te_current 16 = .ok (.getfield 23, 3) := by decide +kernel
theorem nd_Te_current_19 : decode nc_Te_current 19 = .ok (.caload, 1) := by decide +kernel
theorem nd_Te_current_20 : decode nc_Te_current 20 = .ok (.goto 4, 3) := by decide +kernel
theorem nd_Te_current_23 : decode nc_Te_current 23 = .ok (.iconst (-1), 1) := by decide +kernel
theorem nd_Te_current_24 : decode nc_Te_current 24 = .ok (.ireturn, 1) := by decide +kernel
theorem nd_Te_hash_0 : decode nc_Te_hash 0 = .ok (.iload_n 1, 1) := by decide +kernel
theorem nd_Te_hash_1 : decode nc_Te_hash 1 = .ok (.istore 4, 2) := by decide +kernel
theorem nd_Te_hash_3 : decode nc_Te_hash 3 = .ok (.iload_n 2, 1) := by decide +kernel
theorem nd_Te_hash_4 : decode nc_Te_hash 4 = .ok (.istore 5, 2) := by decide +kernel
theorem nd_Te_hash_6 : decode nc_Te_hash 6 = .ok (.iload 5, 2) := by decide +kernel
theorem nd_Te_hash_8 : decode nc_Te_hash 8 = .ok (.iload_n 3, 1) := by decide +kernel
theorem nd_Te_hash_9 : decode nc_Te_hash 9 = .ok (.if_icmp .ge 23, 3) := by decide +kernel
theorem nd_Te_hash_12 : decode nc_Te_hash 12 = .ok (.iload 4, 2) := by decide +kernel
theorem nd_Te_hash_14 : decode nc_Te_hash 14 = .ok (.aload_n 0, 1) := by decide +kernel
theorem nd_Te_hash_15 : decode nc_Te_hash 15 = .ok (.getfield 9, 3) := by decide +kernel
theorem nd_Te_hash_18 : decode nc_Te_hash 18 = .ok (.iload 5, 2) := by decide +kernel
theorem nd_Te_hash_20 : decode nc_Te_hash 20 = .ok (.caload, 1) := by decide +kernel
theorem nd_Te_hash_21 : decode nc_Te_hash 21 = .ok (.invokestatic 90, 3) := by decide +kernel
theorem nd_Te_hash_24 : decode nc_Te_hash 24 = .ok (.istore 4, 2) := by decide +kernel
theorem nd_Te_hash_26 : decode nc_Te_hash 26 = .ok (.iinc 5 1, 3) := by decide +kernel
theorem nd_Te_hash_29 : decode nc_Te_hash 29 = .ok (.goto (-23), 3) := by decide +kernel
theorem nd_Te_hash_32 : decode nc_Te_hash 32 = .ok (.iload 4, 2) := by decide +kernel
theorem nd_Te_hash_34 : decode nc_Te_hash 34 = .ok (.ireturn, 1) := by decide +kernel
theorem nd_Te_mix_0 : decode nc_Te_mix 0 = .ok (.bipush 31, 2) := by decide +kernel
theorem nd_Te_mix_2 : decode nc_Te_mix 2 = .ok (.iload_n 0, 1) := by decide +kernel
theorem nd_Te_mix_3 : decode nc_Te_mix 3 = .ok (.imul, 1) := by decide +kernel
theorem nd_Te_mix_4 : decode nc_Te_mix 4 = .ok (.iload_n 1, 1) := by decide +kernel
theorem nd_Te_mix_5 : decode nc_Te_mix 5 = .ok (.iadd, 1) := by decide +kernel
theorem nd_Te_mix_6 : decode nc_Te_mix 6 = .ok (.ireturn, 1) := by decide +kernel
theorem nd_Te_bucket_0 : decode nc_Te_bucket 0 = .ok (.iload_n 0, 1) := by decide +kernel
theorem nd_Te_bucket_1 : decode nc_Te_bucket 1 = .ok (.iload_n 0, 1) := by decide +kernel
theorem nd_Te_bucket_2 : decode nc_Te_bucket 2 = .ok (.bipush 15, 2) := by decide +kernel
theorem nd_Te_bucket_4 : decode nc_Te_bucket 4 = .ok (.iushr, 1) := by decide +kernel
theorem nd_Te_bucket_5 : decode nc_Te_bucket 5 = .ok (.ixor, 1) := by decide +kernel
theorem nd_Te_bucket_6 : decode nc_Te_bucket 6 = .ok (.bipush 31, 2) := by decide +kernel
theorem nd_Te_bucket_8 : decode nc_Te_bucket 8 = .ok (.iand, 1) := by decide +kernel
theorem nd_Te_bucket_9 : decode nc_Te_bucket 9 = .ok (.ireturn, 1) := by decide +kernel
theorem nd_Te_isLetter_0 : decode nc_Te_isLetter 0 = .ok (.iload_n 0, 1) := by decide +kernel
theorem nd_Te_isLetter_1 : decode nc_Te_isLetter 1 = .ok (.bipush 97, 2) := by decide +kernel
theorem nd_Te_isLetter_3 : decode nc_Te_isLetter 3 = .ok (.if_icmp .lt 13, 3) := by decide +kernel
theorem nd_Te_isLetter_6 : decode nc_Te_isLetter 6 = .ok (.iload_n 0, 1) := by decide +kernel
theorem nd_Te_isLetter_7 : decode nc_Te_isLetter 7 = .ok (.bipush 122, 2) := by decide +kernel
theorem nd_Te_isLetter_9 : decode nc_Te_isLetter 9 = .ok (.if_icmp .gt 7, 3) := by decide +kernel
theorem nd_Te_isLetter_12 : decode nc_Te_isLetter 12 = .ok (.iconst 1, 1) := by decide +kernel
theorem nd_Te_isLetter_13 : decode nc_Te_isLetter 13 = .ok (.goto 4, 3) := by decide +kernel
theorem nd_Te_isLetter_16 : decode nc_Te_isLetter 16 = .ok (.iconst 0, 1) := by decide +kernel
theorem nd_Te_isLetter_17 : decode nc_Te_isLetter 17 = .ok (.ireturn, 1) := by decide +kernel
theorem nd_We_init_0 : decode nc_We_init 0 = .ok (.aload_n 0, 1) := by decide +kernel
theorem nd_We_init_1 : decode nc_We_init 1 = .ok (.invokespecial 3, 3) := by decide +kernel
theorem nd_We_init_4 : decode nc_We_init 4 = .ok (.aload_n 0, 1) := by decide +kernel
theorem nd_We_init_5 : decode nc_We_init 5 = .ok (.sipush 148, 3) := by decide +kernel
theorem nd_We_init_8 : decode nc_We_init 8 = .ok (.newarray .long, 2) := by decide +kernel
theorem nd_We_init_10 : decode nc_We_init 10 = .ok (.putfield 9, 3) := by decide +kernel
theorem nd_We_init_13 : decode nc_We_init 13 = .ok (.return_, 1) := by decide +kernel
theorem nd_We_at_0 : decode nc_We_at 0 = .ok (.aload_n 0, 1) := by decide +kernel
theorem nd_We_at_1 : decode nc_We_at 1 = .ok (.getfield 9, 3) := by decide +kernel
theorem nd_We_at_4 : decode nc_We_at 4 = .ok (.iload_n 1, 1) := by decide +kernel
theorem nd_We_at_5 : decode nc_We_at 5 = .ok (.iconst 4, 1) := by decide +kernel
theorem nd_We_at_6 : decode nc_We_at 6 = .ok (.imul, 1) := by decide +kernel
theorem nd_We_at_7 : decode nc_We_at 7 = .ok (.iload_n 2, 1) := by decide +kernel
theorem nd_We_at_8 : decode nc_We_at 8 = .ok (.iadd, 1) := by decide +kernel
theorem nd_We_at_9 : decode nc_We_at 9 = .ok (.laload, 1) := by decide +kernel
theorem nd_We_at_10 : decode nc_We_at 10 = .ok (.lreturn, 1) := by decide +kernel
theorem nd_We_add_0 : decode nc_We_add 0 = .ok (.aload_n 0, 1) := by decide +kernel
theorem nd_We_add_1 : decode nc_We_add 1 = .ok (.getfield 9, 3) := by decide +kernel
theorem nd_We_add_4 : decode nc_We_add 4 = .ok (.iload_n 1, 1) := by decide +kernel
theorem nd_We_add_5 : decode nc_We_add 5 = .ok (.iconst 4, 1) := by decide +kernel
theorem nd_We_add_6 : decode nc_We_add 6 = .ok (.imul, 1) := by decide +kernel
theorem nd_We_add_7 : decode nc_We_add 7 = .ok (.iload_n 2, 1) := by decide +kernel
theorem nd_We_add_8 : decode nc_We_add 8 = .ok (.iadd, 1) := by decide +kernel
theorem nd_We_add_9 : decode nc_We_add 9 = .ok (.dup2, 1) := by decide +kernel
theorem nd_We_add_10 : decode nc_We_add 10 = .ok (.laload, 1) := by decide +kernel
theorem nd_We_add_11 : decode nc_We_add 11 = .ok (.lload_n 3, 1) := by decide +kernel
theorem nd_We_add_12 : decode nc_We_add 12 = .ok (.ladd, 1) := by decide +kernel
theorem nd_We_add_13 : decode nc_We_add 13 = .ok (.lastore, 1) := by decide +kernel
theorem nd_We_add_14 : decode nc_We_add 14 = .ok (.return_, 1) := by decide +kernel
theorem nd_We_clear_0 : decode nc_We_clear 0 = .ok (.iconst 0, 1) := by decide +kernel
theorem nd_We_clear_1 : decode nc_We_clear 1 = .ok (.istore_n 1, 1) := by decide +kernel
theorem nd_We_clear_2 : decode nc_We_clear 2 = .ok (.iload_n 1, 1) := by decide +kernel
theorem nd_We_clear_3 : decode nc_We_clear 3 = .ok (.aload_n 0, 1) := by decide +kernel
theorem nd_We_clear_4 : decode nc_We_clear 4 = .ok (.getfield 9, 3) := by decide +kernel
theorem nd_We_clear_7 : decode nc_We_clear 7 = .ok (.arraylength, 1) := by decide +kernel
theorem nd_We_clear_8 : decode nc_We_clear 8 = .ok (.if_icmp .ge 16, 3) := by decide +kernel
theorem nd_We_clear_11 : decode nc_We_clear 11 = .ok (.aload_n 0, 1) := by decide +kernel
theorem nd_We_clear_12 : decode nc_We_clear 12 = .ok (.getfield 9, 3) := by decide +kernel
theorem nd_We_clear_15 : decode nc_We_clear 15 = .ok (.iload_n 1, 1) := by decide +kernel
theorem nd_We_clear_16 : decode nc_We_clear 16 = .ok (.lconst 0, 1) := by decide +kernel
theorem nd_We_clear_17 : decode nc_We_clear 17 = .ok (.lastore, 1) := by decide +kernel
theorem nd_We_clear_18 : decode nc_We_clear 18 = .ok (.iinc 1 1, 3) := by decide +kernel
theorem nd_We_clear_21 : decode nc_We_clear 21 = .ok (.goto (-19), 3) := by decide +kernel
theorem nd_We_clear_24 : decode nc_We_clear 24 = .ok (.return_, 1) := by decide +kernel
end
section
theorem nd_We_addAll_0 : decode nc_We_addAll 0 = .ok (.iconst 0, 1) := by decide +kernel
theorem nd_We_addAll_1 : decode nc_We_addAll 1 = .ok (.istore_n 2, 1) := by decide +kernel
theorem nd_We_addAll_2 : decode nc_We_addAll 2 = .ok (.iload_n 2, 1) := by decide +kernel
theorem nd_We_addAll_3 : decode nc_We_addAll 3 = .ok (.aload_n 0, 1) := by decide +kernel
theorem nd_We_addAll_4 : decode nc_We_addAll 4 = .ok (.getfield 9, 3) := by decide +kernel
theorem nd_We_addAll_7 : decode nc_We_addAll 7 = .ok (.arraylength, 1) := by decide +kernel
theorem nd_We_addAll_8 : decode nc_We_addAll 8 = .ok (.if_icmp .ge 24, 3) := by decide +kernel
theorem nd_We_addAll_11 : decode nc_We_addAll 11 = .ok (.aload_n 0, 1) := by decide +kernel
theorem nd_We_addAll_12 : decode nc_We_addAll 12 = .ok (.getfield 9, 3) := by decide +kernel
theorem nd_We_addAll_15 : decode nc_We_addAll 15 = .ok (.iload_n 2, 1) := by decide +kernel
theorem nd_We_addAll_16 : decode nc_We_addAll 16 = .ok (.dup2, 1) := by decide +kernel
theorem nd_We_addAll_17 : decode nc_We_addAll 17 = .ok (.laload, 1) := by decide +kernel
theorem nd_We_addAll_18 : decode nc_We_addAll 18 = .ok (.aload_n 1, 1) := by decide +kernel
theorem nd_We_addAll_19 : decode nc_We_addAll 19 = .ok (.getfield 9, 3) := by decide +kernel
theorem nd_We_addAll_22 : decode nc_We_addAll 22 = .ok (.iload_n 2, 1) := by decide +kernel
theorem nd_We_addAll_23 : decode nc_We_addAll 23 = .ok (.laload, 1) := by decide +kernel
theorem nd_We_addAll_24 : decode nc_We_addAll 24 = .ok (.ladd, 1) := by decide +kernel
theorem nd_We_addAll_25 : decode nc_We_addAll 25 = .ok (.lastore, 1) := by decide +kernel
theorem nd_We_addAll_26 : decode nc_We_addAll 26 = .ok (.iinc 2 1, 3) := by decide +kernel
theorem nd_We_addAll_29 : decode nc_We_addAll 29 = .ok (.goto (-27), 3) := by decide +kernel
theorem nd_We_addAll_32 : decode nc_We_addAll 32 = .ok (.return_, 1) := by decide +kernel
theorem nd_We_ofWord_0 : decode nc_We_ofWord 0 = .ok (.lconst 0, 1) := by decide +kernel
theorem nd_We_ofWord_1 : decode nc_We_ofWord 1 = .ok (.lstore 4, 2) := by decide +kernel
theorem nd_We_ofWord_3 : decode nc_We_ofWord 3 = .ok (.iconst 0, 1) := by decide +kernel
theorem nd_We_ofWord_4 : decode nc_We_ofWord 4 = .ok (.istore 6, 2) := by decide +kernel
theorem nd_We_ofWord_6 : decode nc_We_ofWord 6 = .ok (.iload 6, 2) := by decide +kernel
theorem nd_We_ofWord_8 : decode nc_We_ofWord 8 = .ok (.iconst 3, 1) := by decide +kernel
theorem nd_We_ofWord_9 : decode nc_We_ofWord 9 = .ok (.if_icmp .ge 26, 3) := by decide +kernel
theorem nd_We_ofWord_12 : decode nc_We_ofWord 12 = .ok (.lload 4, 2) := by decide +kernel
theorem nd_We_ofWord_14 : decode nc_We_ofWord 14 = .ok (.aload_n 0, 1) := by decide +kernel
theorem nd_We_ofWord_15 : decode nc_We_ofWord 15 = .ok (.aload_n 1, 1) := by decide +kernel
theorem nd_We_ofWord_16 : decode nc_We_ofWord 16 = .ok (.iload_n 2, 1) := by decide +kernel
theorem nd_We_ofWord_17 : decode nc_We_ofWord 17 = .ok (.iload 6, 2) := by decide +kernel
theorem nd_We_ofWord_19 : decode nc_We_ofWord 19 = .ok (.invokevirtual 15, 3) := by decide +kernel
theorem nd_We_ofWord_22 : decode nc_We_ofWord 22 = .ok (.iload_n 3, 1) := by decide +kernel
theorem nd_We_ofWord_23 : decode nc_We_ofWord 23 = .ok (.invokevirtual 21, 3) := by decide +kernel
theorem nd_We_ofWord_26 : decode nc_We_ofWord 26 = .ok (.ladd, 1) := by decide +kernel
theorem nd_We_ofWord_27 : decode nc_We_ofWord 27 = .ok (.lstore 4, 2) := by decide +kernel
theorem nd_We_ofWord_29 : decode nc_We_ofWord 29 = .ok (.iinc 6 1, 3) := by decide +kernel
theorem nd_We_ofWord_32 : decode nc_We_ofWord 32 = .ok (.goto (-26), 3) := by decide +kernel
theorem nd_We_ofWord_35 : decode nc_We_ofWord 35 = .ok (.lload 4, 2) := by decide +kernel
theorem nd_We_ofWord_37 : decode nc_We_ofWord 37 = .ok (.lreturn, 1) := by decide +kernel
theorem nd_We_sum_0 : decode nc_We_sum 0 = .ok (.lconst 0, 1) := by decide +kernel
theorem nd_We_sum_1 : decode nc_We_sum 1 = .ok (.lstore_n 3, 1) := by decide +kernel
theorem nd_We_sum_2 : decode nc_We_sum 2 = .ok (.bipush 32, 2) := by decide +kernel
theorem nd_We_sum_4 : decode nc_We_sum 4 = .ok (.istore 5, 2) := by decide +kernel
theorem nd_We_sum_6 : decode nc_We_sum 6 = .ok (.iconst 0, 1) := by decide +kernel
theorem nd_We_sum_7 : decode nc_We_sum 7 = .ok (.istore 6, 2) := by decide +kernel
theorem nd_We_sum_9 : decode nc_We_sum 9 = .ok (.iload 6, 2) := by decide +kernel
theorem nd_We_sum_11 : decode nc_We_sum 11 = .ok (.aload_n 1, 1) := by decide +kernel
theorem nd_We_sum_12 : decode nc_We_sum 12 = .ok (.getfield 25, 3) := by decide +kernel
theorem nd_We_sum_15 : decode nc_We_sum 15 = .ok (.if_icmp .ge 45, 3) := by decide +kernel
theorem nd_We_sum_18 : decode nc_We_sum 18 = .ok (.iload_n 2, 1) := by decide +kernel
theorem nd_We_sum_19 : decode nc_We_sum 19 = .ok (.iload 6, 2) := by decide +kernel
theorem nd_We_sum_21 : decode nc_We_sum 21 = .ok (.invokestatic 29, 3) := by decide +kernel
theorem nd_We_sum_24 : decode nc_We_sum 24 = .ok (.istore 7, 2) := by decide +kernel
theorem nd_We_sum_26 : decode nc_We_sum 26 = .ok (.lload_n 3, 1) := by decide +kernel
theorem nd_We_sum_27 : decode nc_We_sum 27 = .ok (.aload_n 0, 1) := by decide +kernel
theorem nd_We_sum_28 : decode nc_We_sum 28 = .ok (.iload 5, 2) := by decide +kernel
theorem nd_We_sum_30 : decode nc_We_sum 30 = .ok (.iload 7, 2) := by decide +kernel
theorem nd_We_sum_32 : decode nc_We_sum 32 = .ok (.invokevirtual 21, 3) := by decide +kernel
theorem nd_We_sum_35 : decode nc_We_sum 35 = .ok (.aload_n 0, 1) := by decide +kernel
theorem nd_We_sum_36 : decode nc_We_sum 36 = .ok (.aload_n 1, 1) := by decide +kernel
theorem nd_We_sum_37 : decode nc_We_sum 37 = .ok (.iload 6, 2) := by decide +kernel
theorem nd_We_sum_39 : decode nc_We_sum 39 = .ok (.iload 7, 2) := by decide +kernel
theorem nd_We_sum_41 : decode nc_We_sum 41 = .ok (.invokevirtual 32, 3) := by decide +kernel
theorem nd_We_sum_44 : decode nc_We_sum 44 = .ok (.ladd, 1) := by decide +kernel
theorem nd_We_sum_45 : decode nc_We_sum 45 = .ok (.ladd, 1) := by decide +kernel
theorem nd_We_sum_46 : decode nc_We_sum 46 = .ok (.lstore_n 3, 1) := by decide +kernel
theorem nd_We_sum_47 : decode nc_We_sum 47 = .ok (.bipush 33, 2) := by decide +kernel
theorem nd_We_sum_49 : decode nc_We_sum 49 = .ok (.iload 7, 2) := by decide +kernel
theorem nd_We_sum_51 : decode nc_We_sum 51 = .ok (.iadd, 1) := by decide +kernel
theorem nd_We_sum_52 : decode nc_We_sum 52 = .ok (.istore 5, 2) := by decide +kernel
theorem nd_We_sum_54 : decode nc_We_sum 54 = .ok (.iinc 6 1, 3) := by decide +kernel
theorem nd_We_sum_57 : decode nc_We_sum 57 = .ok (.goto (-48), 3) := by decide +kernel
theorem nd_We_sum_60 : decode nc_We_sum 60 = .ok (.lload_n 3, 1) := by decide +kernel
theorem nd_We_sum_61 : decode nc_We_sum 61 = .ok (.lreturn, 1) := by decide +kernel
theorem nd_We_change_0 : decode nc_We_change 0 = .ok (.bipush 32, 2) := by decide +kernel
theorem nd_We_change_2 : decode nc_We_change 2 = .ok (.istore 5, 2) := by decide +kernel
theorem nd_We_change_4 : decode nc_We_change 4 = .ok (.iconst 0, 1) := by decide +kernel
theorem nd_We_change_5 : decode nc_We_change 5 = .ok (.istore 6, 2) := by decide +kernel
theorem nd_We_change_7 : decode nc_We_change 7 = .ok (.iload 6, 2) := by decide +kernel
theorem nd_We_change_9 : decode nc_We_change 9 = .ok (.aload_n 1, 1) := by decide +kernel
theorem nd_We_change_10 : decode nc_We_change 10 = .ok (.getfield 25, 3) := by decide +kernel
theorem nd_We_change_13 : decode nc_We_change 13 = .ok (.if_icmp .ge 63, 3) := by decide +kernel
theorem nd_We_change_16 : decode nc_We_change 16 = .ok (.iload_n 2, 1) := by decide +kernel
theorem nd_We_change_17 : decode nc_We_change 17 = .ok (.iload 6, 2) := by decide +kernel
theorem nd_We_change_19 : decode nc_We_change 19 = .ok (.invokestatic 29, 3) := by decide +kernel
theorem nd_We_change_22 : decode nc_We_change 22 = .ok (.istore 7, 2) := by decide +kernel
theorem nd_We_change_24 : decode nc_We_change 24 = .ok (.aload_n 0, 1) := by decide +kernel
theorem nd_We_change_25 : decode nc_We_change 25 = .ok (.iload 5, 2) := by decide +kernel
theorem nd_We_change_27 : decode nc_We_change 27 = .ok (.iload 7, 2) := by decide +kernel
theorem nd_We_change_29 : decode nc_We_change 29 = .ok (.lload_n 3, 1) := by decide +kernel
theorem nd_We_change_30 : decode nc_We_change 30 = .ok (.invokevirtual 36, 3) := by decide +kernel
theorem nd_We_change_33 : decode nc_We_change 33 = .ok (.iconst 0, 1) := by decide +kernel
theorem nd_We_change_34 : decode nc_We_change 34 = .ok (.istore 8, 2) := by decide +kernel
theorem nd_We_change_36 : decode nc_We_change 36 = .ok (.iload 8, 2) := by decide +kernel
theorem nd_We_change_38 : decode nc_We_change 38 = .ok (.iconst 3, 1) := by decide +kernel
theorem nd_We_change_39 : decode nc_We_change 39 = .ok (.if_icmp .ge 24, 3) := by decide +kernel
theorem nd_We_change_42 : decode nc_We_change 42 = .ok (.aload_n 0, 1) := by decide +kernel
theorem nd_We_change_43 : decode nc_We_change 43 = .ok (.aload_n 1, 1) := by decide +kernel
theorem nd_We_change_44 : decode nc_We_change 44 = .ok (.iload 6, 2) := by decide +kernel
theorem nd_We_change_46 : decode nc_We_change 46 = .ok (.iload 8, 2) := by decide +kernel
theorem nd_We_change_48 : decode nc_We_change 48 = .ok (.invokevirtual 15, 3) := by decide +kernel
theorem nd_We_change_51 : decode nc_We_change 51 = .ok (.iload 7, 2) := by decide +kernel
theorem nd_We_change_53 : decode nc_We_change 53 = .ok (.lload_n 3, 1) := by decide +kernel
theorem nd_We_change_54 : decode nc_We_change 54 = .ok (.invokevirtual 36, 3) := by decide +kernel
theorem nd_We_change_57 : decode nc_We_change 57 = .ok (.iinc 8 1, 3) := by decide +kernel
theorem nd_We_change_60 : decode nc_We_change 60 = .ok (.goto (-24), 3) := by decide +kernel
theorem nd_We_change_63 : decode nc_We_change 63 = .ok (.bipush 33, 2) := by decide +kernel
theorem nd_We_change_65 : decode nc_We_change 65 = .ok (.iload 7, 2) := by decide +kernel
theorem nd_We_change_67 : decode nc_We_change 67 = .ok (.iadd, 1) := by decide +kernel
theorem nd_We_change_68 : decode nc_We_change 68 = .ok (.istore 5, 2) := by decide +kernel
theorem nd_We_change_70 : decode nc_We_change 70 = .ok (.iinc 6 1, 3) := by decide +kernel
theorem nd_We_change_73 : decode nc_We_change 73 = .ok (.goto (-66), 3) := by decide +kernel
theorem nd_We_change_76 : decode nc_We_change 76 = .ok (.return_, 1) := by decide +kernel
theorem nd_La_load_0 : decode nc_La_load 0 = .ok (.aload_n 1, 1) := by decide +kernel
theorem nd_La_load_1 : decode nc_La_load 1 = .ok (.iconst 0, 1) := by decide +kernel
theorem nd_La_load_2 : decode nc_La_load 2 = .ok (.aload_n 0, 1) := by decide +kernel
theorem nd_La_load_3 : decode nc_La_load 3 = .ok (.invokevirtual 7, 3) := by decide +kernel
theorem nd_La_load_6 : decode nc_La_load 6 = .ok (.i2l, 1) := by decide +kernel
theorem nd_La_load_7 : decode nc_La_load 7 = .ok (.lastore, 1) := by decide +kernel
theorem nd_La_load_8 : decode nc_La_load 8 = .ok (.goto 6, 3) := by decide +kernel
theorem nd_La_load_11 : decode nc_La_load 11 = .ok (.astore_n 2, 1) := by decide +kernel
theorem nd_La_load_12 : decode nc_La_load 12 = .ok (.iconst 1, 1) := by decide +kernel
theorem nd_La_load_13 : decode nc_La_load 13 = .ok (.ireturn, 1) := by decide +kernel
theorem nd_La_load_14 : decode nc_La_load 14 = .ok (.iconst 0, 1) := by decide +kernel
theorem nd_La_load_15 : decode nc_La_load 15 = .ok (.ireturn, 1) := by decide +kernel
theorem nd_La_speak_0 : decode nc_La_speak 0 = .ok (.aload_n 1, 1) := by decide +kernel
theorem nd_La_speak_1 : decode nc_La_speak 1 = .ok (.iconst 0, 1) := by decide +kernel
theorem nd_La_speak_2 : decode nc_La_speak 2 = .ok (.aload_n 0, 1) := by decide +kernel
theorem nd_La_speak_3 : decode nc_La_speak 3 = .ok (.invokevirtual 15, 3) := by decide +kernel
theorem nd_La_speak_6 : decode nc_La_speak 6 = .ok (.i2l, 1) := by decide +kernel
theorem nd_La_speak_7 : decode nc_La_speak 7 = .ok (.lastore, 1) := by decide +kernel
theorem nd_La_speak_8 : decode nc_La_speak 8 = .ok (.goto 6, 3) := by decide +kernel
theorem nd_La_speak_11 : decode nc_La_speak 11 = .ok (.astore_n 2, 1) := by decide +kernel
theorem nd_La_speak_12 : decode nc_La_speak 12 = .ok (.iconst 1, 1) := by decide +kernel
theorem nd_La_speak_13 : decode nc_La_speak 13 = .ok (.ireturn, 1) := by decide +kernel
theorem nd_La_speak_14 : decode nc_La_speak 14 = .ok (.iconst 0, 1) := by decide +kernel
theorem nd_La_speak_15 : decode nc_La_speak 15 = .ok (.ireturn, 1) := by decide +kernel
theorem nd_La_words_0 : decode nc_La_words 0 = .ok (.aload_n 2, 1) := by decide +kernel
theorem nd_La_words_1 : decode nc_La_words 1 = .ok (.iconst 0, 1) := by decide +kernel
theorem nd_La_words_2 : decode nc_La_words 2 = .ok (.aload_n 0, 1) := by decide +kernel
theorem nd_La_words_3 : decode nc_La_words 3 = .ok (.iload_n 1, 1) := by decide +kernel
theorem nd_La_words_4 : decode nc_La_words 4 = .ok (.invokevirtual 18, 3) := by decide +kernel
theorem nd_La_words_7 : decode nc_La_words 7 = .ok (.i2l, 1) := by decide +kernel
theorem nd_La_words_8 : decode nc_La_words 8 = .ok (.lastore, 1) := by decide +kernel
theorem nd_La_words_9 : decode nc_La_words 9 = .ok (.goto 6, 3) := by decide +kernel
theorem nd_La_words_12 : decode nc_La_words 12 = .ok (.astore_n 3, 1) := by decide +kernel
theorem nd_La_words_13 : decode nc_La_words 13 = .ok (.iconst 1, 1) := by decide +kernel
theorem nd_La_words_14 : decode nc_La_words 14 = .ok (.ireturn, 1) := by decide +kernel
theorem nd_La_words_15 : decode nc_La_words 15 = .ok (.iconst 0, 1) := by decide +kernel
theorem nd_La_words_16 : decode nc_La_words 16 = .ok (.ireturn, 1) := by decide +kernel
theorem nd_La_given_0 : decode nc_La_given 0 = .ok (.aload_n 3, 1) := by decide +kernel
theorem nd_La_given_1 : decode nc_La_given 1 = .ok (.iconst 0, 1) := by decide +kernel
theorem nd_La_given_2 : decode nc_La_given 2 = .ok (.aload_n 0, 1) := by decide +kernel
theorem nd_La_given_3 : decode nc_La_given 3 = .ok (.iload_n 1, 1) := by decide +kernel
theorem nd_La_given_4 : decode nc_La_given 4 = .ok (.iload_n 2, 1) := by decide +kernel
theorem nd_La_given_5 : decode nc_La_given 5 = .ok (.invokevirtual 24, 3) := by decide +kernel
theorem nd_La_given_8 : decode nc_La_given 8 = .ok (.i2l, 1) := by decide +kernel
theorem nd_La_given_9 : decode nc_La_given 9 = .ok (.lastore, 1) := by decide +kernel
theorem nd_La_given_10 : decode nc_La_given 10 = .ok (.goto 7, 3) := by decide +kernel
theorem nd_La_given_13 : decode nc_La_given 13 = .ok (.astore 4, 2) := by decide +kernel
theorem nd_La_given_15 : decode nc_La_given 15 = .ok (.iconst 1, 1) := by decide +kernel
theorem nd_La_given_16 : decode nc_La_given 16 = .ok (.ireturn, 1) := by decide +kernel
theorem nd_La_given_17 : decode nc_La_given 17 = .ok (.iconst 0, 1) := by decide +kernel
theorem nd_La_given_18 : decode nc_La_given 18 = .ok (.ireturn, 1) := by decide +kernel
theorem nd_La_feature_0 : decode nc_La_feature 0 = .ok (.aload 4, 2) := by decide +kernel
theorem nd_La_feature_2 : decode nc_La_feature 2 = .ok (.iconst 0, 1) := by decide +kernel
theorem nd_La_feature_3 : decode nc_La_feature 3 = .ok (.aload_n 0, 1) := by decide +kernel
theorem nd_La_feature_4 : decode nc_La_feature 4 = .ok (.iload_n 1, 1) := by decide +kernel
theorem nd_La_feature_5 : decode nc_La_feature 5 = .ok (.iload_n 2, 1) := by decide +kernel
theorem nd_La_feature_6 : decode nc_La_feature 6 = .ok (.iload_n 3, 1) := by decide +kernel
theorem nd_La_feature_7 : decode nc_La_feature 7 = .ok (.invokevirtual 28, 3) := by decide +kernel
theorem nd_La_feature_10 : decode nc_La_feature 10 = .ok (.i2l, 1) := by decide +kernel
theorem nd_La_feature_11 : decode nc_La_feature 11 = .ok (.lastore, 1) := by decide +kernel
theorem nd_La_feature_12 : decode nc_La_feature 12 = .ok (.goto 7, 3) := by decide +kernel
theorem nd_La_feature_15 : decode nc_La_feature 15 = .ok (.astore 5, 2) := by decide +kernel
theorem nd_La_feature_17 : decode nc_La_feature 17 = .ok (.iconst 1, 1) := by decide +kernel
theorem nd_La_feature_18 : decode nc_La_feature 18 = .ok (.ireturn, 1) := by decide +kernel
theorem nd_La_feature_19 : decode nc_La_feature 19 = .ok (.iconst 0, 1) := by decide +kernel
theorem nd_La_feature_20 : decode nc_La_feature 20 = .ok (.ireturn, 1) := by decide +kernel
theorem nd_La_learn_0 : decode nc_La_learn 0 = .ok (.aload_n 2, 1) := by decide +kernel
theorem nd_La_learn_1 : decode nc_La_learn 1 = .ok (.iconst 0, 1) := by decide +kernel
theorem nd_La_learn_2 : decode nc_La_learn 2 = .ok (.aload_n 0, 1) := by decide +kernel
theorem nd_La_learn_3 : decode nc_La_learn 3 = .ok (.iload_n 1, 1) := by decide +kernel
theorem nd_La_learn_4 : decode nc_La_learn 4 = .ok (.invokevirtual 32, 3) := by decide +kernel
theorem nd_La_learn_7 : decode nc_La_learn 7 = .ok (.i2l, 1) := by decide +kernel
theorem nd_La_learn_8 : decode nc_La_learn 8 = .ok (.lastore, 1) := by decide +kernel
theorem nd_La_learn_9 : decode nc_La_learn 9 = .ok (.goto 9, 3) := by decide +kernel
theorem nd_La_learn_12 : decode nc_La_learn 12 = .ok (.astore_n 3, 1) := by decide +kernel
theorem nd_La_learn_13 : decode nc_La_learn 13 = .ok (.iconst 1, 1) := by decide +kernel
theorem nd_La_learn_14 : decode nc_La_learn 14 = .ok (.ireturn, 1) := by decide +kernel
theorem nd_La_learn_15 : decode nc_La_learn 15 = .ok (.astore_n 3, 1) := by decide +kernel
theorem nd_La_learn_16 : decode nc_La_learn 16 = .ok (.iconst 2, 1) := by decide +kernel
theorem nd_La_learn_17 : decode nc_La_learn 17 = .ok (.ireturn, 1) := by decide +kernel
theorem nd_La_learn_18 : decode nc_La_learn 18 = .ok (.iconst 0, 1) := by decide +kernel
theorem nd_La_learn_19 : decode nc_La_learn 19 = .ok (.ireturn, 1) := by decide +kernel
theorem nd_La_weight_0 : decode nc_La_weight 0 = .ok (.aload 4, 2) := by decide +kernel
theorem nd_La_weight_2 : decode nc_La_weight 2 = .ok (.iconst 0, 1) := by decide +kernel
theorem nd_La_weight_3 : decode nc_La_weight 3 = .ok (.aload_n 0, 1) := by decide +kernel
theorem nd_La_weight_4 : decode nc_La_weight 4 = .ok (.iload_n 1, 1) := by decide +kernel
theorem nd_La_weight_5 : decode nc_La_weight 5 = .ok (.iload_n 2, 1) := by decide +kernel
theorem nd_La_weight_6 : decode nc_La_weight 6 = .ok (.iload_n 3, 1) := by decide +kernel
theorem nd_La_weight_7 : decode nc_La_weight 7 = .ok (.invokevirtual 37, 3) := by decide +kernel
theorem nd_La_weight_10 : decode nc_La_weight 10 = .ok (.lastore, 1) := by decide +kernel
theorem nd_La_weight_11 : decode nc_La_weight 11 = .ok (.goto 7, 3) := by decide +kernel
theorem nd_La_weight_14 : decode nc_La_weight 14 = .ok (.astore 5, 2) := by decide +kernel
theorem nd_La_weight_16 : decode nc_La_weight 16 = .ok (.iconst 1, 1) := by decide +kernel
theorem nd_La_weight_17 : decode nc_La_weight 17 = .ok (.ireturn, 1) := by decide +kernel
theorem nd_La_weight_18 : decode nc_La_weight 18 = .ok (.iconst 0, 1) := by decide +kernel
theorem nd_La_weight_19 : decode nc_La_weight 19 = .ok (.ireturn, 1) := by decide +kernel
theorem nd_La_decode_0 : decode nc_La_decode 0 = .ok (.aload 4, 2) := by decide +kernel
theorem nd_La_decode_2 : decode nc_La_decode 2 = .ok (.iconst 0, 1) := by decide +kernel
theorem nd_La_decode_3 : decode nc_La_decode 3 = .ok (.aload_n 0, 1) := by decide +kernel
theorem nd_La_decode_4 : decode nc_La_decode 4 = .ok (.iload_n 1, 1) := by decide +kernel
theorem nd_La_decode_5 : decode nc_La_decode 5 = .ok (.iload_n 2, 1) := by decide +kernel
theorem nd_La_decode_6 : decode nc_La_decode 6 = .ok (.iload_n 3, 1) := by decide +kernel
theorem nd_La_decode_7 : decode nc_La_decode 7 = .ok (.invokevirtual 41, 3) := by decide +kernel
theorem nd_La_decode_10 : decode nc_La_decode 10 = .ok (.lastore, 1) := by decide +kernel
theorem nd_La_decode_11 : decode nc_La_decode 11 = .ok (.goto 7, 3) := by decide +kernel
theorem nd_La_decode_14 : decode nc_La_decode 14 = .ok (.astore 5, 2) := by decide +kernel
theorem nd_La_decode_16 : decode nc_La_decode 16 = .ok (.iconst 1, 1) := by decide +kernel
theorem nd_La_decode_17 : decode nc_La_decode 17 = .ok (.ireturn, 1) := by decide +kernel
theorem nd_La_decode_18 : decode nc_La_decode 18 = .ok (.iconst 0, 1) := by decide +kernel
theorem nd_La_decode_19 : decode nc_La_decode 19 = .ok (.ireturn, 1) := by decide +kernel
theorem nd_La_label_0 : decode nc_La_label 0 = .ok (.aload_n 2, 1) := by decide +kernel
theorem nd_La_label_1 : decode nc_La_label 1 = .ok (.iconst 0, 1) := by decide +kernel
theorem nd_La_label_2 : decode nc_La_label 2 = .ok (.aload_n 0, 1) := by decide +kernel
theorem nd_La_label_3 : decode nc_La_label 3 = .ok (.iload_n 1, 1) := by decide +kernel
theorem nd_La_label_4 : decode nc_La_label 4 = .ok (.invokevirtual 45, 3) := by decide +kernel
theorem nd_La_label_7 : decode nc_La_label 7 = .ok (.i2l, 1) := by decide +kernel
theorem nd_La_label_8 : decode nc_La_label 8 = .ok (.lastore, 1) := by decide +kernel
theorem nd_La_label_9 : decode nc_La_label 9 = .ok (.goto 6, 3) := by decide +kernel
theorem nd_La_label_12 : decode nc_La_label 12 = .ok (.astore_n 3, 1) := by decide +kernel
theorem nd_La_label_13 : decode nc_La_label 13 = .ok (.iconst 1, 1) := by decide +kernel
theorem nd_La_label_14 : decode nc_La_label 14 = .ok (.ireturn, 1) := by decide +kernel
theorem nd_La_label_15 : decode nc_La_label 15 = .ok (.iconst 0, 1) := by decide +kernel
theorem nd_La_label_16 : decode nc_La_label 16 = .ok (.ireturn, 1) := by decide +kernel
theorem nd_La_score_0 : decode nc_La_score 0 = .ok (.aload 4, 2) := by decide +kernel
theorem nd_La_score_2 : decode nc_La_score 2 = .ok (.iconst 0, 1) := by decide +kernel
theorem nd_La_score_3 : decode nc_La_score 3 = .ok (.aload_n 0, 1) := by decide +kernel
theorem nd_La_score_4 : decode nc_La_score 4 = .ok (.iload_n 1, 1) := by decide +kernel
theorem nd_La_score_5 : decode nc_La_score 5 = .ok (.iload_n 2, 1) := by decide +kernel
theorem nd_La_score_6 : decode nc_La_score 6 = .ok (.iload_n 3, 1) := by decide +kernel
theorem nd_La_score_7 : decode nc_La_score 7 = .ok (.invokevirtual 48, 3) := by decide +kernel
theorem nd_La_score_10 : decode nc_La_score 10 = .ok (.lastore, 1) := by decide +kernel
theorem nd_La_score_11 : decode nc_La_score 11 = .ok (.goto 7, 3) := by decide +kernel
theorem nd_La_score_14 : decode nc_La_score 14 = .ok (.astore 5, 2) := by decide +kernel
theorem nd_La_score_16 : decode nc_La_score 16 = .ok (.iconst 1, 1) := by decide +kernel
theorem nd_La_score_17 : decode nc_La_score 17 = .ok (.ireturn, 1) := by decide +kernel
theorem nd_La_score_18 : decode nc_La_score 18 = .ok (.iconst 0, 1) := by decide +kernel
theorem nd_La_score_19 : decode nc_La_score 19 = .ok (.ireturn, 1) := by decide +kernel
theorem nd_La_law_0 : decode nc_La_law 0 = .ok (.new 8, 3) := by decide +kernel
theorem nd_La_law_3 : decode nc_La_law 3 = .ok (.dup, 1) := by decide +kernel
theorem nd_La_law_4 : decode nc_La_law 4 = .ok (.invokespecial 51, 3) := by decide +kernel
theorem nd_La_law_7 : decode nc_La_law 7 = .ok (.astore_n 1, 1) := by decide +kernel
theorem nd_La_law_8 : decode nc_La_law 8 = .ok (.new 52, 3) := by decide +kernel
theorem nd_La_law_11 : decode nc_La_law 11 = .ok (.dup, 1) := by decide +kernel
theorem nd_La_law_12 : decode nc_La_law 12 = .ok (.invokespecial 54, 3) := by decide +kernel
theorem nd_La_law_15 : decode nc_La_law 15 = .ok (.astore_n 2, 1) := by decide +kernel
theorem nd_La_law_16 : decode nc_La_law 16 = .ok (.iconst 1, 1) := by decide +kernel
theorem nd_La_law_17 : decode nc_La_law 17 = .ok (.newarray .long, 2) := by decide +kernel
theorem nd_La_law_19 : decode nc_La_law 19 = .ok (.astore_n 3, 1) := by decide +kernel
theorem nd_La_law_20 : decode nc_La_law 20 = .ok (.iconst 0, 1) := by decide +kernel
theorem nd_La_law_21 : decode nc_La_law 21 = .ok (.istore 4, 2) := by decide +kernel
theorem nd_La_law_23 : decode nc_La_law 23 = .ok (.iload 4, 2) := by decide +kernel
theorem nd_La_law_25 : decode nc_La_law 25 = .ok (.aload_n 0, 1) := by decide +kernel
theorem nd_La_law_26 : decode nc_La_law 26 = .ok (.arraylength, 1) := by decide +kernel
theorem nd_La_law_27 : decode nc_La_law 27 = .ok (.iconst 4, 1) := by decide +kernel
theorem nd_La_law_28 : decode nc_La_law 28 = .ok (.isub, 1) := by decide +kernel
theorem nd_La_law_29 : decode nc_La_law 29 = .ok (.if_icmp .gt 972, 3) := by decide +kernel
theorem nd_La_law_32 : decode nc_La_law 32 = .ok (.aload_n 0, 1) := by decide +kernel
theorem nd_La_law_33 : decode nc_La_law 33 = .ok (.iload 4, 2) := by decide +kernel
theorem nd_La_law_35 : decode nc_La_law 35 = .ok (.iaload, 1) := by decide +kernel
theorem nd_La_law_36 : decode nc_La_law 36 = .ok (.bipush 15, 2) := by decide +kernel
theorem nd_La_law_38 : decode nc_La_law 38 = .ok (.iand, 1) := by decide +kernel
theorem nd_La_law_39 : decode nc_La_law 39 = .ok (.tableswitch 956 0 15 #[77, 146, 171, 215, 259, 272, 328, 396, 476, 532, 545, 558, 653, 764, 820, 915], 77) := by decide +kernel
theorem nd_La_law_116 : decode nc_La_law 116 = .ok (.aload_n 1, 1) := by decide +kernel
theorem nd_La_law_117 : decode nc_La_law 117 = .ok (.aload_n 0, 1) := by decide +kernel
theorem nd_La_law_118 : decode nc_La_law 118 = .ok (.iload 4, 2) := by decide +kernel
theorem nd_La_law_120 : decode nc_La_law 120 = .ok (.iconst 1, 1) := by decide +kernel
theorem nd_La_law_121 : decode nc_La_law 121 = .ok (.iadd, 1) := by decide +kernel
theorem nd_La_law_122 : decode nc_La_law 122 = .ok (.iaload, 1) := by decide +kernel
theorem nd_La_law_123 : decode nc_La_law 123 = .ok (.i2l, 1) := by decide +kernel
theorem nd_La_law_124 : decode nc_La_law 124 = .ok (.bipush 32, 2) := by decide +kernel
theorem nd_La_law_126 : decode nc_La_law 126 = .ok (.lshl, 1) := by decide +kernel
theorem nd_La_law_127 : decode nc_La_law 127 = .ok (.aload_n 0, 1) := by decide +kernel
theorem nd_La_law_128 : decode nc_La_law 128 = .ok (.iload 4, 2) := by decide +kernel
theorem nd_La_law_130 : decode nc_La_law 130 = .ok (.iconst 2, 1) := by decide +kernel
theorem nd_La_law_131 : decode nc_La_law 131 = .ok (.iadd, 1) := by decide +kernel
theorem nd_La_law_132 : decode nc_La_law 132 = .ok (.iaload, 1) := by decide +kernel
theorem nd_La_law_133 : decode nc_La_law 133 = .ok (.i2l, 1) := by decide +kernel
theorem nd_La_law_134 : decode nc_La_law 134 = .ok (.ldc2_w 55, 3) := by decide +kernel
theorem nd_La_law_137 : decode nc_La_law 137 = .ok (.land, 1) := by decide +kernel
theorem nd_La_law_138 : decode nc_La_law 138 = .ok (.lor, 1) := by decide +kernel
theorem nd_La_law_139 : decode nc_La_law 139 = .ok (.aload_n 0, 1) := by decide +kernel
theorem nd_La_law_140 : decode nc_La_law 140 = .ok (.iload 4, 2) := by decide +kernel
theorem nd_La_law_142 : decode nc_La_law 142 = .ok (.iconst 3, 1) := by decide +kernel
theorem nd_La_law_143 : decode nc_La_law 143 = .ok (.iadd, 1) := by decide +kernel
theorem nd_La_law_144 : decode nc_La_law 144 = .ok (.iaload, 1) := by decide +kernel
theorem nd_La_law_145 : decode nc_La_law 145 = .ok (.invokevirtual 57, 3) := by decide +kernel
theorem nd_La_law_148 : decode nc_La_law 148 = .ok (.aload_n 2, 1) := by decide +kernel
theorem nd_La_law_149 : decode nc_La_law 149 = .ok (.aload_n 0, 1) := by decide +kernel
theorem nd_La_law_150 : decode nc_La_law 150 = .ok (.iload 4, 2) := by decide +kernel
theorem nd_La_law_152 : decode nc_La_law 152 = .ok (.iconst 1, 1) := by decide +kernel
theorem nd_La_law_153 : decode nc_La_law 153 = .ok (.iadd, 1) := by decide +kernel
theorem nd_La_law_154 : decode nc_La_law 154 = .ok (.iaload, 1) := by decide +kernel
theorem nd_La_law_155 : decode nc_La_law 155 = .ok (.i2l, 1) := by decide +kernel
theorem nd_La_law_156 : decode nc_La_law 156 = .ok (.bipush 32, 2) := by decide +kernel
theorem nd_La_law_158 : decode nc_La_law 158 = .ok (.lshl, 1) := by decide +kernel
theorem nd_La_law_159 : decode nc_La_law 159 = .ok (.aload_n 0, 1) := by decide +kernel
theorem nd_La_law_160 : decode nc_La_law 160 = .ok (.iload 4, 2) := by decide +kernel
theorem nd_La_law_162 : decode nc_La_law 162 = .ok (.iconst 2, 1) := by decide +kernel
theorem nd_La_law_163 : decode nc_La_law 163 = .ok (.iadd, 1) := by decide +kernel
theorem nd_La_law_164 : decode nc_La_law 164 = .ok (.iaload, 1) := by decide +kernel
theorem nd_La_law_165 : decode nc_La_law 165 = .ok (.i2l, 1) := by decide +kernel
theorem nd_La_law_166 : decode nc_La_law 166 = .ok (.ldc2_w 55, 3) := by decide +kernel
theorem nd_La_law_169 : decode nc_La_law 169 = .ok (.land, 1) := by decide +kernel
theorem nd_La_law_170 : decode nc_La_law 170 = .ok (.lor, 1) := by decide +kernel
theorem nd_La_law_171 : decode nc_La_law 171 = .ok (.aload_n 0, 1) := by decide +kernel
theorem nd_La_law_172 : decode nc_La_law 172 = .ok (.iload 4, 2) := by decide +kernel
theorem nd_La_law_174 : decode nc_La_law 174 = .ok (.iconst 3, 1) := by decide +kernel
theorem nd_La_law_175 : decode nc_La_law 175 = .ok (.iadd, 1) := by decide +kernel
theorem nd_La_law_176 : decode nc_La_law 176 = .ok (.iaload, 1) := by decide +kernel
theorem nd_La_law_177 : decode nc_La_law 177 = .ok (.invokevirtual 61, 3) := by decide +kernel
theorem nd_La_law_180 : decode nc_La_law 180 = .ok (.if_icmp .eq 815, 3) := by decide +kernel
theorem nd_La_law_183 : decode nc_La_law 183 = .ok (.iconst 0, 1) := by decide +kernel
theorem nd_La_law_184 : decode nc_La_law 184 = .ok (.ireturn, 1) := by decide +kernel
theorem nd_La_law_185 : decode nc_La_law 185 = .ok (.aload_n 1, 1) := by decide +kernel
theorem nd_La_law_186 : decode nc_La_law 186 = .ok (.aload_n 0, 1) := by decide +kernel
theorem nd_La_law_187 : decode nc_La_law 187 = .ok (.iload 4, 2) := by decide +kernel
theorem nd_La_law_189 : decode nc_La_law 189 = .ok (.iconst 1, 1) := by decide +kernel
theorem nd_La_law_190 : decode nc_La_law 190 = .ok (.iadd, 1) := by decide +kernel
theorem nd_La_law_191 : decode nc_La_law 191 = .ok (.iaload, 1) := by decide +kernel
theorem nd_La_law_192 : decode nc_La_law 192 = .ok (.invokevirtual 62, 3) := by decide +kernel
theorem nd_La_law_195 : decode nc_La_law 195 = .ok (.aload_n 2, 1) := by decide +kernel
theorem nd_La_law_196 : decode nc_La_law 196 = .ok (.aload_n 0, 1) := by decide +kernel
theorem nd_La_law_197 : decode nc_La_law 197 = .ok (.iload 4, 2) := by decide +kernel
theorem nd_La_law_199 : decode nc_La_law 199 = .ok (.iconst 1, 1) := by decide +kernel
theorem nd_La_law_200 : decode nc_La_law 200 = .ok (.iadd, 1) := by decide +kernel
theorem nd_La_law_201 : decode nc_La_law 201 = .ok (.iaload, 1) := by decide +kernel
theorem nd_La_law_202 : decode nc_La_law 202 = .ok (.invokevirtual 66, 3) := by decide +kernel
theorem nd_La_law_205 : decode nc_La_law 205 = .ok (.if_icmp .eq 790, 3) := by decide +kernel
theorem nd_La_law_208 : decode nc_La_law 208 = .ok (.iconst 0, 1) := by decide +kernel
theorem nd_La_law_209 : decode nc_La_law 209 = .ok (.ireturn, 1) := by decide +kernel
theorem nd_La_law_210 : decode nc_La_law 210 = .ok (.aload_n 1, 1) := by decide +kernel
theorem nd_La_law_211 : decode nc_La_law 211 = .ok (.aload_n 3, 1) := by decide +kernel
theorem nd_La_law_212 : decode nc_La_law 212 = .ok (.invokestatic 67, 3) := by decide +kernel
theorem nd_La_law_215 : decode nc_La_law 215 = .ok (.istore 5, 2) := by decide +kernel
theorem nd_La_law_217 : decode nc_La_law 217 = .ok (.aload_n 2, 1) := by decide +kernel
theorem nd_La_law_218 : decode nc_La_law 218 = .ok (.invokevirtual 72, 3) := by decide +kernel
theorem nd_La_law_221 : decode nc_La_law 221 = .ok (.istore 6, 2) := by decide +kernel
theorem nd_La_law_223 : decode nc_La_law 223 = .ok (.aload_n 2, 1) := by decide +kernel
theorem nd_La_law_224 : decode nc_La_law 224 = .ok (.invokevirtual 73, 3) := by decide +kernel
theorem nd_La_law_227 : decode nc_La_law 227 = .ok (.iload 5, 2) := by decide +kernel
theorem nd_La_law_229 : decode nc_La_law 229 = .ok (.if_icmp .eq 5, 3) := by decide +kernel
theorem nd_La_law_232 : decode nc_La_law 232 = .ok (.iconst 0, 1) := by decide +kernel
theorem nd_La_law_233 : decode nc_La_law 233 = .ok (.ireturn, 1) := by decide +kernel
theorem nd_La_law_234 : decode nc_La_law 234 = .ok (.iload 5, 2) := by decide +kernel
theorem nd_La_law_236 : decode nc_La_law 236 = .ok (.ifCond .ne 15, 3) := by decide +kernel
theorem nd_La_law_239 : decode nc_La_law 239 = .ok (.aload_n 3, 1) := by decide +kernel
theorem nd_La_law_240 : decode nc_La_law 240 = .ok (.iconst 0, 1) := by decide +kernel
theorem nd_La_law_241 : decode nc_La_law 241 = .ok (.laload, 1) := by decide +kernel
theorem nd_La_law_242 : decode nc_La_law 242 = .ok (.iload 6, 2) := by decide +kernel
theorem nd_La_law_244 : decode nc_La_law 244 = .ok (.i2l, 1) := by decide +kernel
theorem nd_La_law_245 : decode nc_La_law 245 = .ok (.lcmp, 1) := by decide +kernel
theorem nd_La_law_246 : decode nc_La_law 246 = .ok (.ifCond .eq 5, 3) := by decide +kernel
theorem nd_La_law_249 : decode nc_La_law 249 = .ok (.iconst 0, 1) := by decide +kernel
theorem nd_La_law_250 : decode nc_La_law 250 = .ok (.ireturn, 1) := by decide +kernel
theorem nd_La_law_251 : decode nc_La_law 251 = .ok (.goto 744, 3) := by decide +kernel
theorem nd_La_law_254 : decode nc_La_law 254 = .ok (.aload_n 1, 1) := by decide +kernel
theorem nd_La_law_255 : decode nc_La_law 255 = .ok (.aload_n 3, 1) := by decide +kernel
theorem nd_La_law_256 : decode nc_La_law 256 = .ok (.invokestatic 76, 3) := by decide +kernel
theorem nd_La_law_259 : decode nc_La_law 259 = .ok (.istore 5, 2) := by decide +kernel
theorem nd_La_law_261 : decode nc_La_law 261 = .ok (.aload_n 2, 1) := by decide +kernel
theorem nd_La_law_262 : decode nc_La_law 262 = .ok (.invokevirtual 78, 3) := by decide +kernel
theorem nd_La_law_265 : decode nc_La_law 265 = .ok (.istore 6, 2) := by decide +kernel
theorem nd_La_law_267 : decode nc_La_law 267 = .ok (.aload_n 2, 1) := by decide +kernel
theorem nd_La_law_268 : decode nc_La_law 268 = .ok (.invokevirtual 73, 3) := by decide +kernel
theorem nd_La_law_271 : decode nc_La_law 271 = .ok (.iload 5, 2) := by decide +kernel
theorem nd_La_law_273 : decode nc_La_law 273 = .ok (.if_icmp .eq 5, 3) := by decide +kernel
theorem nd_La_law_276 : decode nc_La_law 276 = .ok (.iconst 0, 1) := by decide +kernel
theorem nd_La_law_277 : decode nc_La_law 277 = .ok (.ireturn, 1) := by decide +kernel
theorem nd_La_law_278 : decode nc_La_law 278 = .ok (.iload 5, 2) := by decide +kernel
theorem nd_La_law_280 : decode nc_La_law 280 = .ok (.ifCond .ne 15, 3) := by decide +kernel
theorem nd_La_law_283 : decode nc_La_law 283 = .ok (.aload_n 3, 1) := by decide +kernel
theorem nd_La_law_284 : decode nc_La_law 284 = .ok (.iconst 0, 1) := by decide +kernel
theorem nd_La_law_285 : decode nc_La_law 285 = .ok (.laload, 1) := by decide +kernel
theorem nd_La_law_286 : decode nc_La_law 286 = .ok (.iload 6, 2) := by decide +kernel
theorem nd_La_law_288 : decode nc_La_law 288 = .ok (.i2l, 1) := by decide +kernel
theorem nd_La_law_289 : decode nc_La_law 289 = .ok (.lcmp, 1) := by decide +kernel
theorem nd_La_law_290 : decode nc_La_law 290 = .ok (.ifCond .eq 5, 3) := by decide +kernel
theorem nd_La_law_293 : decode nc_La_law 293 = .ok (.iconst 0, 1) := by decide +kernel
theorem nd_La_law_294 : decode nc_La_law 294 = .ok (.ireturn, 1) := by decide +kernel
theorem nd_La_law_295 : decode nc_La_law 295 = .ok (.goto 700, 3) := by decide +kernel
theorem nd_La_law_298 : decode nc_La_law 298 = .ok (.aload_n 1, 1) := by decide +kernel
theorem nd_La_law_299 : decode nc_La_law 299 = .ok (.invokevirtual 79, 3) := by decide +kernel
theorem nd_La_law_302 : decode nc_La_law 302 = .ok (.aload_n 2, 1) := by decide +kernel
theorem nd_La_law_303 : decode nc_La_law 303 = .ok (.invokevirtual 82, 3) := by decide +kernel
theorem nd_La_law_306 : decode nc_La_law 306 = .ok (.if_icmp .eq 689, 3) := by decide +kernel
theorem nd_La_law_309 : decode nc_La_law 309 = .ok (.iconst 0, 1) := by decide +kernel
theorem nd_La_law_310 : decode nc_La_law 310 = .ok (.ireturn, 1) := by decide +kernel
theorem nd_La_law_311 : decode nc_La_law 311 = .ok (.aload_n 1, 1) := by decide +kernel
theorem nd_La_law_312 : decode nc_La_law 312 = .ok (.aload_n 0, 1) := by decide +kernel
theorem nd_La_law_313 : decode nc_La_law 313 = .ok (.iload 4, 2) := by decide +kernel
theorem nd_La_law_315 : decode nc_La_law 315 = .ok (.iconst 1, 1) := by decide +kernel
theorem nd_La_law_316 : decode nc_La_law 316 = .ok (.iadd, 1) := by decide +kernel
theorem nd_La_law_317 : decode nc_La_law 317 = .ok (.iaload, 1) := by decide +kernel
theorem nd_La_law_318 : decode nc_La_law 318 = .ok (.aload_n 3, 1) := by decide +kernel
theorem nd_La_law_319 : decode nc_La_law 319 = .ok (.invokestatic 83, 3) := by decide +kernel
theorem nd_La_law_322 : decode nc_La_law 322 = .ok (.istore 5, 2) := by decide +kernel
theorem nd_La_law_324 : decode nc_La_law 324 = .ok (.aload_n 2, 1) := by decide +kernel
theorem nd_La_law_325 : decode nc_La_law 325 = .ok (.aload_n 0, 1) := by decide +kernel
theorem nd_La_law_326 : decode nc_La_law 326 = .ok (.iload 4, 2) := by decide +kernel
theorem nd_La_law_328 : decode nc_La_law 328 = .ok (.iconst 1, 1) := by decide +kernel
theorem nd_La_law_329 : decode nc_La_law 329 = .ok (.iadd, 1) := by decide +kernel
theorem nd_La_law_330 : decode nc_La_law 330 = .ok (.iaload, 1) := by decide +kernel
theorem nd_La_law_331 : decode nc_La_law 331 = .ok (.invokevirtual 86, 3) := by decide +kernel
theorem nd_La_law_334 : decode nc_La_law 334 = .ok (.istore 6, 2) := by decide +kernel
theorem nd_La_law_336 : decode nc_La_law 336 = .ok (.aload_n 2, 1) := by decide +kernel
theorem nd_La_law_337 : decode nc_La_law 337 = .ok (.invokevirtual 73, 3) := by decide +kernel
theorem nd_La_law_340 : decode nc_La_law 340 = .ok (.iload 5, 2) := by decide +kernel
theorem nd_La_law_342 : decode nc_La_law 342 = .ok (.if_icmp .eq 5, 3) := by decide +kernel
theorem nd_La_law_345 : decode nc_La_law 345 = .ok (.iconst 0, 1) := by decide +kernel
theorem nd_La_law_346 : decode nc_La_law 346 = .ok (.ireturn, 1) := by decide +kernel
theorem nd_La_law_347 : decode nc_La_law 347 = .ok (.iload 5, 2) := by decide +kernel
theorem nd_La_law_349 : decode nc_La_law 349 = .ok (.ifCond .ne 15, 3) := by decide +kernel
theorem nd_La_law_352 : decode nc_La_law 352 = .ok (.aload_n 3, 1) := by decide +kernel
theorem nd_La_law_353 : decode nc_La_law 353 = .ok (.iconst 0, 1) := by decide +kernel
theorem nd_La_law_354 : decode nc_La_law 354 = .ok (.laload, 1) := by decide +kernel
theorem nd_La_law_355 : decode nc_La_law 355 = .ok (.iload 6, 2) := by decide +kernel
theorem nd_La_law_357 : decode nc_La_law 357 = .ok (.i2l, 1) := by decide +kernel
theorem nd_La_law_358 : decode nc_La_law 358 = .ok (.lcmp, 1) := by decide +kernel
theorem nd_La_law_359 : decode nc_La_law 359 = .ok (.ifCond .eq 5, 3) := by decide +kernel
theorem nd_La_law_362 : decode nc_La_law 362 = .ok (.iconst 0, 1) := by decide +kernel
theorem nd_La_law_363 : decode nc_La_law 363 = .ok (.ireturn, 1) := by decide +kernel
theorem nd_La_law_364 : decode nc_La_law 364 = .ok (.goto 631, 3) := by decide +kernel
theorem nd_La_law_367 : decode nc_La_law 367 = .ok (.aload_n 1, 1) := by decide +kernel
theorem nd_La_law_368 : decode nc_La_law 368 = .ok (.aload_n 0, 1) := by decide +kernel
theorem nd_La_law_369 : decode nc_La_law 369 = .ok (.iload 4, 2) := by decide +kernel
theorem nd_La_law_371 : decode nc_La_law 371 = .ok (.iconst 1, 1) := by decide +kernel
theorem nd_La_law_372 : decode nc_La_law 372 = .ok (.iadd, 1) := by decide +kernel
theorem nd_La_law_373 : decode nc_La_law 373 = .ok (.iaload, 1) := by decide +kernel
theorem nd_La_law_374 : decode nc_La_law 374 = .ok (.aload_n 0, 1) := by decide +kernel
theorem nd_La_law_375 : decode nc_La_law 375 = .ok (.iload 4, 2) := by decide +kernel
theorem nd_La_law_377 : decode nc_La_law 377 = .ok (.iconst 2, 1) := by decide +kernel
theorem nd_La_law_378 : decode nc_La_law 378 = .ok (.iadd, 1) := by decide +kernel
theorem nd_La_law_379 : decode nc_La_law 379 = .ok (.iaload, 1) := by decide +kernel
theorem nd_La_law_380 : decode nc_La_law 380 = .ok (.aload_n 3, 1) := by decide +kernel
end
section
theorem nd_La_law_381 : decode nc_La_law 381 = .ok (.invokestatic 87, 3) := by decide +kernel
theorem nd_La_law_384 : decode nc_La_law 384 = .ok (.istore 5, 2) := by decide +kernel
theorem nd_La_law_386 : decode nc_La_law 386 = .ok (.aload_n 2, 1) := by decide +kernel
theorem nd_La_law_387 : decode nc_La_law 387 = .ok (.aload_n 0, 1) := by decide +kernel
theorem nd_La_law_388 : decode nc_La_law 388 = .ok (.iload 4, 2) := by decide +kernel
theorem nd_La_law_390 : decode nc_La_law 390 = .ok (.iconst 1, 1) := by decide +kernel
theorem nd_La_law_391 : decode nc_La_law 391 = .ok (.iadd, 1) := by decide +kernel
theorem nd_La_law_392 : decode nc_La_law 392 = .ok (.iaload, 1) := by decide +kernel
theorem nd_La_law_393 : decode nc_La_law 393 = .ok (.aload_n 0, 1) := by decide +kernel
theorem nd_La_law_394 : decode nc_La_law 394 = .ok (.iload 4, 2) := by decide +kernel
theorem nd_La_law_396 : decode nc_La_law 396 = .ok (.iconst 2, 1) := by decide +kernel
theorem nd_La_law_397 : decode nc_La_law 397 = .ok (.iadd, 1) := by decide +kernel
theorem nd_La_law_398 : decode nc_La_law 398 = .ok (.iaload, 1) := by decide +kernel
theorem nd_La_law_399 : decode nc_La_law 399 = .ok (.invokevirtual 90, 3) := by decide +kernel
theorem nd_La_law_402 : decode nc_La_law 402 = .ok (.istore 6, 2) := by decide +kernel
theorem nd_La_law_404 : decode nc_La_law 404 = .ok (.aload_n 2, 1) := by decide +kernel
theorem nd_La_law_405 : decode nc_La_law 405 = .ok (.invokevirtual 73, 3) := by decide +kernel
theorem nd_La_law_408 : decode nc_La_law 408 = .ok (.iload 5, 2) := by decide +kernel
theorem nd_La_law_410 : decode nc_La_law 410 = .ok (.if_icmp .eq 5, 3) := by decide +kernel
theorem nd_La_law_413 : decode nc_La_law 413 = .ok (.iconst 0, 1) := by decide +kernel
theorem nd_La_law_414 : decode nc_La_law 414 = .ok (.ireturn, 1) := by decide +kernel
theorem nd_La_law_415 : decode nc_La_law 415 = .ok (.iload 5, 2) := by decide +kernel
theorem nd_La_law_417 : decode nc_La_law 417 = .ok (.ifCond .ne 15, 3) := by decide +kernel
theorem nd_La_law_420 : decode nc_La_law 420 = .ok (.aload_n 3, 1) := by decide +kernel
theorem nd_La_law_421 : decode nc_La_law 421 = .ok (.iconst 0, 1) := by decide +kernel
theorem nd_La_law_422 : decode nc_La_law 422 = .ok (.laload, 1) := by decide +kernel
theorem nd_La_law_423 : decode nc_La_law 423 = .ok (.iload 6, 2) := by decide +kernel
theorem nd_La_law_425 : decode nc_La_law 425 = .ok (.i2l, 1) := by decide +kernel
theorem nd_La_law_426 : decode nc_La_law 426 = .ok (.lcmp, 1) := by decide +kernel
theorem nd_La_law_427 : decode nc_La_law 427 = .ok (.ifCond .eq 5, 3) := by decide +kernel
theorem nd_La_law_430 : decode nc_La_law 430 = .ok (.iconst 0, 1) := by decide +kernel
theorem nd_La_law_431 : decode nc_La_law 431 = .ok (.ireturn, 1) := by decide +kernel
theorem nd_La_law_432 : decode nc_La_law 432 = .ok (.goto 563, 3) := by decide +kernel
theorem nd_La_law_435 : decode nc_La_law 435 = .ok (.aload_n 1, 1) := by decide +kernel
theorem nd_La_law_436 : decode nc_La_law 436 = .ok (.aload_n 0, 1) := by decide +kernel
theorem nd_La_law_437 : decode nc_La_law 437 = .ok (.iload 4, 2) := by decide +kernel
theorem nd_La_law_439 : decode nc_La_law 439 = .ok (.iconst 1, 1) := by decide +kernel
theorem nd_La_law_440 : decode nc_La_law 440 = .ok (.iadd, 1) := by decide +kernel
theorem nd_La_law_441 : decode nc_La_law 441 = .ok (.iaload, 1) := by decide +kernel
theorem nd_La_law_442 : decode nc_La_law 442 = .ok (.aload_n 0, 1) := by decide +kernel
theorem nd_La_law_443 : decode nc_La_law 443 = .ok (.iload 4, 2) := by decide +kernel
theorem nd_La_law_445 : decode nc_La_law 445 = .ok (.iconst 2, 1) := by decide +kernel
theorem nd_La_law_446 : decode nc_La_law 446 = .ok (.iadd, 1) := by decide +kernel
theorem nd_La_law_447 : decode nc_La_law 447 = .ok (.iaload, 1) := by decide +kernel
theorem nd_La_law_448 : decode nc_La_law 448 = .ok (.aload_n 0, 1) := by decide +kernel
theorem nd_La_law_449 : decode nc_La_law 449 = .ok (.iload 4, 2) := by decide +kernel
theorem nd_La_law_451 : decode nc_La_law 451 = .ok (.iconst 3, 1) := by decide +kernel
theorem nd_La_law_452 : decode nc_La_law 452 = .ok (.iadd, 1) := by decide +kernel
theorem nd_La_law_453 : decode nc_La_law 453 = .ok (.iaload, 1) := by decide +kernel
theorem nd_La_law_454 : decode nc_La_law 454 = .ok (.aload_n 3, 1) := by decide +kernel
theorem nd_La_law_455 : decode nc_La_law 455 = .ok (.invokestatic 91, 3) := by decide +kernel
theorem nd_La_law_458 : decode nc_La_law 458 = .ok (.istore 5, 2) := by decide +kernel
theorem nd_La_law_460 : decode nc_La_law 460 = .ok (.aload_n 2, 1) := by decide +kernel
theorem nd_La_law_461 : decode nc_La_law 461 = .ok (.aload_n 0, 1) := by decide +kernel
theorem nd_La_law_462 : decode nc_La_law 462 = .ok (.iload 4, 2) := by decide +kernel
theorem nd_La_law_464 : decode nc_La_law 464 = .ok (.iconst 1, 1) := by decide +kernel
theorem nd_La_law_465 : decode nc_La_law 465 = .ok (.iadd, 1) := by decide +kernel
theorem nd_La_law_466 : decode nc_La_law 466 = .ok (.iaload, 1) := by decide +kernel
theorem nd_La_law_467 : decode nc_La_law 467 = .ok (.aload_n 0, 1) := by decide +kernel
theorem nd_La_law_468 : decode nc_La_law 468 = .ok (.iload 4, 2) := by decide +kernel
theorem nd_La_law_470 : decode nc_La_law 470 = .ok (.iconst 2, 1) := by decide +kernel
theorem nd_La_law_471 : decode nc_La_law 471 = .ok (.iadd, 1) := by decide +kernel
theorem nd_La_law_472 : decode nc_La_law 472 = .ok (.iaload, 1) := by decide +kernel
theorem nd_La_law_473 : decode nc_La_law 473 = .ok (.aload_n 0, 1) := by decide +kernel
theorem nd_La_law_474 : decode nc_La_law 474 = .ok (.iload 4, 2) := by decide +kernel
theorem nd_La_law_476 : decode nc_La_law 476 = .ok (.iconst 3, 1) := by decide +kernel
theorem nd_La_law_477 : decode nc_La_law 477 = .ok (.iadd, 1) := by decide +kernel
theorem nd_La_law_478 : decode nc_La_law 478 = .ok (.iaload, 1) := by decide +kernel
theorem nd_La_law_479 : decode nc_La_law 479 = .ok (.invokevirtual 94, 3) := by decide +kernel
theorem nd_La_law_482 : decode nc_La_law 482 = .ok (.istore 6, 2) := by decide +kernel
theorem nd_La_law_484 : decode nc_La_law 484 = .ok (.aload_n 2, 1) := by decide +kernel
theorem nd_La_law_485 : decode nc_La_law 485 = .ok (.invokevirtual 73, 3) := by decide +kernel
theorem nd_La_law_488 : decode nc_La_law 488 = .ok (.iload 5, 2) := by decide +kernel
theorem nd_La_law_490 : decode nc_La_law 490 = .ok (.if_icmp .eq 5, 3) := by decide +kernel
theorem nd_La_law_493 : decode nc_La_law 493 = .ok (.iconst 0, 1) := by decide +kernel
theorem nd_La_law_494 : decode nc_La_law 494 = .ok (.ireturn, 1) := by decide +kernel
theorem nd_La_law_495 : decode nc_La_law 495 = .ok (.iload 5, 2) := by decide +kernel
theorem nd_La_law_497 : decode nc_La_law 497 = .ok (.ifCond .ne 15, 3) := by decide +kernel
theorem nd_La_law_500 : decode nc_La_law 500 = .ok (.aload_n 3, 1) := by decide +kernel
theorem nd_La_law_501 : decode nc_La_law 501 = .ok (.iconst 0, 1) := by decide +kernel
theorem nd_La_law_502 : decode nc_La_law 502 = .ok (.laload, 1) := by decide +kernel
theorem nd_La_law_503 : decode nc_La_law 503 = .ok (.iload 6, 2) := by decide +kernel
theorem nd_La_law_505 : decode nc_La_law 505 = .ok (.i2l, 1) := by decide +kernel
theorem nd_La_law_506 : decode nc_La_law 506 = .ok (.lcmp, 1) := by decide +kernel
theorem nd_La_law_507 : decode nc_La_law 507 = .ok (.ifCond .eq 5, 3) := by decide +kernel
theorem nd_La_law_510 : decode nc_La_law 510 = .ok (.iconst 0, 1) := by decide +kernel
theorem nd_La_law_511 : decode nc_La_law 511 = .ok (.ireturn, 1) := by decide +kernel
theorem nd_La_law_512 : decode nc_La_law 512 = .ok (.goto 483, 3) := by decide +kernel
theorem nd_La_law_515 : decode nc_La_law 515 = .ok (.aload_n 1, 1) := by decide +kernel
theorem nd_La_law_516 : decode nc_La_law 516 = .ok (.aload_n 0, 1) := by decide +kernel
theorem nd_La_law_517 : decode nc_La_law 517 = .ok (.iload 4, 2) := by decide +kernel
theorem nd_La_law_519 : decode nc_La_law 519 = .ok (.iconst 1, 1) := by decide +kernel
theorem nd_La_law_520 : decode nc_La_law 520 = .ok (.iadd, 1) := by decide +kernel
theorem nd_La_law_521 : decode nc_La_law 521 = .ok (.iaload, 1) := by decide +kernel
theorem nd_La_law_522 : decode nc_La_law 522 = .ok (.aload_n 3, 1) := by decide +kernel
theorem nd_La_law_523 : decode nc_La_law 523 = .ok (.invokestatic 95, 3) := by decide +kernel
theorem nd_La_law_526 : decode nc_La_law 526 = .ok (.istore 5, 2) := by decide +kernel
theorem nd_La_law_528 : decode nc_La_law 528 = .ok (.aload_n 2, 1) := by decide +kernel
theorem nd_La_law_529 : decode nc_La_law 529 = .ok (.aload_n 0, 1) := by decide +kernel
theorem nd_La_law_530 : decode nc_La_law 530 = .ok (.iload 4, 2) := by decide +kernel
theorem nd_La_law_532 : decode nc_La_law 532 = .ok (.iconst 1, 1) := by decide +kernel
theorem nd_La_law_533 : decode nc_La_law 533 = .ok (.iadd, 1) := by decide +kernel
theorem nd_La_law_534 : decode nc_La_law 534 = .ok (.iaload, 1) := by decide +kernel
theorem nd_La_law_535 : decode nc_La_law 535 = .ok (.invokevirtual 97, 3) := by decide +kernel
theorem nd_La_law_538 : decode nc_La_law 538 = .ok (.istore 6, 2) := by decide +kernel
theorem nd_La_law_540 : decode nc_La_law 540 = .ok (.aload_n 2, 1) := by decide +kernel
theorem nd_La_law_541 : decode nc_La_law 541 = .ok (.invokevirtual 73, 3) := by decide +kernel
theorem nd_La_law_544 : decode nc_La_law 544 = .ok (.iload 5, 2) := by decide +kernel
theorem nd_La_law_546 : decode nc_La_law 546 = .ok (.if_icmp .eq 5, 3) := by decide +kernel
theorem nd_La_law_549 : decode nc_La_law 549 = .ok (.iconst 0, 1) := by decide +kernel
theorem nd_La_law_550 : decode nc_La_law 550 = .ok (.ireturn, 1) := by decide +kernel
theorem nd_La_law_551 : decode nc_La_law 551 = .ok (.iload 5, 2) := by decide +kernel
theorem nd_La_law_553 : decode nc_La_law 553 = .ok (.ifCond .ne 15, 3) := by decide +kernel
theorem nd_La_law_556 : decode nc_La_law 556 = .ok (.aload_n 3, 1) := by decide +kernel
theorem nd_La_law_557 : decode nc_La_law 557 = .ok (.iconst 0, 1) := by decide +kernel
theorem nd_La_law_558 : decode nc_La_law 558 = .ok (.laload, 1) := by decide +kernel
theorem nd_La_law_559 : decode nc_La_law 559 = .ok (.iload 6, 2) := by decide +kernel
theorem nd_La_law_561 : decode nc_La_law 561 = .ok (.i2l, 1) := by decide +kernel
theorem nd_La_law_562 : decode nc_La_law 562 = .ok (.lcmp, 1) := by decide +kernel
theorem nd_La_law_563 : decode nc_La_law 563 = .ok (.ifCond .eq 5, 3) := by decide +kernel
theorem nd_La_law_566 : decode nc_La_law 566 = .ok (.iconst 0, 1) := by decide +kernel
theorem nd_La_law_567 : decode nc_La_law 567 = .ok (.ireturn, 1) := by decide +kernel
theorem nd_La_law_568 : decode nc_La_law 568 = .ok (.goto 427, 3) := by decide +kernel
theorem nd_La_law_571 : decode nc_La_law 571 = .ok (.aload_n 1, 1) := by decide +kernel
theorem nd_La_law_572 : decode nc_La_law 572 = .ok (.invokevirtual 98, 3) := by decide +kernel
theorem nd_La_law_575 : decode nc_La_law 575 = .ok (.aload_n 2, 1) := by decide +kernel
theorem nd_La_law_576 : decode nc_La_law 576 = .ok (.invokevirtual 101, 3) := by decide +kernel
theorem nd_La_law_579 : decode nc_La_law 579 = .ok (.if_icmp .eq 416, 3) := by decide +kernel
theorem nd_La_law_582 : decode nc_La_law 582 = .ok (.iconst 0, 1) := by decide +kernel
theorem nd_La_law_583 : decode nc_La_law 583 = .ok (.ireturn, 1) := by decide +kernel
theorem nd_La_law_584 : decode nc_La_law 584 = .ok (.aload_n 1, 1) := by decide +kernel
theorem nd_La_law_585 : decode nc_La_law 585 = .ok (.invokevirtual 102, 3) := by decide +kernel
theorem nd_La_law_588 : decode nc_La_law 588 = .ok (.aload_n 2, 1) := by decide +kernel
theorem nd_La_law_589 : decode nc_La_law 589 = .ok (.invokevirtual 105, 3) := by decide +kernel
theorem nd_La_law_592 : decode nc_La_law 592 = .ok (.if_icmp .eq 403, 3) := by decide +kernel
theorem nd_La_law_595 : decode nc_La_law 595 = .ok (.iconst 0, 1) := by decide +kernel
theorem nd_La_law_596 : decode nc_La_law 596 = .ok (.ireturn, 1) := by decide +kernel
theorem nd_La_law_597 : decode nc_La_law 597 = .ok (.aload_n 1, 1) := by decide +kernel
theorem nd_La_law_598 : decode nc_La_law 598 = .ok (.aload_n 0, 1) := by decide +kernel
theorem nd_La_law_599 : decode nc_La_law 599 = .ok (.iload 4, 2) := by decide +kernel
theorem nd_La_law_601 : decode nc_La_law 601 = .ok (.iconst 1, 1) := by decide +kernel
theorem nd_La_law_602 : decode nc_La_law 602 = .ok (.iadd, 1) := by decide +kernel
theorem nd_La_law_603 : decode nc_La_law 603 = .ok (.iaload, 1) := by decide +kernel
theorem nd_La_law_604 : decode nc_La_law 604 = .ok (.aload_n 0, 1) := by decide +kernel
theorem nd_La_law_605 : decode nc_La_law 605 = .ok (.iload 4, 2) := by decide +kernel
theorem nd_La_law_607 : decode nc_La_law 607 = .ok (.iconst 2, 1) := by decide +kernel
theorem nd_La_law_608 : decode nc_La_law 608 = .ok (.iadd, 1) := by decide +kernel
theorem nd_La_law_609 : decode nc_La_law 609 = .ok (.iaload, 1) := by decide +kernel
theorem nd_La_law_610 : decode nc_La_law 610 = .ok (.aload_n 0, 1) := by decide +kernel
theorem nd_La_law_611 : decode nc_La_law 611 = .ok (.iload 4, 2) := by decide +kernel
theorem nd_La_law_613 : decode nc_La_law 613 = .ok (.iconst 3, 1) := by decide +kernel
theorem nd_La_law_614 : decode nc_La_law 614 = .ok (.iadd, 1) := by decide +kernel
theorem nd_La_law_615 : decode nc_La_law 615 = .ok (.iaload, 1) := by decide +kernel
theorem nd_La_law_616 : decode nc_La_law 616 = .ok (.ifCond .eq 7, 3) := by decide +kernel
theorem nd_La_law_619 : decode nc_La_law 619 = .ok (.iconst 1, 1) := by decide +kernel
theorem nd_La_law_620 : decode nc_La_law 620 = .ok (.goto 4, 3) := by decide +kernel
theorem nd_La_law_623 : decode nc_La_law 623 = .ok (.iconst 0, 1) := by decide +kernel
theorem nd_La_law_624 : decode nc_La_law 624 = .ok (.aload_n 3, 1) := by decide +kernel
theorem nd_La_law_625 : decode nc_La_law 625 = .ok (.invokestatic 106, 3) := by decide +kernel
theorem nd_La_law_628 : decode nc_La_law 628 = .ok (.istore 5, 2) := by decide +kernel
theorem nd_La_law_630 : decode nc_La_law 630 = .ok (.aload_n 2, 1) := by decide +kernel
theorem nd_La_law_631 : decode nc_La_law 631 = .ok (.aload_n 0, 1) := by decide +kernel
theorem nd_La_law_632 : decode nc_La_law 632 = .ok (.iload 4, 2) := by decide +kernel
theorem nd_La_law_634 : decode nc_La_law 634 = .ok (.iconst 1, 1) := by decide +kernel
theorem nd_La_law_635 : decode nc_La_law 635 = .ok (.iadd, 1) := by decide +kernel
theorem nd_La_law_636 : decode nc_La_law 636 = .ok (.iaload, 1) := by decide +kernel
theorem nd_La_law_637 : decode nc_La_law 637 = .ok (.aload_n 0, 1) := by decide +kernel
theorem nd_La_law_638 : decode nc_La_law 638 = .ok (.iload 4, 2) := by decide +kernel
theorem nd_La_law_640 : decode nc_La_law 640 = .ok (.iconst 2, 1) := by decide +kernel
theorem nd_La_law_641 : decode nc_La_law 641 = .ok (.iadd, 1) := by decide +kernel
theorem nd_La_law_642 : decode nc_La_law 642 = .ok (.iaload, 1) := by decide +kernel
theorem nd_La_law_643 : decode nc_La_law 643 = .ok (.aload_n 0, 1) := by decide +kernel
theorem nd_La_law_644 : decode nc_La_law 644 = .ok (.iload 4, 2) := by decide +kernel
theorem nd_La_law_646 : decode nc_La_law 646 = .ok (.iconst 3, 1) := by decide +kernel
theorem nd_La_law_647 : decode nc_La_law 647 = .ok (.iadd, 1) := by decide +kernel
theorem nd_La_law_648 : decode nc_La_law 648 = .ok (.iaload, 1) := by decide +kernel
theorem nd_La_law_649 : decode nc_La_law 649 = .ok (.ifCond .eq 7, 3) := by decide +kernel
theorem nd_La_law_652 : decode nc_La_law 652 = .ok (.iconst 1, 1) := by decide +kernel
theorem nd_La_law_653 : decode nc_La_law 653 = .ok (.goto 4, 3) := by decide +kernel
theorem nd_La_law_656 : decode nc_La_law 656 = .ok (.iconst 0, 1) := by decide +kernel
theorem nd_La_law_657 : decode nc_La_law 657 = .ok (.invokevirtual 109, 3) := by decide +kernel
theorem nd_La_law_660 : decode nc_La_law 660 = .ok (.lstore 6, 2) := by decide +kernel
theorem nd_La_law_662 : decode nc_La_law 662 = .ok (.aload_n 2, 1) := by decide +kernel
theorem nd_La_law_663 : decode nc_La_law 663 = .ok (.invokevirtual 73, 3) := by decide +kernel
theorem nd_La_law_666 : decode nc_La_law 666 = .ok (.iload 5, 2) := by decide +kernel
theorem nd_La_law_668 : decode nc_La_law 668 = .ok (.if_icmp .eq 5, 3) := by decide +kernel
theorem nd_La_law_671 : decode nc_La_law 671 = .ok (.iconst 0, 1) := by decide +kernel
theorem nd_La_law_672 : decode nc_La_law 672 = .ok (.ireturn, 1) := by decide +kernel
theorem nd_La_law_673 : decode nc_La_law 673 = .ok (.iload 5, 2) := by decide +kernel
theorem nd_La_law_675 : decode nc_La_law 675 = .ok (.ifCond .ne 14, 3) := by decide +kernel
theorem nd_La_law_678 : decode nc_La_law 678 = .ok (.aload_n 3, 1) := by decide +kernel
theorem nd_La_law_679 : decode nc_La_law 679 = .ok (.iconst 0, 1) := by decide +kernel
theorem nd_La_law_680 : decode nc_La_law 680 = .ok (.laload, 1) := by decide +kernel
theorem nd_La_law_681 : decode nc_La_law 681 = .ok (.lload 6, 2) := by decide +kernel
theorem nd_La_law_683 : decode nc_La_law 683 = .ok (.lcmp, 1) := by decide +kernel
theorem nd_La_law_684 : decode nc_La_law 684 = .ok (.ifCond .eq 5, 3) := by decide +kernel
theorem nd_La_law_687 : decode nc_La_law 687 = .ok (.iconst 0, 1) := by decide +kernel
theorem nd_La_law_688 : decode nc_La_law 688 = .ok (.ireturn, 1) := by decide +kernel
theorem nd_La_law_689 : decode nc_La_law 689 = .ok (.goto 306, 3) := by decide +kernel
theorem nd_La_law_692 : decode nc_La_law 692 = .ok (.aload_n 1, 1) := by decide +kernel
theorem nd_La_law_693 : decode nc_La_law 693 = .ok (.aload_n 0, 1) := by decide +kernel
theorem nd_La_law_694 : decode nc_La_law 694 = .ok (.iload 4, 2) := by decide +kernel
theorem nd_La_law_696 : decode nc_La_law 696 = .ok (.iconst 1, 1) := by decide +kernel
theorem nd_La_law_697 : decode nc_La_law 697 = .ok (.iadd, 1) := by decide +kernel
theorem nd_La_law_698 : decode nc_La_law 698 = .ok (.iaload, 1) := by decide +kernel
theorem nd_La_law_699 : decode nc_La_law 699 = .ok (.aload_n 0, 1) := by decide +kernel
theorem nd_La_law_700 : decode nc_La_law 700 = .ok (.iload 4, 2) := by decide +kernel
theorem nd_La_law_702 : decode nc_La_law 702 = .ok (.iconst 2, 1) := by decide +kernel
theorem nd_La_law_703 : decode nc_La_law 703 = .ok (.iadd, 1) := by decide +kernel
theorem nd_La_law_704 : decode nc_La_law 704 = .ok (.iaload, 1) := by decide +kernel
theorem nd_La_law_705 : decode nc_La_law 705 = .ok (.ifCond .eq 7, 3) := by decide +kernel
theorem nd_La_law_708 : decode nc_La_law 708 = .ok (.iconst 1, 1) := by decide +kernel
theorem nd_La_law_709 : decode nc_La_law 709 = .ok (.goto 4, 3) := by decide +kernel
theorem nd_La_law_712 : decode nc_La_law 712 = .ok (.iconst 0, 1) := by decide +kernel
theorem nd_La_law_713 : decode nc_La_law 713 = .ok (.aload_n 0, 1) := by decide +kernel
theorem nd_La_law_714 : decode nc_La_law 714 = .ok (.iload 4, 2) := by decide +kernel
theorem nd_La_law_716 : decode nc_La_law 716 = .ok (.iconst 3, 1) := by decide +kernel
theorem nd_La_law_717 : decode nc_La_law 717 = .ok (.iadd, 1) := by decide +kernel
theorem nd_La_law_718 : decode nc_La_law 718 = .ok (.iaload, 1) := by decide +kernel
theorem nd_La_law_719 : decode nc_La_law 719 = .ok (.ifCond .eq 7, 3) := by decide +kernel
theorem nd_La_law_722 : decode nc_La_law 722 = .ok (.iconst 1, 1) := by decide +kernel
theorem nd_La_law_723 : decode nc_La_law 723 = .ok (.goto 4, 3) := by decide +kernel
theorem nd_La_law_726 : decode nc_La_law 726 = .ok (.iconst 0, 1) := by decide +kernel
theorem nd_La_law_727 : decode nc_La_law 727 = .ok (.aload_n 3, 1) := by decide +kernel
theorem nd_La_law_728 : decode nc_La_law 728 = .ok (.invokestatic 110, 3) := by decide +kernel
theorem nd_La_law_731 : decode nc_La_law 731 = .ok (.istore 5, 2) := by decide +kernel
theorem nd_La_law_733 : decode nc_La_law 733 = .ok (.aload_n 2, 1) := by decide +kernel
theorem nd_La_law_734 : decode nc_La_law 734 = .ok (.aload_n 0, 1) := by decide +kernel
theorem nd_La_law_735 : decode nc_La_law 735 = .ok (.iload 4, 2) := by decide +kernel
theorem nd_La_law_737 : decode nc_La_law 737 = .ok (.iconst 1, 1) := by decide +kernel
theorem nd_La_law_738 : decode nc_La_law 738 = .ok (.iadd, 1) := by decide +kernel
theorem nd_La_law_739 : decode nc_La_law 739 = .ok (.iaload, 1) := by decide +kernel
theorem nd_La_law_740 : decode nc_La_law 740 = .ok (.aload_n 0, 1) := by decide +kernel
theorem nd_La_law_741 : decode nc_La_law 741 = .ok (.iload 4, 2) := by decide +kernel
theorem nd_La_law_743 : decode nc_La_law 743 = .ok (.iconst 2, 1) := by decide +kernel
theorem nd_La_law_744 : decode nc_La_law 744 = .ok (.iadd, 1) := by decide +kernel
theorem nd_La_law_745 : decode nc_La_law 745 = .ok (.iaload, 1) := by decide +kernel
theorem nd_La_law_746 : decode nc_La_law 746 = .ok (.ifCond .eq 7, 3) := by decide +kernel
theorem nd_La_law_749 : decode nc_La_law 749 = .ok (.iconst 1, 1) := by decide +kernel
theorem nd_La_law_750 : decode nc_La_law 750 = .ok (.goto 4, 3) := by decide +kernel
theorem nd_La_law_753 : decode nc_La_law 753 = .ok (.iconst 0, 1) := by decide +kernel
theorem nd_La_law_754 : decode nc_La_law 754 = .ok (.aload_n 0, 1) := by decide +kernel
theorem nd_La_law_755 : decode nc_La_law 755 = .ok (.iload 4, 2) := by decide +kernel
theorem nd_La_law_757 : decode nc_La_law 757 = .ok (.iconst 3, 1) := by decide +kernel
theorem nd_La_law_758 : decode nc_La_law 758 = .ok (.iadd, 1) := by decide +kernel
theorem nd_La_law_759 : decode nc_La_law 759 = .ok (.iaload, 1) := by decide +kernel
theorem nd_La_law_760 : decode nc_La_law 760 = .ok (.ifCond .eq 7, 3) := by decide +kernel
theorem nd_La_law_763 : decode nc_La_law 763 = .ok (.iconst 1, 1) := by decide +kernel
theorem nd_La_law_764 : decode nc_La_law 764 = .ok (.goto 4, 3) := by decide +kernel
theorem nd_La_law_767 : decode nc_La_law 767 = .ok (.iconst 0, 1) := by decide +kernel
theorem nd_La_law_768 : decode nc_La_law 768 = .ok (.invokevirtual 113, 3) := by decide +kernel
theorem nd_La_law_771 : decode nc_La_law 771 = .ok (.lstore 6, 2) := by decide +kernel
theorem nd_La_law_773 : decode nc_La_law 773 = .ok (.aload_n 2, 1) := by decide +kernel
theorem nd_La_law_774 : decode nc_La_law 774 = .ok (.invokevirtual 73, 3) := by decide +kernel
theorem nd_La_law_777 : decode nc_La_law 777 = .ok (.iload 5, 2) := by decide +kernel
theorem nd_La_law_779 : decode nc_La_law 779 = .ok (.if_icmp .eq 5, 3) := by decide +kernel
theorem nd_La_law_782 : decode nc_La_law 782 = .ok (.iconst 0, 1) := by decide +kernel
theorem nd_La_law_783 : decode nc_La_law 783 = .ok (.ireturn, 1) := by decide +kernel
theorem nd_La_law_784 : decode nc_La_law 784 = .ok (.iload 5, 2) := by decide +kernel
theorem nd_La_law_786 : decode nc_La_law 786 = .ok (.ifCond .ne 14, 3) := by decide +kernel
theorem nd_La_law_789 : decode nc_La_law 789 = .ok (.aload_n 3, 1) := by decide +kernel
theorem nd_La_law_790 : decode nc_La_law 790 = .ok (.iconst 0, 1) := by decide +kernel
theorem nd_La_law_791 : decode nc_La_law 791 = .ok (.laload, 1) := by decide +kernel
theorem nd_La_law_792 : decode nc_La_law 792 = .ok (.lload 6, 2) := by decide +kernel
theorem nd_La_law_794 : decode nc_La_law 794 = .ok (.lcmp, 1) := by decide +kernel
theorem nd_La_law_795 : decode nc_La_law 795 = .ok (.ifCond .eq 5, 3) := by decide +kernel
theorem nd_La_law_798 : decode nc_La_law 798 = .ok (.iconst 0, 1) := by decide +kernel
theorem nd_La_law_799 : decode nc_La_law 799 = .ok (.ireturn, 1) := by decide +kernel
theorem nd_La_law_800 : decode nc_La_law 800 = .ok (.goto 195, 3) := by decide +kernel
theorem nd_La_law_803 : decode nc_La_law 803 = .ok (.aload_n 1, 1) := by decide +kernel
theorem nd_La_law_804 : decode nc_La_law 804 = .ok (.aload_n 0, 1) := by decide +kernel
theorem nd_La_law_805 : decode nc_La_law 805 = .ok (.iload 4, 2) := by decide +kernel
theorem nd_La_law_807 : decode nc_La_law 807 = .ok (.iconst 1, 1) := by decide +kernel
theorem nd_La_law_808 : decode nc_La_law 808 = .ok (.iadd, 1) := by decide +kernel
theorem nd_La_law_809 : decode nc_La_law 809 = .ok (.iaload, 1) := by decide +kernel
theorem nd_La_law_810 : decode nc_La_law 810 = .ok (.aload_n 3, 1) := by decide +kernel
theorem nd_La_law_811 : decode nc_La_law 811 = .ok (.invokestatic 114, 3) := by decide +kernel
theorem nd_La_law_814 : decode nc_La_law 814 = .ok (.istore 5, 2) := by decide +kernel
theorem nd_La_law_816 : decode nc_La_law 816 = .ok (.aload_n 2, 1) := by decide +kernel
theorem nd_La_law_817 : decode nc_La_law 817 = .ok (.aload_n 0, 1) := by decide +kernel
theorem nd_La_law_818 : decode nc_La_law 818 = .ok (.iload 4, 2) := by decide +kernel
theorem nd_La_law_820 : decode nc_La_law 820 = .ok (.iconst 1, 1) := by decide +kernel
theorem nd_La_law_821 : decode nc_La_law 821 = .ok (.iadd, 1) := by decide +kernel
theorem nd_La_law_822 : decode nc_La_law 822 = .ok (.iaload, 1) := by decide +kernel
theorem nd_La_law_823 : decode nc_La_law 823 = .ok (.invokevirtual 116, 3) := by decide +kernel
theorem nd_La_law_826 : decode nc_La_law 826 = .ok (.istore 6, 2) := by decide +kernel
theorem nd_La_law_828 : decode nc_La_law 828 = .ok (.aload_n 2, 1) := by decide +kernel
theorem nd_La_law_829 : decode nc_La_law 829 = .ok (.invokevirtual 73, 3) := by decide +kernel
theorem nd_La_law_832 : decode nc_La_law 832 = .ok (.iload 5, 2) := by decide +kernel
theorem nd_La_law_834 : decode nc_La_law 834 = .ok (.if_icmp .eq 5, 3) := by decide +kernel
theorem nd_La_law_837 : decode nc_La_law 837 = .ok (.iconst 0, 1) := by decide +kernel
theorem nd_La_law_838 : decode nc_La_law 838 = .ok (.ireturn, 1) := by decide +kernel
theorem nd_La_law_839 : decode nc_La_law 839 = .ok (.iload 5, 2) := by decide +kernel
theorem nd_La_law_841 : decode nc_La_law 841 = .ok (.ifCond .ne 15, 3) := by decide +kernel
theorem nd_La_law_844 : decode nc_La_law 844 = .ok (.aload_n 3, 1) := by decide +kernel
theorem nd_La_law_845 : decode nc_La_law 845 = .ok (.iconst 0, 1) := by decide +kernel
theorem nd_La_law_846 : decode nc_La_law 846 = .ok (.laload, 1) := by decide +kernel
theorem nd_La_law_847 : decode nc_La_law 847 = .ok (.iload 6, 2) := by decide +kernel
theorem nd_La_law_849 : decode nc_La_law 849 = .ok (.i2l, 1) := by decide +kernel
theorem nd_La_law_850 : decode nc_La_law 850 = .ok (.lcmp, 1) := by decide +kernel
theorem nd_La_law_851 : decode nc_La_law 851 = .ok (.ifCond .eq 5, 3) := by decide +kernel
theorem nd_La_law_854 : decode nc_La_law 854 = .ok (.iconst 0, 1) := by decide +kernel
theorem nd_La_law_855 : decode nc_La_law 855 = .ok (.ireturn, 1) := by decide +kernel
theorem nd_La_law_856 : decode nc_La_law 856 = .ok (.goto 139, 3) := by decide +kernel
theorem nd_La_law_859 : decode nc_La_law 859 = .ok (.aload_n 1, 1) := by decide +kernel
theorem nd_La_law_860 : decode nc_La_law 860 = .ok (.aload_n 0, 1) := by decide +kernel
theorem nd_La_law_861 : decode nc_La_law 861 = .ok (.iload 4, 2) := by decide +kernel
theorem nd_La_law_863 : decode nc_La_law 863 = .ok (.iconst 1, 1) := by decide +kernel
theorem nd_La_law_864 : decode nc_La_law 864 = .ok (.iadd, 1) := by decide +kernel
theorem nd_La_law_865 : decode nc_La_law 865 = .ok (.iaload, 1) := by decide +kernel
theorem nd_La_law_866 : decode nc_La_law 866 = .ok (.aload_n 0, 1) := by decide +kernel
theorem nd_La_law_867 : decode nc_La_law 867 = .ok (.iload 4, 2) := by decide +kernel
theorem nd_La_law_869 : decode nc_La_law 869 = .ok (.iconst 2, 1) := by decide +kernel
theorem nd_La_law_870 : decode nc_La_law 870 = .ok (.iadd, 1) := by decide +kernel
theorem nd_La_law_871 : decode nc_La_law 871 = .ok (.iaload, 1) := by decide +kernel
theorem nd_La_law_872 : decode nc_La_law 872 = .ok (.aload_n 0, 1) := by decide +kernel
theorem nd_La_law_873 : decode nc_La_law 873 = .ok (.iload 4, 2) := by decide +kernel
theorem nd_La_law_875 : decode nc_La_law 875 = .ok (.iconst 3, 1) := by decide +kernel
theorem nd_La_law_876 : decode nc_La_law 876 = .ok (.iadd, 1) := by decide +kernel
theorem nd_La_law_877 : decode nc_La_law 877 = .ok (.iaload, 1) := by decide +kernel
theorem nd_La_law_878 : decode nc_La_law 878 = .ok (.ifCond .eq 7, 3) := by decide +kernel
theorem nd_La_law_881 : decode nc_La_law 881 = .ok (.iconst 1, 1) := by decide +kernel
theorem nd_La_law_882 : decode nc_La_law 882 = .ok (.goto 4, 3) := by decide +kernel
theorem nd_La_law_885 : decode nc_La_law 885 = .ok (.iconst 0, 1) := by decide +kernel
theorem nd_La_law_886 : decode nc_La_law 886 = .ok (.aload_n 3, 1) := by decide +kernel
theorem nd_La_law_887 : decode nc_La_law 887 = .ok (.invokestatic 117, 3) := by decide +kernel
theorem nd_La_law_890 : decode nc_La_law 890 = .ok (.istore 5, 2) := by decide +kernel
theorem nd_La_law_892 : decode nc_La_law 892 = .ok (.aload_n 2, 1) := by decide +kernel
theorem nd_La_law_893 : decode nc_La_law 893 = .ok (.aload_n 0, 1) := by decide +kernel
theorem nd_La_law_894 : decode nc_La_law 894 = .ok (.iload 4, 2) := by decide +kernel
theorem nd_La_law_896 : decode nc_La_law 896 = .ok (.iconst 1, 1) := by decide +kernel
theorem nd_La_law_897 : decode nc_La_law 897 = .ok (.iadd, 1) := by decide +kernel
theorem nd_La_law_898 : decode nc_La_law 898 = .ok (.iaload, 1) := by decide +kernel
theorem nd_La_law_899 : decode nc_La_law 899 = .ok (.aload_n 0, 1) := by decide +kernel
theorem nd_La_law_900 : decode nc_La_law 900 = .ok (.iload 4, 2) := by decide +kernel
theorem nd_La_law_902 : decode nc_La_law 902 = .ok (.iconst 2, 1) := by decide +kernel
theorem nd_La_law_903 : decode nc_La_law 903 = .ok (.iadd, 1) := by decide +kernel
theorem nd_La_law_904 : decode nc_La_law 904 = .ok (.iaload, 1) := by decide +kernel
theorem nd_La_law_905 : decode nc_La_law 905 = .ok (.aload_n 0, 1) := by decide +kernel
theorem nd_La_law_906 : decode nc_La_law 906 = .ok (.iload 4, 2) := by decide +kernel
theorem nd_La_law_908 : decode nc_La_law 908 = .ok (.iconst 3, 1) := by decide +kernel
theorem nd_La_law_909 : decode nc_La_law 909 = .ok (.iadd, 1) := by decide +kernel
theorem nd_La_law_910 : decode nc_La_law 910 = .ok (.iaload, 1) := by decide +kernel
theorem nd_La_law_911 : decode nc_La_law 911 = .ok (.ifCond .eq 7, 3) := by decide +kernel
theorem nd_La_law_914 : decode nc_La_law 914 = .ok (.iconst 1, 1) := by decide +kernel
theorem nd_La_law_915 : decode nc_La_law 915 = .ok (.goto 4, 3) := by decide +kernel
theorem nd_La_law_918 : decode nc_La_law 918 = .ok (.iconst 0, 1) := by decide +kernel
theorem nd_La_law_919 : decode nc_La_law 919 = .ok (.invokevirtual 119, 3) := by decide +kernel
theorem nd_La_law_922 : decode nc_La_law 922 = .ok (.lstore 6, 2) := by decide +kernel
theorem nd_La_law_924 : decode nc_La_law 924 = .ok (.aload_n 2, 1) := by decide +kernel
theorem nd_La_law_925 : decode nc_La_law 925 = .ok (.invokevirtual 73, 3) := by decide +kernel
theorem nd_La_law_928 : decode nc_La_law 928 = .ok (.iload 5, 2) := by decide +kernel
theorem nd_La_law_930 : decode nc_La_law 930 = .ok (.if_icmp .eq 5, 3) := by decide +kernel
theorem nd_La_law_933 : decode nc_La_law 933 = .ok (.iconst 0, 1) := by decide +kernel
theorem nd_La_law_934 : decode nc_La_law 934 = .ok (.ireturn, 1) := by decide +kernel
theorem nd_La_law_935 : decode nc_La_law 935 = .ok (.iload 5, 2) := by decide +kernel
theorem nd_La_law_937 : decode nc_La_law 937 = .ok (.ifCond .ne 14, 3) := by decide +kernel
theorem nd_La_law_940 : decode nc_La_law 940 = .ok (.aload_n 3, 1) := by decide +kernel
theorem nd_La_law_941 : decode nc_La_law 941 = .ok (.iconst 0, 1) := by decide +kernel
theorem nd_La_law_942 : decode nc_La_law 942 = .ok (.laload, 1) := by decide +kernel
theorem nd_La_law_943 : decode nc_La_law 943 = .ok (.lload 6, 2) := by decide +kernel
theorem nd_La_law_945 : decode nc_La_law 945 = .ok (.lcmp, 1) := by decide +kernel
theorem nd_La_law_946 : decode nc_La_law 946 = .ok (.ifCond .eq 5, 3) := by decide +kernel
theorem nd_La_law_949 : decode nc_La_law 949 = .ok (.iconst 0, 1) := by decide +kernel
theorem nd_La_law_950 : decode nc_La_law 950 = .ok (.ireturn, 1) := by decide +kernel
theorem nd_La_law_951 : decode nc_La_law 951 = .ok (.goto 44, 3) := by decide +kernel
theorem nd_La_law_954 : decode nc_La_law 954 = .ok (.aload_n 1, 1) := by decide +kernel
theorem nd_La_law_955 : decode nc_La_law 955 = .ok (.aload_n 0, 1) := by decide +kernel
theorem nd_La_law_956 : decode nc_La_law 956 = .ok (.iload 4, 2) := by decide +kernel
theorem nd_La_law_958 : decode nc_La_law 958 = .ok (.iconst 1, 1) := by decide +kernel
theorem nd_La_law_959 : decode nc_La_law 959 = .ok (.iadd, 1) := by decide +kernel
theorem nd_La_law_960 : decode nc_La_law 960 = .ok (.iaload, 1) := by decide +kernel
theorem nd_La_law_961 : decode nc_La_law 961 = .ok (.ifCond .eq 7, 3) := by decide +kernel
theorem nd_La_law_964 : decode nc_La_law 964 = .ok (.iconst 1, 1) := by decide +kernel
theorem nd_La_law_965 : decode nc_La_law 965 = .ok (.goto 4, 3) := by decide +kernel
theorem nd_La_law_968 : decode nc_La_law 968 = .ok (.iconst 0, 1) := by decide +kernel
theorem nd_La_law_969 : decode nc_La_law 969 = .ok (.invokevirtual 120, 3) := by decide +kernel
theorem nd_La_law_972 : decode nc_La_law 972 = .ok (.aload_n 2, 1) := by decide +kernel
theorem nd_La_law_973 : decode nc_La_law 973 = .ok (.aload_n 0, 1) := by decide +kernel
theorem nd_La_law_974 : decode nc_La_law 974 = .ok (.iload 4, 2) := by decide +kernel
theorem nd_La_law_976 : decode nc_La_law 976 = .ok (.iconst 1, 1) := by decide +kernel
theorem nd_La_law_977 : decode nc_La_law 977 = .ok (.iadd, 1) := by decide +kernel
theorem nd_La_law_978 : decode nc_La_law 978 = .ok (.iaload, 1) := by decide +kernel
theorem nd_La_law_979 : decode nc_La_law 979 = .ok (.ifCond .eq 7, 3) := by decide +kernel
theorem nd_La_law_982 : decode nc_La_law 982 = .ok (.iconst 1, 1) := by decide +kernel
theorem nd_La_law_983 : decode nc_La_law 983 = .ok (.goto 4, 3) := by decide +kernel
theorem nd_La_law_986 : decode nc_La_law 986 = .ok (.iconst 0, 1) := by decide +kernel
theorem nd_La_law_987 : decode nc_La_law 987 = .ok (.invokevirtual 124, 3) := by decide +kernel
theorem nd_La_law_990 : decode nc_La_law 990 = .ok (.if_icmp .eq 5, 3) := by decide +kernel
theorem nd_La_law_993 : decode nc_La_law 993 = .ok (.iconst 0, 1) := by decide +kernel
theorem nd_La_law_994 : decode nc_La_law 994 = .ok (.ireturn, 1) := by decide +kernel
theorem nd_La_law_995 : decode nc_La_law 995 = .ok (.iinc 4 4, 3) := by decide +kernel
theorem nd_La_law_998 : decode nc_La_law 998 = .ok (.goto (-975), 3) := by decide +kernel
theorem nd_La_law_1001 : decode nc_La_law 1001 = .ok (.iconst 1, 1) := by decide +kernel
theorem nd_La_law_1002 : decode nc_La_law 1002 = .ok (.ireturn, 1) := by decide +kernel
end
section
/-! ===== heaps as maps: how large, and what lies where ===== -/
abbrev gw_S : Type := Nat × (Nat → Option va_E)
def gw_up (σ : gw_S) (a : Nat) (e : va_E) : gw_S := (σ.1, fun b => if b = a then some e else σ.2 b)
def gw_nw (σ : gw_S) (e : va_E) : gw_S := (σ.1 + 1, fun b => if b = σ.1 then some e else σ.2 b)
theorem gw_up_eq (σ : gw_S) (a : Nat) (e : va_E) : (gw_up σ a e).2 a = some e := by simp [gw_up]
theorem gw_up_ne {σ : gw_S} {a b : Nat} {e : va_E} (h : b ≠ a) : (gw_up σ a e).2 b = σ.2 b := by simp [gw_up, h]
theorem gw_nw_eq (σ : gw_S) (e : va_E) : (gw_nw σ e).2 σ.1 = some e := by simp [gw_nw]
theorem gw_nw_ne {σ : gw_S} {b : Nat} {e : va_E} (h : b ≠ σ.1) : (gw_nw σ e).2 b = σ.2 b := by simp [gw_nw, h]
/-- nothing but what lies from lo up to hi has changed -/
def gw_fr (σ σ' : gw_S) (lo hi : Nat) : Prop := σ'.1 = σ.1 ∧ ∀ b, b < lo ∨ hi ≤ b → σ'.2 b = σ.2 b
theorem gw_fr_rf (σ : gw_S) (lo hi : Nat) : gw_fr σ σ lo hi := ⟨rfl, fun _ _ => rfl⟩
theorem gw_fr_up (σ : gw_S) (a : Nat) (e : va_E) {lo hi : Nat} (h1 : lo ≤ a) (h2 : a < hi) : gw_fr σ (gw_up σ a e) lo hi := ⟨rfl, fun b hb => gw_up_ne (by omega)⟩
theorem gw_fr_tr {σ σ1 σ2 : gw_S} {lo hi lo1 hi1 lo2 hi2 : Nat} (h1 : gw_fr σ σ1 lo1 hi1) (h2 : gw_fr σ1 σ2 lo2 hi2) (a : lo ≤ lo1 := by omega) (b : lo ≤ lo2 := by omega) (c : hi1 ≤ hi := by omega) (d : hi2 ≤ hi := by omega) : gw_fr σ σ2 lo hi :=
  ⟨h2.1.trans h1.1, fun q hq => (h2.2 q (by omega)).trans (h1.2 q (by omega))⟩
abbrev gw_Z : Type := va_G × (Nat → ClassId)
def gw_T (Z : gw_Z) : List (ClassId × FieldType) := [(Z.2 0, .int), (Z.2 1, .long), (Z.2 2, .char), (Z.2 3, .object nR_Se), (Z.2 4, .object nR_Ra)]
abbrev gw_I (Z : gw_Z) (n : Nat) (f : Nat → Int32) : va_E := .inl (Z.2 0, n, .inl f)
abbrev gw_J (Z : gw_Z) (n : Nat) (f : Nat → Int64) : va_E := .inl (Z.2 1, n, .inr (.inl f))
abbrev gw_Ch (Z : gw_Z) (n : Nat) (f : Nat → Int32) : va_E := .inl (Z.2 2, n, .inl f)
abbrev gw_Q3 (Z : gw_Z) (n : Nat) (f : Nat → Option Nat) : va_E := .inl (Z.2 3, n, .inr (.inr (.inr (.inr f))))
abbrev gw_Q4 (Z : gw_Z) (n : Nat) (f : Nat → Option Nat) : va_E := .inl (Z.2 4, n, .inr (.inr (.inr (.inr f))))
/-- the heap is σ from b0 on, and no statics lie there -/
def gw_H (Z : gw_Z) (b0 : Nat) (σ : gw_S) (H : Heap) : Prop := H.size = σ.1 ∧ (b0 ≤ σ.1 ∧ ∀ (a : Nat) (cell : Cell), b0 ≤ a → H[a]? = some cell → cell.vm.isStatics = false) ∧ ∀ a e, σ.2 a = some e → b0 ≤ a ∧ va_at Z.1 nv_cl (a, e) H
theorem gw_ns {D : va_G} {cl : List vw_C} {a : Nat} {e : va_E} {H : Heap} (h : va_at D cl (a, e) H) {cell : Cell} (hc : H[a]? = some cell) : cell.vm.isStatics = false := by
  cases e with
  | inl x =>
    have h1 : H[a]? = some (vp_cell x.1 x.2) := h
    rw [hc] at h1
    cases h1
    obtain ⟨c, n, f | f | f | f | f⟩ := x <;> rfl
  | inr o =>
    obtain ⟨r, -, cell2, q1, q2, q3, -⟩ := h
    have q1 : H[a]? = some cell2 := q1
    rw [hc] at q1
    cases q1
    rw [q3]; rfl
theorem gw_H_lt {Z : gw_Z} {b0 : Nat} {σ : gw_S} {H : Heap} (h : gw_H Z b0 σ H) {a : Nat} {e : va_E} (ha : σ.2 a = some e) : a < σ.1 := by
  have := (h.2.2 a e ha).2.lt
  rw [h.1] at this
  exact this
theorem gw_H_up {Z : gw_Z} {b0 : Nat} {σ : gw_S} {H H1 : Heap} (h : gw_H Z b0 σ H) {a : Nat} {e0 e : va_E} (ha : σ.2 a = some e0) (he : va_at Z.1 nv_cl (a, e) H1) (z : H1.size = H.size) (oq : ∀ q : Nat, q ≠ a → H1[q]? = H[q]?) : gw_H Z b0 (gw_up σ a e) H1 := by
  refine ⟨z.trans h.1, ⟨h.2.1.1, fun q cell hq hc => ?_⟩, fun b f hb => ?_⟩
  · by_cases e9 : q = a
    · subst e9; exact gw_ns he hc
    · exact h.2.1.2 q cell hq (by rw [← oq q e9]; exact hc)
  by_cases hq : b = a
  · subst hq
    rw [gw_up_eq] at hb
    cases hb
    exact ⟨(h.2.2 _ _ ha).1, he⟩
  · rw [gw_up_ne hq] at hb
    exact ⟨(h.2.2 b f hb).1, (h.2.2 b f hb).2.kept (oq b hq)⟩
theorem gw_H_nw {Z : gw_Z} {b0 : Nat} {σ : gw_S} {H H1 : Heap} (h : gw_H Z b0 σ H) {e : va_E} (he : va_at Z.1 nv_cl (H.size, e) H1) (z : H1.size = H.size + 1) (oq : ∀ q : Nat, q < H.size → H1[q]? = H[q]?) : gw_H Z b0 (gw_nw σ e) H1 := by
  refine ⟨by rw [z, h.1]; rfl, ⟨Nat.le_succ_of_le h.2.1.1, fun q cell hq hc => ?_⟩, fun b f hb => ?_⟩
  · by_cases e9 : q = H.size
    · subst e9; exact gw_ns he hc
    · have h9 : q < H.size := by
        have := (Array.getElem?_eq_some_iff.mp hc).1
        omega
      exact h.2.1.2 q cell hq (by rw [← oq q h9]; exact hc)
  by_cases hq : b = σ.1
  · subst hq
    rw [gw_nw_eq] at hb
    cases hb
    exact ⟨h.2.1.1, by rw [← h.1]; exact he⟩
  · rw [gw_nw_ne hq] at hb
    exact ⟨(h.2.2 b f hb).1, (h.2.2 b f hb).2.kept (oq b (by have := gw_H_lt h hb; rw [h.1]; exact this))⟩
theorem gw_one {D : va_G} {cl : List vw_C} {a : Nat} {e : va_E} {H : Heap} (h : va_at D cl (a, e) H) : va_P D cl [(a, e)] H := by
  intro k q hk
  match k, hk with
  | 0, hk => cases hk; exact h
  | k + 1, hk => simp at hk
/-! ===== the words, all of them in one list ===== -/
def gw_ws : List Cond := lw_tbl.filter goodWord
def gw_isN (w : Cond) : Bool := match w with
  | .methodLinkNest _ _ _ _ => true
  | .fieldLinkNest _ _ _ _ _ _ => true
  | _ => false
def gw_nl : List Cond := tables_1.filter gw_isN
theorem gw_in {w : Cond} (h : w ∈ lw_tbl) (g : goodWord w = true) : w ∈ gw_ws := List.mem_filter.mpr ⟨h, g⟩
theorem gw_in_t {w : Cond} (i : Nat) (h : tables_1[i]? = some w) (g : goodWord w = true) : w ∈ gw_ws := gw_in (List.mem_append_right _ (List.mem_of_getElem? h)) g
theorem gw_in_p {w : Cond} (i : Nat) (h : (k2_sels lw_privs)[i]? = some w) (g : goodWord w = true) : w ∈ gw_ws := gw_in (List.mem_append_left _ (List.mem_of_getElem? h)) g
theorem gw_in_n {w : Cond} (i : Nat) (h : tables_1[i]? = some w) (g : gw_isN w = true) : w ∈ gw_nl := List.mem_filter.mpr ⟨List.mem_of_getElem? h, g⟩
theorem gw_good : ∀ w ∈ gw_ws, (w.onTables && w.keeps) = true ∨ ∃ ty, w = .arrayClass ty := fun w h => good_of_word (List.mem_filter.mp h).2
theorem gw_goodIn : GoodIn gw_ws gw_ws := fun w h => ⟨h, gw_good w h⟩
/-- what the tables say, wherever a method of the program begins -/
def gw_K (Z : gw_Z) (U : State) : Prop := va_K Z.1 nv_cl (gw_T Z) U ∧ (∀ w ∈ gw_nl, va_Nw w U) ∧ va_AO nR_Se U ∧ va_AO nR_Ra U
theorem gw_K_warm {Z : gw_Z} {s U : State} (hW : s.WarmedH U.vm) (h : gw_K Z s) : gw_K Z U := by
  refine ⟨va_K.moved hW.alike h.1, fun w hw => ?_, va_AO.moved hW.alike h.2.2.1, va_AO.moved hW.alike h.2.2.2⟩
  have h1 := h.2.1 w hw
  have h2 : gw_isN w = true := (List.mem_filter.mp hw).2
  cases w with
  | methodLinkNest a b c d => exact va_Nw.warmM hW h1
  | fieldLinkNest a b c d e f => exact va_Nw.warmF hW h1
  | _ => cases h2
theorem gw_K_vm {Z : gw_Z} {s U : State} (hW : s.vm = U.vm) (h : gw_K Z s) : gw_K Z U := gw_K_warm (by rw [← hW]; exact State.WarmedH.refl s) h
/-! ===== where a walk stands ===== -/
/-- machine; invocation; method; class numbers, the first cell of its own, how many locals; what is to be reached -/
abbrev gw_C : Type := (Program × Launch × Env × Room) × (State × MethodId × Array Value × List Frame) × (Method × Code) × (gw_Z × Nat × Nat) × (State → Prop)
abbrev gw_s (X : gw_C) : State := X.2.1.1
abbrev gw_m (X : gw_C) : MethodId := X.2.1.2.1
abbrev gw_a (X : gw_C) : Array Value := X.2.1.2.2.1
abbrev gw_R (X : gw_C) : Room := X.1.2.2.2
abbrev gw_z (X : gw_C) : gw_Z := X.2.2.2.1.1
abbrev gw_b (X : gw_C) : Nat := X.2.2.2.1.2.1
abbrev gw_n (X : gw_C) : Nat := X.2.2.2.1.2.2
abbrev gw_w (X : gw_C) (H : Heap) (locs : List Loc) (ce sl : Nat) (g : JFrame) : Prop := W X.1.1 X.1.2.1 X.1.2.2.1 X.1.2.2.2 X.2.1.1 X.2.1.2.1 X.2.1.2.2.1 X.2.1.2.2.2 X.2.2.1.1 X.2.2.1.2 H locs ce sl X.2.2.2.2 g
def gw_W (X : gw_C) (σ : gw_S) (ce sl pc : Nat) (L : List (Nat × Value)) (st : List Value) : Prop :=
  ∀ (H : Heap) (locs : List Loc) (ls : Array Slot), gw_H (gw_z X) (gw_b X) σ H → va_S (fun q => gw_b X ≤ q) (gw_s X).heap H locs → lv_has ls (gw_n X) L → gw_w X H locs ce sl (F0 (gw_m X) pc ls st)
/-- how many locals; its room: frames, words, cells, slots -/
abbrev gw_N : Type := Nat × Nat × Nat × Nat × Nat
def gw_ok (X : gw_C) (cc : ByteArray) (own : String) (q : gw_N) : Prop :=
  X.1.1.tables.exec = Jvm.exec ∧ X.2.2.1.2.code = cc ∧ (X.2.2.1.2.maxLocals = gw_n X ∧ gw_n X = q.1 ∧ gw_R X = { frames := q.2.1, cells := q.2.2.2.1, slots := q.2.2.2.2, locals := q.2.2.1 } ∧ X.2.2.1.1.locks = false) ∧ (gw_s X).vm.findClass own = some (gw_m X).cls ∧ (∀ w ∈ gw_ws, w.before (gw_a X) (gw_s X) = true) ∧ gw_K (gw_z X) (gw_s X)
theorem gw_nL {X : gw_C} {cc : ByteArray} {own : String} {q : gw_N} (hX : gw_ok X cc own q) {i : Nat} (h : i < q.1) : i < gw_n X := by rw [hX.2.2.1.2.1]; exact h
theorem gw_rc {X : gw_C} {cc : ByteArray} {own : String} {q : gw_N} (hX : gw_ok X cc own q) {i : Nat} (h : i ≤ q.2.2.2.1) : i ≤ (gw_R X).cells := by rw [hX.2.2.1.2.2.1]; exact h
theorem gw_rs {X : gw_C} {cc : ByteArray} {own : String} {q : gw_N} (hX : gw_ok X cc own q) {i : Nat} (h : i ≤ q.2.2.2.2) : i ≤ (gw_R X).slots := by rw [hX.2.2.1.2.2.1]; exact h
end
section
theorem gw_iconst {X : gw_C} {cc : ByteArray} {own : String} {σ : gw_S} {ce sl pc : Nat} {L : List (Nat × Value)} {st : List Value} {q : gw_N} (hX : gw_ok X cc own q) {n : Int} {v : Int32} (d : decode cc pc = .ok (.iconst n, 1)) (hv : Int32.ofInt n = v) (kk : gw_W X σ ce sl (pc + 1) L (.int v :: st)) : gw_W X σ ce sl pc L (st) :=
  fun H locs ls hG hS hL => lv_iconst hX.1 hX.2.1 d hv (kk H locs ls hG hS hL)
theorem gw_bipush {X : gw_C} {cc : ByteArray} {own : String} {σ : gw_S} {ce sl pc : Nat} {L : List (Nat × Value)} {st : List Value} {q : gw_N} (hX : gw_ok X cc own q) {n : Int} {v : Int32} (d : decode cc pc = .ok (.bipush n, 2)) (hv : (Int8.ofInt n).toInt32 = v) (kk : gw_W X σ ce sl (pc + 2) L (.int v :: st)) : gw_W X σ ce sl pc L (st) :=
  fun H locs ls hG hS hL => lv_bipush hX.1 hX.2.1 d hv (kk H locs ls hG hS hL)
theorem gw_sipush {X : gw_C} {cc : ByteArray} {own : String} {σ : gw_S} {ce sl pc : Nat} {L : List (Nat × Value)} {st : List Value} {q : gw_N} (hX : gw_ok X cc own q) {n : Int} {v : Int32} (d : decode cc pc = .ok (.sipush n, 3)) (hv : (Int16.ofInt n).toInt32 = v) (kk : gw_W X σ ce sl (pc + 3) L (.int v :: st)) : gw_W X σ ce sl pc L (st) :=
  fun H locs ls hG hS hL => lv_sipush hX.1 hX.2.1 d hv (kk H locs ls hG hS hL)
theorem gw_lconst {X : gw_C} {cc : ByteArray} {own : String} {σ : gw_S} {ce sl pc : Nat} {L : List (Nat × Value)} {st : List Value} {q : gw_N} (hX : gw_ok X cc own q) {n : Fin 2} {v : Int64} (d : decode cc pc = .ok (.lconst n, 1)) (hv : Int64.ofNat (n : Nat) = v) (kk : gw_W X σ ce sl (pc + 1) L (.long v :: st)) : gw_W X σ ce sl pc L (st) :=
  fun H locs ls hG hS hL => lv_lconst hX.1 hX.2.1 d hv (kk H locs ls hG hS hL)
theorem gw_iload_n {X : gw_C} {cc : ByteArray} {own : String} {σ : gw_S} {ce sl pc : Nat} {L : List (Nat × Value)} {st : List Value} {q : gw_N} (hX : gw_ok X cc own q) {k : Fin 4} {i : Nat} {x : Int32} (d : decode cc pc = .ok (.iload_n k, 1)) (hi : (k : Nat) = i) (j : Nat) (hj : L[j]? = some (i, .int x)) (kk : gw_W X σ ce sl (pc + 1) L (.int x :: st)) : gw_W X σ ce sl pc L (st) :=
  fun H locs ls hG hS hL => lv_iload_n hX.1 hX.2.1 d hi (lv_at hL j hj) (kk H locs ls hG hS hL)
theorem gw_iload {X : gw_C} {cc : ByteArray} {own : String} {σ : gw_S} {ce sl pc : Nat} {L : List (Nat × Value)} {st : List Value} {q : gw_N} (hX : gw_ok X cc own q) {i : Nat} {x : Int32} (d : decode cc pc = .ok (.iload i, 2)) (j : Nat) (hj : L[j]? = some (i, .int x)) (kk : gw_W X σ ce sl (pc + 2) L (.int x :: st)) : gw_W X σ ce sl pc L (st) :=
  fun H locs ls hG hS hL => lv_iload hX.1 hX.2.1 d (lv_at hL j hj) (kk H locs ls hG hS hL)
theorem gw_istore_n {X : gw_C} {cc : ByteArray} {own : String} {σ : gw_S} {ce sl pc : Nat} {L : List (Nat × Value)} {st : List Value} {q : gw_N} (hX : gw_ok X cc own q) {k : Fin 4} {i : Nat} {x : Int32} {L' : List (Nat × Value)} (d : decode cc pc = .ok (.istore_n k, 1)) (hi : (k : Nat) = i) (hn : i < q.1) (hl : (i, Value.int x) :: L.filter (fun y => !(y.1 == i) && !(y.1 + 1 == i && y.2.category == 2)) = L') (kk : gw_W X σ ce sl (pc + 1) L' (st)) : gw_W X σ ce sl pc L (.int x :: st) :=
  fun H locs ls hG hS hL => lv_istore_n hX.1 hX.2.1 d hi hL (gw_nL hX hn) hl (fun ls' hL' => kk H locs ls' hG hS hL')
theorem gw_istore {X : gw_C} {cc : ByteArray} {own : String} {σ : gw_S} {ce sl pc : Nat} {L : List (Nat × Value)} {st : List Value} {q : gw_N} (hX : gw_ok X cc own q) {i : Nat} {x : Int32} {L' : List (Nat × Value)} (d : decode cc pc = .ok (.istore i, 2)) (hn : i < q.1) (hl : (i, Value.int x) :: L.filter (fun y => !(y.1 == i) && !(y.1 + 1 == i && y.2.category == 2)) = L') (kk : gw_W X σ ce sl (pc + 2) L' (st)) : gw_W X σ ce sl pc L (.int x :: st) :=
  fun H locs ls hG hS hL => lv_istore hX.1 hX.2.1 d hL (gw_nL hX hn) hl (fun ls' hL' => kk H locs ls' hG hS hL')
theorem gw_lload_n {X : gw_C} {cc : ByteArray} {own : String} {σ : gw_S} {ce sl pc : Nat} {L : List (Nat × Value)} {st : List Value} {q : gw_N} (hX : gw_ok X cc own q) {k : Fin 4} {i : Nat} {x : Int64} (d : decode cc pc = .ok (.lload_n k, 1)) (hi : (k : Nat) = i) (j : Nat) (hj : L[j]? = some (i, .long x)) (kk : gw_W X σ ce sl (pc + 1) L (.long x :: st)) : gw_W X σ ce sl pc L (st) :=
  fun H locs ls hG hS hL => lv_lload_n hX.1 hX.2.1 d hi (lv_at hL j hj) (kk H locs ls hG hS hL)
theorem gw_lload {X : gw_C} {cc : ByteArray} {own : String} {σ : gw_S} {ce sl pc : Nat} {L : List (Nat × Value)} {st : List Value} {q : gw_N} (hX : gw_ok X cc own q) {i : Nat} {x : Int64} (d : decode cc pc = .ok (.lload i, 2)) (j : Nat) (hj : L[j]? = some (i, .long x)) (kk : gw_W X σ ce sl (pc + 2) L (.long x :: st)) : gw_W X σ ce sl pc L (st) :=
  fun H locs ls hG hS hL => lv_lload hX.1 hX.2.1 d (lv_at hL j hj) (kk H locs ls hG hS hL)
theorem gw_lstore_n {X : gw_C} {cc : ByteArray} {own : String} {σ : gw_S} {ce sl pc : Nat} {L : List (Nat × Value)} {st : List Value} {q : gw_N} (hX : gw_ok X cc own q) {k : Fin 4} {i : Nat} {x : Int64} {L' : List (Nat × Value)} (d : decode cc pc = .ok (.lstore_n k, 1)) (hi : (k : Nat) = i) (hn : i + 1 < q.1) (hl : (i, Value.long x) :: L.filter (fun y => !(y.1 == i) && (!(y.1 == i + 1) && !(y.1 + 1 == i && y.2.category == 2))) = L') (kk : gw_W X σ ce sl (pc + 1) L' (st)) : gw_W X σ ce sl pc L (.long x :: st) :=
  fun H locs ls hG hS hL => lv_lstore_n hX.1 hX.2.1 d hi hL (gw_nL hX hn) hl (fun ls' hL' => kk H locs ls' hG hS hL')
theorem gw_lstore {X : gw_C} {cc : ByteArray} {own : String} {σ : gw_S} {ce sl pc : Nat} {L : List (Nat × Value)} {st : List Value} {q : gw_N} (hX : gw_ok X cc own q) {i : Nat} {x : Int64} {L' : List (Nat × Value)} (d : decode cc pc = .ok (.lstore i, 2)) (hn : i + 1 < q.1) (hl : (i, Value.long x) :: L.filter (fun y => !(y.1 == i) && (!(y.1 == i + 1) && !(y.1 + 1 == i && y.2.category == 2))) = L') (kk : gw_W X σ ce sl (pc + 2) L' (st)) : gw_W X σ ce sl pc L (.long x :: st) :=
  fun H locs ls hG hS hL => lv_lstore hX.1 hX.2.1 d hL (gw_nL hX hn) hl (fun ls' hL' => kk H locs ls' hG hS hL')
theorem gw_aload_n {X : gw_C} {cc : ByteArray} {own : String} {σ : gw_S} {ce sl pc : Nat} {L : List (Nat × Value)} {st : List Value} {q : gw_N} (hX : gw_ok X cc own q) {k : Fin 4} {i : Nat} {x : Nat} (d : decode cc pc = .ok (.aload_n k, 1)) (hi : (k : Nat) = i) (j : Nat) (hj : L[j]? = some (i, .ref x)) (kk : gw_W X σ ce sl (pc + 1) L (.ref x :: st)) : gw_W X σ ce sl pc L (st) :=
  fun H locs ls hG hS hL => lv_aload_n hX.1 hX.2.1 d hi (lv_at hL j hj) (kk H locs ls hG hS hL)
theorem gw_aload {X : gw_C} {cc : ByteArray} {own : String} {σ : gw_S} {ce sl pc : Nat} {L : List (Nat × Value)} {st : List Value} {q : gw_N} (hX : gw_ok X cc own q) {i : Nat} {x : Nat} (d : decode cc pc = .ok (.aload i, 2)) (j : Nat) (hj : L[j]? = some (i, .ref x)) (kk : gw_W X σ ce sl (pc + 2) L (.ref x :: st)) : gw_W X σ ce sl pc L (st) :=
  fun H locs ls hG hS hL => lv_aload hX.1 hX.2.1 d (lv_at hL j hj) (kk H locs ls hG hS hL)
theorem gw_astore_n {X : gw_C} {cc : ByteArray} {own : String} {σ : gw_S} {ce sl pc : Nat} {L : List (Nat × Value)} {st : List Value} {q : gw_N} (hX : gw_ok X cc own q) {k : Fin 4} {i : Nat} {x : Nat} {L' : List (Nat × Value)} (d : decode cc pc = .ok (.astore_n k, 1)) (hi : (k : Nat) = i) (hn : i < q.1) (hl : (i, Value.ref x) :: L.filter (fun y => !(y.1 == i) && !(y.1 + 1 == i && y.2.category == 2)) = L') (kk : gw_W X σ ce sl (pc + 1) L' (st)) : gw_W X σ ce sl pc L (.ref x :: st) :=
  fun H locs ls hG hS hL => lv_astore_n hX.1 hX.2.1 d hi hL (gw_nL hX hn) hl (fun ls' hL' => kk H locs ls' hG hS hL')
theorem gw_astore {X : gw_C} {cc : ByteArray} {own : String} {σ : gw_S} {ce sl pc : Nat} {L : List (Nat × Value)} {st : List Value} {q : gw_N} (hX : gw_ok X cc own q) {i : Nat} {x : Nat} {L' : List (Nat × Value)} (d : decode cc pc = .ok (.astore i, 2)) (hn : i < q.1) (hl : (i, Value.ref x) :: L.filter (fun y => !(y.1 == i) && !(y.1 + 1 == i && y.2.category == 2)) = L') (kk : gw_W X σ ce sl (pc + 2) L' (st)) : gw_W X σ ce sl pc L (.ref x :: st) :=
  fun H locs ls hG hS hL => lv_astore hX.1 hX.2.1 d hL (gw_nL hX hn) hl (fun ls' hL' => kk H locs ls' hG hS hL')
theorem gw_iinc {X : gw_C} {cc : ByteArray} {own : String} {σ : gw_S} {ce sl pc : Nat} {L : List (Nat × Value)} {st : List Value} {q : gw_N} (hX : gw_ok X cc own q) {i : Nat} {n : Int} {x v : Int32} {L' : List (Nat × Value)} (d : decode cc pc = .ok (.iinc i n, 3)) (j : Nat) (hj : L[j]? = some (i, .int x)) (hv : x + Int32.ofInt n = v) (hn : i < q.1) (hl : (i, Value.int v) :: L.filter (fun y => !(y.1 == i) && !(y.1 + 1 == i && y.2.category == 2)) = L') (kk : gw_W X σ ce sl (pc + 3) L' (st)) : gw_W X σ ce sl pc L (st) :=
  fun H locs ls hG hS hL => lv_iinc hX.1 hX.2.1 d hL hj hv (gw_nL hX hn) hl (fun ls' hL' => kk H locs ls' hG hS hL')
theorem gw_iadd {X : gw_C} {cc : ByteArray} {own : String} {σ : gw_S} {ce sl pc : Nat} {L : List (Nat × Value)} {st : List Value} {q : gw_N} (hX : gw_ok X cc own q) {x y : Int32} (d : decode cc pc = .ok (.iadd, 1)) (kk : gw_W X σ ce sl (pc + 1) L (.int (x + y) :: st)) : gw_W X σ ce sl pc L (.int y :: .int x :: st) :=
  fun H locs ls hG hS hL => lv_iadd hX.1 hX.2.1 d (kk H locs ls hG hS hL)
theorem gw_isub {X : gw_C} {cc : ByteArray} {own : String} {σ : gw_S} {ce sl pc : Nat} {L : List (Nat × Value)} {st : List Value} {q : gw_N} (hX : gw_ok X cc own q) {x y : Int32} (d : decode cc pc = .ok (.isub, 1)) (kk : gw_W X σ ce sl (pc + 1) L (.int (x - y) :: st)) : gw_W X σ ce sl pc L (.int y :: .int x :: st) :=
  fun H locs ls hG hS hL => lv_isub hX.1 hX.2.1 d (kk H locs ls hG hS hL)
theorem gw_imul {X : gw_C} {cc : ByteArray} {own : String} {σ : gw_S} {ce sl pc : Nat} {L : List (Nat × Value)} {st : List Value} {q : gw_N} (hX : gw_ok X cc own q) {x y : Int32} (d : decode cc pc = .ok (.imul, 1)) (kk : gw_W X σ ce sl (pc + 1) L (.int (x * y) :: st)) : gw_W X σ ce sl pc L (.int y :: .int x :: st) :=
  fun H locs ls hG hS hL => lv_imul hX.1 hX.2.1 d (kk H locs ls hG hS hL)
theorem gw_iand {X : gw_C} {cc : ByteArray} {own : String} {σ : gw_S} {ce sl pc : Nat} {L : List (Nat × Value)} {st : List Value} {q : gw_N} (hX : gw_ok X cc own q) {x y : Int32} (d : decode cc pc = .ok (.iand, 1)) (kk : gw_W X σ ce sl (pc + 1) L (.int (x &&& y) :: st)) : gw_W X σ ce sl pc L (.int y :: .int x :: st) :=
  fun H locs ls hG hS hL => lv_iand hX.1 hX.2.1 d (kk H locs ls hG hS hL)
theorem gw_ior {X : gw_C} {cc : ByteArray} {own : String} {σ : gw_S} {ce sl pc : Nat} {L : List (Nat × Value)} {st : List Value} {q : gw_N} (hX : gw_ok X cc own q) {x y : Int32} (d : decode cc pc = .ok (.ior, 1)) (kk : gw_W X σ ce sl (pc + 1) L (.int (x ||| y) :: st)) : gw_W X σ ce sl pc L (.int y :: .int x :: st) :=
  fun H locs ls hG hS hL => lv_ior hX.1 hX.2.1 d (kk H locs ls hG hS hL)
theorem gw_ixor {X : gw_C} {cc : ByteArray} {own : String} {σ : gw_S} {ce sl pc : Nat} {L : List (Nat × Value)} {st : List Value} {q : gw_N} (hX : gw_ok X cc own q) {x y : Int32} (d : decode cc pc = .ok (.ixor, 1)) (kk : gw_W X σ ce sl (pc + 1) L (.int (x ^^^ y) :: st)) : gw_W X σ ce sl pc L (.int y :: .int x :: st) :=
  fun H locs ls hG hS hL => lv_ixor hX.1 hX.2.1 d (kk H locs ls hG hS hL)
theorem gw_ladd {X : gw_C} {cc : ByteArray} {own : String} {σ : gw_S} {ce sl pc : Nat} {L : List (Nat × Value)} {st : List Value} {q : gw_N} (hX : gw_ok X cc own q) {x y : Int64} (d : decode cc pc = .ok (.ladd, 1)) (kk : gw_W X σ ce sl (pc + 1) L (.long (x + y) :: st)) : gw_W X σ ce sl pc L (.long y :: .long x :: st) :=
  fun H locs ls hG hS hL => lv_ladd hX.1 hX.2.1 d (kk H locs ls hG hS hL)
theorem gw_lsub {X : gw_C} {cc : ByteArray} {own : String} {σ : gw_S} {ce sl pc : Nat} {L : List (Nat × Value)} {st : List Value} {q : gw_N} (hX : gw_ok X cc own q) {x y : Int64} (d : decode cc pc = .ok (.lsub, 1)) (kk : gw_W X σ ce sl (pc + 1) L (.long (x - y) :: st)) : gw_W X σ ce sl pc L (.long y :: .long x :: st) :=
  fun H locs ls hG hS hL => lv_lsub hX.1 hX.2.1 d (kk H locs ls hG hS hL)
theorem gw_land {X : gw_C} {cc : ByteArray} {own : String} {σ : gw_S} {ce sl pc : Nat} {L : List (Nat × Value)} {st : List Value} {q : gw_N} (hX : gw_ok X cc own q) {x y : Int64} (d : decode cc pc = .ok (.land, 1)) (kk : gw_W X σ ce sl (pc + 1) L (.long (x &&& y) :: st)) : gw_W X σ ce sl pc L (.long y :: .long x :: st) :=
  fun H locs ls hG hS hL => lv_land hX.1 hX.2.1 d (kk H locs ls hG hS hL)
theorem gw_lor {X : gw_C} {cc : ByteArray} {own : String} {σ : gw_S} {ce sl pc : Nat} {L : List (Nat × Value)} {st : List Value} {q : gw_N} (hX : gw_ok X cc own q) {x y : Int64} (d : decode cc pc = .ok (.lor, 1)) (kk : gw_W X σ ce sl (pc + 1) L (.long (x ||| y) :: st)) : gw_W X σ ce sl pc L (.long y :: .long x :: st) :=
  fun H locs ls hG hS hL => lv_lor hX.1 hX.2.1 d (kk H locs ls hG hS hL)
theorem gw_ishl {X : gw_C} {cc : ByteArray} {own : String} {σ : gw_S} {ce sl pc : Nat} {L : List (Nat × Value)} {st : List Value} {q : gw_N} (hX : gw_ok X cc own q) {x y : Int32} (d : decode cc pc = .ok (.ishl, 1)) (kk : gw_W X σ ce sl (pc + 1) L (.int (x <<< (y &&& 31)) :: st)) : gw_W X σ ce sl pc L (.int y :: .int x :: st) :=
  fun H locs ls hG hS hL => lv_ishl hX.1 hX.2.1 d (kk H locs ls hG hS hL)
theorem gw_ishr {X : gw_C} {cc : ByteArray} {own : String} {σ : gw_S} {ce sl pc : Nat} {L : List (Nat × Value)} {st : List Value} {q : gw_N} (hX : gw_ok X cc own q) {x y : Int32} (d : decode cc pc = .ok (.ishr, 1)) (kk : gw_W X σ ce sl (pc + 1) L (.int (x >>> (y &&& 31)) :: st)) : gw_W X σ ce sl pc L (.int y :: .int x :: st) :=
  fun H locs ls hG hS hL => lv_ishr hX.1 hX.2.1 d (kk H locs ls hG hS hL)
theorem gw_iushr {X : gw_C} {cc : ByteArray} {own : String} {σ : gw_S} {ce sl pc : Nat} {L : List (Nat × Value)} {st : List Value} {q : gw_N} (hX : gw_ok X cc own q) {x y : Int32} (d : decode cc pc = .ok (.iushr, 1)) (kk : gw_W X σ ce sl (pc + 1) L (.int (x.toUInt32 >>> (y.toUInt32 &&& Int32.toUInt32 31)).toInt32 :: st)) : gw_W X σ ce sl pc L (.int y :: .int x :: st) :=
  fun H locs ls hG hS hL => lv_iushr hX.1 hX.2.1 d rfl (kk H locs ls hG hS hL)
theorem gw_i2l {X : gw_C} {cc : ByteArray} {own : String} {σ : gw_S} {ce sl pc : Nat} {L : List (Nat × Value)} {st : List Value} {q : gw_N} (hX : gw_ok X cc own q) {x : Int32} (d : decode cc pc = .ok (.i2l, 1)) (kk : gw_W X σ ce sl (pc + 1) L (.long x.toInt64 :: st)) : gw_W X σ ce sl pc L (.int x :: st) :=
  fun H locs ls hG hS hL => lv_i2l hX.1 hX.2.1 d rfl (kk H locs ls hG hS hL)
theorem gw_l2i {X : gw_C} {cc : ByteArray} {own : String} {σ : gw_S} {ce sl pc : Nat} {L : List (Nat × Value)} {st : List Value} {q : gw_N} (hX : gw_ok X cc own q) {x : Int64} (d : decode cc pc = .ok (.l2i, 1)) (kk : gw_W X σ ce sl (pc + 1) L (.int x.toInt32 :: st)) : gw_W X σ ce sl pc L (.long x :: st) :=
  fun H locs ls hG hS hL => lv_l2i hX.1 hX.2.1 d rfl (kk H locs ls hG hS hL)
theorem gw_i2c {X : gw_C} {cc : ByteArray} {own : String} {σ : gw_S} {ce sl pc : Nat} {L : List (Nat × Value)} {st : List Value} {q : gw_N} (hX : gw_ok X cc own q) {x : Int32} (d : decode cc pc = .ok (.i2c, 1)) (kk : gw_W X σ ce sl (pc + 1) L (.int (x.toUInt32 % 65536).toInt32 :: st)) : gw_W X σ ce sl pc L (.int x :: st) :=
  fun H locs ls hG hS hL => lv_i2c hX.1 hX.2.1 d rfl (kk H locs ls hG hS hL)
theorem gw_lushr {X : gw_C} {cc : ByteArray} {own : String} {σ : gw_S} {ce sl pc : Nat} {L : List (Nat × Value)} {st : List Value} {q : gw_N} (hX : gw_ok X cc own q) {x : Int64} {y : Int32} (d : decode cc pc = .ok (.lushr, 1)) (kk : gw_W X σ ce sl (pc + 1) L (.long (x.toUInt64 >>> (y.toInt64.toUInt64 &&& Int64.toUInt64 63)).toInt64 :: st)) : gw_W X σ ce sl pc L (.int y :: .long x :: st) :=
  fun H locs ls hG hS hL => lv_lushr hX.1 hX.2.1 d rfl (kk H locs ls hG hS hL)
theorem gw_lshl {X : gw_C} {cc : ByteArray} {own : String} {σ : gw_S} {ce sl pc : Nat} {L : List (Nat × Value)} {st : List Value} {q : gw_N} (hX : gw_ok X cc own q) {x : Int64} {y : Int32} (d : decode cc pc = .ok (.lshl, 1)) (kk : gw_W X σ ce sl (pc + 1) L (.long (x <<< (y.toInt64 &&& 63)) :: st)) : gw_W X σ ce sl pc L (.int y :: .long x :: st) :=
  fun H locs ls hG hS hL => lv_lshl hX.1 hX.2.1 d rfl (kk H locs ls hG hS hL)
theorem gw_lshr {X : gw_C} {cc : ByteArray} {own : String} {σ : gw_S} {ce sl pc : Nat} {L : List (Nat × Value)} {st : List Value} {q : gw_N} (hX : gw_ok X cc own q) {x : Int64} {y : Int32} (d : decode cc pc = .ok (.lshr, 1)) (kk : gw_W X σ ce sl (pc + 1) L (.long (x >>> (y.toInt64 &&& 63)) :: st)) : gw_W X σ ce sl pc L (.int y :: .long x :: st) :=
  fun H locs ls hG hS hL => lv_lshr hX.1 hX.2.1 d rfl (kk H locs ls hG hS hL)
theorem gw_dup {X : gw_C} {cc : ByteArray} {own : String} {σ : gw_S} {ce sl pc : Nat} {L : List (Nat × Value)} {st : List Value} {q : gw_N} (hX : gw_ok X cc own q) {va : Value} (d : decode cc pc = .ok (.dup, 1)) (hva : va.category = 1) (kk : gw_W X σ ce sl (pc + 1) L (va :: va :: st)) : gw_W X σ ce sl pc L (va :: st) :=
  fun H locs ls hG hS hL => lv_dup hX.1 hX.2.1 d hva (kk H locs ls hG hS hL)
theorem gw_pop {X : gw_C} {cc : ByteArray} {own : String} {σ : gw_S} {ce sl pc : Nat} {L : List (Nat × Value)} {st : List Value} {q : gw_N} (hX : gw_ok X cc own q) {va : Value} (d : decode cc pc = .ok (.pop, 1)) (hva : va.category = 1) (kk : gw_W X σ ce sl (pc + 1) L (st)) : gw_W X σ ce sl pc L (va :: st) :=
  fun H locs ls hG hS hL => lv_pop hX.1 hX.2.1 d hva (kk H locs ls hG hS hL)
theorem gw_dup_x1 {X : gw_C} {cc : ByteArray} {own : String} {σ : gw_S} {ce sl pc : Nat} {L : List (Nat × Value)} {st : List Value} {q : gw_N} (hX : gw_ok X cc own q) {va vb : Value} (d : decode cc pc = .ok (.dup_x1, 1)) (hva : va.category = 1) (hvb : vb.category = 1) (kk : gw_W X σ ce sl (pc + 1) L (va :: vb :: va :: st)) : gw_W X σ ce sl pc L (va :: vb :: st) :=
  fun H locs ls hG hS hL => lv_dup_x1 hX.1 hX.2.1 d hva hvb (kk H locs ls hG hS hL)
theorem gw_dup2_11 {X : gw_C} {cc : ByteArray} {own : String} {σ : gw_S} {ce sl pc : Nat} {L : List (Nat × Value)} {st : List Value} {q : gw_N} (hX : gw_ok X cc own q) {va vb : Value} (d : decode cc pc = .ok (.dup2, 1)) (hva : va.category = 1) (hvb : vb.category = 1) (kk : gw_W X σ ce sl (pc + 1) L (va :: vb :: va :: vb :: st)) : gw_W X σ ce sl pc L (va :: vb :: st) :=
  fun H locs ls hG hS hL => lv_dup2_11 hX.1 hX.2.1 d hva hvb (kk H locs ls hG hS hL)
theorem gw_dup2_2 {X : gw_C} {cc : ByteArray} {own : String} {σ : gw_S} {ce sl pc : Nat} {L : List (Nat × Value)} {st : List Value} {q : gw_N} (hX : gw_ok X cc own q) {va : Value} (d : decode cc pc = .ok (.dup2, 1)) (hva : va.category = 2) (kk : gw_W X σ ce sl (pc + 1) L (va :: va :: st)) : gw_W X σ ce sl pc L (va :: st) :=
  fun H locs ls hG hS hL => lv_dup2_2 hX.1 hX.2.1 d hva (kk H locs ls hG hS hL)
theorem gw_dup2_x1_2 {X : gw_C} {cc : ByteArray} {own : String} {σ : gw_S} {ce sl pc : Nat} {L : List (Nat × Value)} {st : List Value} {q : gw_N} (hX : gw_ok X cc own q) {va vb : Value} (d : decode cc pc = .ok (.dup2_x1, 1)) (hva : va.category = 2) (hvb : vb.category = 1) (kk : gw_W X σ ce sl (pc + 1) L (va :: vb :: va :: st)) : gw_W X σ ce sl pc L (va :: vb :: st) :=
  fun H locs ls hG hS hL => lv_dup2_x1_2 hX.1 hX.2.1 d hva hvb (kk H locs ls hG hS hL)
theorem gw_if_eq {X : gw_C} {cc : ByteArray} {own : String} {σ : gw_S} {ce sl pc : Nat} {L : List (Nat × Value)} {st : List Value} {q : gw_N} (hX : gw_ok X cc own q) {x : Int32} {off : Int} {tgt : Nat} (d : decode cc pc = .ok (.ifCond .eq off, 3)) (ht : (pc : Int) + off = (tgt : Int)) (kt : x = 0 → gw_W X σ ce sl (tgt) L (st)) (kf : ¬ x = 0 → gw_W X σ ce sl (pc + 3) L (st)) : gw_W X σ ce sl pc L (.int x :: st) :=
  fun H locs ls hG hS hL => lv_if_eq hX.1 hX.2.1 d ht (fun h => kt h H locs ls hG hS hL) (fun h => kf h H locs ls hG hS hL)
theorem gw_icmp_eq {X : gw_C} {cc : ByteArray} {own : String} {σ : gw_S} {ce sl pc : Nat} {L : List (Nat × Value)} {st : List Value} {q : gw_N} (hX : gw_ok X cc own q) {x y : Int32} {off : Int} {tgt : Nat} (d : decode cc pc = .ok (.if_icmp .eq off, 3)) (ht : (pc : Int) + off = (tgt : Int)) (kt : x = y → gw_W X σ ce sl (tgt) L (st)) (kf : ¬ x = y → gw_W X σ ce sl (pc + 3) L (st)) : gw_W X σ ce sl pc L (.int y :: .int x :: st) :=
  fun H locs ls hG hS hL => lv_icmp_eq hX.1 hX.2.1 d ht (fun h => kt h H locs ls hG hS hL) (fun h => kf h H locs ls hG hS hL)
theorem gw_if_ne {X : gw_C} {cc : ByteArray} {own : String} {σ : gw_S} {ce sl pc : Nat} {L : List (Nat × Value)} {st : List Value} {q : gw_N} (hX : gw_ok X cc own q) {x : Int32} {off : Int} {tgt : Nat} (d : decode cc pc = .ok (.ifCond .ne off, 3)) (ht : (pc : Int) + off = (tgt : Int)) (kt : ¬ x = 0 → gw_W X σ ce sl (tgt) L (st)) (kf : x = 0 → gw_W X σ ce sl (pc + 3) L (st)) : gw_W X σ ce sl pc L (.int x :: st) :=
  fun H locs ls hG hS hL => lv_if_ne hX.1 hX.2.1 d ht (fun h => kt h H locs ls hG hS hL) (fun h => kf h H locs ls hG hS hL)
theorem gw_icmp_ne {X : gw_C} {cc : ByteArray} {own : String} {σ : gw_S} {ce sl pc : Nat} {L : List (Nat × Value)} {st : List Value} {q : gw_N} (hX : gw_ok X cc own q) {x y : Int32} {off : Int} {tgt : Nat} (d : decode cc pc = .ok (.if_icmp .ne off, 3)) (ht : (pc : Int) + off = (tgt : Int)) (kt : ¬ x = y → gw_W X σ ce sl (tgt) L (st)) (kf : x = y → gw_W X σ ce sl (pc + 3) L (st)) : gw_W X σ ce sl pc L (.int y :: .int x :: st) :=
  fun H locs ls hG hS hL => lv_icmp_ne hX.1 hX.2.1 d ht (fun h => kt h H locs ls hG hS hL) (fun h => kf h H locs ls hG hS hL)
theorem gw_if_lt {X : gw_C} {cc : ByteArray} {own : String} {σ : gw_S} {ce sl pc : Nat} {L : List (Nat × Value)} {st : List Value} {q : gw_N} (hX : gw_ok X cc own q) {x : Int32} {off : Int} {tgt : Nat} (d : decode cc pc = .ok (.ifCond .lt off, 3)) (ht : (pc : Int) + off = (tgt : Int)) (kt : x < 0 → gw_W X σ ce sl (tgt) L (st)) (kf : ¬ x < 0 → gw_W X σ ce sl (pc + 3) L (st)) : gw_W X σ ce sl pc L (.int x :: st) :=
  fun H locs ls hG hS hL => lv_if_lt hX.1 hX.2.1 d ht (fun h => kt h H locs ls hG hS hL) (fun h => kf h H locs ls hG hS hL)
theorem gw_icmp_lt {X : gw_C} {cc : ByteArray} {own : String} {σ : gw_S} {ce sl pc : Nat} {L : List (Nat × Value)} {st : List Value} {q : gw_N} (hX : gw_ok X cc own q) {x y : Int32} {off : Int} {tgt : Nat} (d : decode cc pc = .ok (.if_icmp .lt off, 3)) (ht : (pc : Int) + off = (tgt : Int)) (kt : x < y → gw_W X σ ce sl (tgt) L (st)) (kf : ¬ x < y → gw_W X σ ce sl (pc + 3) L (st)) : gw_W X σ ce sl pc L (.int y :: .int x :: st) :=
  fun H locs ls hG hS hL => lv_icmp_lt hX.1 hX.2.1 d ht (fun h => kt h H locs ls hG hS hL) (fun h => kf h H locs ls hG hS hL)
theorem gw_if_ge {X : gw_C} {cc : ByteArray} {own : String} {σ : gw_S} {ce sl pc : Nat} {L : List (Nat × Value)} {st : List Value} {q : gw_N} (hX : gw_ok X cc own q) {x : Int32} {off : Int} {tgt : Nat} (d : decode cc pc = .ok (.ifCond .ge off, 3)) (ht : (pc : Int) + off = (tgt : Int)) (kt : 0 ≤ x → gw_W X σ ce sl (tgt) L (st)) (kf : ¬ 0 ≤ x → gw_W X σ ce sl (pc + 3) L (st)) : gw_W X σ ce sl pc L (.int x :: st) :=
  fun H locs ls hG hS hL => lv_if_ge hX.1 hX.2.1 d ht (fun h => kt h H locs ls hG hS hL) (fun h => kf h H locs ls hG hS hL)
theorem gw_icmp_ge {X : gw_C} {cc : ByteArray} {own : String} {σ : gw_S} {ce sl pc : Nat} {L : List (Nat × Value)} {st : List Value} {q : gw_N} (hX : gw_ok X cc own q) {x y : Int32} {off : Int} {tgt : Nat} (d : decode cc pc = .ok (.if_icmp .ge off, 3)) (ht : (pc : Int) + off = (tgt : Int)) (kt : y ≤ x → gw_W X σ ce sl (tgt) L (st)) (kf : ¬ y ≤ x → gw_W X σ ce sl (pc + 3) L (st)) : gw_W X σ ce sl pc L (.int y :: .int x :: st) :=
  fun H locs ls hG hS hL => lv_icmp_ge hX.1 hX.2.1 d ht (fun h => kt h H locs ls hG hS hL) (fun h => kf h H locs ls hG hS hL)
theorem gw_if_gt {X : gw_C} {cc : ByteArray} {own : String} {σ : gw_S} {ce sl pc : Nat} {L : List (Nat × Value)} {st : List Value} {q : gw_N} (hX : gw_ok X cc own q) {x : Int32} {off : Int} {tgt : Nat} (d : decode cc pc = .ok (.ifCond .gt off, 3)) (ht : (pc : Int) + off = (tgt : Int)) (kt : 0 < x → gw_W X σ ce sl (tgt) L (st)) (kf : ¬ 0 < x → gw_W X σ ce sl (pc + 3) L (st)) : gw_W X σ ce sl pc L (.int x :: st) :=
  fun H locs ls hG hS hL => lv_if_gt hX.1 hX.2.1 d ht (fun h => kt h H locs ls hG hS hL) (fun h => kf h H locs ls hG hS hL)
theorem gw_icmp_gt {X : gw_C} {cc : ByteArray} {own : String} {σ : gw_S} {ce sl pc : Nat} {L : List (Nat × Value)} {st : List Value} {q : gw_N} (hX : gw_ok X cc own q) {x y : Int32} {off : Int} {tgt : Nat} (d : decode cc pc = .ok (.if_icmp .gt off, 3)) (ht : (pc : Int) + off = (tgt : Int)) (kt : y < x → gw_W X σ ce sl (tgt) L (st)) (kf : ¬ y < x → gw_W X σ ce sl (pc + 3) L (st)) : gw_W X σ ce sl pc L (.int y :: .int x :: st) :=
  fun H locs ls hG hS hL => lv_icmp_gt hX.1 hX.2.1 d ht (fun h => kt h H locs ls hG hS hL) (fun h => kf h H locs ls hG hS hL)
theorem gw_if_le {X : gw_C} {cc : ByteArray} {own : String} {σ : gw_S} {ce sl pc : Nat} {L : List (Nat × Value)} {st : List Value} {q : gw_N} (hX : gw_ok X cc own q) {x : Int32} {off : Int} {tgt : Nat} (d : decode cc pc = .ok (.ifCond .le off, 3)) (ht : (pc : Int) + off = (tgt : Int)) (kt : x ≤ 0 → gw_W X σ ce sl (tgt) L (st)) (kf : ¬ x ≤ 0 → gw_W X σ ce sl (pc + 3) L (st)) : gw_W X σ ce sl pc L (.int x :: st) :=
  fun H locs ls hG hS hL => lv_if_le hX.1 hX.2.1 d ht (fun h => kt h H locs ls hG hS hL) (fun h => kf h H locs ls hG hS hL)
theorem gw_icmp_le {X : gw_C} {cc : ByteArray} {own : String} {σ : gw_S} {ce sl pc : Nat} {L : List (Nat × Value)} {st : List Value} {q : gw_N} (hX : gw_ok X cc own q) {x y : Int32} {off : Int} {tgt : Nat} (d : decode cc pc = .ok (.if_icmp .le off, 3)) (ht : (pc : Int) + off = (tgt : Int)) (kt : x ≤ y → gw_W X σ ce sl (tgt) L (st)) (kf : ¬ x ≤ y → gw_W X σ ce sl (pc + 3) L (st)) : gw_W X σ ce sl pc L (.int y :: .int x :: st) :=
  fun H locs ls hG hS hL => lv_icmp_le hX.1 hX.2.1 d ht (fun h => kt h H locs ls hG hS hL) (fun h => kf h H locs ls hG hS hL)
theorem gw_goto {X : gw_C} {cc : ByteArray} {own : String} {σ : gw_S} {ce sl pc : Nat} {L : List (Nat × Value)} {st : List Value} {q : gw_N} (hX : gw_ok X cc own q) {off : Int} {tgt : Nat} (d : decode cc pc = .ok (.goto off, 3)) (ht : (pc : Int) + off = (tgt : Int)) (kk : gw_W X σ ce sl (tgt) L (st)) : gw_W X σ ce sl pc L (st) :=
  fun H locs ls hG hS hL => lv_goto hX.1 hX.2.1 d ht (kk H locs ls hG hS hL)
theorem gw_lcmp {X : gw_C} {cc : ByteArray} {own : String} {σ : gw_S} {ce sl pc : Nat} {L : List (Nat × Value)} {st : List Value} {q : gw_N} (hX : gw_ok X cc own q) {x y : Int64} (d : decode cc pc = .ok (.lcmp, 1)) (kk : gw_W X σ ce sl (pc + 1) L (.int (lg_cmp x y) :: st)) : gw_W X σ ce sl pc L (.long y :: .long x :: st) :=
  fun H locs ls hG hS hL => W.lcmp hX.1 hX.2.1 d (kk H locs ls hG hS hL)
theorem gw_tableIn {X : gw_C} {cc : ByteArray} {own : String} {σ : gw_S} {ce sl pc : Nat} {L : List (Nat × Value)} {st : List Value} {q : gw_N} (hX : gw_ok X cc own q) {dflt lo hi : Int} {offs : Array Int} {len : Nat} {x : Int32} {off : Int} {tgt : Nat} (d : decode cc pc = .ok (.tableswitch dflt lo hi offs, len)) (h1 : ¬ x.toInt < lo) (h2 : ¬ hi < x.toInt) (ho : offs[(x.toInt - lo).toNat]? = some off) (ht : (pc : Int) + off = (tgt : Int)) (kk : gw_W X σ ce sl (tgt) L (st)) : gw_W X σ ce sl pc L (.int x :: st) :=
  fun H locs ls hG hS hL => lv_tableIn hX.1 hX.2.1 d h1 h2 ho ht (kk H locs ls hG hS hL)
theorem gw_tableOut {X : gw_C} {cc : ByteArray} {own : String} {σ : gw_S} {ce sl pc : Nat} {L : List (Nat × Value)} {st : List Value} {q : gw_N} (hX : gw_ok X cc own q) {dflt lo hi : Int} {offs : Array Int} {len : Nat} {x : Int32} {tgt : Nat} (d : decode cc pc = .ok (.tableswitch dflt lo hi offs, len)) (h : x.toInt < lo ∨ hi < x.toInt) (ht : (pc : Int) + dflt = (tgt : Int)) (kk : gw_W X σ ce sl (tgt) L (st)) : gw_W X σ ce sl pc L (.int x :: st) :=
  fun H locs ls hG hS hL => lv_tableOut hX.1 hX.2.1 d h ht (kk H locs ls hG hS hL)
theorem gw_topi {X : gw_C} {σ : gw_S} {ce sl pc : Nat} {L : List (Nat × Value)} {st : List Value} {x y : Int32} (h : x = y) (kk : gw_W X σ ce sl pc L (.int y :: st)) : gw_W X σ ce sl pc L (.int x :: st) := h ▸ kk
theorem gw_topl {X : gw_C} {σ : gw_S} {ce sl pc : Nat} {L : List (Nat × Value)} {st : List Value} {x y : Int64} (h : x = y) (kk : gw_W X σ ce sl pc L (.long y :: st)) : gw_W X σ ce sl pc L (.long x :: st) := h ▸ kk
theorem gw_cut {X : gw_C} {σ : gw_S} {ce sl pc : Nat} {L : List (Nat × Value)} {st : List Value} {ks : List Nat} {L' : List (Nat × Value)} (h : lv_pick L ks = L') (kk : gw_W X σ ce sl pc L' st) : gw_W X σ ce sl pc L st := fun H locs ls hG hS hL => kk H locs ls hG hS (lv_sub hL ks h)
theorem gw_heap {X : gw_C} {σ : gw_S} {ce sl pc : Nat} {L : List (Nat × Value)} {st : List Value} {σ' : gw_S} (h : σ = σ') (kk : gw_W X σ' ce sl pc L st) : gw_W X σ ce sl pc L st := h ▸ kk
theorem gw_widen {X : gw_C} {σ : gw_S} {ce sl pc : Nat} {L : List (Nat × Value)} {st : List Value} {k n : Nat} (h1 : ce ≤ k) (h2 : sl ≤ n) (kk : gw_W X σ k n pc L st) : gw_W X σ ce sl pc L st := fun H locs ls hG hS hL => W.widen h1 h2 (kk H locs ls hG hS hL)
end
section
/-! ===== rows of the walk that touch the heap ===== -/
/-- what is known of a made class: its number, its fields' words, types, names -/
def gw_cls (ci : Nat) (C : String) (T : u_T) (N : Nat) (ty : Nat → FieldType) : Prop :=
  nv_cl[ci]? = some (C, T, N) ∧ (∀ w ∈ u_ws C T N, w ∈ gw_ws) ∧ (∀ k, k < N → parseFieldDescriptor (T k).2.2.1 = some (ty k)) ∧ ∀ a, a < N → ∀ b, b < N → a ≠ b → (T a).2.1 ≠ (T b).2.1
/-- what the entry index of own's pool says: the field k of the class ci, final or not, of the type t -/
def gw_fld (own : String) (index ci k : Nat) (fin : Bool) (t : FieldType) : Prop := ∃ (C : String) (T : u_T) (N : Nat) (ty : Nat → FieldType), gw_cls ci C T N ty ∧ k < N ∧ (T k).2.2.2 = fin ∧ ty k = t ∧ (T k).1 = C ∧
  (Cond.fieldLink own index (T k).1 (T k).2.1 (T k).2.2.1 ∈ gw_ws ∨ ∃ host : String, Cond.fieldLinkNest own index (T k).1 (T k).2.1 (T k).2.2.1 host ∈ gw_nl)
section GWR
variable {X : gw_C} {cc : ByteArray} {own : String} {σ : gw_S} {ce sl pc : Nat} {L : List (Nat × Value)} {st : List Value}
theorem gw_get {q : gw_N} (hX : gw_ok X cc own q) {index ci k : Nat} {fin : Bool} {t : FieldType} (f : gw_fld own index ci k fin t) (d : decode cc pc = .ok (.getfield index, 3)) {a : Nat} {fs : List Value} {v : Value} (h : σ.2 a = some (.inr (ci, fs))) (hv : fs[k]? = some v)
    (kk : gw_W X σ ce sl (pc + 3) L (v :: st)) : gw_W X σ ce sl pc L (.ref a :: st) := by
  obtain ⟨C, T, N, ty, ⟨hc, hin, hty, hnm⟩, hk, hfin, ht, -, hlink⟩ := f
  intro H locs ls hG hS hL
  have hP := gw_one (hG.2.2 a _ h).2
  rcases hlink with hlink | ⟨host, hlink⟩
  · exact va_get hX.1 hX.2.1 hX.2.2.2.2.1 hin hX.2.2.2.1 hX.2.2.2.2.2.1 hP 0 rfl hc k hk (hX.2.2.2.2.1 _ hlink) (fun _ h9 => h9) hv d (kk H locs ls hG hS hL)
  · exact va_getN hX.1 hX.2.1 hX.2.2.2.2.1 hin hX.2.2.2.1 hX.2.2.2.2.2.1 hP 0 rfl hc k hk (va_Nw.use rfl (hX.2.2.2.2.2.2.1 _ hlink)) (fun _ h9 => h9) hv d (kk H locs ls hG hS hL)
theorem gw_put {q : gw_N} (hX : gw_ok X cc own q) {index ci k : Nat} {t : FieldType} (f : gw_fld own index ci k false t) (d : decode cc pc = .ok (.putfield index, 3)) {a : Nat} {fs : List Value} {v : Value} (h : σ.2 a = some (.inr (ci, fs))) (hn : narrow t v = v) (hf : fits t v = true) (hl : k < fs.length) {e' : va_E} (he : .inr (ci, fs.set k v) = e')
    (kk : gw_W X (gw_up σ a e') ce sl (pc + 3) L st) : gw_W X σ ce sl pc L (v :: .ref a :: st) := by
  obtain ⟨C, T, N, ty, ⟨hc, hin, hty, hnm⟩, hk, hfin, ht, -, hlink⟩ := f
  intro H locs ls hG hS hL
  have hw := hX.2.2.2.2.1
  have hK := hX.2.2.2.2.2.1
  have hap := va_apart (own := own) hw hin ty hty hnm hK hc
  obtain ⟨r, h1, cell, q1, q2, q3, q4⟩ := (hG.2.2 a _ h).2
  have hr : r = (C, T, N) := Option.some.inj (h1.symm.trans hc)
  subst hr
  obtain ⟨hSl, hfc, kC, hkC, hkind⟩ := hK.1 ci _ hc
  obtain ⟨cf, kf, fi, fd, hi, hsl⟩ := hSl k hk
  have hlay := hw _ (hin _ (u_in_lay hk))
  unfold u_lay at hlay
  rw [if_neg (by rw [hfin]; decide)] at hlay
  have hst := (u_facts hfc hkC (u_lays hw hin hk) hi).1
  have hd : parseFieldDescriptor (T k).2.2.1 = some t := ht ▸ hty k hk
  have h6 := u_store hfc hkC hkind hlay hi hd hn hf
  have last : ∀ H' : Heap, H'[a]? = some (cell.setSlot fd.slot v) → H'.size = H.size → (∀ q, q ≠ a → H'[q]? = H[q]?) → gw_w X H' (locs ++ [⟨a, fd.slot⟩]) ce sl (F0 (gw_m X) (pc + 3) ls st) := by
    intro H' e1 e2 e3
    refine kk H' _ ls (gw_H_up hG h ?_ e2 e3) (hS.put e2 e3 (hG.2.2 a _ h).1) hL
    rw [← he]
    rw [hsl] at e1
    exact ⟨_, hc, t_OB.to (V := updV (vp_V fs) k v) ⟨_, e1, q2, q3, t_set q4 hap hk v⟩ (fun j _ => vp_updV_set hl v j)⟩
  rcases hlink with hlink | ⟨host, hlink⟩
  · exact W.putK hX.1 hX.2.1 (f := fd) ⟨hX.2.2.2.1, hw _ hlink, ⟨_, _, _, hi⟩, hst⟩ (by rw [q2]; exact h6) q1 q3 (by rw [hsl]; exact k2_hasslot (q4 k hk)) rfl rfl d last
  · exact va_WputK hX.1 hX.2.1 (f := fd) hX.2.2.2.1 (va_Nw.use rfl (hX.2.2.2.2.2.2.1 _ hlink)) hi hst (by rw [q2]; exact h6) q1 q3 (by rw [hsl]; exact k2_hasslot (q4 k hk)) rfl rfl d last
/-- a final field, in its class's constructor -/
theorem gw_putF {q : gw_N} (hX : gw_ok X cc own q) {index ci k : Nat} {t : FieldType} (f : gw_fld own index ci k true t) (ho : ∀ (C : String) (T : u_T) (N : Nat), nv_cl[ci]? = some (C, T, N) → C = own) (hin2 : X.2.2.1.1.name = "<init>") (d : decode cc pc = .ok (.putfield index, 3)) {a : Nat} {fs : List Value} {v : Value} (h : σ.2 a = some (.inr (ci, fs))) (hn : narrow t v = v) (hf : fits t v = true) (hl : k < fs.length) {e' : va_E} (he : .inr (ci, fs.set k v) = e')
    (hm : Cond.fieldLink own index own (match nv_cl[ci]? with | some q => (q.2.1 k).2.1 | none => "") (match nv_cl[ci]? with | some q => (q.2.1 k).2.2.1 | none => "") ∈ gw_ws)
    (kk : gw_W X (gw_up σ a e') ce sl (pc + 3) L st) : gw_W X σ ce sl pc L (v :: .ref a :: st) := by
  obtain ⟨C, T, N, ty, ⟨hc, hin, hty, hnm⟩, hk, hfin, ht, hC, -⟩ := f
  have hCo := ho C T N hc
  rw [hc] at hm
  subst hCo
  intro H locs ls hG hS hL
  have hw := hX.2.2.2.2.1
  have hK := hX.2.2.2.2.2.1
  have hap := va_apart (own := C) hw hin ty hty hnm hK hc
  obtain ⟨r, h1, cell, q1, q2, q3, q4⟩ := (hG.2.2 a _ h).2
  have hr : r = (C, T, N) := Option.some.inj (h1.symm.trans hc)
  subst hr
  obtain ⟨hSl, hfc, kC, hkC, hkind⟩ := hK.1 ci _ hc
  obtain ⟨cf, kf, fi, fd, hi, hsl⟩ := hSl k hk
  have hlay := hw _ (hin _ (u_in_lay hk))
  unfold u_lay at hlay
  rw [if_pos hfin] at hlay
  have hst := (u_facts hfc hkC (u_lays hw hin hk) hi).1
  have hcf : (gw_m X).cls = cf := by
    obtain ⟨_, _, c', _, _, _, -, -, hf', -, -, -, hown2, -⟩ := Cond.laysFinal_spec hlay
    have e1 : c' = cf := by have := hi.symm.trans hf'; simp at this; exact this.1.symm
    rw [hC] at hown2
    rw [← e1]; exact Option.some.inj (hX.2.2.2.1.symm.trans hown2)
  have hd : parseFieldDescriptor (T k).2.2.1 = some t := ht ▸ hty k hk
  have h6 := u_fits hfc hkC hkind (Or.inr hlay) hi hd hn hf
  have hi2 : (gw_s X).fieldFound? C (T k).2.1 (T k).2.2.1 = some (cf, kf, fi, fd) := by
    have h9 : (gw_s X).fieldFound? (T k).1 (T k).2.1 (T k).2.2.1 = some (cf, kf, fi, fd) := hi
    rw [hC] at h9
    exact h9
  refine W.putFinK hX.1 hX.2.1 hX.2.2.2.1 (hw _ hm) hi2 hst hcf hin2 (by rw [q2]; exact h6) q1 q3 (by rw [hsl]; exact k2_hasslot (q4 k hk)) rfl rfl d fun H' e1 e2 e3 => ?_
  refine kk H' _ ls (gw_H_up hG h ?_ e2 e3) (hS.put e2 e3 (hG.2.2 a _ h).1) hL
  rw [← he]
  rw [hsl] at e1
  exact ⟨_, hc, t_OB.to (V := updV (vp_V fs) k v) ⟨_, e1, q2, q3, t_set q4 hap hk v⟩ (fun j _ => vp_updV_set hl v j)⟩
theorem gw_new {q : gw_N} (hX : gw_ok X cc own q) {index ci N : Nat} {C : String} {T : u_T} {ty : Nat → FieldType} (hcl : gw_cls ci C T N ty) (hk : Cond.classLink own index C ∈ gw_ws) (hins : Cond.instantiable C N ∈ gw_ws) (hini : Cond.initialized C ∈ gw_ws) (d : decode cc pc = .ok (.new index, 3)) {fs : List Value} (hfs : ∀ j, j < N → defaultValue (ty j) = vp_V fs j)
    (h1 : ce + 1 ≤ q.2.2.2.1) (h2 : sl + N ≤ q.2.2.2.2) (kk : gw_W X (gw_nw σ (.inr (ci, fs))) (ce + 1) (sl + N) (pc + 3) L (.ref σ.1 :: st)) : gw_W X σ ce sl pc L st := by
  obtain ⟨hc, hin, hty, hnm⟩ := hcl
  intro H locs ls hG hS hL
  have hw := hX.2.2.2.2.1
  have hKn := hX.2.2.2.2.2.1.1 ci _ hc
  refine W.newcK hX.1 hX.2.1 hX.2.2.2.1 (hw _ hk) (hw _ hins) (hw _ hini) rfl d (gw_rc hX h1) (gw_rs hX h2) hKn.2.1 rfl fun H1 kC hkC e1 z1 o1 => ?_
  have h9 := kk H1 locs ls (gw_H_nw hG ⟨_, hc, (u_born ty hw hin hKn hkC e1 hty).to hfs⟩ z1 o1) ⟨Nat.le_trans hS.1 (by omega), fun x g1 g2 => (o1 x (Nat.lt_of_lt_of_le g1 hS.1)).trans (hS.2.1 x g1 g2), hS.2.2⟩ hL
  rw [← hG.1] at h9
  exact h9
theorem gw_iald {q : gw_N} (hX : gw_ok X cc own q) (d : decode cc pc = .ok (.iaload, 1)) {a n : Nat} {f : Nat → Int32} (h : σ.2 a = some (gw_I (gw_z X) n f)) {x : Int32} (i : Nat) (hx : x = nI i) (hi : i < n) (hn : n < 2147483648) (kk : gw_W X σ ce sl (pc + 1) L (.int (f i) :: st)) : gw_W X σ ce sl pc L (.int x :: .ref a :: st) := by
  subst hx
  intro H locs ls hG hS hL
  refine va_iald hX.1 hX.2.1 hX.2.2.2.2.2.1 (gw_one (hG.2.2 a _ h).2) 0 0 rfl rfl (vp_in_nI hi hn) d ?_
  rw [nI_clamp (show i < 2 ^ 31 by omega)]
  exact kk H locs ls hG hS hL
theorem gw_lald {q : gw_N} (hX : gw_ok X cc own q) (d : decode cc pc = .ok (.laload, 1)) {a n : Nat} {f : Nat → Int64} (h : σ.2 a = some (gw_J (gw_z X) n f)) {x : Int32} (i : Nat) (hx : x = nI i) (hi : i < n) (hn : n < 2147483648) (kk : gw_W X σ ce sl (pc + 1) L (.long (f i) :: st)) : gw_W X σ ce sl pc L (.int x :: .ref a :: st) := by
  subst hx
  intro H locs ls hG hS hL
  refine va_lald hX.1 hX.2.1 hX.2.2.2.2.2.1 (gw_one (hG.2.2 a _ h).2) 0 1 rfl rfl (vp_in_nI hi hn) d ?_
  rw [nI_clamp (show i < 2 ^ 31 by omega)]
  exact kk H locs ls hG hS hL
theorem gw_cald {q : gw_N} (hX : gw_ok X cc own q) (d : decode cc pc = .ok (.caload, 1)) {a n : Nat} {f : Nat → Int32} (h : σ.2 a = some (gw_Ch (gw_z X) n f)) {x : Int32} (i : Nat) (hx : x = nI i) (hi : i < n) (hn : n < 2147483648) (kk : gw_W X σ ce sl (pc + 1) L (.int (f i) :: st)) : gw_W X σ ce sl pc L (.int x :: .ref a :: st) := by
  subst hx
  intro H locs ls hG hS hL
  refine va_cald hX.1 hX.2.1 hX.2.2.2.2.2.1 (gw_one (hG.2.2 a _ h).2) 0 2 rfl rfl (vp_in_nI hi hn) d ?_
  rw [nI_clamp (show i < 2 ^ 31 by omega)]
  exact kk H locs ls hG hS hL
theorem gw_ald3 {q : gw_N} (hX : gw_ok X cc own q) (d : decode cc pc = .ok (.aaload, 1)) {a n : Nat} {f : Nat → Option Nat} (h : σ.2 a = some (gw_Q3 (gw_z X) n f)) {x : Int32} (i : Nat) (hx : x = nI i) (hi : i < n) (hn : n < 2147483648) {r : Nat} (hr : f i = some r) (kk : gw_W X σ ce sl (pc + 1) L (.ref r :: st)) : gw_W X σ ce sl pc L (.int x :: .ref a :: st) := by
  subst hx
  intro H locs ls hG hS hL
  refine va_aldq (C := nR_Se) hX.1 hX.2.1 hX.2.2.2.2.2.1 (gw_one (hG.2.2 a _ h).2) 0 3 rfl rfl (vp_in_nI hi hn) d ?_
  rw [nI_clamp (show i < 2 ^ 31 by omega), hr]
  exact kk H locs ls hG hS hL
theorem gw_ald4 {q : gw_N} (hX : gw_ok X cc own q) (d : decode cc pc = .ok (.aaload, 1)) {a n : Nat} {f : Nat → Option Nat} (h : σ.2 a = some (gw_Q4 (gw_z X) n f)) {x : Int32} (i : Nat) (hx : x = nI i) (hi : i < n) (hn : n < 2147483648) {r : Nat} (hr : f i = some r) (kk : gw_W X σ ce sl (pc + 1) L (.ref r :: st)) : gw_W X σ ce sl pc L (.int x :: .ref a :: st) := by
  subst hx
  intro H locs ls hG hS hL
  refine va_aldq (C := nR_Ra) hX.1 hX.2.1 hX.2.2.2.2.2.1 (gw_one (hG.2.2 a _ h).2) 0 4 rfl rfl (vp_in_nI hi hn) d ?_
  rw [nI_clamp (show i < 2 ^ 31 by omega), hr]
  exact kk H locs ls hG hS hL
theorem gw_alen {q : gw_N} (hX : gw_ok X cc own q) (d : decode cc pc = .ok (.arraylength, 1)) {a : Nat} {t : Nat} {cA : ClassId} {ty : FieldType} {y : vp_A} (h : σ.2 a = some (.inl (cA, y))) (ht : (gw_T (gw_z X))[t]? = some (cA, ty)) {v : Int32} (hv : nI y.1 = v) (kk : gw_W X σ ce sl (pc + 1) L (.int v :: st)) : gw_W X σ ce sl pc L (.ref a :: st) := by
  intro H locs ls hG hS hL
  exact va_alen hX.1 hX.2.1 hX.2.2.2.2.2.1 (gw_one (hG.2.2 a _ h).2) 0 t rfl ht hv d (kk H locs ls hG hS hL)
theorem gw_iast {q : gw_N} (hX : gw_ok X cc own q) (d : decode cc pc = .ok (.iastore, 1)) {a n : Nat} {f : Nat → Int32} (h : σ.2 a = some (gw_I (gw_z X) n f)) {x v : Int32} (i : Nat) (hx : x = nI i) (hi : i < n) (hn : n < 2147483648) (kk : gw_W X (gw_up σ a (gw_I (gw_z X) n (upd f i v))) ce sl (pc + 1) L st) : gw_W X σ ce sl pc L (.int v :: .int x :: .ref a :: st) := by
  subst hx
  intro H locs ls hG hS hL
  have hin : vp_in (nI i) n := vp_in_nI hi hn
  have hcl : (nI i).toNatClampNeg = i := nI_clamp (show i < 2 ^ 31 by omega)
  refine W.iast hX.1 hX.2.1 (hG.2.2 a _ h).2 ((hX.2.2.2.2.2.1.2 0 _ rfl).1 n (fun j => .int (f j))) (fun q => by cases q) (by show ¬ (nI i < 0 ∨ (arrV _ _ _).slots.size ≤ _); rw [arrV_size]; exact hin) rfl rfl d fun H1 e z oq => ?_
  refine kk H1 _ ls (gw_H_up hG h ?_ z oq) (hS.put z oq (hG.2.2 a _ h).1) hL
  show H1[a]? = some (vp_cell _ _)
  rw [e, hcl]
  rw [vp_cell_i, vp_cell_i, arrV_store]
  congr 2
  funext q
  by_cases hq : q = i
  · subst hq
    simp [updV, upd]
  · simp [updV, upd, hq]
theorem gw_cast {q : gw_N} (hX : gw_ok X cc own q) (d : decode cc pc = .ok (.castore, 1)) {a n : Nat} {f : Nat → Int32} (h : σ.2 a = some (gw_Ch (gw_z X) n f)) {x v : Int32} (i : Nat) (hx : x = nI i) (hi : i < n) (hn : n < 2147483648) (hv : narrow .char (.int v) = .int v) (kk : gw_W X (gw_up σ a (gw_Ch (gw_z X) n (upd f i v))) ce sl (pc + 1) L st) : gw_W X σ ce sl pc L (.int v :: .int x :: .ref a :: st) := by
  subst hx
  intro H locs ls hG hS hL
  have hin : vp_in (nI i) n := vp_in_nI hi hn
  have hcl : (nI i).toNatClampNeg = i := nI_clamp (show i < 2 ^ 31 by omega)
  refine W.cast hX.1 hX.2.1 (hG.2.2 a _ h).2 ((hX.2.2.2.2.2.1.2 2 _ rfl).1 n (fun j => .int (f j))) (fun q => by cases q) (by show ¬ (nI i < 0 ∨ (arrV _ _ _).slots.size ≤ _); rw [arrV_size]; exact hin) rfl rfl d fun H1 e z oq => ?_
  refine kk H1 _ ls (gw_H_up hG h ?_ z oq) (hS.put z oq (hG.2.2 a _ h).1) hL
  show H1[a]? = some (vp_cell _ _)
  rw [e, hcl, hv]
  rw [vp_cell_i, vp_cell_i, arrV_store]
  congr 2
  funext q
  by_cases hq : q = i
  · subst hq
    simp [updV, upd]
  · simp [updV, upd, hq]
theorem gw_last {q : gw_N} (hX : gw_ok X cc own q) (d : decode cc pc = .ok (.lastore, 1)) {a n : Nat} {f : Nat → Int64} (h : σ.2 a = some (gw_J (gw_z X) n f)) {x : Int32} {v : Int64} (i : Nat) (hx : x = nI i) (hi : i < n) (hn : n < 2147483648) (kk : gw_W X (gw_up σ a (gw_J (gw_z X) n (vp_updL f i v))) ce sl (pc + 1) L st) : gw_W X σ ce sl pc L (.long v :: .int x :: .ref a :: st) := by
  subst hx
  intro H locs ls hG hS hL
  have hin : vp_in (nI i) n := vp_in_nI hi hn
  have hcl : (nI i).toNatClampNeg = i := nI_clamp (show i < 2 ^ 31 by omega)
  refine W.last hX.1 hX.2.1 (hG.2.2 a _ h).2 ((hX.2.2.2.2.2.1.2 1 _ rfl).1 n (fun j => .long (f j))) (fun q => by cases q) (by show ¬ (nI i < 0 ∨ (arrV _ _ _).slots.size ≤ _); rw [arrV_size]; exact hin) rfl rfl d fun H1 e z oq => ?_
  refine kk H1 _ ls (gw_H_up hG h ?_ z oq) (hS.put z oq (hG.2.2 a _ h).1) hL
  show H1[a]? = some (vp_cell _ _)
  rw [e, hcl]
  rw [vp_cell_l, vp_cell_l, arrV_store]
  congr 2
  funext q
  by_cases hq : q = i
  · subst hq
    simp [updV, vp_updL]
  · simp [updV, vp_updL, hq]
theorem gw_newI {q : gw_N} (hX : gw_ok X cc own q) (hw : Cond.arrayClass .int ∈ gw_ws) (d : decode cc pc = .ok (.newarray .int, 2)) {x : Int32} (n : Nat) (hx : x = nI n) (hn : n < 100000) (h1 : ce + 1 ≤ q.2.2.2.1) (h2 : sl + n ≤ q.2.2.2.2) (kk : gw_W X (gw_nw σ (gw_I (gw_z X) n (fun _ => 0))) (ce + 1) (sl + n) (pc + 2) L (.ref σ.1 :: st)) : gw_W X σ ce sl pc L (.int x :: st) := by
  subst hx
  intro H locs ls hG hS hL
  refine va_newaK hX.1 hX.2.1 (atype := .int) (hX.2.2.2.2.1 _ hw) rfl d rfl (nI_pos (by omega)) (nI_clamp (by omega)) (by show n * 4 ≤ _; omega) (gw_rc hX h1) (gw_rs hX h2) rfl fun H1 cA e1 z1 o1 hAr hNm => ?_
  have hcA : cA = (gw_z X).2 0 := Option.some.inj (hNm.symm.trans (hX.2.2.2.2.2.1.2 0 _ rfl).2)
  subst hcA
  have h9 := kk H1 locs ls (gw_H_nw hG (by show H1[H.size]? = some (vp_cell _ _); rw [vp_cell_i]; exact e1) z1 o1) ⟨Nat.le_trans hS.1 (by omega), fun x g1 g2 => (o1 x (Nat.lt_of_lt_of_le g1 hS.1)).trans (hS.2.1 x g1 g2), hS.2.2⟩ hL
  rw [← hG.1] at h9
  exact h9
theorem gw_newJ {q : gw_N} (hX : gw_ok X cc own q) (hw : Cond.arrayClass .long ∈ gw_ws) (d : decode cc pc = .ok (.newarray .long, 2)) {x : Int32} (n : Nat) (hx : x = nI n) (hn : n < 100000) (h1 : ce + 1 ≤ q.2.2.2.1) (h2 : sl + n ≤ q.2.2.2.2) (kk : gw_W X (gw_nw σ (gw_J (gw_z X) n (fun _ => 0))) (ce + 1) (sl + n) (pc + 2) L (.ref σ.1 :: st)) : gw_W X σ ce sl pc L (.int x :: st) := by
  subst hx
  intro H locs ls hG hS hL
  refine va_newaK hX.1 hX.2.1 (atype := .long) (hX.2.2.2.2.1 _ hw) rfl d rfl (nI_pos (by omega)) (nI_clamp (by omega)) (by show n * 8 ≤ _; omega) (gw_rc hX h1) (gw_rs hX h2) rfl fun H1 cA e1 z1 o1 hAr hNm => ?_
  have hcA : cA = (gw_z X).2 1 := Option.some.inj (hNm.symm.trans (hX.2.2.2.2.2.1.2 1 _ rfl).2)
  subst hcA
  have h9 := kk H1 locs ls (gw_H_nw hG (by show H1[H.size]? = some (vp_cell _ _); rw [vp_cell_l]; exact e1) z1 o1) ⟨Nat.le_trans hS.1 (by omega), fun x g1 g2 => (o1 x (Nat.lt_of_lt_of_le g1 hS.1)).trans (hS.2.1 x g1 g2), hS.2.2⟩ hL
  rw [← hG.1] at h9
  exact h9
theorem gw_newC {q : gw_N} (hX : gw_ok X cc own q) (hw : Cond.arrayClass .char ∈ gw_ws) (d : decode cc pc = .ok (.newarray .char, 2)) {x : Int32} (n : Nat) (hx : x = nI n) (hn : n < 100000) (h1 : ce + 1 ≤ q.2.2.2.1) (h2 : sl + n ≤ q.2.2.2.2) (kk : gw_W X (gw_nw σ (gw_Ch (gw_z X) n (fun _ => 0))) (ce + 1) (sl + n) (pc + 2) L (.ref σ.1 :: st)) : gw_W X σ ce sl pc L (.int x :: st) := by
  subst hx
  intro H locs ls hG hS hL
  refine va_newaK hX.1 hX.2.1 (atype := .char) (hX.2.2.2.2.1 _ hw) rfl d rfl (nI_pos (by omega)) (nI_clamp (by omega)) (by show n * 2 ≤ _; omega) (gw_rc hX h1) (gw_rs hX h2) rfl fun H1 cA e1 z1 o1 hAr hNm => ?_
  have hcA : cA = (gw_z X).2 2 := Option.some.inj (hNm.symm.trans (hX.2.2.2.2.2.1.2 2 _ rfl).2)
  subst hcA
  have h9 := kk H1 locs ls (gw_H_nw hG (by show H1[H.size]? = some (vp_cell _ _); rw [vp_cell_i]; exact e1) z1 o1) ⟨Nat.le_trans hS.1 (by omega), fun x g1 g2 => (o1 x (Nat.lt_of_lt_of_le g1 hS.1)).trans (hS.2.1 x g1 g2), hS.2.2⟩ hL
  rw [← hG.1] at h9
  exact h9
theorem gw_newQ {q : gw_N} (hX : gw_ok X cc own q) {index j : Nat} {C : String} (hj : (gw_T (gw_z X))[j]? = some ((gw_z X).2 j, .object C)) (hover : va_AO C (gw_s X)) (hk : Cond.classLink own index C ∈ gw_ws) (d : decode cc pc = .ok (.anewarray index, 3)) {x : Int32} (n : Nat) (hx : x = nI n) (hn : n < 100000) (h1 : ce + 1 ≤ q.2.2.2.1) (h2 : sl + n ≤ q.2.2.2.2) (kk : gw_W X (gw_nw σ (.inl ((gw_z X).2 j, n, .inr (.inr (.inr (.inr (fun _ => none))))))) (ce + 1) (sl + n) (pc + 3) L (.ref σ.1 :: st)) : gw_W X σ ce sl pc L (.int x :: st) := by
  subst hx
  intro H locs ls hG hS hL
  have hcl : (nI n).toNatClampNeg = n := nI_clamp (by omega)
  refine W.anew hX.1 hX.2.1 hX.2.2.2.1 (hX.2.2.2.2.1 _ hk) (va_AO.use hover) rfl d rfl (nI_pos (by omega)) (by rw [hcl]; omega) (gw_rc hX h1) (by rw [hcl]; exact gw_rs hX h2) fun cA kA comp f1 f2 f3 f4 => ?_
  obtain ⟨kB, comB, b1, b2, b3, b4⟩ := (hX.2.2.2.2.2.1.2 j _ hj).2
  have hcA : cA = (gw_z X).2 j := Option.some.inj (f1.symm.trans b4)
  subst hcA
  rw [hcl]
  have h9 := kk (H.push ({ cls := (gw_z X).2 j, slots := Array.replicate n .null, vm := .none } : Cell)) locs ls (gw_H_nw hG (by show _ = some (vp_cell _ _); rw [vp_cell_q, Array.getElem?_push_size, ← arrV_new]; rfl) (by rw [Array.size_push]) (fun q hq => by rw [Array.getElem?_push, if_neg (Nat.ne_of_lt hq)])) ⟨Nat.le_trans hS.1 (by rw [Array.size_push]; omega), fun x g1 g2 => (by rw [Array.getElem?_push, if_neg (Nat.ne_of_lt (Nat.lt_of_lt_of_le g1 hS.1))]; exact hS.2.1 x g1 g2), hS.2.2⟩ hL
  rw [← hG.1] at h9
  exact h9
theorem gw_astQ {q : gw_N} (hX : gw_ok X cc own q) {j ci : Nat} {r : vw_C} (hj : (gw_T (gw_z X))[j]? = some ((gw_z X).2 j, .object r.1)) (hc : nv_cl[ci]? = some r) (d : decode cc pc = .ok (.aastore, 1)) {a n v : Nat} {vs : List Value} {f : Nat → Option Nat} (h : σ.2 a = some (.inl ((gw_z X).2 j, n, .inr (.inr (.inr (.inr f)))))) (hv : σ.2 v = some (.inr (ci, vs))) {x : Int32} (i : Nat) (hx : x = nI i) (hi : i < n) (hn : n < 2147483648) (kk : gw_W X (gw_up σ a (.inl ((gw_z X).2 j, n, .inr (.inr (.inr (.inr (va_up f i (some v)))))))) ce sl (pc + 1) L st) : gw_W X σ ce sl pc L (.ref v :: .int x :: .ref a :: st) := by
  subst hx
  intro H locs ls hG hS hL
  have hin : vp_in (nI i) n := vp_in_nI hi hn
  have hlt : (nI i).toNatClampNeg < n := Nat.not_le.mp fun q => hin (Or.inr q)
  have h0 : ¬ nI i < 0 := fun q => hin (Or.inl q)
  have hcl : (nI i).toNatClampNeg = i := nI_clamp (show i < 2 ^ 31 by omega)
  obtain ⟨r', hr', cellV, g1, g2, g3, -⟩ := (hG.2.2 v _ hv).2
  have hcls := (hX.2.2.2.2.2.1.1 ci r hc).2
  obtain ⟨kA, comp, k1, k2, k3, -⟩ := (hX.2.2.2.2.2.1.2 j _ hj).2
  have hcomp : comp = (gw_z X).1.1 ci := Option.some.inj (k3.symm.trans hcls.1)
  subst hcomp
  obtain ⟨kC, hkC, -⟩ := hcls.2
  refine W.aast hX.1 hX.2.1 (hG.2.2 a _ h).2 (fun q h => by cases h) (fun h => by cases h) k1 k2 rfl hkC ⟨h0, by show _ < (arrV _ _ _).slots.size; rw [arrV_size]; exact hlt⟩ g1 (fun q h => by rw [g3] at h; cases h) (by rw [g2]; exact hkC) (by rw [g2]; exact va_assign hcls) rfl rfl d fun H1 e z oq => ?_
  refine kk H1 _ ls (gw_H_up hG h ?_ z oq) (hS.put z oq (hG.2.2 a _ h).1) hL
  show H1[a]? = some (vp_cell _ _)
  rw [e, hcl]
  rw [vp_cell_q, vp_cell_q, arrV_store]
  congr 2
  funext q
  by_cases hq : q = i
  · subst hq
    simp [updV, va_up, va_rf]
  · simp [updV, va_up, hq]
/-- Object's constructor -/
theorem gw_obj {q : gw_N} (hX : gw_ok X cc own q) {idx : Nat} (hl : Cond.methodLink own idx objectInit ∈ gw_ws) (hi : Cond.instanceMethod objectInit ∈ gw_ws) (hc : Cond.code objectInit ⟨#[0xb1]⟩ 1 none ∈ gw_ws) (d : decode cc pc = .ok (.invokespecial idx, 3)) {a : Nat} (h1 : 1 ≤ q.2.1) (h2 : (st.map fun v => v.category).sum + 12 ≤ q.2.2.1) (kk : gw_W X σ ce sl (pc + 3) L st) : gw_W X σ ce sl pc L (.ref a :: st) := by
  intro H locs ls hG hS hL
  have hw := hX.2.2.2.2.1
  refine W.objInit hX.1 hX.2.1 hX.2.2.2.1 (hw _ hl) (hw _ hi) (hw _ hc) rfl (by rw [hX.2.2.1.1]; exact hL.1) rfl d (by rw [show X.1.2.2.2 = _ from hX.2.2.1.2.2.1]; exact h1) (by rw [show X.1.2.2.2 = _ from hX.2.2.1.2.2.1]; show 2 * 0 + (st.map fun v => v.category).sum + 12 ≤ q.2.2.1; omega) ?_
  exact kk H locs ls hG hS hL
end GWR
end
section
/-! ===== contracts and calls ===== -/
def gw_Pc (Z : gw_Z) (b0 : Nat) (σ : gw_S) (av : List Value) : Array Value → State → Prop := va_Pc av (fun U => gw_K Z U ∧ gw_H Z b0 σ U.heap)
theorem gw_blind (Z : gw_Z) (b0 : Nat) (σ : gw_S) (av : List Value) : FrameBlind (gw_Pc Z b0 σ av) := fun a U g mk h => ⟨h.1, gw_K_vm (s := U) (U := U.calling g mk a) rfl h.2.1, h.2.2⟩
def gw_Qc (Z : gw_Z) (b0 : Nat) (post : Option Value → gw_S → Prop) : Array Value → State → Outcome → State → Prop := fun _ s0 oc t => ∃ (v : Option Value) (σ' : gw_S), oc = .returned v ∧ post v σ' ∧ gw_H Z b0 σ' t.heap ∧ va_F (fun q => b0 ≤ q) s0 t
def gw_end (X : gw_C) (post : Option Value → gw_S → Prop) (mc ms : Nat) : State → Prop := MQ X.2.1.2.2.2 (gw_Qc (gw_z X) (gw_b X) post) (gw_a X) (gw_s X) mc ms (fun q => gw_b X ≤ q)
/-- the contract of a method that returns: on every heap that is σ it answers and leaves what post says -/
def gw_M (l : Launch) (y : MethodName) (cc : ByteArray) (q : gw_N) (ret : Option FieldType) (Z : gw_Z) (b0 : Nat) (σ : gw_S) (av : List Value) (post : Option Value → gw_S → Prop) : Prop :=
  Met l y (.code y cc q.1 ret :: gw_ws) { frames := q.2.1, cells := q.2.2.2.1, slots := q.2.2.2.2, locals := q.2.2.1 } (gw_Pc Z b0 σ av) (gw_Qc Z b0 post) q.2.2.2.1 q.2.2.2.2 (fun a => b0 ≤ a)
theorem gw_M_of {l : Launch} {y : MethodName} {cc : ByteArray} {q : gw_N} {ret : Option FieldType} {Z : gw_Z} {b0 : Nat} {σ : gw_S} {av : List Value} {post : Option Value → gw_S → Prop} (hy : plainName y.cls = true) (ha : (lg_sl av).length ≤ q.1)
    (body : ∀ X : gw_C, gw_ok X cc y.cls q → X.1.2.1 = l → gw_z X = Z → gw_b X = b0 → X.2.2.1.1.sig.returnType = ret → X.2.2.1.1.name = y.name → X.2.2.2.2 = gw_end X post q.2.2.2.1 q.2.2.2.2 → gw_W X σ 0 0 0 (lv_args 0 av) []) : gw_M l y cc q ret Z b0 σ av post := by
  refine Met.ofW (cc := cc) (maxL := q.1) (ret := ret) hy rfl ?_
  intro p e s m args below meth c s₁ B hml hv
  obtain ⟨rfl, hK, hG⟩ := hv
  have hts := atoms_spec (ws := .code y cc q.1 ret :: gw_ws) B.pre
  have hl := lv_entry av (n := q.1) ha
  rw [lg_entry_eq]
  exact body ((p, l, e, { frames := q.2.1, cells := q.2.2.2.1, slots := q.2.2.2.2, locals := q.2.2.1 }), (s, m, av.toArray, below), (meth, c), (Z, b0, q.1), MQ below (gw_Qc Z b0 post) av.toArray s q.2.2.2.1 q.2.2.2.2 (fun a => b0 ≤ a))
    ⟨B.exec, B.bytes, ⟨hml, rfl, rfl, B.notSynchronized⟩, findClass_of_methodNamed B.named, fun w hw => hts w (List.mem_cons_of_mem _ hw), hK⟩ rfl rfl rfl B.returns (name_of_methodNamed B.named B.method).1 rfl s.heap [] _ hG va_S.rf hl
section GWC
variable {X : gw_C} {cc : ByteArray} {own : String} {q : gw_N} {σ : gw_S} {ce sl pc : Nat} {L : List (Nat × Value)} {st : List Value} {post : Option Value → gw_S → Prop} {mc ms : Nat}
theorem gw_iret (hX : gw_ok X cc own q) (hQ : X.2.2.2.2 = gw_end X post mc ms) (hr : X.2.2.1.1.sig.returnType = some .int) (d : decode cc pc = .ok (.ireturn, 1)) {v : Int32} (h1 : ce ≤ mc) (h2 : sl ≤ ms) (hp : post (some (.int v)) σ) : gw_W X σ ce sl pc L [.int v] := by
  intro H locs ls hG hS hL
  refine W.widen h1 h2 ?_
  rw [hQ]
  exact W.iret hX.1 hX.2.1 hr (fun t ht hW => ⟨some (.int v), σ, rfl, hp, by rw [ht]; exact hG, hS.F ht⟩) hS.2.2 d hX.2.2.1.2.2.2
theorem gw_zret (hX : gw_ok X cc own q) (hQ : X.2.2.2.2 = gw_end X post mc ms) (hr : X.2.2.1.1.sig.returnType = some .boolean) (d : decode cc pc = .ok (.ireturn, 1)) {v : Int32} (hn : narrow .boolean (.int v) = .int v) (h1 : ce ≤ mc) (h2 : sl ≤ ms) (hp : post (some (.int v)) σ) : gw_W X σ ce sl pc L [.int v] := by
  intro H locs ls hG hS hL
  refine W.widen h1 h2 ?_
  rw [hQ]
  exact W.zret hX.1 hX.2.1 hr hn (fun t ht hW => ⟨some (.int v), σ, rfl, hp, by rw [ht]; exact hG, hS.F ht⟩) hS.2.2 d hX.2.2.1.2.2.2
theorem gw_lret (hX : gw_ok X cc own q) (hQ : X.2.2.2.2 = gw_end X post mc ms) (hr : X.2.2.1.1.sig.returnType = some .long) (d : decode cc pc = .ok (.lreturn, 1)) {v : Int64} (h1 : ce ≤ mc) (h2 : sl ≤ ms) (hp : post (some (.long v)) σ) : gw_W X σ ce sl pc L [.long v] := by
  intro H locs ls hG hS hL
  refine W.widen h1 h2 ?_
  rw [hQ]
  exact W.lret hX.1 hX.2.1 hr (fun t ht hW => ⟨some (.long v), σ, rfl, hp, by rw [ht]; exact hG, hS.F ht⟩) hS.2.2 d hX.2.2.1.2.2.2
theorem gw_aret (hX : gw_ok X cc own q) (hQ : X.2.2.2.2 = gw_end X post mc ms) {n : String} (hr : X.2.2.1.1.sig.returnType = some (.object n)) (d : decode cc pc = .ok (.areturn, 1)) {a : Nat} (h1 : ce ≤ mc) (h2 : sl ≤ ms) (hp : post (some (.ref a)) σ) : gw_W X σ ce sl pc L [.ref a] := by
  intro H locs ls hG hS hL
  refine W.widen h1 h2 ?_
  rw [hQ]
  exact W.aret hX.1 hX.2.1 hr (Or.inl ⟨n, rfl⟩) (Or.inr ⟨a, rfl⟩) (fun t ht hW => ⟨some (.ref a), σ, rfl, hp, by rw [ht]; exact hG, hS.F ht⟩) hS.2.2 d hX.2.2.1.2.2.2
theorem gw_vret (hX : gw_ok X cc own q) (hQ : X.2.2.2.2 = gw_end X post mc ms) (hr : X.2.2.1.1.sig.returnType = none) (d : decode cc pc = .ok (.return_, 1)) (h1 : ce ≤ mc) (h2 : sl ≤ ms) (hp : post none σ) : gw_W X σ ce sl pc L [] := by
  intro H locs ls hG hS hL
  refine W.widen h1 h2 ?_
  rw [hQ]
  exact W.vret hX.1 hX.2.1 hr (fun t ht hW => ⟨none, σ, rfl, hp, by rw [ht]; exact hG, hS.F ht⟩) hS.2.2 d hX.2.2.1.2.2.2
/-- behind a call -/
theorem gw_back {H : Heap} {locs : List Loc} {ls : Array Slot} {st0 rest : List Value} {a : Array Value} (hr : va_Run X.1.1 X.1.2.1 X.1.2.2.1 X.1.2.2.2 X.2.1.1 X.2.1.2.1 X.2.1.2.2.1 X.2.1.2.2.2 X.2.2.1.1 X.2.2.1.2 H locs ce sl mc ms (F0 (gw_m X) pc ls st0) rest (gw_Qc (gw_z X) (gw_b X) post a) (fun q => gw_b X ≤ q)) (hS : va_S (fun q => gw_b X ≤ q) (gw_s X).heap H locs) (hL : lv_has ls (gw_n X) L)
    (kk : ∀ (v : Option Value) (σ' : gw_S), post v σ' → gw_W X σ' (ce + mc) (sl + ms) (pc + 3) L (v.toList ++ rest)) : gw_w X H locs ce sl (F0 (gw_m X) pc ls st0) := by
  intro T hT X0
  obtain ⟨v, s0, t, T', L', h0, X', hL', e1, e2, ⟨v', σ', hv, hp, hG', hF⟩, hst⟩ := hr T hT X0
  cases hv
  obtain ⟨f1, f2⟩ := hF
  rw [h0, ← e1] at f1
  have f3 : ∀ q : Nat, q < H.size → ¬ gw_b X ≤ q → T'.heap[q]? = H[q]? := fun q h1 h2 => by
    rw [e1, f2 q (by rw [h0]; exact h1) h2, h0]
  obtain ⟨t2, a1, b1⟩ := kk v σ' hp T'.heap (locs ++ L') ls (by rw [e1]; exact hG') ⟨Nat.le_trans hS.1 f1, fun q g1 g2 => (f3 q (Nat.lt_of_lt_of_le g1 hS.1) g2).trans (hS.2.1 q g1 g2), fun z hz => (List.mem_append.mp hz).elim (hS.2.2 z) (hL' z)⟩ hL T' rfl X'
  exact ⟨t2, hst t2 a1, b1⟩
/-- what the tables say of a method that is called -/
def gw_cal (y : MethodName) (cc : ByteArray) (maxL : Nat) (ret : Option FieldType) (n : Nat) : Prop := Cond.code y cc maxL ret ∈ gw_ws ∧ Cond.initialized y.cls ∈ gw_ws ∧ y.cls ≠ "java/lang/invoke/MethodHandle" ∧ y.cls ≠ "java/lang/invoke/VarHandle" ∧ (parseMethodDescriptor y.desc).map (fun d => d.parameters.length) = some n
theorem gw_cal_in {y : MethodName} {cb : ByteArray} {maxL n : Nat} {ret : Option FieldType} (h : gw_cal y cb maxL ret n) : GoodIn gw_ws (.code y cb maxL ret :: gw_ws) := fun w hw => by
  rcases List.mem_cons.mp hw with rfl | h1
  · exact ⟨h.1, gw_good _ h.1⟩
  · exact ⟨h1, gw_good _ h1⟩
/-- the call's own words: a virtual one, a static one, a constructor -/
def gw_sV (own : String) (idx : Nat) (y : MethodName) (cb : ByteArray) (maxL : Nat) (ret : Option FieldType) (n ci : Nat) : Prop := gw_cal y cb maxL ret n ∧ (Cond.methodLink own idx y ∈ gw_ws ∨ ∃ host : String, Cond.methodLinkNest own idx y host ∈ gw_nl) ∧ Cond.instanceMethod y ∈ gw_ws ∧ Cond.selects y.cls y y ∈ gw_ws ∧ ∃ r : vw_C, nv_cl[ci]? = some r ∧ r.1 = y.cls
def gw_sS (own : String) (idx : Nat) (y : MethodName) (cb : ByteArray) (maxL : Nat) (ret : Option FieldType) (n : Nat) : Prop := gw_cal y cb maxL ret n ∧ (Cond.methodLink own idx y ∈ gw_ws ∨ ∃ host : String, Cond.methodLinkNest own idx y host ∈ gw_nl) ∧ Cond.static y ∈ gw_ws
def gw_sI (own : String) (idx : Nat) (y : MethodName) (cb : ByteArray) (maxL : Nat) (n : Nat) : Prop := gw_cal y cb maxL none n ∧ (Cond.methodLink own idx y ∈ gw_ws ∨ ∃ host : String, Cond.methodLinkNest own idx y host ∈ gw_nl) ∧ Cond.instanceMethod y ∈ gw_ws ∧ y.name = "<init>"
/-- room for a callee's frames, words, cells, slots -/
abbrev gw_rm (q q' : gw_N) (ce sl : Nat) : Prop := (q'.2.1 + 1 ≤ q.2.1 ∧ 8 + (q'.1 + 11) + q'.2.2.1 ≤ q.2.2.1) ∧ ce + q'.2.2.2.1 ≤ q.2.2.2.1 ∧ sl + q'.2.2.2.2 ≤ q.2.2.2.2
theorem gw_callV (hX : gw_ok X cc own q) {idx n ci : Nat} {y : MethodName} {cb : ByteArray} {q' : gw_N} {ret : Option FieldType} (k : gw_sV own idx y cb q'.1 ret n ci) {b : Nat} {As rest : List Value} {fs : List Value} (hM : gw_M X.1.2.1 y cb q' ret (gw_z X) (gw_b X) σ (.ref b :: As) post) (hb : σ.2 b = some (.inr (ci, fs))) (hn : As.length = n) (hst : st = As.reverse ++ .ref b :: rest) (hw : (rest.map fun v => v.category).sum ≤ 8) (d : decode cc pc = .ok (.invokevirtual idx, 3)) (hR : gw_rm q q' ce sl)
    (kk : ∀ (v : Option Value) (σ' : gw_S), post v σ' → gw_W X σ' (ce + q'.2.2.2.1) (sl + q'.2.2.2.2) (pc + 3) L (v.toList ++ rest)) : gw_W X σ ce sl pc L st := by
  obtain ⟨hc, hlk, hi, hs, r, hr, hry⟩ := k
  subst hst
  intro H locs ls hG hS hL
  have hws := hX.2.2.2.2.1
  have hRm : X.1.2.2.2 = _ := hX.2.2.1.2.2.1
  have hfix : CallFix X.1.1 (gw_m X) X.2.2.1.2 cc (gw_n X) (gw_s X) (gw_a X) gw_ws own := ⟨hX.1, hX.2.1, hX.2.2.1.1, hX.2.2.2.1, hws⟩
  have hpre : PreV (gw_s X) H y.cls b (gw_Pc (gw_z X) (gw_b X) σ (.ref b :: As)) As := ⟨gw_blind _ _ _ _, by rw [← hry]; exact va_recv hX.2.2.2.2.2.1 (gw_one (hG.2.2 b _ hb).2) hr (q0 := 0) rfl, fun U hU hW => ⟨rfl, gw_K_warm hW hX.2.2.2.2.2, by rw [hU]; exact hG⟩⟩
  rcases hlk with hlk | ⟨host, hlk⟩
  · exact gw_back (va_runV hfix hM ⟨callB_of n hws (gw_cal_in hc) rfl rfl rfl (hws _ hc.2.1) (hws _ hlk) hc.2.2 (by rw [hRm]; exact hR.1), hws _ hi, hws _ hs⟩ hpre rfl hn hL.1 rfl (lv_room hw) d (by rw [hRm]; exact hR.2)) hS hL kk
  · exact gw_back (va_runVN hfix hM ⟨va_cnB n hws (gw_cal_in hc) rfl rfl rfl (hX.2.2.2.2.2.2.1 _ hlk) (hws _ hc.2.1) hc.2.2 (by rw [hRm]; exact hR.1), hws _ hi, hws _ hs⟩ hpre rfl hn hL.1 rfl (lv_room hw) d (by rw [hRm]; exact hR.2)) hS hL kk
theorem gw_callS (hX : gw_ok X cc own q) {idx n : Nat} {y : MethodName} {cb : ByteArray} {q' : gw_N} {ret : Option FieldType} (k : gw_sS own idx y cb q'.1 ret n) {As rest : List Value} (hM : gw_M X.1.2.1 y cb q' ret (gw_z X) (gw_b X) σ As post) (hn : As.length = n) (hst : st = As.reverse ++ rest) (hw : (rest.map fun v => v.category).sum ≤ 8) (d : decode cc pc = .ok (.invokestatic idx, 3)) (hR : gw_rm q q' ce sl)
    (kk : ∀ (v : Option Value) (σ' : gw_S), post v σ' → gw_W X σ' (ce + q'.2.2.2.1) (sl + q'.2.2.2.2) (pc + 3) L (v.toList ++ rest)) : gw_W X σ ce sl pc L st := by
  obtain ⟨hc, hlk, hs⟩ := k
  subst hst
  intro H locs ls hG hS hL
  have hws := hX.2.2.2.2.1
  have hRm : X.1.2.2.2 = _ := hX.2.2.1.2.2.1
  have hfix : CallFix X.1.1 (gw_m X) X.2.2.1.2 cc (gw_n X) (gw_s X) (gw_a X) gw_ws own := ⟨hX.1, hX.2.1, hX.2.2.1.1, hX.2.2.2.1, hws⟩
  have hpre : PreS (gw_s X) H (gw_Pc (gw_z X) (gw_b X) σ As) As := ⟨gw_blind _ _ _ _, fun U hU hW => ⟨rfl, gw_K_warm hW hX.2.2.2.2.2, by rw [hU]; exact hG⟩⟩
  rcases hlk with hlk | ⟨host, hlk⟩
  · exact gw_back (va_runS hfix hM ⟨callB_of n hws (gw_cal_in hc) rfl rfl rfl (hws _ hc.2.1) (hws _ hlk) hc.2.2 (by rw [hRm]; exact hR.1), hws _ hs⟩ hpre rfl hn hL.1 rfl (lv_room hw) d (by rw [hRm]; exact hR.2)) hS hL kk
  · exact gw_back (va_runSN hfix hM ⟨va_cnB n hws (gw_cal_in hc) rfl rfl rfl (hX.2.2.2.2.2.2.1 _ hlk) (hws _ hc.2.1) hc.2.2 (by rw [hRm]; exact hR.1), hws _ hs, trivial⟩ hpre rfl hn hL.1 rfl (lv_room hw) d (by rw [hRm]; exact hR.2)) hS hL kk
theorem gw_callI (hX : gw_ok X cc own q) {idx n : Nat} {y : MethodName} {cb : ByteArray} {q' : gw_N} (k : gw_sI own idx y cb q'.1 n) {b : Nat} {As rest : List Value} (hM : gw_M X.1.2.1 y cb q' none (gw_z X) (gw_b X) σ (.ref b :: As) post) (hn : As.length = n) (hst : st = As.reverse ++ .ref b :: rest) (hw : (rest.map fun v => v.category).sum ≤ 8) (d : decode cc pc = .ok (.invokespecial idx, 3)) (hR : gw_rm q q' ce sl)
    (kk : ∀ (v : Option Value) (σ' : gw_S), post v σ' → gw_W X σ' (ce + q'.2.2.2.1) (sl + q'.2.2.2.2) (pc + 3) L (v.toList ++ rest)) : gw_W X σ ce sl pc L st := by
  obtain ⟨hc, hlk, hi, hy1⟩ := k
  subst hst
  intro H locs ls hG hS hL
  have hws := hX.2.2.2.2.1
  have hRm : X.1.2.2.2 = _ := hX.2.2.1.2.2.1
  have hfix : CallFix X.1.1 (gw_m X) X.2.2.1.2 cc (gw_n X) (gw_s X) (gw_a X) gw_ws own := ⟨hX.1, hX.2.1, hX.2.2.1.1, hX.2.2.2.1, hws⟩
  have hpre : PreS (gw_s X) H (gw_Pc (gw_z X) (gw_b X) σ (.ref b :: As)) (.ref b :: As) := ⟨gw_blind _ _ _ _, fun U hU hW => ⟨rfl, gw_K_warm hW hX.2.2.2.2.2, by rw [hU]; exact hG⟩⟩
  rcases hlk with hlk | ⟨host, hlk⟩
  · exact gw_back (va_runI hfix hM ⟨callB_of n hws (gw_cal_in hc) rfl rfl rfl (hws _ hc.2.1) (hws _ hlk) hc.2.2 (by rw [hRm]; exact hR.1), hy1, hws _ hi⟩ hpre rfl hn hL.1 rfl (lv_room hw) d (by rw [hRm]; exact hR.2)) hS hL kk
  · exact gw_back (va_runIN hfix hM ⟨va_cnB n hws (gw_cal_in hc) rfl rfl rfl (hX.2.2.2.2.2.2.1 _ hlk) (hws _ hc.2.1) hc.2.2 (by rw [hRm]; exact hR.1), hy1, hws _ hi⟩ hpre rfl hn hL.1 rfl (lv_room hw) d (by rw [hRm]; exact hR.2)) hS hL kk
end GWC
end
section
/-! ===== methods that may throw (no stack traces are kept) ===== -/
/-- a static of the class C that nobody here writes holds a reference or null -/
def gx_S (C n d : String) (b0 : Nat) (U : State) : Prop := ∃ (c : ClassId) (k : Class) (i : Nat) (f : Field) (a : Nat) (cell : Cell), U.vm.findClass C = some c ∧ U.fieldFound? C n d = some (c, k, i, f) ∧ f.isStatic = true ∧ k.statics = some a ∧ U.heap[a]? = some cell ∧ cell.vm.isStatics = true ∧ cell.cls = c ∧ f.slot < cell.slots.size ∧ k.staticTypes[f.slot]? = some f.type ∧ a < b0 ∧ (cell.slots[f.slot]? = some .null ∨ ∃ r : Nat, cell.slots[f.slot]? = some (.ref r))
theorem gx_S_mv {C n d : String} {b0 : Nat} {u U : State} (hvm : u.vm.Alike U.vm) (hh : ∀ a, a < b0 → U.heap[a]? = u.heap[a]?) (h : gx_S C n d b0 u) : gx_S C n d b0 U := by
  obtain ⟨c, k, i, f, a, cell, h1, h2, h3, h4, h5, h6, h7, h8, h9, h10, h11⟩ := h
  obtain ⟨k', hi', he⟩ := State.fieldFound?_setVm hvm h2
  exact ⟨c, k', i, f, a, cell, by rw [hvm.findClass]; exact h1, hi', h3, by rw [he]; exact h4, by rw [hh a h10]; exact h5, h6, h7, h8, by rw [he]; exact h9, h10, h11⟩
theorem gx_S_lays {C n d : String} {b0 : Nat} {U : State} (h : gx_S C n d b0 U) (args : Array Value) : (Cond.laysStatic C n d).before args U = true := by
  obtain ⟨c, k, i, f, a, cell, h1, h2, h3, h4, h5, h6, h7, h8, h9, h10, h11⟩ := h
  simp [Cond.before, Cond.holds, Cond.value, h1, h2, h3, h4, h5, h6, h7, h8, h9]
theorem gx_S_ref {C n d : String} {b0 : Nat} {U : State} (h : gx_S C n d b0 U) (args : Array Value) : (Cond.isRef (.static C n d)).before args U = true := by
  obtain ⟨c, k, i, f, a, cell, h1, h2, h3, h4, h5, h6, h7, h8, h9, h10, h11⟩ := h
  have he : (Term.static C n d).eval args U none [] U = cell.slots[f.slot]? := by
    simp [Term.eval, State.fieldNamed?, h2, h3, h4, h5, h6]
  rcases h11 with h11 | ⟨r, h11⟩
  · rw [h11] at he
    simp [Cond.before, Cond.holds, Cond.value, he]
  · rw [h11] at he
    simp [Cond.before, Cond.holds, Cond.value, he]
theorem gx_S_of {C n d : String} {args : Array Value} {s : State} (hl : (Cond.laysStatic C n d).before args s = true) (hr : (Cond.isRef (.static C n d)).before args s = true) : gx_S C n d s.heap.size s := by
  obtain ⟨c, k, i, f, a, cell, h1, h2, h3, h4, h5, h6, h7, h8, h9⟩ := Cond.laysStatic_spec hl
  obtain ⟨u, hu⟩ := Cond.staticRefV h2 h3 h4 h5 h6 hr
  refine ⟨c, k, i, f, a, cell, h1, h2, h3, h4, h5, h6, h7, h8, h9, (Array.getElem?_eq_some_iff.mp h5).1, ?_⟩
  obtain ⟨v, hv⟩ := u
  cases v with
  | null => exact Or.inl hu
  | ref r => exact Or.inr ⟨r, hu⟩
  | _ => simp [Value.isRef] at hv
def gx_isT (w : Cond) : Bool := match w with
  | .castable _ _ => true
  | .declares _ => true
  | _ => false
def gx_tl : List Cond := tables_1.filter gx_isT
def gx_sl : List (Nat × String) := [(67, "the text is no corpus"), (92, "the text is no speech"), (173, "no such sentence"), (101, "the speech is not in the corpus"), (188, "no such word"), (115, "no such feature"), (120, "passes are 1 to 6"), (124, "there is no corpus"), (131, "no such weight")]
/-- what is known where a method begins that may throw -/
def gx_K (b0 : Nat) (U : State) : Prop := gx_S Bundle.tN "UNASSIGNED_STACK" Bundle.steD b0 U ∧ gx_S Bundle.tN "SUPPRESSED_SENTINEL" Bundle.listD b0 U ∧ (∀ w ∈ gx_tl, va_Nw w U) ∧ (∀ q ∈ gx_sl, (∃ sa : Nat, vk_R "LabelLearner" q.1 q.2 sa U)) ∧ ∀ c c', U.vm.findClass "java/lang/IllegalStateException" = some c → U.vm.findClass "java/lang/IllegalArgumentException" = some c' → U.vm.assignable c c' = false
theorem gx_K_mv {b0 : Nat} {s U : State} (hW : s.WarmedH U.vm) (hh : ∀ a, a < b0 → U.heap[a]? = s.heap[a]?) (h : gx_K b0 s) : gx_K b0 U := by
  refine ⟨gx_S_mv hW.alike hh h.1, gx_S_mv hW.alike hh h.2.1, fun w hw => ?_, fun q hq => ?_, fun c c' h1 h2 => ?_⟩
  · have h1 := h.2.2.1 w hw
    have h2 : gx_isT w = true := (List.mem_filter.mp hw).2
    cases w with
    | castable a b => exact va_Nw.warmC hW h1
    | declares x => exact va_Nw.warmD hW h1
    | _ => cases h2
  · obtain ⟨sa, h1⟩ := h.2.2.2.1 q hq
    exact ⟨sa, vk_R.warm hW h1⟩
  · rw [hW.alike.findClass] at h1 h2
    rw [hW.alike.assignable]
    exact h.2.2.2.2 c c' h1 h2
/-! contracts -/
def gx_Pc (Z : gw_Z) (b0 : Nat) (σ : gw_S) (av : List Value) : Array Value → State → Prop := va_Pc av (fun U => gw_K Z U ∧ gw_H Z b0 σ U.heap ∧ gx_K b0 U)
theorem gx_blind (Z : gw_Z) (b0 : Nat) (σ : gw_S) (av : List Value) : FrameBlind (gx_Pc Z b0 σ av) := fun a U g mk h => ⟨h.1, gw_K_vm (s := U) (U := U.calling g mk a) rfl h.2.1, h.2.2.1, gx_K_mv (s := U) (U := U.calling g mk a) (State.WarmedH.refl U) (fun _ _ => rfl) h.2.2.2⟩
def gx_Q (Z : gw_Z) (b0 : Nat) (post : Option Value → gw_S → Prop) (px : String → gw_S → Prop) (mc ms : Nat) : Array Value → State → Outcome → State → Prop := fun a s0 o t =>
  (gw_Qc Z b0 post a s0 o t ∧ ∃ L, FrameEnd s0 o t L mc ms ∧ ∀ z ∈ L, b0 ≤ z.base) ∨
  ∃ (q : Addr) (E : String) (ce : Cell) (L : List Loc) (σ' : gw_S), o = .threw q ∧ px E σ' ∧ gw_H Z b0 σ' t.heap ∧ va_F (fun z => b0 ≤ z) s0 t ∧ t.heap[q]? = some ce ∧ ce.vm = .none ∧ s0.vm.findClass E = some ce.cls ∧ s0.WarmedH t.vm ∧ s0.sameButNew ({ t with vm := s0.vm } : State) L mc ms ∧ ∀ z ∈ L, b0 ≤ z.base
def gx_M (l : Launch) (y : MethodName) (cc : ByteArray) (q : gw_N) (ret : Option FieldType) (Z : gw_Z) (b0 : Nat) (σ : gw_S) (av : List Value) (post : Option Value → gw_S → Prop) (px : String → gw_S → Prop) : Prop :=
  MetFree l y (headSpec (.code y cc q.1 ret :: gw_ws) { frames := q.2.1, cells := q.2.2.2.1, slots := q.2.2.2.2, locals := q.2.2.1 }) (gx_Pc Z b0 σ av) (fun _ _ _ _ _ => True) (gx_Q Z b0 post px q.2.2.2.1 q.2.2.2.2)
def gx_end (X : gw_C) (post : Option Value → gw_S → Prop) (px : String → gw_S → Prop) (mc ms : Nat) : State → Prop := fun t => ∃ o, t.status = .running ∧ Ended t X.2.1.2.2.2 o ∧ gx_Q (gw_z X) (gw_b X) post px mc ms (gw_a X) (gw_s X) o t
/-- what a walk of such a method has besides -/
def gx_ok (X : gw_C) : Prop := gx_K (gw_b X) (gw_s X) ∧ X.1.2.1.stackTraces = false ∧ (∀ x ∈ X.2.2.1.2.exceptionTable.toList, False) ∧ gw_b X ≤ (gw_s X).heap.size
theorem gx_M_of {l : Launch} {y : MethodName} {cc : ByteArray} {q : gw_N} {ret : Option FieldType} {Z : gw_Z} {b0 : Nat} {σ : gw_S} {av : List Value} {post : Option Value → gw_S → Prop} {px : String → gw_S → Prop} (hy : plainName y.cls = true) (ha : (lg_sl av).length ≤ q.1) (hl0 : l.stackTraces = false)
    (body : ∀ X : gw_C, gw_ok X cc y.cls q → X.1.2.1 = l → gw_z X = Z → gw_b X = b0 → X.2.2.1.1.sig.returnType = ret → X.2.2.1.1.name = y.name → X.2.2.2.2 = gx_end X post px q.2.2.2.1 q.2.2.2.2 → gx_ok X → gw_W X σ 0 0 0 (lv_args 0 av) []) : gx_M l y cc q ret Z b0 σ av post px := by
  refine MetFree.of_bodyS (code := cc) (maxLocals := q.1) (ret := ret) hy ?_ ?_
  · intro args s m h hn
    obtain ⟨meth, c, h1, h2, h3, h4, h5, h6, -, -⟩ := Cond.code_spec hn (atoms_spec (ws := .code y cc q.1 ret :: gw_ws) h _ List.mem_cons_self)
    exact ⟨meth, c, h1, h2, h3, h4, h5, h6⟩
  · intro p e s m args below meth c s₁ B hml hv _
    obtain ⟨rfl, hK, hG, hK9⟩ := hv
    have hts := atoms_spec (ws := .code y cc q.1 ret :: gw_ws) B.pre
    have hl := lv_entry av (n := q.1) ha
    have hh0 : s₁.heap = s.heap := by rw [B.state]; rfl
    have htab : ∀ x ∈ c.exceptionTable.toList, False := by
      obtain ⟨meth9, c9, h1, h2, -, -, -, -, h7, -⟩ := Cond.code_spec B.named (hts _ List.mem_cons_self)
      cases Option.some.inj (h1.symm.trans B.method)
      cases Option.some.inj (h2.symm.trans (Stand.of_body B).code)
      intro x hx
      rw [Array.isEmpty_iff.mp h7] at hx
      cases hx
    have h9 := body ((p, l, e, { frames := q.2.1, cells := q.2.2.2.1, slots := q.2.2.2.2, locals := q.2.2.1 }), (s, m, av.toArray, below), (meth, c), (Z, b0, q.1), fun t => ∃ o, t.status = .running ∧ Ended t below o ∧ gx_Q Z b0 post px q.2.2.2.1 q.2.2.2.2 av.toArray s o t)
      ⟨B.exec, B.bytes, ⟨hml, rfl, rfl, B.notSynchronized⟩, findClass_of_methodNamed B.named, fun w hw => hts w (List.mem_cons_of_mem _ hw), hK⟩ rfl rfl rfl B.returns (name_of_methodNamed B.named B.method).1 rfl ⟨hK9, hl0, htab, by show b0 ≤ s.heap.size; rw [hG.1]; exact hG.2.1.1⟩ s.heap [] _ hG va_S.rf hl
    rw [← lg_entry_eq] at h9
    obtain ⟨t, a1, o, b1, b2, b3⟩ := h9 s₁ hh0 (Stand.of_body B)
    exact ⟨t, o, a1, b1, b2, b3⟩
section GXR
variable {X : gw_C} {cc : ByteArray} {own : String} {q : gw_N} {σ : gw_S} {ce sl pc : Nat} {L : List (Nat × Value)} {st : List Value} {post : Option Value → gw_S → Prop} {px : String → gw_S → Prop} {mc ms : Nat}
/-- it is enough to reach what says more -/
theorem gx_mono {Q1 : State → Prop} (h : ∀ t, Q1 t → X.2.2.2.2 t) (k : gw_W (X.1, X.2.1, X.2.2.1, X.2.2.2.1, Q1) σ ce sl pc L st) : gw_W X σ ce sl pc L st := by
  intro H locs ls hG hS hL T hT X0
  obtain ⟨t, a1, b1⟩ := k H locs ls hG hS hL T hT X0
  exact ⟨t, a1, h t b1⟩
theorem gx_ret (hQ : X.2.2.2.2 = gx_end X post px mc ms) (k : gw_W (X.1, X.2.1, X.2.2.1, X.2.2.2.1, gw_end X post mc ms) σ ce sl pc L st) : gw_W X σ ce sl pc L st := by
  refine gx_mono (Q1 := gw_end X post mc ms) (fun t h => ?_) k
  rw [hQ]
  obtain ⟨o, b1, b2, b3, b4⟩ := h
  exact ⟨o, b1, b2, Or.inl ⟨b3, b4⟩⟩
theorem gx_okQ {Q1 : State → Prop} (hX : gw_ok X cc own q) : gw_ok (X.1, X.2.1, X.2.2.1, X.2.2.2.1, Q1) cc own q := hX
theorem gx_iret (hX : gw_ok X cc own q) (hQ : X.2.2.2.2 = gx_end X post px mc ms) (hr : X.2.2.1.1.sig.returnType = some .int) (d : decode cc pc = .ok (.ireturn, 1)) {v : Int32} (h1 : ce ≤ mc) (h2 : sl ≤ ms) (hp : post (some (.int v)) σ) : gw_W X σ ce sl pc L [.int v] :=
  gx_ret hQ (gw_iret (X := (X.1, X.2.1, X.2.2.1, X.2.2.2.1, gw_end X post mc ms)) hX rfl hr d h1 h2 hp)
theorem gx_lret (hX : gw_ok X cc own q) (hQ : X.2.2.2.2 = gx_end X post px mc ms) (hr : X.2.2.1.1.sig.returnType = some .long) (d : decode cc pc = .ok (.lreturn, 1)) {v : Int64} (h1 : ce ≤ mc) (h2 : sl ≤ ms) (hp : post (some (.long v)) σ) : gw_W X σ ce sl pc L [.long v] :=
  gx_ret hQ (gw_lret (X := (X.1, X.2.1, X.2.2.1, X.2.2.2.1, gw_end X post mc ms)) hX rfl hr d h1 h2 hp)
theorem gx_aret (hX : gw_ok X cc own q) (hQ : X.2.2.2.2 = gx_end X post px mc ms) {n : String} (hr : X.2.2.1.1.sig.returnType = some (.object n)) (d : decode cc pc = .ok (.areturn, 1)) {a : Nat} (h1 : ce ≤ mc) (h2 : sl ≤ ms) (hp : post (some (.ref a)) σ) : gw_W X σ ce sl pc L [.ref a] :=
  gx_ret hQ (gw_aret (X := (X.1, X.2.1, X.2.2.1, X.2.2.2.1, gw_end X post mc ms)) hX rfl hr d h1 h2 hp)
theorem gx_vret (hX : gw_ok X cc own q) (hQ : X.2.2.2.2 = gx_end X post px mc ms) (hr : X.2.2.1.1.sig.returnType = none) (d : decode cc pc = .ok (.return_, 1)) (h1 : ce ≤ mc) (h2 : sl ≤ ms) (hp : post none σ) : gw_W X σ ce sl pc L [] :=
  gx_ret hQ (gw_vret (X := (X.1, X.2.1, X.2.2.1, X.2.2.2.1, gw_end X post mc ms)) hX rfl hr d h1 h2 hp)
end GXR
end
section
/-! ===== a call that returns or throws; a throw ===== -/
section GXB
variable {p : Program} {l : Launch} {e : Env} {R : Room} {s : State} {m : MethodId} {args : Array Value} {below : List Frame} {meth : Method} {c : Code} {locs : List Loc} {cells slots : Nat}
/-- the callee's contract, used by a caller that stands at U with the arguments taken off its stack -/
theorem gx_run {y : MethodName} {cb : ByteArray} {q : gw_N} {ret : Option FieldType} {Z : gw_Z} {b0 : Nat} {σ : gw_S} {av : List Value} {post : Option Value → gw_S → Prop} {px : String → gw_S → Prop} (hM : gx_M l y cb q ret Z b0 σ av post px)
    {U : State} (X : Stand p l e R s m args below meth c U locs cells slots) {g : JFrame} (hg : g.method = m) (hsize : g.locals.size = c.maxLocals) {ig : Instr} (hdg : decode c.code g.pc = .ok (ig, 3)) (hw : 2 * g.monitorRoom + (g.stack.map fun v => v.category).sum ≤ 8) {mk : MethodId} (hn : U.methodNamed? y = some mk)
    (hws : ∀ w ∈ (Cond.code y cb q.1 ret :: gw_ws), w.before av.toArray U = true) (hini : (Cond.initialized y.cls).before av.toArray U = true) (hPc : gx_Pc Z b0 σ av av.toArray U) (hR : q.2.1 + 1 ≤ R.frames ∧ 8 + (q.1 + 11) + q.2.2.1 ≤ R.locals) (hc : cells + q.2.2.2.1 ≤ R.cells ∧ slots + q.2.2.2.2 ≤ R.slots) :
    (∃ (v : Option Value) (σ' : gw_S) (V : State) (L' : List Loc), Stand p l e R s m args below meth c V (locs ++ L') (cells + q.2.2.2.1) (slots + q.2.2.2.2) ∧ (∀ z ∈ L', b0 ≤ z.base) ∧ post v σ' ∧ gw_H Z b0 σ' V.heap ∧ U.heap.size ≤ V.heap.size ∧ (∀ a : Nat, a < U.heap.size → ¬ b0 ≤ a → V.heap[a]? = U.heap[a]?) ∧
      Steps p.tables e below (doInvoke e (U.setTop g) [] mk av.toArray).1 (V.setTop { g with pc := g.pc + 3, stack := v.toList ++ g.stack })) ∨
    (∃ (x : Addr) (E : String) (cx : Cell) (σ' : gw_S) (V : State) (L' : List Loc), Stand p l e R s m args below meth c V (locs ++ L') (cells + q.2.2.2.1) (slots + q.2.2.2.2) ∧ (∀ z ∈ L', b0 ≤ z.base) ∧ px E σ' ∧ gw_H Z b0 σ' V.heap ∧ U.heap.size ≤ V.heap.size ∧ (∀ a : Nat, a < U.heap.size → ¬ b0 ≤ a → V.heap[a]? = U.heap[a]?) ∧ V.heap[x]? = some cx ∧ cx.vm = .none ∧ U.vm.findClass E = some cx.cls ∧
      Steps p.tables e below (doInvoke e (U.setTop g) [] mk av.toArray).1 ((V.setTop g).pushFrame (.throwing x))) := by
  have h1 : (headSpec (.code y cb q.1 ret :: gw_ws) { frames := q.2.1, cells := q.2.2.2.1, slots := q.2.2.2.2, locals := q.2.2.1 }).pre.before av.toArray U = true := atoms_intro hws
  obtain ⟨methY, cY, hmY, hcY, -, hlY, -, -, -, -⟩ := Cond.code_spec hn (hws _ List.mem_cons_self)
  obtain ⟨kY, hkY, -⟩ := className_of_methodNamed hn
  have hiY : kY.init = .initialized := Cond.initialized_spec (findClass_of_methodNamed hn) hkY hini
  have hA : At U g.method c below := by rw [hg]; exact X.here
  have happ := Spec.appliesLoose_calling (g := g) (args := av.toArray) hA hdg hn hkY hiY (X.room_calling (g := g) (R' := (headSpec (.code y cb q.1 ret :: gw_ws) { frames := q.2.1, cells := q.2.2.2.1, slots := q.2.2.2.2, locals := q.2.2.1 }).room) hsize hmY hcY hR.1 (by rw [hlY]; exact Nat.le_trans (Nat.add_le_add_right (Nat.add_le_add_right hw _) _) hR.2) hc.1 hc.2) h1
  obtain ⟨mid, hmid⟩ := hA.above
  have hfr : (U.setTop g).frames = (.java g :: mid) ++ below := by rw [State.frames_setTop' g hA.top, hmid]; rfl
  obtain ⟨o, t, hsteps, -, hend, hq⟩ := Steps.callFree hM p X.admits X.cas X.clock (acts := []) hfr happ (gx_blind Z b0 σ av _ _ g mk hPc) trivial
  have hq : gx_Q Z b0 post px q.2.2.2.1 q.2.2.2.2 av.toArray (U.calling g mk av.toArray) o t := hq
  rw [State.frames_setTop' g hA.top] at hend
  obtain ⟨g₀, hg0⟩ := Option.isSome_iff_exists.mp hA.top
  obtain ⟨r, hr⟩ := State.topJava?_eq_some.mp hg0
  generalize hVe : ({ U with heap := t.heap, slotsUsed := t.slotsUsed } : State).setVm t.vm = V
  have hr' : V.frames = .java g₀ :: r := by rw [← hVe]; exact hr
  have hVh : V.heap = t.heap := by rw [← hVe]; rfl
  have back : ∀ L' : List Loc, U.WarmedH t.vm → (U.calling g mk av.toArray).sameButNew ({ t with vm := (U.calling g mk av.toArray).vm } : State) L' q.2.2.2.1 q.2.2.2.2 →
      Stand p l e R s m args below meth c V (locs ++ L') (cells + q.2.2.2.1) (slots + q.2.2.2.2) ∧ t = V.setFrames t.frames := by
    intro L' hW hsm
    obtain ⟨e2, q2, q3, q4, q5, q6⟩ := hsm
    have e3 : t = ({ (U.calling g mk av.toArray).setFrames t.frames with heap := t.heap, slotsUsed := t.slotsUsed } : State).setVm t.vm := by
      have h9 : t = ({ t with vm := (U.calling g mk av.toArray).vm } : State).setVm t.vm := rfl
      rw [e2] at h9
      exact h9
    have hsame : U.sameButNew ({ U with heap := t.heap, slotsUsed := t.slotsUsed } : State) L' q.2.2.2.1 q.2.2.2.2 := by
      refine ⟨?_, q2, q3, q4, q5, q6⟩
      obtain ⟨th, hth, -⟩ := State.frames_cons hr
      show ({ U with heap := t.heap, slotsUsed := t.slotsUsed } : State) = { U.setFrames U.frames with heap := t.heap, slotsUsed := t.slotsUsed }
      rw [State.setFrames_self hth]
    constructor
    · rw [← hVe]
      exact ⟨X.admits, X.cas, X.clock, X.frames, X.room, X.hears, X.method, X.code, (X.here.setHeapUsed t.heap t.slotsUsed).setVm hW.alike, X.tail, State.WarmedH.trans X.warmed hW, X.limits, X.bytes, X.same.trans (hsame.setVm s.vm)⟩
    · refine e3.trans ?_
      rw [State.calling_eq hA.top, State.setFrames_setFrames, ← hVe]
      rfl
  rcases hq with ⟨⟨v, σ', rfl, hp, hG, hF⟩, L', ⟨-, hW, hsm⟩, hL'⟩ | ⟨x, E, cx, L', σ', rfl, hp, hG, hF, hcx, hcv, hcl, hW, hsm, hL'⟩
  · obtain ⟨XV, ht⟩ := back L' hW hsm
    refine Or.inl ⟨v, σ', V, L', XV, hL', hp, by rw [hVh]; exact hG, by rw [hVh]; exact hF.1, fun a h1 h2 => by rw [hVh]; exact hF.2 a h1 h2, ?_⟩
    obtain ⟨c₂, i₂, n₂, hc₂, hd₂, hf₂⟩ := hend
    have hcc : c₂ = c := by
      have h9 : t.code? g.method = U.code? g.method := by
        rw [State.code?_eq, State.code?_eq, hW.alike.method?]
        rfl
      exact Option.some.inj (hc₂.symm.trans (h9.trans hA.code))
    subst hcc
    have hn2 : n₂ = 3 := by rw [hdg] at hd₂; cases hd₂; rfl
    subst hn2
    have hfin : t = V.setTop { g with pc := g.pc + 3, stack := v.toList ++ g.stack } := by
      rw [ht, hf₂, State.setTop_of_frames _ hr', hr]
      rfl
    rw [← hfin]
    exact hsteps
  · obtain ⟨XV, ht⟩ := back L' hW hsm
    refine Or.inr ⟨x, E, cx, σ', V, L', XV, hL', hp, by rw [hVh]; exact hG, by rw [hVh]; exact hF.1, fun a h1 h2 => by rw [hVh]; exact hF.2 a h1 h2, by rw [hVh]; exact hcx, hcv, hcl, ?_⟩
    have hf₂ : t.frames = .throwing x :: .java g :: U.frames.tail := hend
    have hfin : t = (V.setTop g).pushFrame (.throwing x) := by
      rw [ht, hf₂, State.pushFrame, State.frames_setTop _ hr', State.setTop_of_frames _ hr', State.setFrames_setFrames, hr]
      rfl
    rw [← hfin]
    exact hsteps
end GXB
section GXC
variable {X : gw_C} {cc : ByteArray} {own : String} {q : gw_N} {σ : gw_S} {ce sl pc : Nat} {L : List (Nat × Value)} {st : List Value} {post : Option Value → gw_S → Prop} {px : String → gw_S → Prop} {mc ms : Nat}
/-- an exception of the class E lies over the frame -/
def gx_X (X : gw_C) (σ : gw_S) (ce sl pc : Nat) (L : List (Nat × Value)) (st : List Value) (E : String) : Prop :=
  ∀ (H : Heap) (locs : List Loc) (ls : Array Slot), gw_H (gw_z X) (gw_b X) σ H → va_S (fun q => gw_b X ≤ q) (gw_s X).heap H locs → lv_has ls (gw_n X) L → ∀ (x : Nat) (cx : Cell), H[x]? = some cx → cx.vm = .none → (gw_s X).vm.findClass E = some cx.cls →
    ∀ T : State, T.heap = H → Stand X.1.1 X.1.2.1 X.1.2.2.1 X.1.2.2.2 X.2.1.1 X.2.1.2.1 X.2.1.2.2.1 X.2.1.2.2.2 X.2.2.1.1 X.2.2.1.2 T locs ce sl → ∃ t, Steps X.1.1.tables X.1.2.2.1 X.2.1.2.2.2 ((T.setTop (F0 (gw_m X) pc ls st)).pushFrame (.throwing x)) t ∧ X.2.2.2.2 t
/-- it goes on to the caller -/
theorem gx_out (hX : gw_ok X cc own q) (hE : gx_ok X) (hQ : X.2.2.2.2 = gx_end X post px mc ms) {E : String} (h1 : ce ≤ mc) (h2 : sl ≤ ms) (hp : px E σ) : gx_X X σ ce sl pc L st E := by
  intro H locs ls hG hS hL x cx hx hv hcl T hT X0
  obtain ⟨st1, hrun, hend, hW, hsm⟩ := X0.leaveThrown x (g := F0 (gw_m X) pc ls st) rfl rfl rfl (fun z hz => (hE.2.2.1 z hz).elim) hX.2.2.1.2.2.2
  have hcell9 : (T.setFrames (.throwing x :: X.2.1.2.2.2)).heap[x]? = some cx := by
    show T.heap[x]? = some cx
    rw [hT]; exact hx
  refine ⟨_, st1, ?_⟩
  rw [hQ]
  refine ⟨.threw x, hrun, hend, Or.inr ⟨x, E, cx, locs, σ, rfl, hp, ?_, ?_, hcell9, hv, hcl, hW, hsm.mono h1 h2, hS.2.2⟩⟩
  · show gw_H _ _ σ T.heap
    rw [hT]; exact hG
  · exact ⟨by show _ ≤ T.heap.size; rw [hT]; exact hS.1, fun a g1 g2 => by show T.heap[a]? = _; rw [hT]; exact hS.2.1 a g1 g2⟩
theorem gx_env {H : Heap} {locs : List Loc} {U : State} (hK : gx_K (gw_b X) (gw_s X)) (hb0 : gw_b X ≤ (gw_s X).heap.size) (hS : va_S (fun q => gw_b X ≤ q) (gw_s X).heap H locs) (hU : U.heap = H) (hW : (gw_s X).WarmedH U.vm) : gx_K (gw_b X) U :=
  gx_K_mv hW (fun a ha => by rw [hU]; exact hS.2.1 a (by omega) (by omega)) hK
theorem gx_callV (hX : gw_ok X cc own q) (hK : gx_K (gw_b X) (gw_s X)) (hb0 : gw_b X ≤ (gw_s X).heap.size) {idx n ci : Nat} {y : MethodName} {cb : ByteArray} {q' : gw_N} {ret : Option FieldType} (k : gw_sV own idx y cb q'.1 ret n ci) (hlk : Cond.methodLink own idx y ∈ gw_ws) {b : Nat} {As rest : List Value} {fs : List Value} (hM : gx_M X.1.2.1 y cb q' ret (gw_z X) (gw_b X) σ (.ref b :: As) post px) (hb : σ.2 b = some (.inr (ci, fs))) (hn : As.length = n) (hst : st = As.reverse ++ .ref b :: rest) (hw : (rest.map fun v => v.category).sum ≤ 8) (d : decode cc pc = .ok (.invokevirtual idx, 3)) (hR : gw_rm q q' ce sl)
    (kx : ∀ (E : String) (σ' : gw_S), px E σ' → gx_X X σ' (ce + q'.2.2.2.1) (sl + q'.2.2.2.2) pc L rest E)
    (kk : ∀ (v : Option Value) (σ' : gw_S), post v σ' → gw_W X σ' (ce + q'.2.2.2.1) (sl + q'.2.2.2.2) (pc + 3) L (v.toList ++ rest)) : gw_W X σ ce sl pc L st := by
  obtain ⟨hc, -, hi, hs, r, hr, hry⟩ := k
  subst hst
  intro H locs ls hG hS hL T hT X0
  have hws := hX.2.2.2.2.1
  have hRm : X.1.2.2.2 = _ := hX.2.2.1.2.2.1
  obtain ⟨cellB, hcB, hoB, hclB⟩ := va_recv hX.2.2.2.2.2.1 (gw_one (hG.2.2 b _ hb).2) hr (q0 := 0) rfl
  rw [hry] at hclB
  obtain ⟨mk, methM, hnamed, hmethM, hstM, habM⟩ := Cond.instanceMethod_spec (hws _ hi)
  obtain ⟨methM', cM, hmethM', -, -, -, -, -, -, hsigM⟩ := Cond.code_spec hnamed (hws _ hc.1)
  cases hmethM.symm.trans hmethM'
  obtain ⟨c2, r2, m2, q1, q2, q3, q4, kP, hkP, hkPi⟩ := Cond.selects_spec (hws _ hs)
  cases hclB.symm.trans q1
  cases (State.methodFound?_of_named hnamed ⟨hc.2.2.1, hc.2.2.2.1⟩).symm.trans q2
  cases hnamed.symm.trans q3
  have hselP : selectMethod X.1.2.2.1.platform (gw_s X).vm cellB.cls mk = .method mk := by rw [Launch.admits_selectMethod X0.admits]; exact q4
  have hlen : As.length = methM.sig.parameters.length := by
    have h2 := hc.2.2.2.2
    rw [hsigM] at h2
    exact hn.trans (Option.some.inj h2).symm
  obtain ⟨vm₁, X₁, hstep₁⟩ := X0.invokevirtual hX.1 hX.2.2.2.1 (hws _ hlk) hnamed hmethM hstM hkP hkPi ⟨hc.2.2.1, hc.2.2.2.1⟩ (a := b) (cell := cellB) (by rw [hT]; exact hcB)
    (fun z h => by rw [h] at hoB; cases hoB) hselP hmethM habM hkP hkPi (g := F0 (gw_m X) pc ls (As.reverse ++ .ref b :: rest)) rfl (argsL := As) (rest := rest) hlen rfl (by rw [hX.2.1]; exact d)
  have hW₁ := X₁.warmed
  have hPc : gx_Pc (gw_z X) (gw_b X) σ (.ref b :: As) (Value.ref b :: As).toArray (T.setVm vm₁) := ⟨rfl, gw_K_warm hW₁ hX.2.2.2.2.2, by show gw_H _ _ _ T.heap; rw [hT]; exact hG, gx_env hK hb0 hS hT hW₁⟩
  rcases gx_run hM X₁ (g := { F0 (gw_m X) pc ls (As.reverse ++ .ref b :: rest) with stack := rest }) rfl (by rw [hX.2.2.1.1]; exact hL.1) (by rw [hX.2.1]; exact d) (lv_room hw) (X₁.named hnamed) (fun w hw9 => word_at hW₁ ((gw_cal_in hc) w hw9).2 (hws w ((gw_cal_in hc) w hw9).1)) (word_at hW₁ (gw_good _ hc.2.1) (hws _ hc.2.1)) hPc (by rw [hRm]; exact hR.1) (by rw [hRm]; exact hR.2) with ⟨v, σ', V, L', XV, hL', hp, hG', f1, f2, hsteps⟩ | ⟨x, E, cx, σ', V, L', XV, hL', hp, hG', f1, f2, hcx, hcv, hcl, hsteps⟩
  · have f1 : T.heap.size ≤ V.heap.size := f1
    have f2 : ∀ a : Nat, a < T.heap.size → ¬ gw_b X ≤ a → V.heap[a]? = T.heap[a]? := f2
    rw [hT] at f1 f2
    obtain ⟨t2, a1, b1⟩ := kk v σ' hp V.heap (locs ++ L') ls hG' ⟨Nat.le_trans hS.1 f1, fun a g1 g2 => (f2 a (Nat.lt_of_lt_of_le g1 hS.1) g2).trans (hS.2.1 a g1 g2), fun z hz => (List.mem_append.mp hz).elim (hS.2.2 z) (hL' z)⟩ hL V rfl XV
    exact ⟨t2, hstep₁ _ fun acts => by rw [doInvoke_state]; exact hsteps.trans a1, b1⟩
  · have f1 : T.heap.size ≤ V.heap.size := f1
    have f2 : ∀ a : Nat, a < T.heap.size → ¬ gw_b X ≤ a → V.heap[a]? = T.heap[a]? := f2
    rw [hT] at f1 f2
    have hcl9 : (gw_s X).vm.findClass E = some cx.cls := by
      have h9 := hcl
      rw [hW₁.alike.findClass] at h9
      exact h9
    obtain ⟨t2, a1, b1⟩ := kx E σ' hp V.heap (locs ++ L') ls hG' ⟨Nat.le_trans hS.1 f1, fun a g1 g2 => (f2 a (Nat.lt_of_lt_of_le g1 hS.1) g2).trans (hS.2.1 a g1 g2), fun z hz => (List.mem_append.mp hz).elim (hS.2.2 z) (hL' z)⟩ hL x cx hcx hcv hcl9 V rfl XV
    exact ⟨t2, hstep₁ _ fun acts => by rw [doInvoke_state]; exact hsteps.trans a1, b1⟩
theorem gx_callS (hX : gw_ok X cc own q) (hK : gx_K (gw_b X) (gw_s X)) (hb0 : gw_b X ≤ (gw_s X).heap.size) {idx n : Nat} {y : MethodName} {cb : ByteArray} {q' : gw_N} {ret : Option FieldType} (k : gw_sS own idx y cb q'.1 ret n) (hlk : Cond.methodLink own idx y ∈ gw_ws) {As rest : List Value} (hM : gx_M X.1.2.1 y cb q' ret (gw_z X) (gw_b X) σ As post px) (hn : As.length = n) (hst : st = As.reverse ++ rest) (hw : (rest.map fun v => v.category).sum ≤ 8) (d : decode cc pc = .ok (.invokestatic idx, 3)) (hR : gw_rm q q' ce sl)
    (kx : ∀ (E : String) (σ' : gw_S), px E σ' → gx_X X σ' (ce + q'.2.2.2.1) (sl + q'.2.2.2.2) pc L rest E)
    (kk : ∀ (v : Option Value) (σ' : gw_S), post v σ' → gw_W X σ' (ce + q'.2.2.2.1) (sl + q'.2.2.2.2) (pc + 3) L (v.toList ++ rest)) : gw_W X σ ce sl pc L st := by
  obtain ⟨hc, -, hs⟩ := k
  subst hst
  intro H locs ls hG hS hL T hT X0
  have hws := hX.2.2.2.2.1
  have hRm : X.1.2.2.2 = _ := hX.2.2.1.2.2.1
  obtain ⟨mk, hnamed⟩ := Cond.code_named (hws _ hc.1)
  obtain ⟨methM, cM, hmethM, -, -, -, -, -, -, hsigM⟩ := Cond.code_spec hnamed (hws _ hc.1)
  have hstatic : methM.isStatic = true := Cond.static_spec hnamed hmethM (hws _ hs)
  obtain ⟨kP, hkP, -⟩ := className_of_methodNamed hnamed
  have hinitP : kP.init = .initialized := Cond.initialized_spec (findClass_of_methodNamed hnamed) hkP (hws _ hc.2.1)
  have hlen : As.length = methM.sig.parameters.length := by
    have h2 := hc.2.2.2.2
    rw [hsigM] at h2
    exact hn.trans (Option.some.inj h2).symm
  obtain ⟨vm₁, X₁, hstep₁⟩ := X0.invokestatic hX.1 hX.2.2.2.1 (hws _ hlk) hnamed hmethM hstatic hkP hinitP ⟨hc.2.2.1, hc.2.2.2.1⟩ (g := F0 (gw_m X) pc ls (As.reverse ++ rest)) rfl (argsL := As) (rest := rest) hlen rfl (by rw [hX.2.1]; exact d)
  have hW₁ := X₁.warmed
  have hPc : gx_Pc (gw_z X) (gw_b X) σ As As.toArray (T.setVm vm₁) := ⟨rfl, gw_K_warm hW₁ hX.2.2.2.2.2, by show gw_H _ _ _ T.heap; rw [hT]; exact hG, gx_env hK hb0 hS hT hW₁⟩
  rcases gx_run hM X₁ (g := { F0 (gw_m X) pc ls (As.reverse ++ rest) with stack := rest }) rfl (by rw [hX.2.2.1.1]; exact hL.1) (by rw [hX.2.1]; exact d) (lv_room hw) (X₁.named hnamed) (fun w hw9 => word_at hW₁ ((gw_cal_in hc) w hw9).2 (hws w ((gw_cal_in hc) w hw9).1)) (word_at hW₁ (gw_good _ hc.2.1) (hws _ hc.2.1)) hPc (by rw [hRm]; exact hR.1) (by rw [hRm]; exact hR.2) with ⟨v, σ', V, L', XV, hL', hp, hG', f1, f2, hsteps⟩ | ⟨x, E, cx, σ', V, L', XV, hL', hp, hG', f1, f2, hcx, hcv, hcl, hsteps⟩
  · have f1 : T.heap.size ≤ V.heap.size := f1
    have f2 : ∀ a : Nat, a < T.heap.size → ¬ gw_b X ≤ a → V.heap[a]? = T.heap[a]? := f2
    rw [hT] at f1 f2
    obtain ⟨t2, a1, b1⟩ := kk v σ' hp V.heap (locs ++ L') ls hG' ⟨Nat.le_trans hS.1 f1, fun a g1 g2 => (f2 a (Nat.lt_of_lt_of_le g1 hS.1) g2).trans (hS.2.1 a g1 g2), fun z hz => (List.mem_append.mp hz).elim (hS.2.2 z) (hL' z)⟩ hL V rfl XV
    exact ⟨t2, hstep₁ _ fun acts => by rw [doInvoke_state]; exact hsteps.trans a1, b1⟩
  · have f1 : T.heap.size ≤ V.heap.size := f1
    have f2 : ∀ a : Nat, a < T.heap.size → ¬ gw_b X ≤ a → V.heap[a]? = T.heap[a]? := f2
    rw [hT] at f1 f2
    have hcl9 : (gw_s X).vm.findClass E = some cx.cls := by
      have h9 := hcl
      rw [hW₁.alike.findClass] at h9
      exact h9
    obtain ⟨t2, a1, b1⟩ := kx E σ' hp V.heap (locs ++ L') ls hG' ⟨Nat.le_trans hS.1 f1, fun a g1 g2 => (f2 a (Nat.lt_of_lt_of_le g1 hS.1) g2).trans (hS.2.1 a g1 g2), fun z hz => (List.mem_append.mp hz).elim (hS.2.2 z) (hL' z)⟩ hL x cx hcx hcv hcl9 V rfl XV
    exact ⟨t2, hstep₁ _ fun acts => by rw [doInvoke_state]; exact hsteps.trans a1, b1⟩
end GXC
end
section
/-! ===== a throw ===== -/
def gx_has (w : Cond) : Prop := w ∈ gw_ws ∨ w ∈ gx_tl ∨ w = .laysStatic Bundle.tN "UNASSIGNED_STACK" Bundle.steD ∨ w = .laysStatic Bundle.tN "SUPPRESSED_SENTINEL" Bundle.listD ∨ w = .isRef (.static Bundle.tN "UNASSIGNED_STACK" Bundle.steD) ∨ w = .isRef (.static Bundle.tN "SUPPRESSED_SENTINEL" Bundle.listD)
def gx_all : List Cond → Prop
  | [] => True
  | w :: r => gx_has w ∧ gx_all r
theorem gx_all_at : ∀ {ws : List Cond}, gx_all ws → ∀ w ∈ ws, gx_has w
  | [], _, _, h => by cases h
  | _ :: _, h, w, hw => (List.mem_cons.mp hw).elim (fun e => e ▸ h.1) (gx_all_at h.2 w)
def gx_up : List String := ["java/lang/RuntimeException", "java/lang/Exception"]
def gx_IA : String := "java/lang/IllegalArgumentException"
theorem gx_wIA : gx_all (Bundle.ownAtoms "LabelLearner" 69 gx_IA gx_up) := ⟨Or.inl (gw_in_t 10 (by decide +kernel) rfl), Or.inl (gw_in_t 332 (by decide +kernel) rfl), Or.inl (gw_in_t 341 (by decide +kernel) rfl), Or.inl (gw_in_t 345 (by decide +kernel) rfl), Or.inl (gw_in_t 348 (by decide +kernel) rfl), Or.inl (gw_in_t 350 (by decide +kernel) rfl), Or.inl (gw_in_t 333 (by decide +kernel) rfl), Or.inl (gw_in_t 334 (by decide +kernel) rfl), Or.inl (gw_in_t 22 (by decide +kernel) rfl), Or.inl (gw_in_t 23 (by decide +kernel) rfl), Or.inl (gw_in_t 335 (by decide +kernel) rfl), Or.inl (gw_in_t 340 (by decide +kernel) rfl), Or.inl (gw_in_t 346 (by decide +kernel) rfl), Or.inl (gw_in_t 366 (by decide +kernel) rfl), Or.inl (gw_in_t 322 (by decide +kernel) rfl), Or.inl (gw_in_t 367 (by decide +kernel) rfl), Or.inl (gw_in_t 324 (by decide +kernel) rfl), Or.inl (gw_in_t 368 (by decide +kernel) rfl), Or.inl (gw_in_t 326 (by decide +kernel) rfl), Or.inl (gw_in_t 336 (by decide +kernel) rfl), Or.inr (Or.inr (Or.inl rfl)), Or.inl (gw_in_t 338 (by decide +kernel) rfl), Or.inr (Or.inr (Or.inr (Or.inl rfl))), Or.inl (gw_in_t 328 (by decide +kernel) rfl), Or.inl (gw_in_t 362 (by decide +kernel) rfl), Or.inl (gw_in_t 363 (by decide +kernel) rfl), Or.inl (gw_in_t 365 (by decide +kernel) rfl), Or.inl (gw_in_t 328 (by decide +kernel) rfl), Or.inl (gw_in_t 353 (by decide +kernel) rfl), Or.inl (gw_in_t 354 (by decide +kernel) rfl), Or.inl (gw_in_t 355 (by decide +kernel) rfl), Or.inl (gw_in_t 356 (by decide +kernel) rfl), Or.inr (Or.inl (List.mem_filter.mpr ⟨List.mem_of_getElem? (show tables_1[314]? = _ by decide +kernel), rfl⟩)), Or.inl (gw_in_t 356 (by decide +kernel) rfl), Or.inl (gw_in_t 357 (by decide +kernel) rfl), Or.inl (gw_in_t 358 (by decide +kernel) rfl), Or.inl (gw_in_t 359 (by decide +kernel) rfl), Or.inr (Or.inl (List.mem_filter.mpr ⟨List.mem_of_getElem? (show tables_1[316]? = _ by decide +kernel), rfl⟩)), Or.inl (gw_in_t 359 (by decide +kernel) rfl), Or.inl (gw_in_t 360 (by decide +kernel) rfl), Or.inl (gw_in_t 361 (by decide +kernel) rfl), Or.inl (gw_in_t 362 (by decide +kernel) rfl), Or.inr (Or.inl (List.mem_filter.mpr ⟨List.mem_of_getElem? (show tables_1[318]? = _ by decide +kernel), rfl⟩)), Or.inl (gw_in_t 352 (by decide +kernel) rfl), Or.inl (gw_in_t 311 (by decide +kernel) rfl), Or.inr (Or.inl (List.mem_filter.mpr ⟨List.mem_of_getElem? (show tables_1[312]? = _ by decide +kernel), rfl⟩)), Or.inl (gw_in_t 319 (by decide +kernel) rfl), Or.inl (gw_in_t 320 (by decide +kernel) rfl), Or.inl (gw_in_t 321 (by decide +kernel) rfl), Or.inl (gw_in_t 323 (by decide +kernel) rfl), Or.inl (gw_in_t 325 (by decide +kernel) rfl), Or.inl (gw_in_t 327 (by decide +kernel) rfl), Or.inr (Or.inr (Or.inr (Or.inr (Or.inl rfl)))), Or.inr (Or.inr (Or.inr (Or.inr (Or.inr rfl)))), Or.inl (gw_in_t 331 (by decide +kernel) rfl), Or.inl (gw_in_t 330 (by decide +kernel) rfl), Or.inl (gw_in_t 329 (by decide +kernel) rfl), trivial⟩
def gx_IO : String := "java/lang/IndexOutOfBoundsException"
theorem gx_wIO : gx_all (Bundle.ownAtoms "LabelLearner" 103 gx_IO gx_up) := ⟨Or.inl (gw_in_t 10 (by decide +kernel) rfl), Or.inl (gw_in_t 332 (by decide +kernel) rfl), Or.inl (gw_in_t 341 (by decide +kernel) rfl), Or.inl (gw_in_t 345 (by decide +kernel) rfl), Or.inl (gw_in_t 348 (by decide +kernel) rfl), Or.inl (gw_in_t 350 (by decide +kernel) rfl), Or.inl (gw_in_t 333 (by decide +kernel) rfl), Or.inl (gw_in_t 334 (by decide +kernel) rfl), Or.inl (gw_in_t 22 (by decide +kernel) rfl), Or.inl (gw_in_t 23 (by decide +kernel) rfl), Or.inl (gw_in_t 335 (by decide +kernel) rfl), Or.inl (gw_in_t 340 (by decide +kernel) rfl), Or.inl (gw_in_t 346 (by decide +kernel) rfl), Or.inl (gw_in_t 366 (by decide +kernel) rfl), Or.inl (gw_in_t 322 (by decide +kernel) rfl), Or.inl (gw_in_t 367 (by decide +kernel) rfl), Or.inl (gw_in_t 324 (by decide +kernel) rfl), Or.inl (gw_in_t 368 (by decide +kernel) rfl), Or.inl (gw_in_t 326 (by decide +kernel) rfl), Or.inl (gw_in_t 336 (by decide +kernel) rfl), Or.inr (Or.inr (Or.inl rfl)), Or.inl (gw_in_t 338 (by decide +kernel) rfl), Or.inr (Or.inr (Or.inr (Or.inl rfl))), Or.inl (gw_in_t 328 (by decide +kernel) rfl), Or.inl (gw_in_t 362 (by decide +kernel) rfl), Or.inl (gw_in_t 363 (by decide +kernel) rfl), Or.inl (gw_in_t 365 (by decide +kernel) rfl), Or.inl (gw_in_t 328 (by decide +kernel) rfl), Or.inl (gw_in_t 421 (by decide +kernel) rfl), Or.inl (gw_in_t 422 (by decide +kernel) rfl), Or.inl (gw_in_t 423 (by decide +kernel) rfl), Or.inl (gw_in_t 356 (by decide +kernel) rfl), Or.inr (Or.inl (List.mem_filter.mpr ⟨List.mem_of_getElem? (show tables_1[314]? = _ by decide +kernel), rfl⟩)), Or.inl (gw_in_t 356 (by decide +kernel) rfl), Or.inl (gw_in_t 357 (by decide +kernel) rfl), Or.inl (gw_in_t 358 (by decide +kernel) rfl), Or.inl (gw_in_t 359 (by decide +kernel) rfl), Or.inr (Or.inl (List.mem_filter.mpr ⟨List.mem_of_getElem? (show tables_1[316]? = _ by decide +kernel), rfl⟩)), Or.inl (gw_in_t 359 (by decide +kernel) rfl), Or.inl (gw_in_t 360 (by decide +kernel) rfl), Or.inl (gw_in_t 361 (by decide +kernel) rfl), Or.inl (gw_in_t 362 (by decide +kernel) rfl), Or.inr (Or.inl (List.mem_filter.mpr ⟨List.mem_of_getElem? (show tables_1[318]? = _ by decide +kernel), rfl⟩)), Or.inl (gw_in_t 420 (by decide +kernel) rfl), Or.inl (gw_in_t 411 (by decide +kernel) rfl), Or.inr (Or.inl (List.mem_filter.mpr ⟨List.mem_of_getElem? (show tables_1[412]? = _ by decide +kernel), rfl⟩)), Or.inl (gw_in_t 413 (by decide +kernel) rfl), Or.inl (gw_in_t 344 (by decide +kernel) rfl), Or.inl (gw_in_t 414 (by decide +kernel) rfl), Or.inl (gw_in_t 415 (by decide +kernel) rfl), Or.inl (gw_in_t 416 (by decide +kernel) rfl), Or.inl (gw_in_t 417 (by decide +kernel) rfl), Or.inr (Or.inr (Or.inr (Or.inr (Or.inl rfl)))), Or.inr (Or.inr (Or.inr (Or.inr (Or.inr rfl)))), Or.inl (gw_in_t 331 (by decide +kernel) rfl), Or.inl (gw_in_t 330 (by decide +kernel) rfl), Or.inl (gw_in_t 418 (by decide +kernel) rfl), trivial⟩
def gx_IS : String := "java/lang/IllegalStateException"
theorem gx_wIS : gx_all (Bundle.ownAtoms "LabelLearner" 126 gx_IS gx_up) := ⟨Or.inl (gw_in_t 10 (by decide +kernel) rfl), Or.inl (gw_in_t 332 (by decide +kernel) rfl), Or.inl (gw_in_t 341 (by decide +kernel) rfl), Or.inl (gw_in_t 345 (by decide +kernel) rfl), Or.inl (gw_in_t 348 (by decide +kernel) rfl), Or.inl (gw_in_t 350 (by decide +kernel) rfl), Or.inl (gw_in_t 333 (by decide +kernel) rfl), Or.inl (gw_in_t 334 (by decide +kernel) rfl), Or.inl (gw_in_t 22 (by decide +kernel) rfl), Or.inl (gw_in_t 23 (by decide +kernel) rfl), Or.inl (gw_in_t 335 (by decide +kernel) rfl), Or.inl (gw_in_t 340 (by decide +kernel) rfl), Or.inl (gw_in_t 346 (by decide +kernel) rfl), Or.inl (gw_in_t 366 (by decide +kernel) rfl), Or.inl (gw_in_t 322 (by decide +kernel) rfl), Or.inl (gw_in_t 367 (by decide +kernel) rfl), Or.inl (gw_in_t 324 (by decide +kernel) rfl), Or.inl (gw_in_t 368 (by decide +kernel) rfl), Or.inl (gw_in_t 326 (by decide +kernel) rfl), Or.inl (gw_in_t 336 (by decide +kernel) rfl), Or.inr (Or.inr (Or.inl rfl)), Or.inl (gw_in_t 338 (by decide +kernel) rfl), Or.inr (Or.inr (Or.inr (Or.inl rfl))), Or.inl (gw_in_t 328 (by decide +kernel) rfl), Or.inl (gw_in_t 362 (by decide +kernel) rfl), Or.inl (gw_in_t 363 (by decide +kernel) rfl), Or.inl (gw_in_t 365 (by decide +kernel) rfl), Or.inl (gw_in_t 328 (by decide +kernel) rfl), Or.inl (gw_in_t 467 (by decide +kernel) rfl), Or.inl (gw_in_t 468 (by decide +kernel) rfl), Or.inl (gw_in_t 469 (by decide +kernel) rfl), Or.inl (gw_in_t 356 (by decide +kernel) rfl), Or.inr (Or.inl (List.mem_filter.mpr ⟨List.mem_of_getElem? (show tables_1[314]? = _ by decide +kernel), rfl⟩)), Or.inl (gw_in_t 356 (by decide +kernel) rfl), Or.inl (gw_in_t 357 (by decide +kernel) rfl), Or.inl (gw_in_t 358 (by decide +kernel) rfl), Or.inl (gw_in_t 359 (by decide +kernel) rfl), Or.inr (Or.inl (List.mem_filter.mpr ⟨List.mem_of_getElem? (show tables_1[316]? = _ by decide +kernel), rfl⟩)), Or.inl (gw_in_t 359 (by decide +kernel) rfl), Or.inl (gw_in_t 360 (by decide +kernel) rfl), Or.inl (gw_in_t 361 (by decide +kernel) rfl), Or.inl (gw_in_t 362 (by decide +kernel) rfl), Or.inr (Or.inl (List.mem_filter.mpr ⟨List.mem_of_getElem? (show tables_1[318]? = _ by decide +kernel), rfl⟩)), Or.inl (gw_in_t 466 (by decide +kernel) rfl), Or.inl (gw_in_t 457 (by decide +kernel) rfl), Or.inr (Or.inl (List.mem_filter.mpr ⟨List.mem_of_getElem? (show tables_1[458]? = _ by decide +kernel), rfl⟩)), Or.inl (gw_in_t 459 (by decide +kernel) rfl), Or.inl (gw_in_t 343 (by decide +kernel) rfl), Or.inl (gw_in_t 460 (by decide +kernel) rfl), Or.inl (gw_in_t 461 (by decide +kernel) rfl), Or.inl (gw_in_t 462 (by decide +kernel) rfl), Or.inl (gw_in_t 463 (by decide +kernel) rfl), Or.inr (Or.inr (Or.inr (Or.inr (Or.inl rfl)))), Or.inr (Or.inr (Or.inr (Or.inr (Or.inr rfl)))), Or.inl (gw_in_t 331 (by decide +kernel) rfl), Or.inl (gw_in_t 330 (by decide +kernel) rfl), Or.inl (gw_in_t 464 (by decide +kernel) rfl), trivial⟩
def gx_site (ic ik : Nat) (E : String) : Prop := Bundle.fit E = true ∧ gx_all (Bundle.ownAtoms "LabelLearner" ic E gx_up) ∧ Cond.classLink "LabelLearner" ik E ∈ gw_ws ∧ Cond.instantiable E 6 ∈ gw_ws ∧ Cond.initialized E ∈ gw_ws
theorem gx_sIA : gx_site 69 65 gx_IA := ⟨by decide, gx_wIA, gw_in_t 310 (by decide +kernel) rfl, gw_in_t 311 (by decide +kernel) rfl, gw_in_t 13 (by decide +kernel) rfl⟩
theorem gx_sIO : gx_site 103 99 gx_IO := ⟨by decide, gx_wIO, gw_in_t 410 (by decide +kernel) rfl, gw_in_t 411 (by decide +kernel) rfl, gw_in_t 14 (by decide +kernel) rfl⟩
theorem gx_sIS : gx_site 126 122 gx_IS := ⟨by decide, gx_wIS, gw_in_t 456 (by decide +kernel) rfl, gw_in_t 457 (by decide +kernel) rfl, gw_in_t 15 (by decide +kernel) rfl⟩
section GXD
variable {p : Program} {l : Launch} {e : Env} {R : Room} {s : State} {m : MethodId} {args : Array Value} {below : List Frame} {meth : Method} {c : Code} {T : State} {locs : List Loc} {cells slots : Nat}
/-- the same walk, as if the method had begun in the present heap -/
def gx_now (s T : State) : State := { s with heap := T.heap, slotsUsed := T.slotsUsed }
theorem gx_rebase (X : Stand p l e R s m args below meth c T locs cells slots) (h1 : cells ≤ R.cells) (h2 : slots ≤ R.slots) :
    Stand p l e { R with cells := R.cells - cells, slots := R.slots - slots } (gx_now s T) m args below meth c T [] 0 0 := by
  have hb := X.book
  have h3 := X.heapSize
  have h4 := X.used
  refine ⟨X.admits, X.cas, X.clock, X.frames, ?_, X.hears, X.method, X.code, X.here, X.tail, X.warmed, X.limits, X.bytes, ?_⟩
  · have hr := X.room
    simp only [State.hasRoom, Bool.and_eq_true, decide_eq_true_eq] at hr ⊢
    obtain ⟨⟨⟨⟨r1, r2⟩, r3⟩, r4⟩, r5⟩ := hr
    refine ⟨⟨⟨⟨r1, r2⟩, ?_⟩, ?_⟩, hb⟩
    · show T.heap.size + (R.cells - cells) ≤ _
      omega
    · show T.slotsUsed + (R.slots - slots) ≤ _
      omega
  · refine ⟨X.same.1, Nat.le_refl _, Nat.le_refl _, ?_, ?_, fun a c9 h => ⟨c9, h, rfl, rfl, fun _ _ => rfl⟩⟩
    · show T.slotsUsed = T.slotsUsed + ((T.heap.toList.drop T.heap.size).map (·.slots.size)).sum
      rw [show T.heap.toList.drop T.heap.size = [] from List.drop_eq_nil_of_le (by simp)]
      rfl
    · show ((T.heap.toList.drop T.heap.size).map (·.slots.size)).sum ≤ 0
      rw [show T.heap.toList.drop T.heap.size = [] from List.drop_eq_nil_of_le (by simp)]
      exact Nat.le_refl 0
theorem gx_rejoin (X : Stand p l e R s m args below meth c T locs cells slots) {U : State} {L' : List Loc} {c1 s1 : Nat} (h : (gx_now s T).sameButNew ({ U with vm := (gx_now s T).vm } : State) L' c1 s1) :
    s.sameButNew ({ U with vm := s.vm } : State) (locs ++ L') (cells + c1) (slots + s1) := by
  refine X.same.trans ⟨?_, h.2⟩
  refine h.1.trans (congrArg (fun z : State => ({ z with heap := U.heap, slotsUsed := U.slotsUsed } : State)) (?_ : (gx_now s T).setFrames U.frames = (T.setVm s.vm).setFrames U.frames))
  have h3 : T.setVm s.vm = (gx_now s T).setFrames T.frames := X.same.1
  rw [h3, State.setFrames_setFrames]
theorem gx_dup {cc : ByteArray} {pc : Nat} {ls : Array Slot} {va : Value} {rest : List Value} {t : State} (X : Stand p l e R s m args below meth c T locs cells slots) (hexec : p.tables.exec = Jvm.exec) (hb : c.code = cc) (hdg : decode cc pc = .ok (.dup, 1)) (hva : va.category = 1)
    (a : Steps p.tables e below (T.setTop (F0 m (pc + 1) ls (va :: va :: rest))) t) : Steps p.tables e below (T.setTop (F0 m pc ls (va :: rest))) t := by
  jvm_step X.here [X.here.top, hexec, hb, hdg, hva]
  exact a
end GXD
section GXE
variable {X : gw_C} {cc : ByteArray} {q : gw_N} {σ : gw_S} {ce sl pc : Nat} {L : List (Nat × Value)} {post : Option Value → gw_S → Prop} {px : String → gw_S → Prop} {mc ms : Nat}
theorem gx_words {b0 : Nat} {A : Array Value} {U : State} (hw : ∀ w ∈ gw_ws, w.before A U = true) (hE : gx_K b0 U) {w : Cond} (h : gx_has w) : w.before A U = true := by
  rcases h with h | h | rfl | rfl | rfl | rfl
  · exact hw w h
  · have h2 : gx_isT w = true := (List.mem_filter.mp h).2
    have h3 := hE.2.2.1 w h
    cases w with
    | castable a b => exact va_Nw.use rfl h3
    | declares x => exact va_Nw.use rfl h3
    | _ => cases h2
  · exact gx_S_lays hE.1 _
  · exact gx_S_lays hE.2.1 _
  · exact gx_S_ref hE.1 _
  · exact gx_S_ref hE.2.1 _
theorem gx_throw (hX : gw_ok X cc "LabelLearner" q) (hE : gx_ok X) (hQ : X.2.2.2.2 = gx_end X post px mc ms) {ic ik sn : Nat} {E tx : String} (hs : gx_site ic ik E) (hsn : (sn, tx) ∈ gx_sl) (d0 : decode cc pc = .ok (.new ik, 3)) (d1 : decode cc (pc + 3) = .ok (.dup, 1)) (d2 : decode cc (pc + 4) = .ok (.ldc sn, 2)) (d3 : decode cc (pc + 6) = .ok (.invokespecial ic, 3)) (d4 : decode cc (pc + 9) = .ok (.athrow, 1))
    (hf : 5 < q.2.1) (hl : 85 ≤ q.2.2.1) (hc : ce + 1 ≤ mc) (hs2 : sl + 6 ≤ ms) (hc1 : mc ≤ q.2.2.2.1) (hs1 : ms ≤ q.2.2.2.2) (hp : px E (σ.1 + 1, σ.2)) : gw_W X σ ce sl pc L [] := by
  have hb0 := hE.2.2.2
  intro H locs ls hG hS hL T hT X0
  have hRm : X.1.2.2.2 = _ := hX.2.2.1.2.2.1
  have Y0 := gx_rebase X0 (by rw [hRm]; show ce ≤ q.2.2.2.1; omega) (by rw [hRm]; show sl ≤ q.2.2.2.2; omega)
  have hWn : (gw_s X).WarmedH (gx_now (gw_s X) T).vm := State.WarmedH.refl _
  have hw : ∀ w ∈ gw_ws, w.before (gw_a X) (gx_now (gw_s X) T) = true := fun w h9 => word_at (U := gx_now (gw_s X) T) hWn (gw_good w h9) (hX.2.2.2.2.1 w h9)
  have hK : gx_K (gw_b X) (gx_now (gw_s X) T) := gx_K_mv hWn (fun a ha => by show T.heap[a]? = _; rw [hT]; exact hS.2.1 a (by omega) (by omega)) hE.1
  obtain ⟨vm', cC, kC, hfc, hkC, -, -, X1, st1⟩ := Y0.newCold hX.1 hX.2.2.2.1 (hw _ hs.2.2.1) (hw _ hs.2.2.2.1) (hw _ hs.2.2.2.2) (g := F0 (gw_m X) pc ls []) rfl (by rw [hX.2.1]; exact d0) (by rw [hRm]; show 0 + 1 ≤ q.2.2.2.1 - ce; omega) (by rw [hRm]; show 0 + 6 ≤ q.2.2.2.2 - sl; omega)
  obtain ⟨sa, hsa⟩ := hK.2.2.2.1 _ hsn
  have hsz : T.heap.size = σ.1 := by rw [hT]; exact hG.1
  have st2 := fun target => Stand.ldcString X1 hX.1 hX.2.2.2.1 (args := gw_a X) (text := tx) (index := sn) (a := sa) hsa.1 hsa.2 (g := F0 (gw_m X) (pc + 4) ls [.ref T.heap.size, .ref T.heap.size]) rfl (by rw [hX.2.1]; exact d2) target
  obtain ⟨U, st3, hrun, hend, hW, hsm, cx, hcx, hoc⟩ := X1.ctorThrowS hX.1 (by rw [X0.admits.platform]; exact hE.2.1) hX.2.2.2.1 (names := gx_up) (cls := E) (ic := ic) hs.1 (by decide) (fun w hw9 => gx_words hw hK (gx_all_at hs.2.1 w hw9)) (fun z hz => by cases hz) hfc hkC (a := T.heap.size) (State.heap_pushCell_size (T.setVm vm') _) (Nat.le_refl _) (msg := .ref sa) rfl (g := F0 (gw_m X) (pc + 6) ls [.ref sa, .ref T.heap.size, .ref T.heap.size]) rfl (by rw [hX.2.2.1.1]; exact hL.1) rfl rfl (rest := []) rfl (by rw [hX.2.1]; exact d3) (by rw [hX.2.1]; exact d4) (fun z hz => (hE.2.2.1 z hz).elim) (by rw [hRm]; show 2 + 3 < q.2.1; omega) (by rw [hRm]; show 2 * 0 + 1 + (13 * (2 + 1) + 42) ≤ q.2.2.1; omega) hX.2.2.1.2.2.2
  have hk : ∀ a : Nat, a < T.heap.size → U.heap[a]? = T.heap[a]? := by
    intro a ha
    obtain ⟨c9, hc9⟩ : ∃ c9, T.heap[a]? = some c9 := ⟨_, Array.getElem?_eq_getElem ha⟩
    obtain ⟨c8, e1, e2, e3, e4⟩ := hsm.2.2.2.2.2 a c9 hc9
    have e1 : U.heap[a]? = some c8 := e1
    rw [e1, hc9, e2, show c8.slots = c9.slots from Array.ext_getElem? fun i => e4 i (by simp)]
  have hU : U.heap.size = T.heap.size + 1 := by
    have e1 : U.heap.size ≤ T.heap.size + (0 + 1) := hsm.2.2.1
    have e2 := (Array.getElem?_eq_some_iff.mp hcx).1
    omega
  refine ⟨U, st1 _ ?_, ?_⟩
  · show Steps _ _ _ (((T.setVm vm').pushCell { cls := cC, slots := kC.instanceTypes.map defaultValue, vm := .none }).setTop (F0 (gw_m X) (pc + 3) ls [.ref T.heap.size])) U
    have h9 := st2 _ st3
    exact gx_dup X1 hX.1 hX.2.1 d1 rfl h9
  · rw [hQ]
    have hcl : (gw_s X).vm.findClass E = some cx.cls := hoc.cls
    refine ⟨.threw T.heap.size, hrun, hend, Or.inr ⟨T.heap.size, E, cx, locs ++ [], (σ.1 + 1, σ.2), rfl, hp, ⟨by rw [hU, hsz], ⟨Nat.le_succ_of_le hG.2.1.1, fun a cell ha hcell => ?_⟩, fun a e9 he9 => ?_⟩, ⟨?_, fun a g1 g2 => ?_⟩, hcx, hoc.vm, hcl, hW, (gx_rejoin X0 hsm).mono (by omega) (by omega), fun z hz => ?_⟩⟩
    · by_cases h9 : a = T.heap.size
      · subst h9
        cases hcx.symm.trans hcell
        rw [hoc.vm]; rfl
      · have h8 := (Array.getElem?_eq_some_iff.mp hcell).1
        exact hG.2.1.2 a cell ha (by rw [← hT, ← hk a (by omega)]; exact hcell)
    · have h8 := gw_H_lt hG he9
      exact ⟨(hG.2.2 a e9 he9).1, (hG.2.2 a e9 he9).2.kept (by rw [hk a (by omega), hT])⟩
    · show (gw_s X).heap.size ≤ U.heap.size
      have := hS.1
      rw [← hT] at this
      omega
    · show U.heap[a]? = _
      have := hS.1
      rw [← hT] at this
      rw [hk a (Nat.lt_of_lt_of_le g1 this), hT]
      exact hS.2.1 a g1 g2
    · rw [List.append_nil] at hz
      exact hS.2.2 z hz
end GXE
end
section
/-! ===== a catch whose class is resolved only then ===== -/
section GXF
theorem gx_go {e : Env} {s : State} {f : JFrame} {a : Addr} {x : ExceptionTableEntry} {t : List ExceptionTableEntry} {c : ClassId} {cell : Cell} {vm' : Vm} (hx : covers x f.pc = true) (h0 : x.catchType ≠ 0)
    (hg : (Jvm.resolveClass f.method.cls x.catchType).Gives e.toSetting s.vm (.ok c) vm') (hsz : vm'.classes.size ≤ s.vm.classes.size) (hcell : s.heap[a]? = some cell) (hobj : ∀ k, cell.vm ≠ .statics k)
    (hk : ∃ k, vm'.classes[cell.cls]? = some k) (hc : ∃ k, vm'.classes[c]? = some k) (Q : Handler → Pre) (E : CtlPost) (d : Bool) (acts : List Action) :
    wp (findHandler.go f a (x :: t)) Q E e d acts s ↔
      if vm'.assignable cell.cls c = true then Q (.found x.handlerPc) d acts (s.setVm vm') else wp (findHandler.go f a t) Q E e d acts (s.setVm vm') := by
  simp only [covers] at hx
  obtain ⟨ha, ht⟩ := hg.op (op := VmOp.resolveClass f.method.cls x.catchType) rfl
  have hcell' : (s.setVm vm').heap[a]? = some cell := hcell
  cases hfit : vm'.assignable cell.cls c <;>
    simp [findHandler.go, hx, h0, ha, ht, hsz, hcell, hcell', hobj, hk, hc, hfit, VmOp.dirties, VmOp.acts]
theorem gx_stepC {e : Env} {s s' : State} {a : Addr} {f : JFrame} {r : List Frame} {pc : Nat} (hfind : ∀ (Q : Handler → Pre) (E : CtlPost) (d : Bool) (acts : List Action), wp (findHandler f a) Q E e d acts s ↔ Q (.found pc) d acts s') :
    (stepThrowing e s a (.java f :: r)).Is (s'.setFrames (.java { f with pc := pc, stack := [.ref a] } :: r)) [] := by
  simp only [stepThrowing, searchFrame, vmDo]
  generalize hr : Sem.go _ e false [] s = res
  obtain ⟨as, rfl, ha⟩ := Sem.eq_ok_of hr (a := Handler.found pc) (s' := s') (acts' := []) (by simp [hfind _ _ _ _])
  exact ⟨rfl, ha⟩
theorem gx_caught {tb : Tables} {e : Env} {s target : State} {g : JFrame} {c : Code} {below : List Frame} {a : Addr} (h : At s g.method c below) {pc : Nat} {vm' : Vm} (hfind : ∀ (Q : Handler → Pre) (E : CtlPost) (d : Bool) (acts : List Action), wp (findHandler g a) Q E e d acts ((s.setTop g).pushFrame (.throwing a)) ↔ Q (.found pc) d acts (((s.setTop g).pushFrame (.throwing a)).setVm vm'))
    (hrest : Steps tb e below ((s.setVm vm').setTop { g with pc := pc, stack := [.ref a] }) target) :
    Steps tb e below ((s.setTop g).pushFrame (.throwing a)) target := by
  obtain ⟨hgo, hw⟩ := h.throwing a
  refine Steps.head hgo hw ?_
  rw [stepThread_throwing (frames_entered h.top _), (gx_stepC (s := (s.setTop g).pushFrame (.throwing a)) hfind).1]
  obtain ⟨g₀, hg⟩ := Option.isSome_iff_exists.mp h.top
  obtain ⟨r, hr⟩ := State.topJava?_eq_some.mp hg
  have e1 : (((s.setTop g).pushFrame (.throwing a)).setVm vm') = (((s.setVm vm').setTop g).pushFrame (.throwing a)) := by
    rw [State.setTop_of_frames _ hr, State.setTop_of_frames (s := s.setVm vm') _ hr]
    rfl
  have hr' : (s.setVm vm').frames = .java g₀ :: r := hr
  rw [e1, State.pushFrame, State.setFrames_setFrames, State.setTop_of_frames _ hr', State.setFrames_setFrames]
  rw [State.setTop_of_frames _ hr'] at hrest
  rw [hr]
  exact hrest
variable {p : Program} {l : Launch} {e : Env} {R : Room} {s : State} {m : MethodId} {args : Array Value} {below : List Frame} {meth : Method} {c : Code} {T : State} {locs : List Loc} {cells slots : Nat}
/-- the class of a row, resolved at the latest now -/
theorem gx_rowC (X : Stand p l e R s m args below meth c T locs cells slots) {own E : String} {idx : Nat} (hown : s.vm.findClass own = some m.cls) (hcl : (Cond.classLink own idx E).before args s = true) :
    ∃ (cC : ClassId) (vm' : Vm), s.vm.findClass E = some cC ∧ (Jvm.resolveClass m.cls idx).Gives e.toSetting T.vm (.ok cC) vm' ∧ vm'.classes.size ≤ T.vm.classes.size ∧ s.WarmedH vm' := by
  have hpl : e.platform.magicAccessors = ({} : Platform).magicAccessors := by rw [X.admits.platform]
  obtain ⟨cc, hfcc, hcl⟩ := Cond.classLink_spec hown hcl e.platform hpl
  obtain ⟨hg₁, hwarm₁, hready₁⟩ := State.classEntry (e := e) X.warmed hcl
  exact ⟨cc, _, hfcc, hg₁, by first | no_record | simp [Vm.noted], hwarm₁⟩
theorem gx_catch1 (X : Stand p l e R s m args below meth c T locs cells slots) {own E : String} {idx : Nat} (hown : s.vm.findClass own = some m.cls) (hcl : (Cond.classLink own idx E).before args s = true) {x : ExceptionTableEntry} {rest : List ExceptionTableEntry} (htab : c.exceptionTable.toList = x :: rest)
    {g : JFrame} (hg : g.method = m) (hx : covers x g.pc = true) (h0 : x.catchType ≠ 0) (hi : x.catchType = idx) {a : Addr} {cell : Cell} (hcell : T.heap[a]? = some cell) (hv : cell.vm = .none) (hc : s.vm.findClass E = some cell.cls) :
    ∃ vm', Stand p l e R s m args below meth c (T.setVm vm') locs cells slots ∧ ∀ target, Steps p.tables e below ((T.setVm vm').setTop { g with pc := x.handlerPc, stack := [.ref a] }) target → Steps p.tables e below ((T.setTop g).pushFrame (.throwing a)) target := by
  subst hi
  obtain ⟨cC, vm', hf, hgv, hsz, hW⟩ := gx_rowC X hown hcl
  cases hf.symm.trans hc
  obtain ⟨k0, hk0⟩ := Vm.classAt_of_findClass hf
  obtain ⟨k1, hk1, -⟩ := hW.alike.2.2 _ _ hk0
  refine ⟨vm', X.noted hW, fun target hrest => ?_⟩
  have h : At T g.method c below := by rw [hg]; exact X.here
  refine gx_caught h (vm' := vm') (pc := x.handlerPc) (fun Q E d acts => ?_) hrest
  have hm : ((T.setTop g).pushFrame (.throwing a)).vm.method? g.method = some meth := by rw [hg]; exact X.method'
  rw [W.findHandler_eq hm X.code, htab, gx_go (s := (T.setTop g).pushFrame (.throwing a)) hx h0 (by rw [hg]; exact hgv) hsz (show ((T.setTop g).pushFrame (.throwing a)).heap[a]? = some cell from hcell) (fun k h9 => by rw [hv] at h9; cases h9) ⟨_, hk1⟩ ⟨_, hk1⟩, if_pos (va_asg _ _)]
theorem gx_catch2 (X : Stand p l e R s m args below meth c T locs cells slots) {own E E' : String} {idx idx' : Nat} (hown : s.vm.findClass own = some m.cls) (hcl' : (Cond.classLink own idx' E').before args s = true) (hcl : (Cond.classLink own idx E).before args s = true) {x x' : ExceptionTableEntry} {rest : List ExceptionTableEntry} (htab : c.exceptionTable.toList = x' :: x :: rest)
    {g : JFrame} (hg : g.method = m) (hx : covers x g.pc = true) (h0 : x.catchType ≠ 0) (hi : x.catchType = idx) (hx' : covers x' g.pc = true) (h0' : x'.catchType ≠ 0) (hi' : x'.catchType = idx') {a : Addr} {cell : Cell} (hcell : T.heap[a]? = some cell) (hv : cell.vm = .none) (hc : s.vm.findClass E = some cell.cls) (hno : ∀ c', s.vm.findClass E' = some c' → s.vm.assignable cell.cls c' = false) :
    ∃ vm', Stand p l e R s m args below meth c (T.setVm vm') locs cells slots ∧ ∀ target, Steps p.tables e below ((T.setVm vm').setTop { g with pc := x.handlerPc, stack := [.ref a] }) target → Steps p.tables e below ((T.setTop g).pushFrame (.throwing a)) target := by
  subst hi; subst hi'
  obtain ⟨cC', vm1, hf', hgv', hsz', hW'⟩ := gx_rowC X hown hcl'
  have X1 := X.noted hW'
  obtain ⟨cC, vm', hf, hgv, hsz, hW⟩ := gx_rowC X1 hown hcl
  cases hf.symm.trans hc
  obtain ⟨k0, hk0⟩ := Vm.classAt_of_findClass hf
  obtain ⟨k1, hk1, -⟩ := hW.alike.2.2 _ _ hk0
  obtain ⟨k2, hk2, -⟩ := hW'.alike.2.2 _ _ hk0
  obtain ⟨k3, hk3⟩ := Vm.classAt_of_findClass hf'
  obtain ⟨k4, hk4, -⟩ := hW'.alike.2.2 _ _ hk3
  refine ⟨vm', X.noted hW, fun target hrest => ?_⟩
  have h : At T g.method c below := by rw [hg]; exact X.here
  refine gx_caught h (vm' := vm') (pc := x.handlerPc) (fun Q E d acts => ?_) hrest
  have hm : ((T.setTop g).pushFrame (.throwing a)).vm.method? g.method = some meth := by rw [hg]; exact X.method'
  have hn : vm1.assignable cell.cls cC' = false := by rw [hW'.alike.assignable]; exact hno _ hf'
  rw [W.findHandler_eq hm X.code, htab, gx_go (s := (T.setTop g).pushFrame (.throwing a)) hx' h0' (by rw [hg]; exact hgv') hsz' (show ((T.setTop g).pushFrame (.throwing a)).heap[a]? = some cell from hcell) (fun k h9 => by rw [hv] at h9; cases h9) ⟨_, hk2⟩ ⟨_, hk4⟩, if_neg (by rw [hn]; decide),
    gx_go (s := ((T.setTop g).pushFrame (.throwing a)).setVm vm1) hx h0 (by rw [hg]; exact hgv) hsz (show (((T.setTop g).pushFrame (.throwing a)).setVm vm1).heap[a]? = some cell from hcell) (fun k h9 => by rw [hv] at h9; cases h9) ⟨_, hk1⟩ ⟨_, hk1⟩, if_pos (va_asg _ _)]
  rfl
end GXF
end
section
/-! ===== the law's helpers, that catch ===== -/
def gy_M (l : Launch) (y : MethodName) (cc : ByteArray) (q : gw_N) (ret : Option FieldType) (hh : List (Nat × Nat × Nat × Nat)) (Z : gw_Z) (b0 : Nat) (σ : gw_S) (av : List Value) (post : Option Value → gw_S → Prop) (px : String → gw_S → Prop) : Prop :=
  MetFree l y (headSpec (.codeWith y cc q.1 ret hh :: gw_ws) { frames := q.2.1, cells := q.2.2.2.1, slots := q.2.2.2.2, locals := q.2.2.1 }) (gx_Pc Z b0 σ av) (fun _ _ _ _ _ => True) (gx_Q Z b0 post px q.2.2.2.1 q.2.2.2.2)
def gy_ok (X : gw_C) (hh : List (Nat × Nat × Nat × Nat)) : Prop := gx_K (gw_b X) (gw_s X) ∧ X.1.2.1.stackTraces = false ∧ X.2.2.1.2.exceptionTable.toList = tableOf hh ∧ gw_b X ≤ (gw_s X).heap.size
theorem gy_M_of {hh : List (Nat × Nat × Nat × Nat)} {l : Launch} {y : MethodName} {cc : ByteArray} {q : gw_N} {ret : Option FieldType} {Z : gw_Z} {b0 : Nat} {σ : gw_S} {av : List Value} {post : Option Value → gw_S → Prop} {px : String → gw_S → Prop} (hy : plainName y.cls = true) (ha : (lg_sl av).length ≤ q.1) (hl0 : l.stackTraces = false)
    (body : ∀ X : gw_C, gw_ok X cc y.cls q → X.1.2.1 = l → gw_z X = Z → gw_b X = b0 → X.2.2.1.1.sig.returnType = ret → X.2.2.1.1.name = y.name → X.2.2.2.2 = gx_end X post px q.2.2.2.1 q.2.2.2.2 → gy_ok X hh → gw_W X σ 0 0 0 (lv_args 0 av) []) : gy_M l y cc q ret hh Z b0 σ av post px := by
  refine MetFree.of_bodyS (code := cc) (maxLocals := q.1) (ret := ret) hy ?_ ?_
  · intro args s m h hn
    obtain ⟨m9, meth, c, hn9, h1, h2, h3, h4, -, h5, h6, -⟩ := Cond.codeWith_spec (atoms_spec (ws := .codeWith y cc q.1 ret hh :: gw_ws) h _ List.mem_cons_self)
    cases hn.symm.trans hn9
    exact ⟨meth, c, h1, h2, h3, h4, h5, h6⟩
  · intro p e s m args below meth c s₁ B hml hv _
    obtain ⟨rfl, hK, hG, hK9⟩ := hv
    have hts := atoms_spec (ws := .codeWith y cc q.1 ret hh :: gw_ws) B.pre
    have hl := lv_entry av (n := q.1) ha
    have hh0 : s₁.heap = s.heap := by rw [B.state]; rfl
    have htab : c.exceptionTable.toList = tableOf hh := by
      obtain ⟨m9, meth9, c9, hn9, h1, h2, -, -, h7, -, -, -⟩ := Cond.codeWith_spec (hts _ List.mem_cons_self)
      cases B.named.symm.trans hn9
      cases Option.some.inj (h1.symm.trans B.method)
      cases Option.some.inj (h2.symm.trans (Stand.of_body B).code)
      rw [← h7, table_eq]
    have h9 := body ((p, l, e, { frames := q.2.1, cells := q.2.2.2.1, slots := q.2.2.2.2, locals := q.2.2.1 }), (s, m, av.toArray, below), (meth, c), (Z, b0, q.1), fun t => ∃ o, t.status = .running ∧ Ended t below o ∧ gx_Q Z b0 post px q.2.2.2.1 q.2.2.2.2 av.toArray s o t)
      ⟨B.exec, B.bytes, ⟨hml, rfl, rfl, B.notSynchronized⟩, findClass_of_methodNamed B.named, fun w hw => hts w (List.mem_cons_of_mem _ hw), hK⟩ rfl rfl rfl B.returns (name_of_methodNamed B.named B.method).1 rfl ⟨hK9, hl0, htab, by show b0 ≤ s.heap.size; rw [hG.1]; exact hG.2.1.1⟩ s.heap [] _ hG va_S.rf hl
    rw [← lg_entry_eq] at h9
    obtain ⟨t, a1, o, b1, b2, b3⟩ := h9 s₁ hh0 (Stand.of_body B)
    exact ⟨t, o, a1, b1, b2, b3⟩
def gy_cal (y : MethodName) (cc : ByteArray) (maxL : Nat) (ret : Option FieldType) (hh : List (Nat × Nat × Nat × Nat)) (n : Nat) : Prop := Cond.codeWith y cc maxL ret hh ∈ gw_ws ∧ Cond.initialized y.cls ∈ gw_ws ∧ y.cls ≠ "java/lang/invoke/MethodHandle" ∧ y.cls ≠ "java/lang/invoke/VarHandle" ∧ (parseMethodDescriptor y.desc).map (fun d => d.parameters.length) = some n
theorem gy_cal_in {y : MethodName} {cb : ByteArray} {maxL n : Nat} {ret : Option FieldType} {hh : List (Nat × Nat × Nat × Nat)} (h : gy_cal y cb maxL ret hh n) : GoodIn gw_ws (.codeWith y cb maxL ret hh :: gw_ws) := fun w hw => by
  rcases List.mem_cons.mp hw with rfl | h1
  · exact ⟨h.1, gw_good _ h.1⟩
  · exact ⟨h1, gw_good _ h1⟩
def gy_sS (own : String) (idx : Nat) (y : MethodName) (cb : ByteArray) (maxL : Nat) (ret : Option FieldType) (hh : List (Nat × Nat × Nat × Nat)) (n : Nat) : Prop := gy_cal y cb maxL ret hh n ∧ Cond.static y ∈ gw_ws
section GYB
variable {p : Program} {l : Launch} {e : Env} {R : Room} {s : State} {m : MethodId} {args : Array Value} {below : List Frame} {meth : Method} {c : Code} {locs : List Loc} {cells slots : Nat}
/-- the callee's contract, used by a caller that stands at U with the arguments taken off its stack -/
theorem gy_run {hh : List (Nat × Nat × Nat × Nat)} {y : MethodName} {cb : ByteArray} {q : gw_N} {ret : Option FieldType} {Z : gw_Z} {b0 : Nat} {σ : gw_S} {av : List Value} {post : Option Value → gw_S → Prop} {px : String → gw_S → Prop} (hM : gy_M l y cb q ret hh Z b0 σ av post px)
    {U : State} (X : Stand p l e R s m args below meth c U locs cells slots) {g : JFrame} (hg : g.method = m) (hsize : g.locals.size = c.maxLocals) {ig : Instr} (hdg : decode c.code g.pc = .ok (ig, 3)) (hw : 2 * g.monitorRoom + (g.stack.map fun v => v.category).sum ≤ 8) {mk : MethodId} (hn : U.methodNamed? y = some mk)
    (hws : ∀ w ∈ (Cond.codeWith y cb q.1 ret hh :: gw_ws), w.before av.toArray U = true) (hini : (Cond.initialized y.cls).before av.toArray U = true) (hPc : gx_Pc Z b0 σ av av.toArray U) (hR : q.2.1 + 1 ≤ R.frames ∧ 8 + (q.1 + 11) + q.2.2.1 ≤ R.locals) (hc : cells + q.2.2.2.1 ≤ R.cells ∧ slots + q.2.2.2.2 ≤ R.slots) :
    (∃ (v : Option Value) (σ' : gw_S) (V : State) (L' : List Loc), Stand p l e R s m args below meth c V (locs ++ L') (cells + q.2.2.2.1) (slots + q.2.2.2.2) ∧ (∀ z ∈ L', b0 ≤ z.base) ∧ post v σ' ∧ gw_H Z b0 σ' V.heap ∧ U.heap.size ≤ V.heap.size ∧ (∀ a : Nat, a < U.heap.size → ¬ b0 ≤ a → V.heap[a]? = U.heap[a]?) ∧
      Steps p.tables e below (doInvoke e (U.setTop g) [] mk av.toArray).1 (V.setTop { g with pc := g.pc + 3, stack := v.toList ++ g.stack })) ∨
    (∃ (x : Addr) (E : String) (cx : Cell) (σ' : gw_S) (V : State) (L' : List Loc), Stand p l e R s m args below meth c V (locs ++ L') (cells + q.2.2.2.1) (slots + q.2.2.2.2) ∧ (∀ z ∈ L', b0 ≤ z.base) ∧ px E σ' ∧ gw_H Z b0 σ' V.heap ∧ U.heap.size ≤ V.heap.size ∧ (∀ a : Nat, a < U.heap.size → ¬ b0 ≤ a → V.heap[a]? = U.heap[a]?) ∧ V.heap[x]? = some cx ∧ cx.vm = .none ∧ U.vm.findClass E = some cx.cls ∧
      Steps p.tables e below (doInvoke e (U.setTop g) [] mk av.toArray).1 ((V.setTop g).pushFrame (.throwing x))) := by
  have h1 : (headSpec (.codeWith y cb q.1 ret hh :: gw_ws) { frames := q.2.1, cells := q.2.2.2.1, slots := q.2.2.2.2, locals := q.2.2.1 }).pre.before av.toArray U = true := atoms_intro hws
  obtain ⟨mY9, methY, cY, hn9, hmY, hcY, -, hlY, -, -, -, -⟩ := Cond.codeWith_spec (hws _ List.mem_cons_self)
  cases hn.symm.trans hn9
  obtain ⟨kY, hkY, -⟩ := className_of_methodNamed hn
  have hiY : kY.init = .initialized := Cond.initialized_spec (findClass_of_methodNamed hn) hkY hini
  have hA : At U g.method c below := by rw [hg]; exact X.here
  have happ := Spec.appliesLoose_calling (g := g) (args := av.toArray) hA hdg hn hkY hiY (X.room_calling (g := g) (R' := (headSpec (.codeWith y cb q.1 ret hh :: gw_ws) { frames := q.2.1, cells := q.2.2.2.1, slots := q.2.2.2.2, locals := q.2.2.1 }).room) hsize hmY hcY hR.1 (by rw [hlY]; exact Nat.le_trans (Nat.add_le_add_right (Nat.add_le_add_right hw _) _) hR.2) hc.1 hc.2) h1
  obtain ⟨mid, hmid⟩ := hA.above
  have hfr : (U.setTop g).frames = (.java g :: mid) ++ below := by rw [State.frames_setTop' g hA.top, hmid]; rfl
  obtain ⟨o, t, hsteps, -, hend, hq⟩ := Steps.callFree hM p X.admits X.cas X.clock (acts := []) hfr happ (gx_blind Z b0 σ av _ _ g mk hPc) trivial
  have hq : gx_Q Z b0 post px q.2.2.2.1 q.2.2.2.2 av.toArray (U.calling g mk av.toArray) o t := hq
  rw [State.frames_setTop' g hA.top] at hend
  obtain ⟨g₀, hg0⟩ := Option.isSome_iff_exists.mp hA.top
  obtain ⟨r, hr⟩ := State.topJava?_eq_some.mp hg0
  generalize hVe : ({ U with heap := t.heap, slotsUsed := t.slotsUsed } : State).setVm t.vm = V
  have hr' : V.frames = .java g₀ :: r := by rw [← hVe]; exact hr
  have hVh : V.heap = t.heap := by rw [← hVe]; rfl
  have back : ∀ L' : List Loc, U.WarmedH t.vm → (U.calling g mk av.toArray).sameButNew ({ t with vm := (U.calling g mk av.toArray).vm } : State) L' q.2.2.2.1 q.2.2.2.2 →
      Stand p l e R s m args below meth c V (locs ++ L') (cells + q.2.2.2.1) (slots + q.2.2.2.2) ∧ t = V.setFrames t.frames := by
    intro L' hW hsm
    obtain ⟨e2, q2, q3, q4, q5, q6⟩ := hsm
    have e3 : t = ({ (U.calling g mk av.toArray).setFrames t.frames with heap := t.heap, slotsUsed := t.slotsUsed } : State).setVm t.vm := by
      have h9 : t = ({ t with vm := (U.calling g mk av.toArray).vm } : State).setVm t.vm := rfl
      rw [e2] at h9
      exact h9
    have hsame : U.sameButNew ({ U with heap := t.heap, slotsUsed := t.slotsUsed } : State) L' q.2.2.2.1 q.2.2.2.2 := by
      refine ⟨?_, q2, q3, q4, q5, q6⟩
      obtain ⟨th, hth, -⟩ := State.frames_cons hr
      show ({ U with heap := t.heap, slotsUsed := t.slotsUsed } : State) = { U.setFrames U.frames with heap := t.heap, slotsUsed := t.slotsUsed }
      rw [State.setFrames_self hth]
    constructor
    · rw [← hVe]
      exact ⟨X.admits, X.cas, X.clock, X.frames, X.room, X.hears, X.method, X.code, (X.here.setHeapUsed t.heap t.slotsUsed).setVm hW.alike, X.tail, State.WarmedH.trans X.warmed hW, X.limits, X.bytes, X.same.trans (hsame.setVm s.vm)⟩
    · refine e3.trans ?_
      rw [State.calling_eq hA.top, State.setFrames_setFrames, ← hVe]
      rfl
  rcases hq with ⟨⟨v, σ', rfl, hp, hG, hF⟩, L', ⟨-, hW, hsm⟩, hL'⟩ | ⟨x, E, cx, L', σ', rfl, hp, hG, hF, hcx, hcv, hcl, hW, hsm, hL'⟩
  · obtain ⟨XV, ht⟩ := back L' hW hsm
    refine Or.inl ⟨v, σ', V, L', XV, hL', hp, by rw [hVh]; exact hG, by rw [hVh]; exact hF.1, fun a h1 h2 => by rw [hVh]; exact hF.2 a h1 h2, ?_⟩
    obtain ⟨c₂, i₂, n₂, hc₂, hd₂, hf₂⟩ := hend
    have hcc : c₂ = c := by
      have h9 : t.code? g.method = U.code? g.method := by
        rw [State.code?_eq, State.code?_eq, hW.alike.method?]
        rfl
      exact Option.some.inj (hc₂.symm.trans (h9.trans hA.code))
    subst hcc
    have hn2 : n₂ = 3 := by rw [hdg] at hd₂; cases hd₂; rfl
    subst hn2
    have hfin : t = V.setTop { g with pc := g.pc + 3, stack := v.toList ++ g.stack } := by
      rw [ht, hf₂, State.setTop_of_frames _ hr', hr]
      rfl
    rw [← hfin]
    exact hsteps
  · obtain ⟨XV, ht⟩ := back L' hW hsm
    refine Or.inr ⟨x, E, cx, σ', V, L', XV, hL', hp, by rw [hVh]; exact hG, by rw [hVh]; exact hF.1, fun a h1 h2 => by rw [hVh]; exact hF.2 a h1 h2, by rw [hVh]; exact hcx, hcv, hcl, ?_⟩
    have hf₂ : t.frames = .throwing x :: .java g :: U.frames.tail := hend
    have hfin : t = (V.setTop g).pushFrame (.throwing x) := by
      rw [ht, hf₂, State.pushFrame, State.frames_setTop _ hr', State.setTop_of_frames _ hr', State.setFrames_setFrames, hr]
      rfl
    rw [← hfin]
    exact hsteps
end GYB
section GYC
variable {X : gw_C} {cc : ByteArray} {own : String} {q : gw_N} {σ : gw_S} {ce sl pc : Nat} {L : List (Nat × Value)} {st : List Value} {post : Option Value → gw_S → Prop} {px : String → gw_S → Prop} {mc ms : Nat}
theorem gy_callS {hh : List (Nat × Nat × Nat × Nat)} (hX : gw_ok X cc own q) (hK : gx_K (gw_b X) (gw_s X)) (hb0 : gw_b X ≤ (gw_s X).heap.size) {idx n : Nat} {y : MethodName} {cb : ByteArray} {q' : gw_N} {ret : Option FieldType} (k : gy_sS own idx y cb q'.1 ret hh n) (hlk : Cond.methodLink own idx y ∈ gw_ws) {As rest : List Value} (hM : gy_M X.1.2.1 y cb q' ret hh (gw_z X) (gw_b X) σ As post px) (hn : As.length = n) (hst : st = As.reverse ++ rest) (hw : (rest.map fun v => v.category).sum ≤ 8) (d : decode cc pc = .ok (.invokestatic idx, 3)) (hR : gw_rm q q' ce sl)
    (kx : ∀ (E : String) (σ' : gw_S), px E σ' → gx_X X σ' (ce + q'.2.2.2.1) (sl + q'.2.2.2.2) pc L rest E)
    (kk : ∀ (v : Option Value) (σ' : gw_S), post v σ' → gw_W X σ' (ce + q'.2.2.2.1) (sl + q'.2.2.2.2) (pc + 3) L (v.toList ++ rest)) : gw_W X σ ce sl pc L st := by
  obtain ⟨hc, hs⟩ := k
  subst hst
  intro H locs ls hG hS hL T hT X0
  have hws := hX.2.2.2.2.1
  have hRm : X.1.2.2.2 = _ := hX.2.2.1.2.2.1
  obtain ⟨mk, methM, cM, hnamed, hmethM, -, -, -, -, -, -, hsigM⟩ := Cond.codeWith_spec (hws _ hc.1)
  have hstatic : methM.isStatic = true := Cond.static_spec hnamed hmethM (hws _ hs)
  obtain ⟨kP, hkP, -⟩ := className_of_methodNamed hnamed
  have hinitP : kP.init = .initialized := Cond.initialized_spec (findClass_of_methodNamed hnamed) hkP (hws _ hc.2.1)
  have hlen : As.length = methM.sig.parameters.length := by
    have h2 := hc.2.2.2.2
    rw [hsigM] at h2
    exact hn.trans (Option.some.inj h2).symm
  obtain ⟨vm₁, X₁, hstep₁⟩ := X0.invokestatic hX.1 hX.2.2.2.1 (hws _ hlk) hnamed hmethM hstatic hkP hinitP ⟨hc.2.2.1, hc.2.2.2.1⟩ (g := F0 (gw_m X) pc ls (As.reverse ++ rest)) rfl (argsL := As) (rest := rest) hlen rfl (by rw [hX.2.1]; exact d)
  have hW₁ := X₁.warmed
  have hPc : gx_Pc (gw_z X) (gw_b X) σ As As.toArray (T.setVm vm₁) := ⟨rfl, gw_K_warm hW₁ hX.2.2.2.2.2, by show gw_H _ _ _ T.heap; rw [hT]; exact hG, gx_env hK hb0 hS hT hW₁⟩
  rcases gy_run hM X₁ (g := { F0 (gw_m X) pc ls (As.reverse ++ rest) with stack := rest }) rfl (by rw [hX.2.2.1.1]; exact hL.1) (by rw [hX.2.1]; exact d) (lv_room hw) (X₁.named hnamed) (fun w hw9 => word_at hW₁ ((gy_cal_in hc) w hw9).2 (hws w ((gy_cal_in hc) w hw9).1)) (word_at hW₁ (gw_good _ hc.2.1) (hws _ hc.2.1)) hPc (by rw [hRm]; exact hR.1) (by rw [hRm]; exact hR.2) with ⟨v, σ', V, L', XV, hL', hp, hG', f1, f2, hsteps⟩ | ⟨x, E, cx, σ', V, L', XV, hL', hp, hG', f1, f2, hcx, hcv, hcl, hsteps⟩
  · have f1 : T.heap.size ≤ V.heap.size := f1
    have f2 : ∀ a : Nat, a < T.heap.size → ¬ gw_b X ≤ a → V.heap[a]? = T.heap[a]? := f2
    rw [hT] at f1 f2
    obtain ⟨t2, a1, b1⟩ := kk v σ' hp V.heap (locs ++ L') ls hG' ⟨Nat.le_trans hS.1 f1, fun a g1 g2 => (f2 a (Nat.lt_of_lt_of_le g1 hS.1) g2).trans (hS.2.1 a g1 g2), fun z hz => (List.mem_append.mp hz).elim (hS.2.2 z) (hL' z)⟩ hL V rfl XV
    exact ⟨t2, hstep₁ _ fun acts => by rw [doInvoke_state]; exact hsteps.trans a1, b1⟩
  · have f1 : T.heap.size ≤ V.heap.size := f1
    have f2 : ∀ a : Nat, a < T.heap.size → ¬ gw_b X ≤ a → V.heap[a]? = T.heap[a]? := f2
    rw [hT] at f1 f2
    have hcl9 : (gw_s X).vm.findClass E = some cx.cls := by
      have h9 := hcl
      rw [hW₁.alike.findClass] at h9
      exact h9
    obtain ⟨t2, a1, b1⟩ := kx E σ' hp V.heap (locs ++ L') ls hG' ⟨Nat.le_trans hS.1 f1, fun a g1 g2 => (f2 a (Nat.lt_of_lt_of_le g1 hS.1) g2).trans (hS.2.1 a g1 g2), fun z hz => (List.mem_append.mp hz).elim (hS.2.2 z) (hL' z)⟩ hL x cx hcx hcv hcl9 V rfl XV
    exact ⟨t2, hstep₁ _ fun acts => by rw [doInvoke_state]; exact hsteps.trans a1, b1⟩
/-- caught by the first row -/
theorem gy_catch1 (hX : gw_ok X cc own q) {lo hi hp idx : Nat} {rest : List (Nat × Nat × Nat × Nat)} (hE : gy_ok X ((lo, hi, hp, idx) :: rest)) {E : String} (hk : Cond.classLink own idx E ∈ gw_ws) (h1 : lo ≤ pc) (h2 : pc < hi) (h0 : idx ≠ 0) (kk : ∀ x : Nat, gw_W X σ ce sl hp L [.ref x]) : gx_X X σ ce sl pc L st E := by
  intro H locs ls hG hS hL x cx hx hv hcl T hT X0
  obtain ⟨vm', X1, st1⟩ := gx_catch1 X0 hX.2.2.2.1 (hX.2.2.2.2.1 _ hk) hE.2.2.1 (g := F0 (gw_m X) pc ls st) rfl (by simp [covers, F0]; exact ⟨h1, h2⟩) h0 rfl (a := x) (cell := cx) (by rw [hT]; exact hx) hv hcl
  obtain ⟨t, a1, b1⟩ := kk x H locs ls hG hS hL (T.setVm vm') hT X1
  exact ⟨t, st1 t a1, b1⟩
theorem gy_catch2 (hX : gw_ok X cc own q) {lo hi hp idx lo' hi' hp' idx' : Nat} {rest : List (Nat × Nat × Nat × Nat)} (hE : gy_ok X ((lo', hi', hp', idx') :: (lo, hi, hp, idx) :: rest)) {E E' : String} (hk' : Cond.classLink own idx' E' ∈ gw_ws) (hk : Cond.classLink own idx E ∈ gw_ws) (h1 : lo ≤ pc) (h2 : pc < hi) (h0 : idx ≠ 0) (h1' : lo' ≤ pc) (h2' : pc < hi') (h0' : idx' ≠ 0) (hno : ∀ c c', (gw_s X).vm.findClass E = some c → (gw_s X).vm.findClass E' = some c' → (gw_s X).vm.assignable c c' = false) (kk : ∀ x : Nat, gw_W X σ ce sl hp L [.ref x]) : gx_X X σ ce sl pc L st E := by
  intro H locs ls hG hS hL x cx hx hv hcl T hT X0
  obtain ⟨vm', X1, st1⟩ := gx_catch2 X0 hX.2.2.2.1 (hX.2.2.2.2.1 _ hk') (hX.2.2.2.2.1 _ hk) hE.2.2.1 (g := F0 (gw_m X) pc ls st) rfl (by simp [covers, F0]; exact ⟨h1, h2⟩) h0 rfl (by simp [covers, F0]; exact ⟨h1', h2'⟩) h0' rfl (a := x) (cell := cx) (by rw [hT]; exact hx) hv hcl (fun c' h9 => hno _ _ hcl h9)
  obtain ⟨t, a1, b1⟩ := kk x H locs ls hG hS hL (T.setVm vm') hT X1
  exact ⟨t, st1 t a1, b1⟩
end GYC
end
