section
-- ===== PART A: goes FIRST, ahead of the names: the tables' words, and 'selects' of the private methods out of them =====
/-- a private method of a class that the tables say can be made, by its rows of tables_1 -/
def lw_okq (q : MethodName × Nat) : Prop := (q.1.cls ≠ "java/lang/invoke/MethodHandle" ∧ q.1.cls ≠ "java/lang/invoke/VarHandle") ∧ Cond.instantiable q.1.cls q.2 ∈ tables_1 ∧ Cond.privateMethod q.1 ∈ tables_1 ∧ Cond.instanceMethod q.1 ∈ tables_1
theorem lw_p0 : lw_okq (⟨"BallastTrain$Text", "skipBlanks", "()V"⟩, 5) := ⟨⟨by decide +kernel, by decide +kernel⟩, List.mem_of_getElem? (i := 31) (by decide +kernel), List.mem_of_getElem? (i := 242) (by decide +kernel), List.mem_of_getElem? (i := 243) (by decide +kernel)⟩
theorem lw_p1 : lw_okq (⟨"BallastTrain$Text", "readOrder", "()V"⟩, 5) := ⟨⟨by decide +kernel, by decide +kernel⟩, List.mem_of_getElem? (i := 31) (by decide +kernel), List.mem_of_getElem? (i := 250) (by decide +kernel), List.mem_of_getElem? (i := 251) (by decide +kernel)⟩
theorem lw_p2 : lw_okq (⟨"BallastTrain$Text", "takeOneOf", "(Ljava/lang/String;)I"⟩, 5) := ⟨⟨by decide +kernel, by decide +kernel⟩, List.mem_of_getElem? (i := 31) (by decide +kernel), List.mem_of_getElem? (i := 255) (by decide +kernel), List.mem_of_getElem? (i := 256) (by decide +kernel)⟩
theorem lw_p3 : lw_okq (⟨"BallastTrain$Text", "take", "(III)I"⟩, 5) := ⟨⟨by decide +kernel, by decide +kernel⟩, List.mem_of_getElem? (i := 31) (by decide +kernel), List.mem_of_getElem? (i := 346) (by decide +kernel), List.mem_of_getElem? (i := 347) (by decide +kernel)⟩
theorem lw_p4 : lw_okq (⟨"BallastTrain$Text", "takeCell", "()I"⟩, 5) := ⟨⟨by decide +kernel, by decide +kernel⟩, List.mem_of_getElem? (i := 31) (by decide +kernel), List.mem_of_getElem? (i := 351) (by decide +kernel), List.mem_of_getElem? (i := 352) (by decide +kernel)⟩
theorem lw_p5 : lw_okq (⟨"BallastTrain$Text", "takeDigit", "(II)I"⟩, 5) := ⟨⟨by decide +kernel, by decide +kernel⟩, List.mem_of_getElem? (i := 31) (by decide +kernel), List.mem_of_getElem? (i := 359) (by decide +kernel), List.mem_of_getElem? (i := 360) (by decide +kernel)⟩
theorem lw_p6 : lw_okq (⟨"java/util/ArrayList", "add", "(Ljava/lang/Object;[Ljava/lang/Object;I)V"⟩, 3) := ⟨⟨by decide +kernel, by decide +kernel⟩, List.mem_of_getElem? (i := 37) (by decide +kernel), List.mem_of_getElem? (i := 392) (by decide +kernel), List.mem_of_getElem? (i := 393) (by decide +kernel)⟩
theorem lw_p7 : lw_okq (⟨"java/util/ArrayList", "grow", "()[Ljava/lang/Object;"⟩, 3) := ⟨⟨by decide +kernel, by decide +kernel⟩, List.mem_of_getElem? (i := 37) (by decide +kernel), List.mem_of_getElem? (i := 396) (by decide +kernel), List.mem_of_getElem? (i := 397) (by decide +kernel)⟩
theorem lw_p8 : lw_okq (⟨"java/util/ArrayList", "grow", "(I)[Ljava/lang/Object;"⟩, 3) := ⟨⟨by decide +kernel, by decide +kernel⟩, List.mem_of_getElem? (i := 37) (by decide +kernel), List.mem_of_getElem? (i := 400) (by decide +kernel), List.mem_of_getElem? (i := 401) (by decide +kernel)⟩
theorem lw_p9 : lw_okq (⟨"java/util/ArrayList", "fastRemove", "([Ljava/lang/Object;I)V"⟩, 3) := ⟨⟨by decide +kernel, by decide +kernel⟩, List.mem_of_getElem? (i := 37) (by decide +kernel), List.mem_of_getElem? (i := 555) (by decide +kernel), List.mem_of_getElem? (i := 556) (by decide +kernel)⟩
theorem lw_p10 : lw_okq (⟨"BallastTrain$State", "carryOutOrders", "()V"⟩, 9) := ⟨⟨by decide +kernel, by decide +kernel⟩, List.mem_of_getElem? (i := 83) (by decide +kernel), List.mem_of_getElem? (i := 573) (by decide +kernel), List.mem_of_getElem? (i := 574) (by decide +kernel)⟩
theorem lw_p11 : lw_okq (⟨"BallastTrain$State", "unload", "()V"⟩, 9) := ⟨⟨by decide +kernel, by decide +kernel⟩, List.mem_of_getElem? (i := 83) (by decide +kernel), List.mem_of_getElem? (i := 600) (by decide +kernel), List.mem_of_getElem? (i := 601) (by decide +kernel)⟩
theorem lw_p12 : lw_okq (⟨"BallastTrain$State", "land", "(III)V"⟩, 9) := ⟨⟨by decide +kernel, by decide +kernel⟩, List.mem_of_getElem? (i := 83) (by decide +kernel), List.mem_of_getElem? (i := 609) (by decide +kernel), List.mem_of_getElem? (i := 610) (by decide +kernel)⟩
theorem lw_p13 : lw_okq (⟨"BallastTrain$Track", "lowestIn", "(I)I"⟩, 1) := ⟨⟨by decide +kernel, by decide +kernel⟩, List.mem_of_getElem? (i := 89) (by decide +kernel), List.mem_of_getElem? (i := 724) (by decide +kernel), List.mem_of_getElem? (i := 725) (by decide +kernel)⟩
theorem lw_p14 : lw_okq (⟨"BallastTrain", "lookAhead", "(I)V"⟩, 4) := ⟨⟨by decide +kernel, by decide +kernel⟩, List.mem_of_getElem? (i := 23) (by decide +kernel), List.mem_of_getElem? (i := 741) (by decide +kernel), List.mem_of_getElem? (i := 742) (by decide +kernel)⟩
theorem lw_p15 : lw_okq (⟨"BallastTrain", "foretold", "(I)I"⟩, 4) := ⟨⟨by decide +kernel, by decide +kernel⟩, List.mem_of_getElem? (i := 23) (by decide +kernel), List.mem_of_getElem? (i := 746) (by decide +kernel), List.mem_of_getElem? (i := 747) (by decide +kernel)⟩
def lw_privs_1 : List (MethodName × Nat) := [(⟨"BallastTrain$Text", "skipBlanks", "()V"⟩, 5), (⟨"BallastTrain$Text", "readOrder", "()V"⟩, 5), (⟨"BallastTrain$Text", "takeOneOf", "(Ljava/lang/String;)I"⟩, 5), (⟨"BallastTrain$Text", "take", "(III)I"⟩, 5), (⟨"BallastTrain$Text", "takeCell", "()I"⟩, 5), (⟨"BallastTrain$Text", "takeDigit", "(II)I"⟩, 5), (⟨"java/util/ArrayList", "add", "(Ljava/lang/Object;[Ljava/lang/Object;I)V"⟩, 3), (⟨"java/util/ArrayList", "grow", "()[Ljava/lang/Object;"⟩, 3), (⟨"java/util/ArrayList", "grow", "(I)[Ljava/lang/Object;"⟩, 3), (⟨"java/util/ArrayList", "fastRemove", "([Ljava/lang/Object;I)V"⟩, 3), (⟨"BallastTrain$State", "carryOutOrders", "()V"⟩, 9), (⟨"BallastTrain$State", "unload", "()V"⟩, 9), (⟨"BallastTrain$State", "land", "(III)V"⟩, 9), (⟨"BallastTrain$Track", "lowestIn", "(I)I"⟩, 1), (⟨"BallastTrain", "lookAhead", "(I)V"⟩, 4), (⟨"BallastTrain", "foretold", "(I)I"⟩, 4)]
theorem lw_r1 : ∀ q ∈ lw_privs_1, lw_okq q := List.forall_mem_cons.mpr ⟨lw_p0, List.forall_mem_cons.mpr ⟨lw_p1, List.forall_mem_cons.mpr ⟨lw_p2, List.forall_mem_cons.mpr ⟨lw_p3, List.forall_mem_cons.mpr ⟨lw_p4, List.forall_mem_cons.mpr ⟨lw_p5, List.forall_mem_cons.mpr ⟨lw_p6, List.forall_mem_cons.mpr ⟨lw_p7, List.forall_mem_cons.mpr ⟨lw_p8, List.forall_mem_cons.mpr ⟨lw_p9, List.forall_mem_cons.mpr ⟨lw_p10, List.forall_mem_cons.mpr ⟨lw_p11, List.forall_mem_cons.mpr ⟨lw_p12, List.forall_mem_cons.mpr ⟨lw_p13, List.forall_mem_cons.mpr ⟨lw_p14, List.forall_mem_cons.mpr ⟨lw_p15, fun _ h => absurd h List.not_mem_nil⟩⟩⟩⟩⟩⟩⟩⟩⟩⟩⟩⟩⟩⟩⟩⟩
theorem lw_p16 : lw_okq (⟨"BallastTrain", "mixedWithTrain", "(J)J"⟩, 4) := ⟨⟨by decide +kernel, by decide +kernel⟩, List.mem_of_getElem? (i := 23) (by decide +kernel), List.mem_of_getElem? (i := 777) (by decide +kernel), List.mem_of_getElem? (i := 778) (by decide +kernel)⟩
theorem lw_p17 : lw_okq (⟨"BallastTrain", "mixedWithTrack", "(J)J"⟩, 4) := ⟨⟨by decide +kernel, by decide +kernel⟩, List.mem_of_getElem? (i := 23) (by decide +kernel), List.mem_of_getElem? (i := 783) (by decide +kernel), List.mem_of_getElem? (i := 784) (by decide +kernel)⟩
theorem lw_p18 : lw_okq (⟨"BallastTrain", "mixedWithOrders", "(J)J"⟩, 4) := ⟨⟨by decide +kernel, by decide +kernel⟩, List.mem_of_getElem? (i := 23) (by decide +kernel), List.mem_of_getElem? (i := 790) (by decide +kernel), List.mem_of_getElem? (i := 791) (by decide +kernel)⟩
theorem lw_p19 : lw_okq (⟨"BallastTrainModel", "couples", "(I)V"⟩, 11) := ⟨⟨by decide +kernel, by decide +kernel⟩, List.mem_of_getElem? (i := 797) (by decide +kernel), List.mem_of_getElem? (i := 803) (by decide +kernel), List.mem_of_getElem? (i := 804) (by decide +kernel)⟩
theorem lw_p20 : lw_okq (⟨"BallastTrainModel", "put", "(III)V"⟩, 11) := ⟨⟨by decide +kernel, by decide +kernel⟩, List.mem_of_getElem? (i := 797) (by decide +kernel), List.mem_of_getElem? (i := 807) (by decide +kernel), List.mem_of_getElem? (i := 808) (by decide +kernel)⟩
theorem lw_p21 : lw_okq (⟨"BallastTrainModel", "reads", "()V"⟩, 11) := ⟨⟨by decide +kernel, by decide +kernel⟩, List.mem_of_getElem? (i := 797) (by decide +kernel), List.mem_of_getElem? (i := 864) (by decide +kernel), List.mem_of_getElem? (i := 865) (by decide +kernel)⟩
theorem lw_p22 : lw_okq (⟨"BallastTrainModel", "blanks", "()V"⟩, 11) := ⟨⟨by decide +kernel, by decide +kernel⟩, List.mem_of_getElem? (i := 797) (by decide +kernel), List.mem_of_getElem? (i := 868) (by decide +kernel), List.mem_of_getElem? (i := 869) (by decide +kernel)⟩
theorem lw_p23 : lw_okq (⟨"BallastTrainModel", "next", "()I"⟩, 11) := ⟨⟨by decide +kernel, by decide +kernel⟩, List.mem_of_getElem? (i := 797) (by decide +kernel), List.mem_of_getElem? (i := 872) (by decide +kernel), List.mem_of_getElem? (i := 873) (by decide +kernel)⟩
theorem lw_p24 : lw_okq (⟨"BallastTrainModel", "readsOrder", "()V"⟩, 11) := ⟨⟨by decide +kernel, by decide +kernel⟩, List.mem_of_getElem? (i := 797) (by decide +kernel), List.mem_of_getElem? (i := 876) (by decide +kernel), List.mem_of_getElem? (i := 877) (by decide +kernel)⟩
theorem lw_p25 : lw_okq (⟨"BallastTrainModel", "needs", "(Z)V"⟩, 11) := ⟨⟨by decide +kernel, by decide +kernel⟩, List.mem_of_getElem? (i := 797) (by decide +kernel), List.mem_of_getElem? (i := 880) (by decide +kernel), List.mem_of_getElem? (i := 881) (by decide +kernel)⟩
theorem lw_p26 : lw_okq (⟨"BallastTrainModel", "fails", "(I)V"⟩, 11) := ⟨⟨by decide +kernel, by decide +kernel⟩, List.mem_of_getElem? (i := 797) (by decide +kernel), List.mem_of_getElem? (i := 884) (by decide +kernel), List.mem_of_getElem? (i := 885) (by decide +kernel)⟩
theorem lw_p27 : lw_okq (⟨"BallastTrainModel", "cell", "()I"⟩, 11) := ⟨⟨by decide +kernel, by decide +kernel⟩, List.mem_of_getElem? (i := 797) (by decide +kernel), List.mem_of_getElem? (i := 888) (by decide +kernel), List.mem_of_getElem? (i := 889) (by decide +kernel)⟩
theorem lw_p28 : lw_okq (⟨"BallastTrainModel", "isDigit", "()Z"⟩, 11) := ⟨⟨by decide +kernel, by decide +kernel⟩, List.mem_of_getElem? (i := 797) (by decide +kernel), List.mem_of_getElem? (i := 892) (by decide +kernel), List.mem_of_getElem? (i := 893) (by decide +kernel)⟩
theorem lw_p29 : lw_okq (⟨"BallastTrainModel", "digit", "(II)I"⟩, 11) := ⟨⟨by decide +kernel, by decide +kernel⟩, List.mem_of_getElem? (i := 797) (by decide +kernel), List.mem_of_getElem? (i := 896) (by decide +kernel), List.mem_of_getElem? (i := 897) (by decide +kernel)⟩
theorem lw_p30 : lw_okq (⟨"BallastTrainModel", "doorAt", "()I"⟩, 11) := ⟨⟨by decide +kernel, by decide +kernel⟩, List.mem_of_getElem? (i := 797) (by decide +kernel), List.mem_of_getElem? (i := 900) (by decide +kernel), List.mem_of_getElem? (i := 901) (by decide +kernel)⟩
theorem lw_p31 : lw_okq (⟨"BallastTrainModel", "keeps", "()V"⟩, 11) := ⟨⟨by decide +kernel, by decide +kernel⟩, List.mem_of_getElem? (i := 797) (by decide +kernel), List.mem_of_getElem? (i := 908) (by decide +kernel), List.mem_of_getElem? (i := 909) (by decide +kernel)⟩
def lw_privs_2 : List (MethodName × Nat) := [(⟨"BallastTrain", "mixedWithTrain", "(J)J"⟩, 4), (⟨"BallastTrain", "mixedWithTrack", "(J)J"⟩, 4), (⟨"BallastTrain", "mixedWithOrders", "(J)J"⟩, 4), (⟨"BallastTrainModel", "couples", "(I)V"⟩, 11), (⟨"BallastTrainModel", "put", "(III)V"⟩, 11), (⟨"BallastTrainModel", "reads", "()V"⟩, 11), (⟨"BallastTrainModel", "blanks", "()V"⟩, 11), (⟨"BallastTrainModel", "next", "()I"⟩, 11), (⟨"BallastTrainModel", "readsOrder", "()V"⟩, 11), (⟨"BallastTrainModel", "needs", "(Z)V"⟩, 11), (⟨"BallastTrainModel", "fails", "(I)V"⟩, 11), (⟨"BallastTrainModel", "cell", "()I"⟩, 11), (⟨"BallastTrainModel", "isDigit", "()Z"⟩, 11), (⟨"BallastTrainModel", "digit", "(II)I"⟩, 11), (⟨"BallastTrainModel", "doorAt", "()I"⟩, 11), (⟨"BallastTrainModel", "keeps", "()V"⟩, 11)]
theorem lw_r2 : ∀ q ∈ lw_privs_2, lw_okq q := List.forall_mem_cons.mpr ⟨lw_p16, List.forall_mem_cons.mpr ⟨lw_p17, List.forall_mem_cons.mpr ⟨lw_p18, List.forall_mem_cons.mpr ⟨lw_p19, List.forall_mem_cons.mpr ⟨lw_p20, List.forall_mem_cons.mpr ⟨lw_p21, List.forall_mem_cons.mpr ⟨lw_p22, List.forall_mem_cons.mpr ⟨lw_p23, List.forall_mem_cons.mpr ⟨lw_p24, List.forall_mem_cons.mpr ⟨lw_p25, List.forall_mem_cons.mpr ⟨lw_p26, List.forall_mem_cons.mpr ⟨lw_p27, List.forall_mem_cons.mpr ⟨lw_p28, List.forall_mem_cons.mpr ⟨lw_p29, List.forall_mem_cons.mpr ⟨lw_p30, List.forall_mem_cons.mpr ⟨lw_p31, fun _ h => absurd h List.not_mem_nil⟩⟩⟩⟩⟩⟩⟩⟩⟩⟩⟩⟩⟩⟩⟩⟩
theorem lw_p32 : lw_okq (⟨"BallastTrainModel", "inWagons", "()I"⟩, 11) := ⟨⟨by decide +kernel, by decide +kernel⟩, List.mem_of_getElem? (i := 797) (by decide +kernel), List.mem_of_getElem? (i := 916) (by decide +kernel), List.mem_of_getElem? (i := 917) (by decide +kernel)⟩
theorem lw_p33 : lw_okq (⟨"BallastTrainModel", "of", "(II)I"⟩, 11) := ⟨⟨by decide +kernel, by decide +kernel⟩, List.mem_of_getElem? (i := 797) (by decide +kernel), List.mem_of_getElem? (i := 920) (by decide +kernel), List.mem_of_getElem? (i := 921) (by decide +kernel)⟩
theorem lw_p34 : lw_okq (⟨"BallastTrainModel", "isWagon", "(I)Z"⟩, 11) := ⟨⟨by decide +kernel, by decide +kernel⟩, List.mem_of_getElem? (i := 797) (by decide +kernel), List.mem_of_getElem? (i := 928) (by decide +kernel), List.mem_of_getElem? (i := 929) (by decide +kernel)⟩
theorem lw_p35 : lw_okq (⟨"BallastTrainModel", "moves", "(III)V"⟩, 11) := ⟨⟨by decide +kernel, by decide +kernel⟩, List.mem_of_getElem? (i := 797) (by decide +kernel), List.mem_of_getElem? (i := 939) (by decide +kernel), List.mem_of_getElem? (i := 940) (by decide +kernel)⟩
theorem lw_p36 : lw_okq (⟨"BallastTrainModel", "dropsOrder", "(I)V"⟩, 11) := ⟨⟨by decide +kernel, by decide +kernel⟩, List.mem_of_getElem? (i := 797) (by decide +kernel), List.mem_of_getElem? (i := 955) (by decide +kernel), List.mem_of_getElem? (i := 956) (by decide +kernel)⟩
theorem lw_p37 : lw_okq (⟨"BallastTrainModel", "second", "()V"⟩, 11) := ⟨⟨by decide +kernel, by decide +kernel⟩, List.mem_of_getElem? (i := 797) (by decide +kernel), List.mem_of_getElem? (i := 963) (by decide +kernel), List.mem_of_getElem? (i := 964) (by decide +kernel)⟩
theorem lw_p38 : lw_okq (⟨"BallastTrainModel", "ordersDue", "()V"⟩, 11) := ⟨⟨by decide +kernel, by decide +kernel⟩, List.mem_of_getElem? (i := 797) (by decide +kernel), List.mem_of_getElem? (i := 970) (by decide +kernel), List.mem_of_getElem? (i := 971) (by decide +kernel)⟩
theorem lw_p39 : lw_okq (⟨"BallastTrainModel", "isDue", "(I)Z"⟩, 11) := ⟨⟨by decide +kernel, by decide +kernel⟩, List.mem_of_getElem? (i := 797) (by decide +kernel), List.mem_of_getElem? (i := 974) (by decide +kernel), List.mem_of_getElem? (i := 975) (by decide +kernel)⟩
theorem lw_p40 : lw_okq (⟨"BallastTrainModel", "falls", "(II)V"⟩, 11) := ⟨⟨by decide +kernel, by decide +kernel⟩, List.mem_of_getElem? (i := 797) (by decide +kernel), List.mem_of_getElem? (i := 978) (by decide +kernel), List.mem_of_getElem? (i := 979) (by decide +kernel)⟩
theorem lw_p41 : lw_okq (⟨"BallastTrainModel", "slides", "(II)V"⟩, 11) := ⟨⟨by decide +kernel, by decide +kernel⟩, List.mem_of_getElem? (i := 797) (by decide +kernel), List.mem_of_getElem? (i := 985) (by decide +kernel), List.mem_of_getElem? (i := 986) (by decide +kernel)⟩
theorem lw_p42 : lw_okq (⟨"BallastTrainModel", "spills", "(II)V"⟩, 11) := ⟨⟨by decide +kernel, by decide +kernel⟩, List.mem_of_getElem? (i := 797) (by decide +kernel), List.mem_of_getElem? (i := 989) (by decide +kernel), List.mem_of_getElem? (i := 990) (by decide +kernel)⟩
theorem lw_p43 : lw_okq (⟨"BallastTrainModel", "closes", "(II)V"⟩, 11) := ⟨⟨by decide +kernel, by decide +kernel⟩, List.mem_of_getElem? (i := 797) (by decide +kernel), List.mem_of_getElem? (i := 993) (by decide +kernel), List.mem_of_getElem? (i := 994) (by decide +kernel)⟩
theorem lw_p44 : lw_okq (⟨"BallastTrainModel", "sum", "(I)I"⟩, 11) := ⟨⟨by decide +kernel, by decide +kernel⟩, List.mem_of_getElem? (i := 797) (by decide +kernel), List.mem_of_getElem? (i := 1017) (by decide +kernel), List.mem_of_getElem? (i := 1018) (by decide +kernel)⟩
theorem lw_p45 : lw_okq (⟨"BallastTrainModel", "highest", "(I)I"⟩, 11) := ⟨⟨by decide +kernel, by decide +kernel⟩, List.mem_of_getElem? (i := 797) (by decide +kernel), List.mem_of_getElem? (i := 1021) (by decide +kernel), List.mem_of_getElem? (i := 1022) (by decide +kernel)⟩
theorem lw_p46 : lw_okq (⟨"BallastTrainModel", "row", "(IZ)I"⟩, 11) := ⟨⟨by decide +kernel, by decide +kernel⟩, List.mem_of_getElem? (i := 797) (by decide +kernel), List.mem_of_getElem? (i := 1025) (by decide +kernel), List.mem_of_getElem? (i := 1026) (by decide +kernel)⟩
theorem lw_p47 : lw_okq (⟨"BallastTrainModel", "steepest", "(I)I"⟩, 11) := ⟨⟨by decide +kernel, by decide +kernel⟩, List.mem_of_getElem? (i := 797) (by decide +kernel), List.mem_of_getElem? (i := 1029) (by decide +kernel), List.mem_of_getElem? (i := 1030) (by decide +kernel)⟩
def lw_privs_3 : List (MethodName × Nat) := [(⟨"BallastTrainModel", "inWagons", "()I"⟩, 11), (⟨"BallastTrainModel", "of", "(II)I"⟩, 11), (⟨"BallastTrainModel", "isWagon", "(I)Z"⟩, 11), (⟨"BallastTrainModel", "moves", "(III)V"⟩, 11), (⟨"BallastTrainModel", "dropsOrder", "(I)V"⟩, 11), (⟨"BallastTrainModel", "second", "()V"⟩, 11), (⟨"BallastTrainModel", "ordersDue", "()V"⟩, 11), (⟨"BallastTrainModel", "isDue", "(I)Z"⟩, 11), (⟨"BallastTrainModel", "falls", "(II)V"⟩, 11), (⟨"BallastTrainModel", "slides", "(II)V"⟩, 11), (⟨"BallastTrainModel", "spills", "(II)V"⟩, 11), (⟨"BallastTrainModel", "closes", "(II)V"⟩, 11), (⟨"BallastTrainModel", "sum", "(I)I"⟩, 11), (⟨"BallastTrainModel", "highest", "(I)I"⟩, 11), (⟨"BallastTrainModel", "row", "(IZ)I"⟩, 11), (⟨"BallastTrainModel", "steepest", "(I)I"⟩, 11)]
theorem lw_r3 : ∀ q ∈ lw_privs_3, lw_okq q := List.forall_mem_cons.mpr ⟨lw_p32, List.forall_mem_cons.mpr ⟨lw_p33, List.forall_mem_cons.mpr ⟨lw_p34, List.forall_mem_cons.mpr ⟨lw_p35, List.forall_mem_cons.mpr ⟨lw_p36, List.forall_mem_cons.mpr ⟨lw_p37, List.forall_mem_cons.mpr ⟨lw_p38, List.forall_mem_cons.mpr ⟨lw_p39, List.forall_mem_cons.mpr ⟨lw_p40, List.forall_mem_cons.mpr ⟨lw_p41, List.forall_mem_cons.mpr ⟨lw_p42, List.forall_mem_cons.mpr ⟨lw_p43, List.forall_mem_cons.mpr ⟨lw_p44, List.forall_mem_cons.mpr ⟨lw_p45, List.forall_mem_cons.mpr ⟨lw_p46, List.forall_mem_cons.mpr ⟨lw_p47, fun _ h => absurd h List.not_mem_nil⟩⟩⟩⟩⟩⟩⟩⟩⟩⟩⟩⟩⟩⟩⟩⟩
theorem lw_p48 : lw_okq (⟨"BallastTrainModel", "lackingIn", "(I)I"⟩, 11) := ⟨⟨by decide +kernel, by decide +kernel⟩, List.mem_of_getElem? (i := 797) (by decide +kernel), List.mem_of_getElem? (i := 1037) (by decide +kernel), List.mem_of_getElem? (i := 1038) (by decide +kernel)⟩
theorem lw_p49 : lw_okq (⟨"BallastTrainModel", "keepsAside", "()V"⟩, 11) := ⟨⟨by decide +kernel, by decide +kernel⟩, List.mem_of_getElem? (i := 797) (by decide +kernel), List.mem_of_getElem? (i := 1049) (by decide +kernel), List.mem_of_getElem? (i := 1050) (by decide +kernel)⟩
theorem lw_p50 : lw_okq (⟨"BallastTrainModel", "part", "(I)I"⟩, 11) := ⟨⟨by decide +kernel, by decide +kernel⟩, List.mem_of_getElem? (i := 797) (by decide +kernel), List.mem_of_getElem? (i := 1053) (by decide +kernel), List.mem_of_getElem? (i := 1054) (by decide +kernel)⟩
theorem lw_p51 : lw_okq (⟨"BallastTrainModel", "onTrack", "()I"⟩, 11) := ⟨⟨by decide +kernel, by decide +kernel⟩, List.mem_of_getElem? (i := 797) (by decide +kernel), List.mem_of_getElem? (i := 1057) (by decide +kernel), List.mem_of_getElem? (i := 1058) (by decide +kernel)⟩
theorem lw_p52 : lw_okq (⟨"BallastTrainModel", "returns", "()V"⟩, 11) := ⟨⟨by decide +kernel, by decide +kernel⟩, List.mem_of_getElem? (i := 797) (by decide +kernel), List.mem_of_getElem? (i := 1062) (by decide +kernel), List.mem_of_getElem? (i := 1063) (by decide +kernel)⟩
theorem lw_p53 : lw_okq (⟨"BallastTrainModel", "mixes", "(I)V"⟩, 11) := ⟨⟨by decide +kernel, by decide +kernel⟩, List.mem_of_getElem? (i := 797) (by decide +kernel), List.mem_of_getElem? (i := 1080) (by decide +kernel), List.mem_of_getElem? (i := 1081) (by decide +kernel)⟩
theorem lw_p54 : lw_okq (⟨"BallastTrainModel", "mixesWagon", "(I)V"⟩, 11) := ⟨⟨by decide +kernel, by decide +kernel⟩, List.mem_of_getElem? (i := 797) (by decide +kernel), List.mem_of_getElem? (i := 1085) (by decide +kernel), List.mem_of_getElem? (i := 1086) (by decide +kernel)⟩
def lw_privs_4 : List (MethodName × Nat) := [(⟨"BallastTrainModel", "lackingIn", "(I)I"⟩, 11), (⟨"BallastTrainModel", "keepsAside", "()V"⟩, 11), (⟨"BallastTrainModel", "part", "(I)I"⟩, 11), (⟨"BallastTrainModel", "onTrack", "()I"⟩, 11), (⟨"BallastTrainModel", "returns", "()V"⟩, 11), (⟨"BallastTrainModel", "mixes", "(I)V"⟩, 11), (⟨"BallastTrainModel", "mixesWagon", "(I)V"⟩, 11)]
theorem lw_r4 : ∀ q ∈ lw_privs_4, lw_okq q := List.forall_mem_cons.mpr ⟨lw_p48, List.forall_mem_cons.mpr ⟨lw_p49, List.forall_mem_cons.mpr ⟨lw_p50, List.forall_mem_cons.mpr ⟨lw_p51, List.forall_mem_cons.mpr ⟨lw_p52, List.forall_mem_cons.mpr ⟨lw_p53, List.forall_mem_cons.mpr ⟨lw_p54, fun _ h => absurd h List.not_mem_nil⟩⟩⟩⟩⟩⟩⟩
def lw_privs : List (MethodName × Nat) := lw_privs_1 ++ (lw_privs_2 ++ (lw_privs_3 ++ (lw_privs_4)))
def lw_tbl : List Cond := k2_sels lw_privs ++ tables_1
theorem lw_privs_ok : ∀ q ∈ lw_privs, lw_okq q := by
  show ∀ q ∈ lw_privs_1 ++ (lw_privs_2 ++ (lw_privs_3 ++ (lw_privs_4))), lw_okq q
  exact List.forall_mem_append.mpr ⟨lw_r1, List.forall_mem_append.mpr ⟨lw_r2, List.forall_mem_append.mpr ⟨lw_r3, lw_r4⟩⟩⟩
end
section
def RX0 : String := "BallastTrain$History"
def TX0 : u_T := fun k => match k with
  | 0 => ("BallastTrain$History", "states", "[LBallastTrain$State;", true)
  | 1 => ("BallastTrain$History", "next", "I", false)
  | _ => ("BallastTrain$History", "size", "I", false)
def tyX0 : Nat → FieldType := fun k => match k with
  | 0 => .array (.object "BallastTrain$State")
  | 1 => .int
  | _ => .int
abbrev wsX00 : List Cond := u_ws RX0 TX0 3
theorem nmX0 : ∀ a, a < 3 → ∀ b, b < 3 → a ≠ b → (TX0 a).2.1 ≠ (TX0 b).2.1 := by decide +kernel
theorem tyX0_ok : ∀ k, k < 3 → parseFieldDescriptor (TX0 k).2.2.1 = some (tyX0 k) := by decide +kernel
abbrev cX0_init : ByteArray := prog_2_method_1_code
def yX0_init : MethodName := ⟨RX0, "<init>", "()V"⟩
abbrev cX0_keep : ByteArray := prog_2_method_2_code
def yX0_keep : MethodName := ⟨RX0, "keep", "(LBallastTrain$State;)V"⟩
abbrev cX0_restore : ByteArray := prog_2_method_3_code
def yX0_restore : MethodName := ⟨RX0, "restore", "(LBallastTrain$State;)V"⟩
def RX1 : String := "BallastTrain$Order"
def TX1 : u_T := fun k => match k with
  | 0 => ("BallastTrain$Order", "cell", "I", true)
  | 1 => ("BallastTrain$Order", "kind", "I", true)
  | 2 => ("BallastTrain$Order", "wagon", "I", true)
  | 3 => ("BallastTrain$Order", "door", "I", true)
  | _ => ("BallastTrain$Order", "level", "I", true)
def tyX1 : Nat → FieldType := fun k => match k with
  | 0 => .int
  | 1 => .int
  | 2 => .int
  | 3 => .int
  | _ => .int
abbrev wsX10 : List Cond := u_ws RX1 TX1 5
theorem nmX1 : ∀ a, a < 5 → ∀ b, b < 5 → a ≠ b → (TX1 a).2.1 ≠ (TX1 b).2.1 := by decide +kernel
theorem tyX1_ok : ∀ k, k < 5 → parseFieldDescriptor (TX1 k).2.2.1 = some (tyX1 k) := by decide +kernel
abbrev cX1_init : ByteArray := prog_3_method_1_code
def yX1_init : MethodName := ⟨RX1, "<init>", "(IIIII)V"⟩
abbrev cX1_part : ByteArray := prog_3_method_2_code
def yX1_part : MethodName := ⟨RX1, "part", "(I)I"⟩
abbrev cX1_isDue : ByteArray := prog_3_method_3_code
def yX1_isDue : MethodName := ⟨RX1, "isDue", "(LBallastTrain$Train;)Z"⟩
abbrev cX1_carryOut : ByteArray := prog_3_method_4_code
def yX1_carryOut : MethodName := ⟨RX1, "carryOut", "(LBallastTrain$Train;I)V"⟩
def RX2 : String := "BallastTrain$State"
def TX2 : u_T := fun k => match k with
  | 0 => ("BallastTrain$State", "settings", "[I", true)
  | 1 => ("BallastTrain$State", "track", "LBallastTrain$Track;", true)
  | 2 => ("BallastTrain$State", "train", "LBallastTrain$Train;", true)
  | 3 => ("BallastTrain$State", "orders", "Ljava/util/ArrayList;", true)
  | 4 => ("BallastTrain$State", "time", "I", false)
  | 5 => ("BallastTrain$State", "jams", "I", false)
  | 6 => ("BallastTrain$State", "loaded", "I", false)
  | 7 => ("BallastTrain$State", "lost", "I", false)
  | _ => ("BallastTrain$State", "taken", "I", false)
def tyX2 : Nat → FieldType := fun k => match k with
  | 0 => .array .int
  | 1 => .object "BallastTrain$Track"
  | 2 => .object "BallastTrain$Train"
  | 3 => .object "java/util/ArrayList"
  | 4 => .int
  | 5 => .int
  | 6 => .int
  | 7 => .int
  | _ => .int
abbrev wsX20 : List Cond := u_ws RX2 TX2 9
theorem nmX2 : ∀ a, a < 9 → ∀ b, b < 9 → a ≠ b → (TX2 a).2.1 ≠ (TX2 b).2.1 := by decide +kernel
theorem tyX2_ok : ∀ k, k < 9 → parseFieldDescriptor (TX2 k).2.2.1 = some (tyX2 k) := by decide +kernel
abbrev cX2_init : ByteArray := prog_4_method_1_code
def yX2_init : MethodName := ⟨RX2, "<init>", "()V"⟩
abbrev cX2_copyFrom : ByteArray := prog_4_method_2_code
def yX2_copyFrom : MethodName := ⟨RX2, "copyFrom", "(LBallastTrain$State;)V"⟩
abbrev cX2_passSecond : ByteArray := prog_4_method_3_code
def yX2_passSecond : MethodName := ⟨RX2, "passSecond", "()V"⟩
abbrev cX2_passSecondOfTrain : ByteArray := prog_4_method_4_code
def yX2_passSecondOfTrain : MethodName := ⟨RX2, "passSecondOfTrain", "()V"⟩
abbrev cX2_unload : ByteArray := prog_4_method_5_code
def yX2_unload : MethodName := ⟨RX2, "unload", "()V"⟩
abbrev cX2_land : ByteArray := prog_4_method_6_code
def yX2_land : MethodName := ⟨RX2, "land", "(III)V"⟩
abbrev cX2_carryOutOrders : ByteArray := prog_4_method_7_code
def yX2_carryOutOrders : MethodName := ⟨RX2, "carryOutOrders", "()V"⟩
def RX3 : String := "BallastTrain$Text"
def TX3 : u_T := fun k => match k with
  | 0 => ("BallastTrain$Text", "bytes", "[I", true)
  | 1 => ("BallastTrain$Text", "length", "I", false)
  | 2 => ("BallastTrain$Text", "orders", "Ljava/util/ArrayList;", true)
  | 3 => ("BallastTrain$Text", "fault", "I", false)
  | _ => ("BallastTrain$Text", "at", "I", false)
def tyX3 : Nat → FieldType := fun k => match k with
  | 0 => .array .int
  | 1 => .int
  | 2 => .object "java/util/ArrayList"
  | 3 => .int
  | _ => .int
abbrev wsX30 : List Cond := u_ws RX3 TX3 5
theorem nmX3 : ∀ a, a < 5 → ∀ b, b < 5 → a ≠ b → (TX3 a).2.1 ≠ (TX3 b).2.1 := by decide +kernel
theorem tyX3_ok : ∀ k, k < 5 → parseFieldDescriptor (TX3 k).2.2.1 = some (tyX3 k) := by decide +kernel
abbrev cX3_init : ByteArray := prog_5_method_1_code
def yX3_init : MethodName := ⟨RX3, "<init>", "()V"⟩
abbrev cX3_append : ByteArray := prog_5_method_2_code
def yX3_append : MethodName := ⟨RX3, "append", "(I)Z"⟩
abbrev cX3_byteAt : ByteArray := prog_5_method_3_code
def yX3_byteAt : MethodName := ⟨RX3, "byteAt", "(I)I"⟩
abbrev cX3_read : ByteArray := prog_5_method_4_code
def yX3_read : MethodName := ⟨RX3, "read", "()V"⟩
abbrev cX3_readOrder : ByteArray := prog_5_method_5_code
def yX3_readOrder : MethodName := ⟨RX3, "readOrder", "()V"⟩
abbrev cX3_takeOneOf : ByteArray := prog_5_method_6_code
def yX3_takeOneOf : MethodName := ⟨RX3, "takeOneOf", "(Ljava/lang/String;)I"⟩
abbrev cX3_takeDigit : ByteArray := prog_5_method_7_code
def yX3_takeDigit : MethodName := ⟨RX3, "takeDigit", "(II)I"⟩
abbrev cX3_take : ByteArray := prog_5_method_8_code
def yX3_take : MethodName := ⟨RX3, "take", "(III)I"⟩
abbrev cX3_takeCell : ByteArray := prog_5_method_9_code
def yX3_takeCell : MethodName := ⟨RX3, "takeCell", "()I"⟩
abbrev cX3_skipBlanks : ByteArray := prog_5_method_10_code
def yX3_skipBlanks : MethodName := ⟨RX3, "skipBlanks", "()V"⟩
abbrev cX3_isDigit : ByteArray := prog_5_method_11_code
def yX3_isDigit : MethodName := ⟨RX3, "isDigit", "(I)Z"⟩
def RX4 : String := "BallastTrain$Track"
def TX4 : u_T := fun k => match k with
  | _ => ("BallastTrain$Track", "heights", "[I", true)
def tyX4 : Nat → FieldType := fun k => match k with
  | _ => .array .int
abbrev wsX40 : List Cond := u_ws RX4 TX4 1
theorem nmX4 : ∀ a, a < 1 → ∀ b, b < 1 → a ≠ b → (TX4 a).2.1 ≠ (TX4 b).2.1 := by decide +kernel
theorem tyX4_ok : ∀ k, k < 1 → parseFieldDescriptor (TX4 k).2.2.1 = some (tyX4 k) := by decide +kernel
abbrev cX4_init : ByteArray := prog_6_method_1_code
def yX4_init : MethodName := ⟨RX4, "<init>", "()V"⟩
abbrev cX4_has : ByteArray := prog_6_method_2_code
def yX4_has : MethodName := ⟨RX4, "has", "(II)Z"⟩
abbrev cX4_heightAt : ByteArray := prog_6_method_3_code
def yX4_heightAt : MethodName := ⟨RX4, "heightAt", "(II)I"⟩
abbrev cX4_add : ByteArray := prog_6_method_4_code
def yX4_add : MethodName := ⟨RX4, "add", "(III)V"⟩
abbrev cX4_slide : ByteArray := prog_6_method_5_code
def yX4_slide : MethodName := ⟨RX4, "slide", "(I)V"⟩
abbrev cX4_cutShoulders : ByteArray := prog_6_method_6_code
def yX4_cutShoulders : MethodName := ⟨RX4, "cutShoulders", "(I)I"⟩
abbrev cX4_units : ByteArray := prog_6_method_7_code
def yX4_units : MethodName := ⟨RX4, "units", "()I"⟩
abbrev cX4_sumOn : ByteArray := prog_6_method_8_code
def yX4_sumOn : MethodName := ⟨RX4, "sumOn", "(I)I"⟩
abbrev cX4_greatestOn : ByteArray := prog_6_method_9_code
def yX4_greatestOn : MethodName := ⟨RX4, "greatestOn", "(I)I"⟩
abbrev cX4_firstGreatestOn : ByteArray := prog_6_method_10_code
def yX4_firstGreatestOn : MethodName := ⟨RX4, "firstGreatestOn", "(I)I"⟩
abbrev cX4_cellsReaching : ByteArray := prog_6_method_11_code
def yX4_cellsReaching : MethodName := ⟨RX4, "cellsReaching", "(II)I"⟩
abbrev cX4_longestRowReaching : ByteArray := prog_6_method_12_code
def yX4_longestRowReaching : MethodName := ⟨RX4, "longestRowReaching", "(II)I"⟩
abbrev cX4_steepestOn : ByteArray := prog_6_method_13_code
def yX4_steepestOn : MethodName := ⟨RX4, "steepestOn", "(I)I"⟩
abbrev cX4_unitsBelow : ByteArray := prog_6_method_14_code
def yX4_unitsBelow : MethodName := ⟨RX4, "unitsBelow", "(I)I"⟩
abbrev cX4_cellBelow : ByteArray := prog_6_method_15_code
def yX4_cellBelow : MethodName := ⟨RX4, "cellBelow", "(II)I"⟩
abbrev cX4_lowestIn : ByteArray := prog_6_method_16_code
def yX4_lowestIn : MethodName := ⟨RX4, "lowestIn", "(I)I"⟩
def RX5 : String := "BallastTrain$Train"
def TX5 : u_T := fun k => match k with
  | 0 => ("BallastTrain$Train", "wagons", "I", false)
  | 1 => ("BallastTrain$Train", "place", "I", false)
  | 2 => ("BallastTrain$Train", "speed", "I", false)
  | 3 => ("BallastTrain$Train", "wish", "I", false)
  | 4 => ("BallastTrain$Train", "load", "[I", true)
  | 5 => ("BallastTrain$Train", "left", "[I", true)
  | 6 => ("BallastTrain$Train", "level", "[I", true)
  | _ => ("BallastTrain$Train", "rest", "[I", true)
def tyX5 : Nat → FieldType := fun k => match k with
  | 0 => .int
  | 1 => .int
  | 2 => .int
  | 3 => .int
  | 4 => .array .int
  | 5 => .array .int
  | 6 => .array .int
  | _ => .array .int
abbrev wsX50 : List Cond := u_ws RX5 TX5 8
theorem nmX5 : ∀ a, a < 8 → ∀ b, b < 8 → a ≠ b → (TX5 a).2.1 ≠ (TX5 b).2.1 := by decide +kernel
theorem tyX5_ok : ∀ k, k < 8 → parseFieldDescriptor (TX5 k).2.2.1 = some (tyX5 k) := by decide +kernel
abbrev cX5_init : ByteArray := prog_7_method_1_code
def yX5_init : MethodName := ⟨RX5, "<init>", "()V"⟩
abbrev cX5_replace : ByteArray := prog_7_method_2_code
def yX5_replace : MethodName := ⟨RX5, "replace", "(I)V"⟩
abbrev cX5_copyFrom : ByteArray := prog_7_method_3_code
def yX5_copyFrom : MethodName := ⟨RX5, "copyFrom", "(LBallastTrain$Train;)V"⟩
abbrev cX5_hasWagon : ByteArray := prog_7_method_4_code
def yX5_hasWagon : MethodName := ⟨RX5, "hasWagon", "(I)Z"⟩
abbrev cX5_hasDoor : ByteArray := prog_7_method_5_code
def yX5_hasDoor : MethodName := ⟨RX5, "hasDoor", "(II)Z"⟩
abbrev cX5_levelOf : ByteArray := prog_7_method_6_code
def yX5_levelOf : MethodName := ⟨RX5, "levelOf", "(II)I"⟩
abbrev cX5_restOf : ByteArray := prog_7_method_7_code
def yX5_restOf : MethodName := ⟨RX5, "restOf", "(II)I"⟩
abbrev cX5_cellBelow : ByteArray := prog_7_method_8_code
def yX5_cellBelow : MethodName := ⟨RX5, "cellBelow", "(I)I"⟩
abbrev cX5_units : ByteArray := prog_7_method_9_code
def yX5_units : MethodName := ⟨RX5, "units", "()I"⟩
abbrev cX5_sumOfLevels : ByteArray := prog_7_method_10_code
def yX5_sumOfLevels : MethodName := ⟨RX5, "sumOfLevels", "(I)I"⟩
abbrev cX5_closingDoors : ByteArray := prog_7_method_11_code
def yX5_closingDoors : MethodName := ⟨RX5, "closingDoors", "(I)I"⟩
abbrev cX5_openDoor : ByteArray := prog_7_method_12_code
def yX5_openDoor : MethodName := ⟨RX5, "openDoor", "(III)V"⟩
abbrev cX5_closeDoor : ByteArray := prog_7_method_13_code
def yX5_closeDoor : MethodName := ⟨RX5, "closeDoor", "(III)V"⟩
abbrev cX5_move : ByteArray := prog_7_method_14_code
def yX5_move : MethodName := ⟨RX5, "move", "()V"⟩
abbrev cX5_drop : ByteArray := prog_7_method_15_code
def yX5_drop : MethodName := ⟨RX5, "drop", "(II)I"⟩
abbrev cX5_closeFurther : ByteArray := prog_7_method_16_code
def yX5_closeFurther : MethodName := ⟨RX5, "closeFurther", "(I)I"⟩
def RX6 : String := "BallastTrain"
def TX6 : u_T := fun k => match k with
  | 0 => ("BallastTrain", "text", "LBallastTrain$Text;", true)
  | 1 => ("BallastTrain", "now", "LBallastTrain$State;", true)
  | 2 => ("BallastTrain", "ahead", "LBallastTrain$State;", true)
  | _ => ("BallastTrain", "history", "LBallastTrain$History;", true)
def tyX6 : Nat → FieldType := fun k => match k with
  | 0 => .object "BallastTrain$Text"
  | 1 => .object "BallastTrain$State"
  | 2 => .object "BallastTrain$State"
  | _ => .object "BallastTrain$History"
abbrev wsX60 : List Cond := u_ws RX6 TX6 4
theorem nmX6 : ∀ a, a < 4 → ∀ b, b < 4 → a ≠ b → (TX6 a).2.1 ≠ (TX6 b).2.1 := by decide +kernel
theorem tyX6_ok : ∀ k, k < 4 → parseFieldDescriptor (TX6 k).2.2.1 = some (tyX6 k) := by decide +kernel
abbrev cX6_init : ByteArray := prog_1_method_1_code
def yX6_init : MethodName := ⟨RX6, "<init>", "()V"⟩
abbrev cX6_type : ByteArray := prog_1_method_2_code
def yX6_type : MethodName := ⟨RX6, "type", "(I)I"⟩
abbrev cX6_clearText : ByteArray := prog_1_method_3_code
def yX6_clearText : MethodName := ⟨RX6, "clearText", "()I"⟩
abbrev cX6_fault : ByteArray := prog_1_method_4_code
def yX6_fault : MethodName := ⟨RX6, "fault", "()I"⟩
abbrev cX6_set : ByteArray := prog_1_method_5_code
def yX6_set : MethodName := ⟨RX6, "set", "(II)I"⟩
abbrev cX6_setTrain : ByteArray := prog_1_method_6_code
def yX6_setTrain : MethodName := ⟨RX6, "setTrain", "(I)I"⟩
abbrev cX6_load : ByteArray := prog_1_method_7_code
def yX6_load : MethodName := ⟨RX6, "load", "(II)I"⟩
abbrev cX6_door : ByteArray := prog_1_method_8_code
def yX6_door : MethodName := ⟨RX6, "door", "(III)I"⟩
abbrev cX6_wish : ByteArray := prog_1_method_9_code
def yX6_wish : MethodName := ⟨RX6, "wish", "(I)I"⟩
abbrev cX6_order : ByteArray := prog_1_method_10_code
def yX6_order : MethodName := ⟨RX6, "order", "()I"⟩
abbrev cX6_cancel : ByteArray := prog_1_method_11_code
def yX6_cancel : MethodName := ⟨RX6, "cancel", "(I)I"⟩
abbrev cX6_pass : ByteArray := prog_1_method_12_code
def yX6_pass : MethodName := ⟨RX6, "pass", "(I)I"⟩
abbrev cX6_scrape : ByteArray := prog_1_method_13_code
def yX6_scrape : MethodName := ⟨RX6, "scrape", "(III)I"⟩
abbrev cX6_undo : ByteArray := prog_1_method_14_code
def yX6_undo : MethodName := ⟨RX6, "undo", "()I"⟩
abbrev cX6_wagon : ByteArray := prog_1_method_15_code
def yX6_wagon : MethodName := ⟨RX6, "wagon", "(II)I"⟩
abbrev cX6_doorOf : ByteArray := prog_1_method_16_code
def yX6_doorOf : MethodName := ⟨RX6, "doorOf", "(III)I"⟩
abbrev cX6_height : ByteArray := prog_1_method_17_code
def yX6_height : MethodName := ⟨RX6, "height", "(II)I"⟩
abbrev cX6_profile : ByteArray := prog_1_method_18_code
def yX6_profile : MethodName := ⟨RX6, "profile", "(II)I"⟩
abbrev cX6_lacking : ByteArray := prog_1_method_19_code
def yX6_lacking : MethodName := ⟨RX6, "lacking", "(I)I"⟩
abbrev cX6_ordered : ByteArray := prog_1_method_20_code
def yX6_ordered : MethodName := ⟨RX6, "ordered", "(II)I"⟩
abbrev cX6_foretell : ByteArray := prog_1_method_21_code
def yX6_foretell : MethodName := ⟨RX6, "foretell", "(II)I"⟩
abbrev cX6_emptyAfter : ByteArray := prog_1_method_22_code
def yX6_emptyAfter : MethodName := ⟨RX6, "emptyAfter", "()I"⟩
abbrev cX6_count : ByteArray := prog_1_method_23_code
def yX6_count : MethodName := ⟨RX6, "count", "(I)I"⟩
abbrev cX6_digest : ByteArray := prog_1_method_24_code
def yX6_digest : MethodName := ⟨RX6, "digest", "()J"⟩
abbrev cX6_mixedWithTrain : ByteArray := prog_1_method_25_code
def yX6_mixedWithTrain : MethodName := ⟨RX6, "mixedWithTrain", "(J)J"⟩
abbrev cX6_mixedWithTrack : ByteArray := prog_1_method_26_code
def yX6_mixedWithTrack : MethodName := ⟨RX6, "mixedWithTrack", "(J)J"⟩
abbrev cX6_mixedWithOrders : ByteArray := prog_1_method_27_code
def yX6_mixedWithOrders : MethodName := ⟨RX6, "mixedWithOrders", "(J)J"⟩
abbrev cX6_mixed : ByteArray := prog_1_method_28_code
def yX6_mixed : MethodName := ⟨RX6, "mixed", "(JI)J"⟩
abbrev cX6_lookAhead : ByteArray := prog_1_method_29_code
def yX6_lookAhead : MethodName := ⟨RX6, "lookAhead", "(I)V"⟩
abbrev cX6_foretold : ByteArray := prog_1_method_30_code
def yX6_foretold : MethodName := ⟨RX6, "foretold", "(I)I"⟩
abbrev cX6_isWithin : ByteArray := prog_1_method_31_code
def yX6_isWithin : MethodName := ⟨RX6, "isWithin", "(III)Z"⟩
abbrev cX6_sum : ByteArray := prog_1_method_32_code
def yX6_sum : MethodName := ⟨RX6, "sum", "([I)I"⟩
abbrev cX6_copyRow : ByteArray := prog_1_method_33_code
def yX6_copyRow : MethodName := ⟨RX6, "copyRow", "([I[I)V"⟩
abbrev cX6_addAll : ByteArray := prog_1_method_34_code
def yX6_addAll : MethodName := ⟨RX6, "addAll", "(Ljava/util/ArrayList;Ljava/util/ArrayList;)V"⟩
def RX7 : String := "BallastTrainModel"
def TX7 : u_T := fun k => match k with
  | 0 => ("BallastTrainModel", "m", "[I", true)
  | 1 => ("BallastTrainModel", "past", "[I", true)
  | 2 => ("BallastTrainModel", "aside", "[I", true)
  | 3 => ("BallastTrainModel", "undos", "I", false)
  | 4 => ("BallastTrainModel", "text", "[I", true)
  | 5 => ("BallastTrainModel", "textLength", "I", false)
  | 6 => ("BallastTrainModel", "read", "[I", true)
  | 7 => ("BallastTrainModel", "reads", "I", false)
  | 8 => ("BallastTrainModel", "at", "I", false)
  | 9 => ("BallastTrainModel", "fault", "I", false)
  | _ => ("BallastTrainModel", "hash", "J", false)
def tyX7 : Nat → FieldType := fun k => match k with
  | 0 => .array .int
  | 1 => .array .int
  | 2 => .array .int
  | 3 => .int
  | 4 => .array .int
  | 5 => .int
  | 6 => .array .int
  | 7 => .int
  | 8 => .int
  | 9 => .int
  | _ => .long
abbrev wsX70 : List Cond := u_ws RX7 TX7 11
theorem nmX7 : ∀ a, a < 11 → ∀ b, b < 11 → a ≠ b → (TX7 a).2.1 ≠ (TX7 b).2.1 := by decide +kernel
theorem tyX7_ok : ∀ k, k < 11 → parseFieldDescriptor (TX7 k).2.2.1 = some (tyX7 k) := by decide +kernel
abbrev cX7_init : ByteArray := prog_9_method_1_code
def yX7_init : MethodName := ⟨RX7, "<init>", "()V"⟩
abbrev cX7_in : ByteArray := prog_9_method_2_code
def yX7_in : MethodName := ⟨RX7, "in", "(III)Z"⟩
abbrev cX7_least : ByteArray := prog_9_method_3_code
def yX7_least : MethodName := ⟨RX7, "least", "(II)I"⟩
abbrev cX7_isWagon : ByteArray := prog_9_method_4_code
def yX7_isWagon : MethodName := ⟨RX7, "isWagon", "(I)Z"⟩
abbrev cX7_isStrip : ByteArray := prog_9_method_5_code
def yX7_isStrip : MethodName := ⟨RX7, "isStrip", "(I)Z"⟩
abbrev cX7_isCell : ByteArray := prog_9_method_6_code
def yX7_isCell : MethodName := ⟨RX7, "isCell", "(I)Z"⟩
abbrev cX7_of : ByteArray := prog_9_method_7_code
def yX7_of : MethodName := ⟨RX7, "of", "(II)I"⟩
abbrev cX7_put : ByteArray := prog_9_method_8_code
def yX7_put : MethodName := ⟨RX7, "put", "(III)V"⟩
abbrev cX7_couples : ByteArray := prog_9_method_9_code
def yX7_couples : MethodName := ⟨RX7, "couples", "(I)V"⟩
abbrev cX7_keeps : ByteArray := prog_9_method_10_code
def yX7_keeps : MethodName := ⟨RX7, "keeps", "()V"⟩
abbrev cX7_undo : ByteArray := prog_9_method_11_code
def yX7_undo : MethodName := ⟨RX7, "undo", "()I"⟩
abbrev cX7_keepsAside : ByteArray := prog_9_method_12_code
def yX7_keepsAside : MethodName := ⟨RX7, "keepsAside", "()V"⟩
abbrev cX7_returns : ByteArray := prog_9_method_13_code
def yX7_returns : MethodName := ⟨RX7, "returns", "()V"⟩
abbrev cX7_type : ByteArray := prog_9_method_14_code
def yX7_type : MethodName := ⟨RX7, "type", "(I)I"⟩
abbrev cX7_clearText : ByteArray := prog_9_method_15_code
def yX7_clearText : MethodName := ⟨RX7, "clearText", "()I"⟩
abbrev cX7_next : ByteArray := prog_9_method_16_code
def yX7_next : MethodName := ⟨RX7, "next", "()I"⟩
abbrev cX7_isDigit : ByteArray := prog_9_method_17_code
def yX7_isDigit : MethodName := ⟨RX7, "isDigit", "()Z"⟩
abbrev cX7_blanks : ByteArray := prog_9_method_18_code
def yX7_blanks : MethodName := ⟨RX7, "blanks", "()V"⟩
abbrev cX7_fails : ByteArray := prog_9_method_19_code
def yX7_fails : MethodName := ⟨RX7, "fails", "(I)V"⟩
abbrev cX7_needs : ByteArray := prog_9_method_20_code
def yX7_needs : MethodName := ⟨RX7, "needs", "(Z)V"⟩
abbrev cX7_digit : ByteArray := prog_9_method_21_code
def yX7_digit : MethodName := ⟨RX7, "digit", "(II)I"⟩
abbrev cX7_doorAt : ByteArray := prog_9_method_22_code
def yX7_doorAt : MethodName := ⟨RX7, "doorAt", "()I"⟩
abbrev cX7_cell : ByteArray := prog_9_method_23_code
def yX7_cell : MethodName := ⟨RX7, "cell", "()I"⟩
abbrev cX7_readsOrder : ByteArray := prog_9_method_24_code
def yX7_readsOrder : MethodName := ⟨RX7, "readsOrder", "()V"⟩
abbrev cX7_reads : ByteArray := prog_9_method_25_code
def yX7_reads : MethodName := ⟨RX7, "reads", "()V"⟩
abbrev cX7_fault : ByteArray := prog_9_method_26_code
def yX7_fault : MethodName := ⟨RX7, "fault", "()I"⟩
abbrev cX7_isDue : ByteArray := prog_9_method_27_code
def yX7_isDue : MethodName := ⟨RX7, "isDue", "(I)Z"⟩
abbrev cX7_moves : ByteArray := prog_9_method_28_code
def yX7_moves : MethodName := ⟨RX7, "moves", "(III)V"⟩
abbrev cX7_dropsOrder : ByteArray := prog_9_method_29_code
def yX7_dropsOrder : MethodName := ⟨RX7, "dropsOrder", "(I)V"⟩
abbrev cX7_ordersDue : ByteArray := prog_9_method_30_code
def yX7_ordersDue : MethodName := ⟨RX7, "ordersDue", "()V"⟩
abbrev cX7_falls : ByteArray := prog_9_method_31_code
def yX7_falls : MethodName := ⟨RX7, "falls", "(II)V"⟩
abbrev cX7_slides : ByteArray := prog_9_method_32_code
def yX7_slides : MethodName := ⟨RX7, "slides", "(II)V"⟩
abbrev cX7_spills : ByteArray := prog_9_method_33_code
def yX7_spills : MethodName := ⟨RX7, "spills", "(II)V"⟩
abbrev cX7_closes : ByteArray := prog_9_method_34_code
def yX7_closes : MethodName := ⟨RX7, "closes", "(II)V"⟩
abbrev cX7_second : ByteArray := prog_9_method_35_code
def yX7_second : MethodName := ⟨RX7, "second", "()V"⟩
abbrev cX7_set : ByteArray := prog_9_method_36_code
def yX7_set : MethodName := ⟨RX7, "set", "(II)I"⟩
abbrev cX7_inWagons : ByteArray := prog_9_method_37_code
def yX7_inWagons : MethodName := ⟨RX7, "inWagons", "()I"⟩
abbrev cX7_setTrain : ByteArray := prog_9_method_38_code
def yX7_setTrain : MethodName := ⟨RX7, "setTrain", "(I)I"⟩
abbrev cX7_load : ByteArray := prog_9_method_39_code
def yX7_load : MethodName := ⟨RX7, "load", "(II)I"⟩
abbrev cX7_door : ByteArray := prog_9_method_40_code
def yX7_door : MethodName := ⟨RX7, "door", "(III)I"⟩
abbrev cX7_wish : ByteArray := prog_9_method_41_code
def yX7_wish : MethodName := ⟨RX7, "wish", "(I)I"⟩
abbrev cX7_order : ByteArray := prog_9_method_42_code
def yX7_order : MethodName := ⟨RX7, "order", "()I"⟩
abbrev cX7_cancel : ByteArray := prog_9_method_43_code
def yX7_cancel : MethodName := ⟨RX7, "cancel", "(I)I"⟩
abbrev cX7_pass : ByteArray := prog_9_method_44_code
def yX7_pass : MethodName := ⟨RX7, "pass", "(I)I"⟩
abbrev cX7_scrape : ByteArray := prog_9_method_45_code
def yX7_scrape : MethodName := ⟨RX7, "scrape", "(III)I"⟩
abbrev cX7_wagon : ByteArray := prog_9_method_46_code
def yX7_wagon : MethodName := ⟨RX7, "wagon", "(II)I"⟩
abbrev cX7_doorOf : ByteArray := prog_9_method_47_code
def yX7_doorOf : MethodName := ⟨RX7, "doorOf", "(III)I"⟩
abbrev cX7_height : ByteArray := prog_9_method_48_code
def yX7_height : MethodName := ⟨RX7, "height", "(II)I"⟩
abbrev cX7_sum : ByteArray := prog_9_method_49_code
def yX7_sum : MethodName := ⟨RX7, "sum", "(I)I"⟩
abbrev cX7_highest : ByteArray := prog_9_method_50_code
def yX7_highest : MethodName := ⟨RX7, "highest", "(I)I"⟩
abbrev cX7_row : ByteArray := prog_9_method_51_code
def yX7_row : MethodName := ⟨RX7, "row", "(IZ)I"⟩
abbrev cX7_steepest : ByteArray := prog_9_method_52_code
def yX7_steepest : MethodName := ⟨RX7, "steepest", "(I)I"⟩
abbrev cX7_profile : ByteArray := prog_9_method_53_code
def yX7_profile : MethodName := ⟨RX7, "profile", "(II)I"⟩
abbrev cX7_lackingIn : ByteArray := prog_9_method_54_code
def yX7_lackingIn : MethodName := ⟨RX7, "lackingIn", "(I)I"⟩
abbrev cX7_lacking : ByteArray := prog_9_method_55_code
def yX7_lacking : MethodName := ⟨RX7, "lacking", "(I)I"⟩
abbrev cX7_ordered : ByteArray := prog_9_method_56_code
def yX7_ordered : MethodName := ⟨RX7, "ordered", "(II)I"⟩
abbrev cX7_onTrack : ByteArray := prog_9_method_57_code
def yX7_onTrack : MethodName := ⟨RX7, "onTrack", "()I"⟩
abbrev cX7_part : ByteArray := prog_9_method_58_code
def yX7_part : MethodName := ⟨RX7, "part", "(I)I"⟩
abbrev cX7_foretell : ByteArray := prog_9_method_59_code
def yX7_foretell : MethodName := ⟨RX7, "foretell", "(II)I"⟩
abbrev cX7_emptyAfter : ByteArray := prog_9_method_60_code
def yX7_emptyAfter : MethodName := ⟨RX7, "emptyAfter", "()I"⟩
abbrev cX7_count : ByteArray := prog_9_method_61_code
def yX7_count : MethodName := ⟨RX7, "count", "(I)I"⟩
abbrev cX7_mixes : ByteArray := prog_9_method_62_code
def yX7_mixes : MethodName := ⟨RX7, "mixes", "(I)V"⟩
abbrev cX7_mixesWagon : ByteArray := prog_9_method_63_code
def yX7_mixesWagon : MethodName := ⟨RX7, "mixesWagon", "(I)V"⟩
abbrev cX7_digest : ByteArray := prog_9_method_64_code
def yX7_digest : MethodName := ⟨RX7, "digest", "()J"⟩
def RJx145de : String := "java/io/Serializable"
def TJx145de : u_T := fun k => match k with
  | _ => ("", "", "", false)
def tyJx145de : Nat → FieldType := fun k => match k with
  | _ => .int
abbrev wsJx145de0 : List Cond := u_ws RJx145de TJx145de 0
theorem nmJx145de : ∀ a, a < 0 → ∀ b, b < 0 → a ≠ b → (TJx145de a).2.1 ≠ (TJx145de b).2.1 := by decide +kernel
theorem tyJx145de_ok : ∀ k, k < 0 → parseFieldDescriptor (TJx145de k).2.2.1 = some (tyJx145de k) := by decide +kernel
def RJx9f9b0 : String := "java/lang/CharSequence"
def TJx9f9b0 : u_T := fun k => match k with
  | _ => ("", "", "", false)
def tyJx9f9b0 : Nat → FieldType := fun k => match k with
  | _ => .int
abbrev wsJx9f9b00 : List Cond := u_ws RJx9f9b0 TJx9f9b0 0
theorem nmJx9f9b0 : ∀ a, a < 0 → ∀ b, b < 0 → a ≠ b → (TJx9f9b0 a).2.1 ≠ (TJx9f9b0 b).2.1 := by decide +kernel
theorem tyJx9f9b0_ok : ∀ k, k < 0 → parseFieldDescriptor (TJx9f9b0 k).2.2.1 = some (tyJx9f9b0 k) := by decide +kernel
def RJ11 : String := "java/lang/Character"
def TJ11 : u_T := fun k => match k with
  | _ => ("", "", "", false)
def tyJ11 : Nat → FieldType := fun k => match k with
  | _ => .int
abbrev wsJ110 : List Cond := u_ws RJ11 TJ11 0
theorem nmJ11 : ∀ a, a < 0 → ∀ b, b < 0 → a ≠ b → (TJ11 a).2.1 ≠ (TJ11 b).2.1 := by decide +kernel
theorem tyJ11_ok : ∀ k, k < 0 → parseFieldDescriptor (TJ11 k).2.2.1 = some (tyJ11 k) := by decide +kernel
abbrev cJ11_isValidCodePoint_9a6ad : ByteArray := prog_12_method_11_code
def yJ11_isValidCodePoint_9a6ad : MethodName := ⟨RJ11, "isValidCodePoint", "(I)Z"⟩
abbrev cJ11_highSurrogate_5068e : ByteArray := prog_12_method_28_code
def yJ11_highSurrogate_5068e : MethodName := ⟨RJ11, "highSurrogate", "(I)C"⟩
abbrev cJ11_lowSurrogate_5068e : ByteArray := prog_12_method_29_code
def yJ11_lowSurrogate_5068e : MethodName := ⟨RJ11, "lowSurrogate", "(I)C"⟩
def RJx8e188 : String := "java/lang/Cloneable"
def TJx8e188 : u_T := fun k => match k with
  | _ => ("", "", "", false)
def tyJx8e188 : Nat → FieldType := fun k => match k with
  | _ => .int
abbrev wsJx8e1880 : List Cond := u_ws RJx8e188 TJx8e188 0
theorem nmJx8e188 : ∀ a, a < 0 → ∀ b, b < 0 → a ≠ b → (TJx8e188 a).2.1 ≠ (TJx8e188 b).2.1 := by decide +kernel
theorem tyJx8e188_ok : ∀ k, k < 0 → parseFieldDescriptor (TJx8e188 k).2.2.1 = some (tyJx8e188 k) := by decide +kernel
def RJxb160c : String := "java/lang/Comparable"
def TJxb160c : u_T := fun k => match k with
  | _ => ("", "", "", false)
def tyJxb160c : Nat → FieldType := fun k => match k with
  | _ => .int
abbrev wsJxb160c0 : List Cond := u_ws RJxb160c TJxb160c 0
theorem nmJxb160c : ∀ a, a < 0 → ∀ b, b < 0 → a ≠ b → (TJxb160c a).2.1 ≠ (TJxb160c b).2.1 := by decide +kernel
theorem tyJxb160c_ok : ∀ k, k < 0 → parseFieldDescriptor (TJxb160c k).2.2.1 = some (tyJxb160c k) := by decide +kernel
def RJxab1ab : String := "java/lang/Iterable"
def TJxab1ab : u_T := fun k => match k with
  | _ => ("", "", "", false)
def tyJxab1ab : Nat → FieldType := fun k => match k with
  | _ => .int
abbrev wsJxab1ab0 : List Cond := u_ws RJxab1ab TJxab1ab 0
theorem nmJxab1ab : ∀ a, a < 0 → ∀ b, b < 0 → a ≠ b → (TJxab1ab a).2.1 ≠ (TJxab1ab b).2.1 := by decide +kernel
theorem tyJxab1ab_ok : ∀ k, k < 0 → parseFieldDescriptor (TJxab1ab k).2.2.1 = some (tyJxab1ab k) := by decide +kernel
def RJ9 : String := "java/lang/Math"
def TJ9 : u_T := fun k => match k with
  | _ => ("", "", "", false)
def tyJ9 : Nat → FieldType := fun k => match k with
  | _ => .int
abbrev wsJ90 : List Cond := u_ws RJ9 TJ9 0
theorem nmJ9 : ∀ a, a < 0 → ∀ b, b < 0 → a ≠ b → (TJ9 a).2.1 ≠ (TJ9 b).2.1 := by decide +kernel
theorem tyJ9_ok : ∀ k, k < 0 → parseFieldDescriptor (TJ9 k).2.2.1 = some (tyJ9 k) := by decide +kernel
abbrev cJ9_floorMod_7cf53 : ByteArray := prog_16_method_50_code
def yJ9_floorMod_7cf53 : MethodName := ⟨RJ9, "floorMod", "(II)I"⟩
abbrev cJ9_abs_0f7a4 : ByteArray := prog_16_method_59_code
def yJ9_abs_0f7a4 : MethodName := ⟨RJ9, "abs", "(I)I"⟩
abbrev cJ9_max_7cf53 : ByteArray := prog_16_method_65_code
def yJ9_max_7cf53 : MethodName := ⟨RJ9, "max", "(II)I"⟩
abbrev cJ9_min_7cf53 : ByteArray := prog_16_method_69_code
def yJ9_min_7cf53 : MethodName := ⟨RJ9, "min", "(II)I"⟩
def RJ0 : String := "java/lang/String"
def TJ0 : u_T := fun k => match k with
  | _ => ("", "", "", false)
def tyJ0 : Nat → FieldType := fun k => match k with
  | _ => .int
abbrev wsJ00 : List Cond := u_ws RJ0 TJ0 0
theorem nmJ0 : ∀ a, a < 0 → ∀ b, b < 0 → a ≠ b → (TJ0 a).2.1 ≠ (TJ0 b).2.1 := by decide +kernel
theorem tyJ0_ok : ∀ k, k < 0 → parseFieldDescriptor (TJ0 k).2.2.1 = some (tyJ0 k) := by decide +kernel
abbrev cJ0_length_8abf5 : ByteArray := prog_17_method_54_code
def yJ0_length_8abf5 : MethodName := ⟨RJ0, "length", "()I"⟩
abbrev cJ0_indexOf_0f7a4 : ByteArray := prog_17_method_79_code
def yJ0_indexOf_0f7a4 : MethodName := ⟨RJ0, "indexOf", "(I)I"⟩
abbrev cJ0_indexOf_7cf53 : ByteArray := prog_17_method_80_code
def yJ0_indexOf_7cf53 : MethodName := ⟨RJ0, "indexOf", "(II)I"⟩
abbrev cJ0_coder_7d493 : ByteArray := prog_17_method_152_code
def yJ0_coder_7d493 : MethodName := ⟨RJ0, "coder", "()B"⟩
abbrev cJ0_isLatin1_aae02 : ByteArray := prog_17_method_154_code
def yJ0_isLatin1_aae02 : MethodName := ⟨RJ0, "isLatin1", "()Z"⟩
abbrev cJ0_checkBoundsBeginEnd_23922 : ByteArray := prog_17_method_158_code
def yJ0_checkBoundsBeginEnd_23922 : MethodName := ⟨RJ0, "checkBoundsBeginEnd", "(III)V"⟩
def RJ1 : String := "java/lang/StringLatin1"
def TJ1 : u_T := fun k => match k with
  | _ => ("", "", "", false)
def tyJ1 : Nat → FieldType := fun k => match k with
  | _ => .int
abbrev wsJ10 : List Cond := u_ws RJ1 TJ1 0
theorem nmJ1 : ∀ a, a < 0 → ∀ b, b < 0 → a ≠ b → (TJ1 a).2.1 ≠ (TJ1 b).2.1 := by decide +kernel
theorem tyJ1_ok : ∀ k, k < 0 → parseFieldDescriptor (TJ1 k).2.2.1 = some (tyJ1 k) := by decide +kernel
abbrev cJ1_canEncode_9a6ad : ByteArray := prog_18_method_4_code
def yJ1_canEncode_9a6ad : MethodName := ⟨RJ1, "canEncode", "(I)Z"⟩
abbrev cJ1_indexOf_4cfef : ByteArray := prog_18_method_22_code
def yJ1_indexOf_4cfef : MethodName := ⟨RJ1, "indexOf", "([BIII)I"⟩
abbrev cJ1_indexOfChar_4cfef : ByteArray := prog_18_method_23_code
def yJ1_indexOfChar_4cfef : MethodName := ⟨RJ1, "indexOfChar", "([BIII)I"⟩
def RJ2 : String := "java/lang/StringUTF16"
def TJ2 : u_T := fun k => match k with
  | _ => ("", "", "", false)
def tyJ2 : Nat → FieldType := fun k => match k with
  | _ => .int
abbrev wsJ20 : List Cond := u_ws RJ2 TJ2 0
theorem nmJ2 : ∀ a, a < 0 → ∀ b, b < 0 → a ≠ b → (TJ2 a).2.1 ≠ (TJ2 b).2.1 := by decide +kernel
theorem tyJ2_ok : ∀ k, k < 0 → parseFieldDescriptor (TJ2 k).2.2.1 = some (tyJ2 k) := by decide +kernel
abbrev cJ2_getChar_3b067 : ByteArray := prog_19_method_5_code
def yJ2_getChar_3b067 : MethodName := ⟨RJ2, "getChar", "([BI)C"⟩
abbrev cJ2_length_9d52b : ByteArray := prog_19_method_6_code
def yJ2_length_9d52b : MethodName := ⟨RJ2, "length", "([B)I"⟩
abbrev cJ2_indexOf_4cfef : ByteArray := prog_19_method_40_code
def yJ2_indexOf_4cfef : MethodName := ⟨RJ2, "indexOf", "([BIII)I"⟩
abbrev cJ2_indexOfChar_4cfef : ByteArray := prog_19_method_47_code
def yJ2_indexOfChar_4cfef : MethodName := ⟨RJ2, "indexOfChar", "([BIII)I"⟩
abbrev cJ2_indexOfCharUnsafe_4cfef : ByteArray := prog_19_method_48_code
def yJ2_indexOfCharUnsafe_4cfef : MethodName := ⟨RJ2, "indexOfCharUnsafe", "([BIII)I"⟩
abbrev cJ2_indexOfSupplementary_4cfef : ByteArray := prog_19_method_49_code
def yJ2_indexOfSupplementary_4cfef : MethodName := ⟨RJ2, "indexOfSupplementary", "([BIII)I"⟩
abbrev cJ2_checkBoundsBeginEnd_d044e : ByteArray := prog_19_method_93_code
def yJ2_checkBoundsBeginEnd_d044e : MethodName := ⟨RJ2, "checkBoundsBeginEnd", "(II[B)V"⟩
def RJ10 : String := "java/lang/System"
def TJ10 : u_T := fun k => match k with
  | _ => ("", "", "", false)
def tyJ10 : Nat → FieldType := fun k => match k with
  | _ => .int
abbrev wsJ100 : List Cond := u_ws RJ10 TJ10 0
theorem nmJ10 : ∀ a, a < 0 → ∀ b, b < 0 → a ≠ b → (TJ10 a).2.1 ≠ (TJ10 b).2.1 := by decide +kernel
theorem tyJ10_ok : ∀ k, k < 0 → parseFieldDescriptor (TJ10 k).2.2.1 = some (tyJ10 k) := by decide +kernel
def RJxfd54e : String := "java/lang/constant/Constable"
def TJxfd54e : u_T := fun k => match k with
  | _ => ("", "", "", false)
def tyJxfd54e : Nat → FieldType := fun k => match k with
  | _ => .int
abbrev wsJxfd54e0 : List Cond := u_ws RJxfd54e TJxfd54e 0
theorem nmJxfd54e : ∀ a, a < 0 → ∀ b, b < 0 → a ≠ b → (TJxfd54e a).2.1 ≠ (TJxfd54e b).2.1 := by decide +kernel
theorem tyJxfd54e_ok : ∀ k, k < 0 → parseFieldDescriptor (TJxfd54e k).2.2.1 = some (tyJxfd54e k) := by decide +kernel
def RJx3cf43 : String := "java/lang/constant/ConstantDesc"
def TJx3cf43 : u_T := fun k => match k with
  | _ => ("", "", "", false)
def tyJx3cf43 : Nat → FieldType := fun k => match k with
  | _ => .int
abbrev wsJx3cf430 : List Cond := u_ws RJx3cf43 TJx3cf43 0
theorem nmJx3cf43 : ∀ a, a < 0 → ∀ b, b < 0 → a ≠ b → (TJx3cf43 a).2.1 ≠ (TJx3cf43 b).2.1 := by decide +kernel
theorem tyJx3cf43_ok : ∀ k, k < 0 → parseFieldDescriptor (TJx3cf43 k).2.2.1 = some (tyJx3cf43 k) := by decide +kernel
def RJxa1e45 : String := "java/util/AbstractCollection"
def TJxa1e45 : u_T := fun k => match k with
  | _ => ("", "", "", false)
def tyJxa1e45 : Nat → FieldType := fun k => match k with
  | _ => .int
abbrev wsJxa1e450 : List Cond := u_ws RJxa1e45 TJxa1e45 0
theorem nmJxa1e45 : ∀ a, a < 0 → ∀ b, b < 0 → a ≠ b → (TJxa1e45 a).2.1 ≠ (TJxa1e45 b).2.1 := by decide +kernel
theorem tyJxa1e45_ok : ∀ k, k < 0 → parseFieldDescriptor (TJxa1e45 k).2.2.1 = some (tyJxa1e45 k) := by decide +kernel
abbrev cJxa1e45_init_da8c8 : ByteArray := prog_23_method_1_code
def yJxa1e45_init_da8c8 : MethodName := ⟨RJxa1e45, "<init>", "()V"⟩
def RJxc12de : String := "java/util/AbstractList"
def TJxc12de : u_T := fun k => match k with
  | _ => ("", "", "", false)
def tyJxc12de : Nat → FieldType := fun k => match k with
  | _ => .int
abbrev wsJxc12de0 : List Cond := u_ws RJxc12de TJxc12de 0
theorem nmJxc12de : ∀ a, a < 0 → ∀ b, b < 0 → a ≠ b → (TJxc12de a).2.1 ≠ (TJxc12de b).2.1 := by decide +kernel
theorem tyJxc12de_ok : ∀ k, k < 0 → parseFieldDescriptor (TJxc12de k).2.2.1 = some (tyJxc12de k) := by decide +kernel
abbrev cJxc12de_init_da8c8 : ByteArray := prog_24_method_1_code
def yJxc12de_init_da8c8 : MethodName := ⟨RJxc12de, "<init>", "()V"⟩
def RJx4a65c : String := "java/util/ArrayList"
def TJx4a65c : u_T := fun k => match k with
  | 0 => ("java/util/AbstractList", "modCount", "I", false)
  | 1 => ("java/util/ArrayList", "elementData", "[Ljava/lang/Object;", false)
  | _ => ("java/util/ArrayList", "size", "I", false)
def tyJx4a65c : Nat → FieldType := fun k => match k with
  | 0 => .int
  | 1 => .array (.object "java/lang/Object")
  | _ => .int
abbrev wsJx4a65c0 : List Cond := u_ws RJx4a65c TJx4a65c 3
theorem nmJx4a65c : ∀ a, a < 3 → ∀ b, b < 3 → a ≠ b → (TJx4a65c a).2.1 ≠ (TJx4a65c b).2.1 := by decide +kernel
theorem tyJx4a65c_ok : ∀ k, k < 3 → parseFieldDescriptor (TJx4a65c k).2.2.1 = some (tyJx4a65c k) := by decide +kernel
abbrev cJx4a65c_init_da8c8 : ByteArray := prog_25_method_2_code
def yJx4a65c_init_da8c8 : MethodName := ⟨RJx4a65c, "<init>", "()V"⟩
abbrev cJx4a65c_grow_92f84 : ByteArray := prog_25_method_6_code
def yJx4a65c_grow_92f84 : MethodName := ⟨RJx4a65c, "grow", "(I)[Ljava/lang/Object;"⟩
abbrev cJx4a65c_grow_d5877 : ByteArray := prog_25_method_7_code
def yJx4a65c_grow_d5877 : MethodName := ⟨RJx4a65c, "grow", "()[Ljava/lang/Object;"⟩
abbrev cJx4a65c_size_8abf5 : ByteArray := prog_25_method_8_code
def yJx4a65c_size_8abf5 : MethodName := ⟨RJx4a65c, "size", "()I"⟩
abbrev cJx4a65c_elementData_915e3 : ByteArray := prog_25_method_18_code
def yJx4a65c_elementData_915e3 : MethodName := ⟨RJx4a65c, "elementData", "(I)Ljava/lang/Object;"⟩
abbrev cJx4a65c_get_915e3 : ByteArray := prog_25_method_20_code
def yJx4a65c_get_915e3 : MethodName := ⟨RJx4a65c, "get", "(I)Ljava/lang/Object;"⟩
abbrev cJx4a65c_set_bcc79 : ByteArray := prog_25_method_23_code
def yJx4a65c_set_bcc79 : MethodName := ⟨RJx4a65c, "set", "(ILjava/lang/Object;)Ljava/lang/Object;"⟩
abbrev cJx4a65c_add_72be8 : ByteArray := prog_25_method_24_code
def yJx4a65c_add_72be8 : MethodName := ⟨RJx4a65c, "add", "(Ljava/lang/Object;[Ljava/lang/Object;I)V"⟩
abbrev cJx4a65c_add_9ea2d : ByteArray := prog_25_method_25_code
def yJx4a65c_add_9ea2d : MethodName := ⟨RJx4a65c, "add", "(Ljava/lang/Object;)Z"⟩
abbrev cJx4a65c_remove_915e3 : ByteArray := prog_25_method_29_code
def yJx4a65c_remove_915e3 : MethodName := ⟨RJx4a65c, "remove", "(I)Ljava/lang/Object;"⟩
abbrev cJx4a65c_fastRemove_b59b0 : ByteArray := prog_25_method_39_code
def yJx4a65c_fastRemove_b59b0 : MethodName := ⟨RJx4a65c, "fastRemove", "([Ljava/lang/Object;I)V"⟩
abbrev cJx4a65c_clear_da8c8 : ByteArray := prog_25_method_40_code
def yJx4a65c_clear_da8c8 : MethodName := ⟨RJx4a65c, "clear", "()V"⟩
def RJ7 : String := "java/util/Arrays"
def TJ7 : u_T := fun k => match k with
  | _ => ("", "", "", false)
def tyJ7 : Nat → FieldType := fun k => match k with
  | _ => .int
abbrev wsJ70 : List Cond := u_ws RJ7 TJ7 0
theorem nmJ7 : ∀ a, a < 0 → ∀ b, b < 0 → a ≠ b → (TJ7 a).2.1 ≠ (TJ7 b).2.1 := by decide +kernel
theorem tyJ7_ok : ∀ k, k < 0 → parseFieldDescriptor (TJ7 k).2.2.1 = some (tyJ7 k) := by decide +kernel
abbrev cJ7_fill_53178 : ByteArray := prog_26_method_103_code
def yJ7_fill_53178 : MethodName := ⟨RJ7, "fill", "([II)V"⟩
abbrev cJ7_copyOf_1904c : ByteArray := prog_26_method_119_code
def yJ7_copyOf_1904c : MethodName := ⟨RJ7, "copyOf", "([Ljava/lang/Object;I)[Ljava/lang/Object;"⟩
abbrev cJ7_copyOf_6403c : ByteArray := prog_26_method_120_code
def yJ7_copyOf_6403c : MethodName := ⟨RJ7, "copyOf", "([Ljava/lang/Object;ILjava/lang/Class;)[Ljava/lang/Object;"⟩
def RJx5ef63 : String := "java/util/Collection"
def TJx5ef63 : u_T := fun k => match k with
  | _ => ("", "", "", false)
def tyJx5ef63 : Nat → FieldType := fun k => match k with
  | _ => .int
abbrev wsJx5ef630 : List Cond := u_ws RJx5ef63 TJx5ef63 0
theorem nmJx5ef63 : ∀ a, a < 0 → ∀ b, b < 0 → a ≠ b → (TJx5ef63 a).2.1 ≠ (TJx5ef63 b).2.1 := by decide +kernel
theorem tyJx5ef63_ok : ∀ k, k < 0 → parseFieldDescriptor (TJx5ef63 k).2.2.1 = some (tyJx5ef63 k) := by decide +kernel
def RJxbd725 : String := "java/util/List"
def TJxbd725 : u_T := fun k => match k with
  | _ => ("", "", "", false)
def tyJxbd725 : Nat → FieldType := fun k => match k with
  | _ => .int
abbrev wsJxbd7250 : List Cond := u_ws RJxbd725 TJxbd725 0
theorem nmJxbd725 : ∀ a, a < 0 → ∀ b, b < 0 → a ≠ b → (TJxbd725 a).2.1 ≠ (TJxbd725 b).2.1 := by decide +kernel
theorem tyJxbd725_ok : ∀ k, k < 0 → parseFieldDescriptor (TJxbd725 k).2.2.1 = some (tyJxbd725 k) := by decide +kernel
def RJ15 : String := "java/util/Objects"
def TJ15 : u_T := fun k => match k with
  | _ => ("", "", "", false)
def tyJ15 : Nat → FieldType := fun k => match k with
  | _ => .int
abbrev wsJ150 : List Cond := u_ws RJ15 TJ15 0
theorem nmJ15 : ∀ a, a < 0 → ∀ b, b < 0 → a ≠ b → (TJ15 a).2.1 ≠ (TJ15 b).2.1 := by decide +kernel
theorem tyJ15_ok : ∀ k, k < 0 → parseFieldDescriptor (TJ15 k).2.2.1 = some (tyJ15 k) := by decide +kernel
abbrev cJ15_checkIndex_7cf53 : ByteArray := prog_29_method_17_code
def yJ15_checkIndex_7cf53 : MethodName := ⟨RJ15, "checkIndex", "(II)I"⟩
def RJxf0a74 : String := "java/util/RandomAccess"
def TJxf0a74 : u_T := fun k => match k with
  | _ => ("", "", "", false)
def tyJxf0a74 : Nat → FieldType := fun k => match k with
  | _ => .int
abbrev wsJxf0a740 : List Cond := u_ws RJxf0a74 TJxf0a74 0
theorem nmJxf0a74 : ∀ a, a < 0 → ∀ b, b < 0 → a ≠ b → (TJxf0a74 a).2.1 ≠ (TJxf0a74 b).2.1 := by decide +kernel
theorem tyJxf0a74_ok : ∀ k, k < 0 → parseFieldDescriptor (TJxf0a74 k).2.2.1 = some (tyJxf0a74 k) := by decide +kernel
def RJxa66e6 : String := "java/util/SequencedCollection"
def TJxa66e6 : u_T := fun k => match k with
  | _ => ("", "", "", false)
def tyJxa66e6 : Nat → FieldType := fun k => match k with
  | _ => .int
abbrev wsJxa66e60 : List Cond := u_ws RJxa66e6 TJxa66e6 0
theorem nmJxa66e6 : ∀ a, a < 0 → ∀ b, b < 0 → a ≠ b → (TJxa66e6 a).2.1 ≠ (TJxa66e6 b).2.1 := by decide +kernel
theorem tyJxa66e6_ok : ∀ k, k < 0 → parseFieldDescriptor (TJxa66e6 k).2.2.1 = some (tyJxa66e6 k) := by decide +kernel
def RJ8 : String := "jdk/internal/util/ArraysSupport"
def TJ8 : u_T := fun k => match k with
  | _ => ("", "", "", false)
def tyJ8 : Nat → FieldType := fun k => match k with
  | _ => .int
abbrev wsJ80 : List Cond := u_ws RJ8 TJ8 0
theorem nmJ8 : ∀ a, a < 0 → ∀ b, b < 0 → a ≠ b → (TJ8 a).2.1 ≠ (TJ8 b).2.1 := by decide +kernel
theorem tyJ8_ok : ∀ k, k < 0 → parseFieldDescriptor (TJ8 k).2.2.1 = some (tyJ8 k) := by decide +kernel
abbrev cJ8_newLength_cabcc : ByteArray := prog_32_method_27_code
def yJ8_newLength_cabcc : MethodName := ⟨RJ8, "newLength", "(III)I"⟩
abbrev cJ8_hugeLength_7cf53 : ByteArray := prog_32_method_28_code
def yJ8_hugeLength_7cf53 : MethodName := ⟨RJ8, "hugeLength", "(II)I"⟩
def RJ3 : String := "jdk/internal/util/Preconditions"
def TJ3 : u_T := fun k => match k with
  | _ => ("", "", "", false)
def tyJ3 : Nat → FieldType := fun k => match k with
  | _ => .int
abbrev wsJ30 : List Cond := u_ws RJ3 TJ3 0
theorem nmJ3 : ∀ a, a < 0 → ∀ b, b < 0 → a ≠ b → (TJ3 a).2.1 ≠ (TJ3 b).2.1 := by decide +kernel
theorem tyJ3_ok : ∀ k, k < 0 → parseFieldDescriptor (TJ3 k).2.2.1 = some (tyJ3 k) := by decide +kernel
abbrev cJ3_checkIndex_8e157 : ByteArray := prog_33_method_11_code
def yJ3_checkIndex_8e157 : MethodName := ⟨RJ3, "checkIndex", "(IILjava/util/function/BiFunction;)I"⟩
abbrev cJ3_checkFromToIndex_8c36e : ByteArray := prog_33_method_12_code
def yJ3_checkFromToIndex_8c36e : MethodName := ⟨RJ3, "checkFromToIndex", "(IIILjava/util/function/BiFunction;)I"⟩
def RL : String := "BallastTrainLaw"
abbrev cL_law : ByteArray := code
def yL_law : MethodName := ⟨RL, "law", "([I)Z"⟩
theorem inX0 : ∀ w ∈ wsX00, w ∈ lw_tbl := by decide +kernel
theorem inX1 : ∀ w ∈ wsX10, w ∈ lw_tbl := by decide +kernel
theorem inX2 : ∀ w ∈ wsX20, w ∈ lw_tbl := by decide +kernel
theorem inX3 : ∀ w ∈ wsX30, w ∈ lw_tbl := by decide +kernel
theorem inX4 : ∀ w ∈ wsX40, w ∈ lw_tbl := by decide +kernel
theorem inX5 : ∀ w ∈ wsX50, w ∈ lw_tbl := by decide +kernel
theorem inX6 : ∀ w ∈ wsX60, w ∈ lw_tbl := by decide +kernel
theorem inX7 : ∀ w ∈ wsX70, w ∈ lw_tbl := by decide +kernel
theorem inJx145de : ∀ w ∈ wsJx145de0, w ∈ lw_tbl := by decide +kernel
theorem inJx9f9b0 : ∀ w ∈ wsJx9f9b00, w ∈ lw_tbl := by decide +kernel
theorem inJ11 : ∀ w ∈ wsJ110, w ∈ lw_tbl := by decide +kernel
theorem inJx8e188 : ∀ w ∈ wsJx8e1880, w ∈ lw_tbl := by decide +kernel
theorem inJxb160c : ∀ w ∈ wsJxb160c0, w ∈ lw_tbl := by decide +kernel
theorem inJxab1ab : ∀ w ∈ wsJxab1ab0, w ∈ lw_tbl := by decide +kernel
theorem inJ9 : ∀ w ∈ wsJ90, w ∈ lw_tbl := by decide +kernel
theorem inJ0 : ∀ w ∈ wsJ00, w ∈ lw_tbl := by decide +kernel
theorem inJ1 : ∀ w ∈ wsJ10, w ∈ lw_tbl := by decide +kernel
theorem inJ2 : ∀ w ∈ wsJ20, w ∈ lw_tbl := by decide +kernel
theorem inJ10 : ∀ w ∈ wsJ100, w ∈ lw_tbl := by decide +kernel
theorem inJxfd54e : ∀ w ∈ wsJxfd54e0, w ∈ lw_tbl := by decide +kernel
theorem inJx3cf43 : ∀ w ∈ wsJx3cf430, w ∈ lw_tbl := by decide +kernel
theorem inJxa1e45 : ∀ w ∈ wsJxa1e450, w ∈ lw_tbl := by decide +kernel
theorem inJxc12de : ∀ w ∈ wsJxc12de0, w ∈ lw_tbl := by decide +kernel
theorem inJx4a65c : ∀ w ∈ wsJx4a65c0, w ∈ lw_tbl := by decide +kernel
theorem inJ7 : ∀ w ∈ wsJ70, w ∈ lw_tbl := by decide +kernel
theorem inJx5ef63 : ∀ w ∈ wsJx5ef630, w ∈ lw_tbl := by decide +kernel
theorem inJxbd725 : ∀ w ∈ wsJxbd7250, w ∈ lw_tbl := by decide +kernel
theorem inJ15 : ∀ w ∈ wsJ150, w ∈ lw_tbl := by decide +kernel
theorem inJxf0a74 : ∀ w ∈ wsJxf0a740, w ∈ lw_tbl := by decide +kernel
theorem inJxa66e6 : ∀ w ∈ wsJxa66e60, w ∈ lw_tbl := by decide +kernel
theorem inJ8 : ∀ w ∈ wsJ80, w ∈ lw_tbl := by decide +kernel
theorem inJ3 : ∀ w ∈ wsJ30, w ∈ lw_tbl := by decide +kernel
abbrev vwCl : List vw_C := [(RJx4a65c, TJx4a65c, 3), (RX0, TX0, 3), (RX1, TX1, 5), (RX2, TX2, 9), (RX3, TX3, 5), (RX4, TX4, 1), (RX5, TX5, 8), (RX6, TX6, 4), (RX7, TX7, 11)]
end
section
theorem dX0_init_0 : decode cX0_init 0 = .ok (.aload_n 0, 1) := by decide +kernel
theorem dX0_init_1 : decode cX0_init 1 = .ok (.invokespecial 3, 3) := by decide +kernel
theorem dX0_init_4 : decode cX0_init 4 = .ok (.aload_n 0, 1) := by decide +kernel
theorem dX0_init_5 : decode cX0_init 5 = .ok (.bipush 6, 2) := by decide +kernel
theorem dX0_init_7 : decode cX0_init 7 = .ok (.anewarray 9, 3) := by decide +kernel
theorem dX0_init_10 : decode cX0_init 10 = .ok (.putfield 11, 3) := by decide +kernel
theorem dX0_init_13 : decode cX0_init 13 = .ok (.aload_n 0, 1) := by decide +kernel
theorem dX0_init_14 : decode cX0_init 14 = .ok (.iconst 0, 1) := by decide +kernel
theorem dX0_init_15 : decode cX0_init 15 = .ok (.putfield 17, 3) := by decide +kernel
theorem dX0_init_18 : decode cX0_init 18 = .ok (.aload_n 0, 1) := by decide +kernel
theorem dX0_init_19 : decode cX0_init 19 = .ok (.iconst 0, 1) := by decide +kernel
theorem dX0_init_20 : decode cX0_init 20 = .ok (.putfield 21, 3) := by decide +kernel
theorem dX0_init_23 : decode cX0_init 23 = .ok (.iconst 0, 1) := by decide +kernel
theorem dX0_init_24 : decode cX0_init 24 = .ok (.istore_n 1, 1) := by decide +kernel
theorem dX0_init_25 : decode cX0_init 25 = .ok (.iload_n 1, 1) := by decide +kernel
theorem dX0_init_26 : decode cX0_init 26 = .ok (.aload_n 0, 1) := by decide +kernel
theorem dX0_init_27 : decode cX0_init 27 = .ok (.getfield 11, 3) := by decide +kernel
theorem dX0_init_30 : decode cX0_init 30 = .ok (.arraylength, 1) := by decide +kernel
theorem dX0_init_31 : decode cX0_init 31 = .ok (.if_icmp .ge 22, 3) := by decide +kernel
theorem dX0_init_34 : decode cX0_init 34 = .ok (.aload_n 0, 1) := by decide +kernel
theorem dX0_init_35 : decode cX0_init 35 = .ok (.getfield 11, 3) := by decide +kernel
theorem dX0_init_38 : decode cX0_init 38 = .ok (.iload_n 1, 1) := by decide +kernel
theorem dX0_init_39 : decode cX0_init 39 = .ok (.new 9, 3) := by decide +kernel
theorem dX0_init_42 : decode cX0_init 42 = .ok (.dup, 1) := by decide +kernel
theorem dX0_init_43 : decode cX0_init 43 = .ok (.invokespecial 24, 3) := by decide +kernel
theorem dX0_init_46 : decode cX0_init 46 = .ok (.aastore, 1) := by decide +kernel
theorem dX0_init_47 : decode cX0_init 47 = .ok (.iinc 1 1, 3) := by decide +kernel
theorem dX0_init_50 : decode cX0_init 50 = .ok (.goto (-25), 3) := by decide +kernel
theorem dX0_init_53 : decode cX0_init 53 = .ok (.return_, 1) := by decide +kernel
theorem dX0_keep_0 : decode cX0_keep 0 = .ok (.aload_n 0, 1) := by decide +kernel
theorem dX0_keep_1 : decode cX0_keep 1 = .ok (.getfield 11, 3) := by decide +kernel
theorem dX0_keep_4 : decode cX0_keep 4 = .ok (.aload_n 0, 1) := by decide +kernel
theorem dX0_keep_5 : decode cX0_keep 5 = .ok (.getfield 17, 3) := by decide +kernel
theorem dX0_keep_8 : decode cX0_keep 8 = .ok (.bipush 6, 2) := by decide +kernel
theorem dX0_keep_10 : decode cX0_keep 10 = .ok (.invokestatic 25, 3) := by decide +kernel
theorem dX0_keep_13 : decode cX0_keep 13 = .ok (.aaload, 1) := by decide +kernel
theorem dX0_keep_14 : decode cX0_keep 14 = .ok (.aload_n 1, 1) := by decide +kernel
theorem dX0_keep_15 : decode cX0_keep 15 = .ok (.invokevirtual 31, 3) := by decide +kernel
theorem dX0_keep_18 : decode cX0_keep 18 = .ok (.aload_n 0, 1) := by decide +kernel
theorem dX0_keep_19 : decode cX0_keep 19 = .ok (.dup, 1) := by decide +kernel
theorem dX0_keep_20 : decode cX0_keep 20 = .ok (.getfield 17, 3) := by decide +kernel
theorem dX0_keep_23 : decode cX0_keep 23 = .ok (.iconst 1, 1) := by decide +kernel
theorem dX0_keep_24 : decode cX0_keep 24 = .ok (.iadd, 1) := by decide +kernel
theorem dX0_keep_25 : decode cX0_keep 25 = .ok (.putfield 17, 3) := by decide +kernel
theorem dX0_keep_28 : decode cX0_keep 28 = .ok (.aload_n 0, 1) := by decide +kernel
theorem dX0_keep_29 : decode cX0_keep 29 = .ok (.aload_n 0, 1) := by decide +kernel
theorem dX0_keep_30 : decode cX0_keep 30 = .ok (.getfield 21, 3) := by decide +kernel
theorem dX0_keep_33 : decode cX0_keep 33 = .ok (.iconst 1, 1) := by decide +kernel
theorem dX0_keep_34 : decode cX0_keep 34 = .ok (.iadd, 1) := by decide +kernel
theorem dX0_keep_35 : decode cX0_keep 35 = .ok (.bipush 6, 2) := by decide +kernel
theorem dX0_keep_37 : decode cX0_keep 37 = .ok (.invokestatic 35, 3) := by decide +kernel
theorem dX0_keep_40 : decode cX0_keep 40 = .ok (.putfield 21, 3) := by decide +kernel
theorem dX0_keep_43 : decode cX0_keep 43 = .ok (.return_, 1) := by decide +kernel
theorem dX0_restore_0 : decode cX0_restore 0 = .ok (.aload_n 0, 1) := by decide +kernel
theorem dX0_restore_1 : decode cX0_restore 1 = .ok (.dup, 1) := by decide +kernel
theorem dX0_restore_2 : decode cX0_restore 2 = .ok (.getfield 17, 3) := by decide +kernel
theorem dX0_restore_5 : decode cX0_restore 5 = .ok (.iconst 1, 1) := by decide +kernel
theorem dX0_restore_6 : decode cX0_restore 6 = .ok (.isub, 1) := by decide +kernel
theorem dX0_restore_7 : decode cX0_restore 7 = .ok (.putfield 17, 3) := by decide +kernel
theorem dX0_restore_10 : decode cX0_restore 10 = .ok (.aload_n 0, 1) := by decide +kernel
theorem dX0_restore_11 : decode cX0_restore 11 = .ok (.dup, 1) := by decide +kernel
theorem dX0_restore_12 : decode cX0_restore 12 = .ok (.getfield 21, 3) := by decide +kernel
theorem dX0_restore_15 : decode cX0_restore 15 = .ok (.iconst 1, 1) := by decide +kernel
theorem dX0_restore_16 : decode cX0_restore 16 = .ok (.isub, 1) := by decide +kernel
theorem dX0_restore_17 : decode cX0_restore 17 = .ok (.putfield 21, 3) := by decide +kernel
theorem dX0_restore_20 : decode cX0_restore 20 = .ok (.aload_n 1, 1) := by decide +kernel
theorem dX0_restore_21 : decode cX0_restore 21 = .ok (.aload_n 0, 1) := by decide +kernel
theorem dX0_restore_22 : decode cX0_restore 22 = .ok (.getfield 11, 3) := by decide +kernel
theorem dX0_restore_25 : decode cX0_restore 25 = .ok (.aload_n 0, 1) := by decide +kernel
theorem dX0_restore_26 : decode cX0_restore 26 = .ok (.getfield 17, 3) := by decide +kernel
theorem dX0_restore_29 : decode cX0_restore 29 = .ok (.bipush 6, 2) := by decide +kernel
theorem dX0_restore_31 : decode cX0_restore 31 = .ok (.invokestatic 25, 3) := by decide +kernel
theorem dX0_restore_34 : decode cX0_restore 34 = .ok (.aaload, 1) := by decide +kernel
theorem dX0_restore_35 : decode cX0_restore 35 = .ok (.invokevirtual 31, 3) := by decide +kernel
theorem dX0_restore_38 : decode cX0_restore 38 = .ok (.return_, 1) := by decide +kernel
theorem dX1_init_0 : decode cX1_init 0 = .ok (.aload_n 0, 1) := by decide +kernel
theorem dX1_init_1 : decode cX1_init 1 = .ok (.invokespecial 3, 3) := by decide +kernel
theorem dX1_init_4 : decode cX1_init 4 = .ok (.aload_n 0, 1) := by decide +kernel
theorem dX1_init_5 : decode cX1_init 5 = .ok (.iload_n 1, 1) := by decide +kernel
theorem dX1_init_6 : decode cX1_init 6 = .ok (.putfield 9, 3) := by decide +kernel
theorem dX1_init_9 : decode cX1_init 9 = .ok (.aload_n 0, 1) := by decide +kernel
theorem dX1_init_10 : decode cX1_init 10 = .ok (.iload_n 2, 1) := by decide +kernel
theorem dX1_init_11 : decode cX1_init 11 = .ok (.putfield 15, 3) := by decide +kernel
theorem dX1_init_14 : decode cX1_init 14 = .ok (.aload_n 0, 1) := by decide +kernel
theorem dX1_init_15 : decode cX1_init 15 = .ok (.iload_n 3, 1) := by decide +kernel
theorem dX1_init_16 : decode cX1_init 16 = .ok (.putfield 18, 3) := by decide +kernel
theorem dX1_init_19 : decode cX1_init 19 = .ok (.aload_n 0, 1) := by decide +kernel
theorem dX1_init_20 : decode cX1_init 20 = .ok (.iload 4, 2) := by decide +kernel
theorem dX1_init_22 : decode cX1_init 22 = .ok (.putfield 21, 3) := by decide +kernel
theorem dX1_init_25 : decode cX1_init 25 = .ok (.aload_n 0, 1) := by decide +kernel
theorem dX1_init_26 : decode cX1_init 26 = .ok (.iload 5, 2) := by decide +kernel
theorem dX1_init_28 : decode cX1_init 28 = .ok (.putfield 24, 3) := by decide +kernel
theorem dX1_init_31 : decode cX1_init 31 = .ok (.return_, 1) := by decide +kernel
theorem dX1_part_0 : decode cX1_part 0 = .ok (.iload_n 1, 1) := by decide +kernel
theorem dX1_part_1 : decode cX1_part 1 = .ok (.tableswitch 60 0 4 #[35, 40, 45, 50, 55], 35) := by decide +kernel
theorem dX1_part_36 : decode cX1_part 36 = .ok (.aload_n 0, 1) := by decide +kernel
theorem dX1_part_37 : decode cX1_part 37 = .ok (.getfield 9, 3) := by decide +kernel
theorem dX1_part_40 : decode cX1_part 40 = .ok (.ireturn, 1) := by decide +kernel
theorem dX1_part_41 : decode cX1_part 41 = .ok (.aload_n 0, 1) := by decide +kernel
theorem dX1_part_42 : decode cX1_part 42 = .ok (.getfield 15, 3) := by decide +kernel
theorem dX1_part_45 : decode cX1_part 45 = .ok (.ireturn, 1) := by decide +kernel
theorem dX1_part_46 : decode cX1_part 46 = .ok (.aload_n 0, 1) := by decide +kernel
theorem dX1_part_47 : decode cX1_part 47 = .ok (.getfield 18, 3) := by decide +kernel
theorem dX1_part_50 : decode cX1_part 50 = .ok (.ireturn, 1) := by decide +kernel
theorem dX1_part_51 : decode cX1_part 51 = .ok (.aload_n 0, 1) := by decide +kernel
theorem dX1_part_52 : decode cX1_part 52 = .ok (.getfield 21, 3) := by decide +kernel
theorem dX1_part_55 : decode cX1_part 55 = .ok (.ireturn, 1) := by decide +kernel
theorem dX1_part_56 : decode cX1_part 56 = .ok (.aload_n 0, 1) := by decide +kernel
theorem dX1_part_57 : decode cX1_part 57 = .ok (.getfield 24, 3) := by decide +kernel
theorem dX1_part_60 : decode cX1_part 60 = .ok (.ireturn, 1) := by decide +kernel
theorem dX1_part_61 : decode cX1_part 61 = .ok (.sipush (-1001), 3) := by decide +kernel
theorem dX1_part_64 : decode cX1_part 64 = .ok (.ireturn, 1) := by decide +kernel
theorem dX1_isDue_0 : decode cX1_isDue 0 = .ok (.aload_n 0, 1) := by decide +kernel
theorem dX1_isDue_1 : decode cX1_isDue 1 = .ok (.getfield 15, 3) := by decide +kernel
theorem dX1_isDue_4 : decode cX1_isDue 4 = .ok (.iconst 2, 1) := by decide +kernel
theorem dX1_isDue_5 : decode cX1_isDue 5 = .ok (.if_icmp .ne 20, 3) := by decide +kernel
theorem dX1_isDue_8 : decode cX1_isDue 8 = .ok (.aload_n 1, 1) := by decide +kernel
theorem dX1_isDue_9 : decode cX1_isDue 9 = .ok (.getfield 27, 3) := by decide +kernel
theorem dX1_isDue_12 : decode cX1_isDue 12 = .ok (.aload_n 0, 1) := by decide +kernel
theorem dX1_isDue_13 : decode cX1_isDue 13 = .ok (.getfield 9, 3) := by decide +kernel
theorem dX1_isDue_16 : decode cX1_isDue 16 = .ok (.if_icmp .lt 7, 3) := by decide +kernel
theorem dX1_isDue_19 : decode cX1_isDue 19 = .ok (.iconst 1, 1) := by decide +kernel
theorem dX1_isDue_20 : decode cX1_isDue 20 = .ok (.goto 4, 3) := by decide +kernel
theorem dX1_isDue_23 : decode cX1_isDue 23 = .ok (.iconst 0, 1) := by decide +kernel
theorem dX1_isDue_24 : decode cX1_isDue 24 = .ok (.ireturn, 1) := by decide +kernel
theorem dX1_isDue_25 : decode cX1_isDue 25 = .ok (.aload_n 1, 1) := by decide +kernel
theorem dX1_isDue_26 : decode cX1_isDue 26 = .ok (.aload_n 0, 1) := by decide +kernel
theorem dX1_isDue_27 : decode cX1_isDue 27 = .ok (.getfield 18, 3) := by decide +kernel
theorem dX1_isDue_30 : decode cX1_isDue 30 = .ok (.aload_n 0, 1) := by decide +kernel
theorem dX1_isDue_31 : decode cX1_isDue 31 = .ok (.getfield 21, 3) := by decide +kernel
theorem dX1_isDue_34 : decode cX1_isDue 34 = .ok (.invokevirtual 32, 3) := by decide +kernel
theorem dX1_isDue_37 : decode cX1_isDue 37 = .ok (.ifCond .eq 22, 3) := by decide +kernel
theorem dX1_isDue_40 : decode cX1_isDue 40 = .ok (.aload_n 1, 1) := by decide +kernel
theorem dX1_isDue_41 : decode cX1_isDue 41 = .ok (.aload_n 0, 1) := by decide +kernel
theorem dX1_isDue_42 : decode cX1_isDue 42 = .ok (.getfield 18, 3) := by decide +kernel
theorem dX1_isDue_45 : decode cX1_isDue 45 = .ok (.invokevirtual 36, 3) := by decide +kernel
theorem dX1_isDue_48 : decode cX1_isDue 48 = .ok (.aload_n 0, 1) := by decide +kernel
theorem dX1_isDue_49 : decode cX1_isDue 49 = .ok (.getfield 9, 3) := by decide +kernel
theorem dX1_isDue_52 : decode cX1_isDue 52 = .ok (.if_icmp .lt 7, 3) := by decide +kernel
theorem dX1_isDue_55 : decode cX1_isDue 55 = .ok (.iconst 1, 1) := by decide +kernel
theorem dX1_isDue_56 : decode cX1_isDue 56 = .ok (.goto 4, 3) := by decide +kernel
theorem dX1_isDue_59 : decode cX1_isDue 59 = .ok (.iconst 0, 1) := by decide +kernel
theorem dX1_isDue_60 : decode cX1_isDue 60 = .ok (.ireturn, 1) := by decide +kernel
theorem dX1_carryOut_0 : decode cX1_carryOut 0 = .ok (.aload_n 0, 1) := by decide +kernel
theorem dX1_carryOut_1 : decode cX1_carryOut 1 = .ok (.getfield 15, 3) := by decide +kernel
theorem dX1_carryOut_4 : decode cX1_carryOut 4 = .ok (.iconst 2, 1) := by decide +kernel
theorem dX1_carryOut_5 : decode cX1_carryOut 5 = .ok (.if_icmp .ne 14, 3) := by decide +kernel
theorem dX1_carryOut_8 : decode cX1_carryOut 8 = .ok (.aload_n 1, 1) := by decide +kernel
theorem dX1_carryOut_9 : decode cX1_carryOut 9 = .ok (.aload_n 0, 1) := by decide +kernel
theorem dX1_carryOut_10 : decode cX1_carryOut 10 = .ok (.getfield 24, 3) := by decide +kernel
theorem dX1_carryOut_13 : decode cX1_carryOut 13 = .ok (.putfield 40, 3) := by decide +kernel
theorem dX1_carryOut_16 : decode cX1_carryOut 16 = .ok (.goto 42, 3) := by decide +kernel
theorem dX1_carryOut_19 : decode cX1_carryOut 19 = .ok (.aload_n 0, 1) := by decide +kernel
theorem dX1_carryOut_20 : decode cX1_carryOut 20 = .ok (.getfield 15, 3) := by decide +kernel
theorem dX1_carryOut_23 : decode cX1_carryOut 23 = .ok (.ifCond .ne 22, 3) := by decide +kernel
theorem dX1_carryOut_26 : decode cX1_carryOut 26 = .ok (.aload_n 1, 1) := by decide +kernel
theorem dX1_carryOut_27 : decode cX1_carryOut 27 = .ok (.aload_n 0, 1) := by decide +kernel
theorem dX1_carryOut_28 : decode cX1_carryOut 28 = .ok (.getfield 18, 3) := by decide +kernel
theorem dX1_carryOut_31 : decode cX1_carryOut 31 = .ok (.aload_n 0, 1) := by decide +kernel
theorem dX1_carryOut_32 : decode cX1_carryOut 32 = .ok (.getfield 21, 3) := by decide +kernel
theorem dX1_carryOut_35 : decode cX1_carryOut 35 = .ok (.aload_n 0, 1) := by decide +kernel
theorem dX1_carryOut_36 : decode cX1_carryOut 36 = .ok (.getfield 24, 3) := by decide +kernel
theorem dX1_carryOut_39 : decode cX1_carryOut 39 = .ok (.invokevirtual 43, 3) := by decide +kernel
theorem dX1_carryOut_42 : decode cX1_carryOut 42 = .ok (.goto 16, 3) := by decide +kernel
theorem dX1_carryOut_45 : decode cX1_carryOut 45 = .ok (.aload_n 1, 1) := by decide +kernel
theorem dX1_carryOut_46 : decode cX1_carryOut 46 = .ok (.aload_n 0, 1) := by decide +kernel
theorem dX1_carryOut_47 : decode cX1_carryOut 47 = .ok (.getfield 18, 3) := by decide +kernel
theorem dX1_carryOut_50 : decode cX1_carryOut 50 = .ok (.aload_n 0, 1) := by decide +kernel
theorem dX1_carryOut_51 : decode cX1_carryOut 51 = .ok (.getfield 21, 3) := by decide +kernel
theorem dX1_carryOut_54 : decode cX1_carryOut 54 = .ok (.iload_n 2, 1) := by decide +kernel
theorem dX1_carryOut_55 : decode cX1_carryOut 55 = .ok (.invokevirtual 47, 3) := by decide +kernel
theorem dX1_carryOut_58 : decode cX1_carryOut 58 = .ok (.return_, 1) := by decide +kernel
theorem dX2_init_0 : decode cX2_init 0 = .ok (.aload_n 0, 1) := by decide +kernel
theorem dX2_init_1 : decode cX2_init 1 = .ok (.invokespecial 3, 3) := by decide +kernel
theorem dX2_init_4 : decode cX2_init 4 = .ok (.aload_n 0, 1) := by decide +kernel
theorem dX2_init_5 : decode cX2_init 5 = .ok (.iconst 5, 1) := by decide +kernel
theorem dX2_init_6 : decode cX2_init 6 = .ok (.newarray .int, 2) := by decide +kernel
theorem dX2_init_8 : decode cX2_init 8 = .ok (.dup, 1) := by decide +kernel
theorem dX2_init_9 : decode cX2_init 9 = .ok (.iconst 0, 1) := by decide +kernel
theorem dX2_init_10 : decode cX2_init 10 = .ok (.iconst 4, 1) := by decide +kernel
theorem dX2_init_11 : decode cX2_init 11 = .ok (.iastore, 1) := by decide +kernel
theorem dX2_init_12 : decode cX2_init 12 = .ok (.dup, 1) := by decide +kernel
theorem dX2_init_13 : decode cX2_init 13 = .ok (.iconst 1, 1) := by decide +kernel
theorem dX2_init_14 : decode cX2_init 14 = .ok (.bipush 12, 2) := by decide +kernel
theorem dX2_init_16 : decode cX2_init 16 = .ok (.iastore, 1) := by decide +kernel
theorem dX2_init_17 : decode cX2_init 17 = .ok (.dup, 1) := by decide +kernel
theorem dX2_init_18 : decode cX2_init 18 = .ok (.iconst 2, 1) := by decide +kernel
theorem dX2_init_19 : decode cX2_init 19 = .ok (.iconst 1, 1) := by decide +kernel
theorem dX2_init_20 : decode cX2_init 20 = .ok (.iastore, 1) := by decide +kernel
theorem dX2_init_21 : decode cX2_init 21 = .ok (.dup, 1) := by decide +kernel
theorem dX2_init_22 : decode cX2_init 22 = .ok (.iconst 3, 1) := by decide +kernel
theorem dX2_init_23 : decode cX2_init 23 = .ok (.bipush 100, 2) := by decide +kernel
theorem dX2_init_25 : decode cX2_init 25 = .ok (.iastore, 1) := by decide +kernel
theorem dX2_init_26 : decode cX2_init 26 = .ok (.dup, 1) := by decide +kernel
theorem dX2_init_27 : decode cX2_init 27 = .ok (.iconst 4, 1) := by decide +kernel
theorem dX2_init_28 : decode cX2_init 28 = .ok (.bipush 8, 2) := by decide +kernel
theorem dX2_init_30 : decode cX2_init 30 = .ok (.iastore, 1) := by decide +kernel
theorem dX2_init_31 : decode cX2_init 31 = .ok (.putfield 9, 3) := by decide +kernel
theorem dX2_init_34 : decode cX2_init 34 = .ok (.aload_n 0, 1) := by decide +kernel
theorem dX2_init_35 : decode cX2_init 35 = .ok (.new 15, 3) := by decide +kernel
theorem dX2_init_38 : decode cX2_init 38 = .ok (.dup, 1) := by decide +kernel
theorem dX2_init_39 : decode cX2_init 39 = .ok (.invokespecial 17, 3) := by decide +kernel
theorem dX2_init_42 : decode cX2_init 42 = .ok (.putfield 18, 3) := by decide +kernel
theorem dX2_init_45 : decode cX2_init 45 = .ok (.aload_n 0, 1) := by decide +kernel
theorem dX2_init_46 : decode cX2_init 46 = .ok (.new 22, 3) := by decide +kernel
theorem dX2_init_49 : decode cX2_init 49 = .ok (.dup, 1) := by decide +kernel
theorem dX2_init_50 : decode cX2_init 50 = .ok (.invokespecial 24, 3) := by decide +kernel
theorem dX2_init_53 : decode cX2_init 53 = .ok (.putfield 25, 3) := by decide +kernel
theorem dX2_init_56 : decode cX2_init 56 = .ok (.aload_n 0, 1) := by decide +kernel
theorem dX2_init_57 : decode cX2_init 57 = .ok (.new 29, 3) := by decide +kernel
theorem dX2_init_60 : decode cX2_init 60 = .ok (.dup, 1) := by decide +kernel
theorem dX2_init_61 : decode cX2_init 61 = .ok (.invokespecial 31, 3) := by decide +kernel
theorem dX2_init_64 : decode cX2_init 64 = .ok (.putfield 32, 3) := by decide +kernel
theorem dX2_init_67 : decode cX2_init 67 = .ok (.aload_n 0, 1) := by decide +kernel
theorem dX2_init_68 : decode cX2_init 68 = .ok (.iconst 0, 1) := by decide +kernel
theorem dX2_init_69 : decode cX2_init 69 = .ok (.putfield 36, 3) := by decide +kernel
theorem dX2_init_72 : decode cX2_init 72 = .ok (.aload_n 0, 1) := by decide +kernel
theorem dX2_init_73 : decode cX2_init 73 = .ok (.iconst 0, 1) := by decide +kernel
theorem dX2_init_74 : decode cX2_init 74 = .ok (.putfield 40, 3) := by decide +kernel
theorem dX2_init_77 : decode cX2_init 77 = .ok (.aload_n 0, 1) := by decide +kernel
theorem dX2_init_78 : decode cX2_init 78 = .ok (.iconst 0, 1) := by decide +kernel
theorem dX2_init_79 : decode cX2_init 79 = .ok (.putfield 43, 3) := by decide +kernel
theorem dX2_init_82 : decode cX2_init 82 = .ok (.aload_n 0, 1) := by decide +kernel
theorem dX2_init_83 : decode cX2_init 83 = .ok (.iconst 0, 1) := by decide +kernel
theorem dX2_init_84 : decode cX2_init 84 = .ok (.putfield 46, 3) := by decide +kernel
theorem dX2_init_87 : decode cX2_init 87 = .ok (.aload_n 0, 1) := by decide +kernel
theorem dX2_init_88 : decode cX2_init 88 = .ok (.iconst 0, 1) := by decide +kernel
theorem dX2_init_89 : decode cX2_init 89 = .ok (.putfield 49, 3) := by decide +kernel
theorem dX2_init_92 : decode cX2_init 92 = .ok (.return_, 1) := by decide +kernel
theorem dX2_copyFrom_0 : decode cX2_copyFrom 0 = .ok (.aload_n 1, 1) := by decide +kernel
theorem dX2_copyFrom_1 : decode cX2_copyFrom 1 = .ok (.getfield 9, 3) := by decide +kernel
theorem dX2_copyFrom_4 : decode cX2_copyFrom 4 = .ok (.aload_n 0, 1) := by decide +kernel
theorem dX2_copyFrom_5 : decode cX2_copyFrom 5 = .ok (.getfield 9, 3) := by decide +kernel
theorem dX2_copyFrom_8 : decode cX2_copyFrom 8 = .ok (.invokestatic 52, 3) := by decide +kernel
theorem dX2_copyFrom_11 : decode cX2_copyFrom 11 = .ok (.aload_n 1, 1) := by decide +kernel
theorem dX2_copyFrom_12 : decode cX2_copyFrom 12 = .ok (.getfield 18, 3) := by decide +kernel
theorem dX2_copyFrom_15 : decode cX2_copyFrom 15 = .ok (.getfield 56, 3) := by decide +kernel
theorem dX2_copyFrom_18 : decode cX2_copyFrom 18 = .ok (.aload_n 0, 1) := by decide +kernel
theorem dX2_copyFrom_19 : decode cX2_copyFrom 19 = .ok (.getfield 18, 3) := by decide +kernel
theorem dX2_copyFrom_22 : decode cX2_copyFrom 22 = .ok (.getfield 56, 3) := by decide +kernel
theorem dX2_copyFrom_25 : decode cX2_copyFrom 25 = .ok (.invokestatic 52, 3) := by decide +kernel
theorem dX2_copyFrom_28 : decode cX2_copyFrom 28 = .ok (.aload_n 0, 1) := by decide +kernel
theorem dX2_copyFrom_29 : decode cX2_copyFrom 29 = .ok (.getfield 25, 3) := by decide +kernel
theorem dX2_copyFrom_32 : decode cX2_copyFrom 32 = .ok (.aload_n 1, 1) := by decide +kernel
theorem dX2_copyFrom_33 : decode cX2_copyFrom 33 = .ok (.getfield 25, 3) := by decide +kernel
theorem dX2_copyFrom_36 : decode cX2_copyFrom 36 = .ok (.invokevirtual 59, 3) := by decide +kernel
theorem dX2_copyFrom_39 : decode cX2_copyFrom 39 = .ok (.aload_n 0, 1) := by decide +kernel
theorem dX2_copyFrom_40 : decode cX2_copyFrom 40 = .ok (.getfield 32, 3) := by decide +kernel
theorem dX2_copyFrom_43 : decode cX2_copyFrom 43 = .ok (.invokevirtual 63, 3) := by decide +kernel
theorem dX2_copyFrom_46 : decode cX2_copyFrom 46 = .ok (.aload_n 1, 1) := by decide +kernel
theorem dX2_copyFrom_47 : decode cX2_copyFrom 47 = .ok (.getfield 32, 3) := by decide +kernel
theorem dX2_copyFrom_50 : decode cX2_copyFrom 50 = .ok (.aload_n 0, 1) := by decide +kernel
theorem dX2_copyFrom_51 : decode cX2_copyFrom 51 = .ok (.getfield 32, 3) := by decide +kernel
theorem dX2_copyFrom_54 : decode cX2_copyFrom 54 = .ok (.invokestatic 66, 3) := by decide +kernel
theorem dX2_copyFrom_57 : decode cX2_copyFrom 57 = .ok (.aload_n 0, 1) := by decide +kernel
theorem dX2_copyFrom_58 : decode cX2_copyFrom 58 = .ok (.aload_n 1, 1) := by decide +kernel
theorem dX2_copyFrom_59 : decode cX2_copyFrom 59 = .ok (.getfield 36, 3) := by decide +kernel
theorem dX2_copyFrom_62 : decode cX2_copyFrom 62 = .ok (.putfield 36, 3) := by decide +kernel
theorem dX2_copyFrom_65 : decode cX2_copyFrom 65 = .ok (.aload_n 0, 1) := by decide +kernel
theorem dX2_copyFrom_66 : decode cX2_copyFrom 66 = .ok (.aload_n 1, 1) := by decide +kernel
theorem dX2_copyFrom_67 : decode cX2_copyFrom 67 = .ok (.getfield 40, 3) := by decide +kernel
theorem dX2_copyFrom_70 : decode cX2_copyFrom 70 = .ok (.putfield 40, 3) := by decide +kernel
theorem dX2_copyFrom_73 : decode cX2_copyFrom 73 = .ok (.aload_n 0, 1) := by decide +kernel
theorem dX2_copyFrom_74 : decode cX2_copyFrom 74 = .ok (.aload_n 1, 1) := by decide +kernel
theorem dX2_copyFrom_75 : decode cX2_copyFrom 75 = .ok (.getfield 43, 3) := by decide +kernel
theorem dX2_copyFrom_78 : decode cX2_copyFrom 78 = .ok (.putfield 43, 3) := by decide +kernel
theorem dX2_copyFrom_81 : decode cX2_copyFrom 81 = .ok (.aload_n 0, 1) := by decide +kernel
theorem dX2_copyFrom_82 : decode cX2_copyFrom 82 = .ok (.aload_n 1, 1) := by decide +kernel
theorem dX2_copyFrom_83 : decode cX2_copyFrom 83 = .ok (.getfield 46, 3) := by decide +kernel
theorem dX2_copyFrom_86 : decode cX2_copyFrom 86 = .ok (.putfield 46, 3) := by decide +kernel
theorem dX2_copyFrom_89 : decode cX2_copyFrom 89 = .ok (.aload_n 0, 1) := by decide +kernel
theorem dX2_copyFrom_90 : decode cX2_copyFrom 90 = .ok (.aload_n 1, 1) := by decide +kernel
theorem dX2_copyFrom_91 : decode cX2_copyFrom 91 = .ok (.getfield 49, 3) := by decide +kernel
theorem dX2_copyFrom_94 : decode cX2_copyFrom 94 = .ok (.putfield 49, 3) := by decide +kernel
theorem dX2_copyFrom_97 : decode cX2_copyFrom 97 = .ok (.return_, 1) := by decide +kernel
theorem dX2_passSecond_0 : decode cX2_passSecond 0 = .ok (.aload_n 0, 1) := by decide +kernel
theorem dX2_passSecond_1 : decode cX2_passSecond 1 = .ok (.getfield 25, 3) := by decide +kernel
theorem dX2_passSecond_4 : decode cX2_passSecond 4 = .ok (.invokevirtual 70, 3) := by decide +kernel
theorem dX2_passSecond_7 : decode cX2_passSecond 7 = .ok (.aload_n 0, 1) := by decide +kernel
theorem dX2_passSecond_8 : decode cX2_passSecond 8 = .ok (.invokevirtual 73, 3) := by decide +kernel
theorem dX2_passSecond_11 : decode cX2_passSecond 11 = .ok (.aload_n 0, 1) := by decide +kernel
theorem dX2_passSecond_12 : decode cX2_passSecond 12 = .ok (.invokevirtual 76, 3) := by decide +kernel
theorem dX2_passSecond_15 : decode cX2_passSecond 15 = .ok (.aload_n 0, 1) := by decide +kernel
theorem dX2_passSecond_16 : decode cX2_passSecond 16 = .ok (.getfield 18, 3) := by decide +kernel
theorem dX2_passSecond_19 : decode cX2_passSecond 19 = .ok (.aload_n 0, 1) := by decide +kernel
theorem dX2_passSecond_20 : decode cX2_passSecond 20 = .ok (.getfield 9, 3) := by decide +kernel
theorem dX2_passSecond_23 : decode cX2_passSecond 23 = .ok (.iconst 0, 1) := by decide +kernel
theorem dX2_passSecond_24 : decode cX2_passSecond 24 = .ok (.iaload, 1) := by decide +kernel
theorem dX2_passSecond_25 : decode cX2_passSecond 25 = .ok (.invokevirtual 79, 3) := by decide +kernel
theorem dX2_passSecond_28 : decode cX2_passSecond 28 = .ok (.aload_n 0, 1) := by decide +kernel
theorem dX2_passSecond_29 : decode cX2_passSecond 29 = .ok (.dup, 1) := by decide +kernel
theorem dX2_passSecond_30 : decode cX2_passSecond 30 = .ok (.getfield 46, 3) := by decide +kernel
theorem dX2_passSecond_33 : decode cX2_passSecond 33 = .ok (.aload_n 0, 1) := by decide +kernel
theorem dX2_passSecond_34 : decode cX2_passSecond 34 = .ok (.getfield 18, 3) := by decide +kernel
theorem dX2_passSecond_37 : decode cX2_passSecond 37 = .ok (.aload_n 0, 1) := by decide +kernel
theorem dX2_passSecond_38 : decode cX2_passSecond 38 = .ok (.getfield 9, 3) := by decide +kernel
theorem dX2_passSecond_41 : decode cX2_passSecond 41 = .ok (.iconst 1, 1) := by decide +kernel
theorem dX2_passSecond_42 : decode cX2_passSecond 42 = .ok (.iaload, 1) := by decide +kernel
theorem dX2_passSecond_43 : decode cX2_passSecond 43 = .ok (.invokevirtual 83, 3) := by decide +kernel
theorem dX2_passSecond_46 : decode cX2_passSecond 46 = .ok (.iadd, 1) := by decide +kernel
theorem dX2_passSecond_47 : decode cX2_passSecond 47 = .ok (.putfield 46, 3) := by decide +kernel
theorem dX2_passSecond_50 : decode cX2_passSecond 50 = .ok (.aload_n 0, 1) := by decide +kernel
theorem dX2_passSecond_51 : decode cX2_passSecond 51 = .ok (.dup, 1) := by decide +kernel
theorem dX2_passSecond_52 : decode cX2_passSecond 52 = .ok (.getfield 40, 3) := by decide +kernel
theorem dX2_passSecond_55 : decode cX2_passSecond 55 = .ok (.aload_n 0, 1) := by decide +kernel
theorem dX2_passSecond_56 : decode cX2_passSecond 56 = .ok (.getfield 25, 3) := by decide +kernel
theorem dX2_passSecond_59 : decode cX2_passSecond 59 = .ok (.aload_n 0, 1) := by decide +kernel
theorem dX2_passSecond_60 : decode cX2_passSecond 60 = .ok (.getfield 9, 3) := by decide +kernel
theorem dX2_passSecond_63 : decode cX2_passSecond 63 = .ok (.iconst 3, 1) := by decide +kernel
theorem dX2_passSecond_64 : decode cX2_passSecond 64 = .ok (.iaload, 1) := by decide +kernel
theorem dX2_passSecond_65 : decode cX2_passSecond 65 = .ok (.invokevirtual 87, 3) := by decide +kernel
theorem dX2_passSecond_68 : decode cX2_passSecond 68 = .ok (.iadd, 1) := by decide +kernel
theorem dX2_passSecond_69 : decode cX2_passSecond 69 = .ok (.putfield 40, 3) := by decide +kernel
theorem dX2_passSecond_72 : decode cX2_passSecond 72 = .ok (.aload_n 0, 1) := by decide +kernel
theorem dX2_passSecond_73 : decode cX2_passSecond 73 = .ok (.dup, 1) := by decide +kernel
theorem dX2_passSecond_74 : decode cX2_passSecond 74 = .ok (.getfield 36, 3) := by decide +kernel
theorem dX2_passSecond_77 : decode cX2_passSecond 77 = .ok (.iconst 1, 1) := by decide +kernel
theorem dX2_passSecond_78 : decode cX2_passSecond 78 = .ok (.iadd, 1) := by decide +kernel
theorem dX2_passSecond_79 : decode cX2_passSecond 79 = .ok (.putfield 36, 3) := by decide +kernel
theorem dX2_passSecond_82 : decode cX2_passSecond 82 = .ok (.return_, 1) := by decide +kernel
theorem dX2_passSecondOfTrain_0 : decode cX2_passSecondOfTrain 0 = .ok (.aload_n 0, 1) := by decide +kernel
theorem dX2_passSecondOfTrain_1 : decode cX2_passSecondOfTrain 1 = .ok (.getfield 25, 3) := by decide +kernel
theorem dX2_passSecondOfTrain_4 : decode cX2_passSecondOfTrain 4 = .ok (.invokevirtual 70, 3) := by decide +kernel
theorem dX2_passSecondOfTrain_7 : decode cX2_passSecondOfTrain 7 = .ok (.aload_n 0, 1) := by decide +kernel
theorem dX2_passSecondOfTrain_8 : decode cX2_passSecondOfTrain 8 = .ok (.invokevirtual 73, 3) := by decide +kernel
theorem dX2_passSecondOfTrain_11 : decode cX2_passSecondOfTrain 11 = .ok (.aload_n 0, 1) := by decide +kernel
theorem dX2_passSecondOfTrain_12 : decode cX2_passSecondOfTrain 12 = .ok (.invokevirtual 76, 3) := by decide +kernel
theorem dX2_passSecondOfTrain_15 : decode cX2_passSecondOfTrain 15 = .ok (.aload_n 0, 1) := by decide +kernel
theorem dX2_passSecondOfTrain_16 : decode cX2_passSecondOfTrain 16 = .ok (.dup, 1) := by decide +kernel
theorem dX2_passSecondOfTrain_17 : decode cX2_passSecondOfTrain 17 = .ok (.getfield 40, 3) := by decide +kernel
theorem dX2_passSecondOfTrain_20 : decode cX2_passSecondOfTrain 20 = .ok (.aload_n 0, 1) := by decide +kernel
theorem dX2_passSecondOfTrain_21 : decode cX2_passSecondOfTrain 21 = .ok (.getfield 25, 3) := by decide +kernel
theorem dX2_passSecondOfTrain_24 : decode cX2_passSecondOfTrain 24 = .ok (.aload_n 0, 1) := by decide +kernel
theorem dX2_passSecondOfTrain_25 : decode cX2_passSecondOfTrain 25 = .ok (.getfield 9, 3) := by decide +kernel
theorem dX2_passSecondOfTrain_28 : decode cX2_passSecondOfTrain 28 = .ok (.iconst 3, 1) := by decide +kernel
theorem dX2_passSecondOfTrain_29 : decode cX2_passSecondOfTrain 29 = .ok (.iaload, 1) := by decide +kernel
theorem dX2_passSecondOfTrain_30 : decode cX2_passSecondOfTrain 30 = .ok (.invokevirtual 87, 3) := by decide +kernel
theorem dX2_passSecondOfTrain_33 : decode cX2_passSecondOfTrain 33 = .ok (.iadd, 1) := by decide +kernel
theorem dX2_passSecondOfTrain_34 : decode cX2_passSecondOfTrain 34 = .ok (.putfield 40, 3) := by decide +kernel
theorem dX2_passSecondOfTrain_37 : decode cX2_passSecondOfTrain 37 = .ok (.return_, 1) := by decide +kernel
theorem dX2_unload_0 : decode cX2_unload 0 = .ok (.iconst 0, 1) := by decide +kernel
theorem dX2_unload_1 : decode cX2_unload 1 = .ok (.istore_n 1, 1) := by decide +kernel
theorem dX2_unload_2 : decode cX2_unload 2 = .ok (.iload_n 1, 1) := by decide +kernel
theorem dX2_unload_3 : decode cX2_unload 3 = .ok (.aload_n 0, 1) := by decide +kernel
theorem dX2_unload_4 : decode cX2_unload 4 = .ok (.getfield 25, 3) := by decide +kernel
theorem dX2_unload_7 : decode cX2_unload 7 = .ok (.getfield 90, 3) := by decide +kernel
theorem dX2_unload_10 : decode cX2_unload 10 = .ok (.if_icmp .ge 44, 3) := by decide +kernel
theorem dX2_unload_13 : decode cX2_unload 13 = .ok (.iconst 0, 1) := by decide +kernel
theorem dX2_unload_14 : decode cX2_unload 14 = .ok (.istore_n 2, 1) := by decide +kernel
theorem dX2_unload_15 : decode cX2_unload 15 = .ok (.iload_n 2, 1) := by decide +kernel
theorem dX2_unload_16 : decode cX2_unload 16 = .ok (.iconst 3, 1) := by decide +kernel
theorem dX2_unload_17 : decode cX2_unload 17 = .ok (.if_icmp .ge 31, 3) := by decide +kernel
theorem dX2_unload_20 : decode cX2_unload 20 = .ok (.aload_n 0, 1) := by decide +kernel
theorem dX2_unload_21 : decode cX2_unload 21 = .ok (.aload_n 0, 1) := by decide +kernel
theorem dX2_unload_22 : decode cX2_unload 22 = .ok (.getfield 25, 3) := by decide +kernel
theorem dX2_unload_25 : decode cX2_unload 25 = .ok (.iload_n 1, 1) := by decide +kernel
theorem dX2_unload_26 : decode cX2_unload 26 = .ok (.invokevirtual 93, 3) := by decide +kernel
theorem dX2_unload_29 : decode cX2_unload 29 = .ok (.iload_n 2, 1) := by decide +kernel
theorem dX2_unload_30 : decode cX2_unload 30 = .ok (.aload_n 0, 1) := by decide +kernel
theorem dX2_unload_31 : decode cX2_unload 31 = .ok (.getfield 25, 3) := by decide +kernel
theorem dX2_unload_34 : decode cX2_unload 34 = .ok (.iload_n 1, 1) := by decide +kernel
theorem dX2_unload_35 : decode cX2_unload 35 = .ok (.iload_n 2, 1) := by decide +kernel
theorem dX2_unload_36 : decode cX2_unload 36 = .ok (.invokevirtual 96, 3) := by decide +kernel
theorem dX2_unload_39 : decode cX2_unload 39 = .ok (.invokevirtual 100, 3) := by decide +kernel
theorem dX2_unload_42 : decode cX2_unload 42 = .ok (.iinc 2 1, 3) := by decide +kernel
theorem dX2_unload_45 : decode cX2_unload 45 = .ok (.goto (-30), 3) := by decide +kernel
theorem dX2_unload_48 : decode cX2_unload 48 = .ok (.iinc 1 1, 3) := by decide +kernel
theorem dX2_unload_51 : decode cX2_unload 51 = .ok (.goto (-49), 3) := by decide +kernel
theorem dX2_unload_54 : decode cX2_unload 54 = .ok (.return_, 1) := by decide +kernel
theorem dX2_land_0 : decode cX2_land 0 = .ok (.iload_n 1, 1) := by decide +kernel
theorem dX2_land_1 : decode cX2_land 1 = .ok (.iload_n 2, 1) := by decide +kernel
theorem dX2_land_2 : decode cX2_land 2 = .ok (.invokestatic 104, 3) := by decide +kernel
theorem dX2_land_5 : decode cX2_land 5 = .ok (.ifCond .eq 16, 3) := by decide +kernel
theorem dX2_land_8 : decode cX2_land 8 = .ok (.aload_n 0, 1) := by decide +kernel
theorem dX2_land_9 : decode cX2_land 9 = .ok (.getfield 18, 3) := by decide +kernel
theorem dX2_land_12 : decode cX2_land 12 = .ok (.iload_n 1, 1) := by decide +kernel
theorem dX2_land_13 : decode cX2_land 13 = .ok (.iload_n 2, 1) := by decide +kernel
theorem dX2_land_14 : decode cX2_land 14 = .ok (.iload_n 3, 1) := by decide +kernel
theorem dX2_land_15 : decode cX2_land 15 = .ok (.invokevirtual 108, 3) := by decide +kernel
theorem dX2_land_18 : decode cX2_land 18 = .ok (.goto 13, 3) := by decide +kernel
theorem dX2_land_21 : decode cX2_land 21 = .ok (.aload_n 0, 1) := by decide +kernel
theorem dX2_land_22 : decode cX2_land 22 = .ok (.dup, 1) := by decide +kernel
theorem dX2_land_23 : decode cX2_land 23 = .ok (.getfield 46, 3) := by decide +kernel
theorem dX2_land_26 : decode cX2_land 26 = .ok (.iload_n 3, 1) := by decide +kernel
theorem dX2_land_27 : decode cX2_land 27 = .ok (.iadd, 1) := by decide +kernel
theorem dX2_land_28 : decode cX2_land 28 = .ok (.putfield 46, 3) := by decide +kernel
theorem dX2_land_31 : decode cX2_land 31 = .ok (.return_, 1) := by decide +kernel
theorem dX2_carryOutOrders_0 : decode cX2_carryOutOrders 0 = .ok (.iconst 0, 1) := by decide +kernel
theorem dX2_carryOutOrders_1 : decode cX2_carryOutOrders 1 = .ok (.istore_n 1, 1) := by decide +kernel
theorem dX2_carryOutOrders_2 : decode cX2_carryOutOrders 2 = .ok (.iconst 0, 1) := by decide +kernel
theorem dX2_carryOutOrders_3 : decode cX2_carryOutOrders 3 = .ok (.istore_n 2, 1) := by decide +kernel
theorem dX2_carryOutOrders_4 : decode cX2_carryOutOrders 4 = .ok (.iload_n 2, 1) := by decide +kernel
theorem dX2_carryOutOrders_5 : decode cX2_carryOutOrders 5 = .ok (.aload_n 0, 1) := by decide +kernel
theorem dX2_carryOutOrders_6 : decode cX2_carryOutOrders 6 = .ok (.getfield 32, 3) := by decide +kernel
theorem dX2_carryOutOrders_9 : decode cX2_carryOutOrders 9 = .ok (.invokevirtual 111, 3) := by decide +kernel
theorem dX2_carryOutOrders_12 : decode cX2_carryOutOrders 12 = .ok (.if_icmp .ge 62, 3) := by decide +kernel
theorem dX2_carryOutOrders_15 : decode cX2_carryOutOrders 15 = .ok (.aload_n 0, 1) := by decide +kernel
theorem dX2_carryOutOrders_16 : decode cX2_carryOutOrders 16 = .ok (.getfield 32, 3) := by decide +kernel
theorem dX2_carryOutOrders_19 : decode cX2_carryOutOrders 19 = .ok (.iload_n 2, 1) := by decide +kernel
theorem dX2_carryOutOrders_20 : decode cX2_carryOutOrders 20 = .ok (.invokevirtual 115, 3) := by decide +kernel
theorem dX2_carryOutOrders_23 : decode cX2_carryOutOrders 23 = .ok (.checkcast 119, 3) := by decide +kernel
theorem dX2_carryOutOrders_26 : decode cX2_carryOutOrders 26 = .ok (.astore_n 3, 1) := by decide +kernel
theorem dX2_carryOutOrders_27 : decode cX2_carryOutOrders 27 = .ok (.aload_n 3, 1) := by decide +kernel
theorem dX2_carryOutOrders_28 : decode cX2_carryOutOrders 28 = .ok (.aload_n 0, 1) := by decide +kernel
theorem dX2_carryOutOrders_29 : decode cX2_carryOutOrders 29 = .ok (.getfield 25, 3) := by decide +kernel
theorem dX2_carryOutOrders_32 : decode cX2_carryOutOrders 32 = .ok (.invokevirtual 121, 3) := by decide +kernel
theorem dX2_carryOutOrders_35 : decode cX2_carryOutOrders 35 = .ok (.ifCond .eq 20, 3) := by decide +kernel
theorem dX2_carryOutOrders_38 : decode cX2_carryOutOrders 38 = .ok (.aload_n 3, 1) := by decide +kernel
theorem dX2_carryOutOrders_39 : decode cX2_carryOutOrders 39 = .ok (.aload_n 0, 1) := by decide +kernel
theorem dX2_carryOutOrders_40 : decode cX2_carryOutOrders 40 = .ok (.getfield 25, 3) := by decide +kernel
theorem dX2_carryOutOrders_43 : decode cX2_carryOutOrders 43 = .ok (.aload_n 0, 1) := by decide +kernel
theorem dX2_carryOutOrders_44 : decode cX2_carryOutOrders 44 = .ok (.getfield 9, 3) := by decide +kernel
theorem dX2_carryOutOrders_47 : decode cX2_carryOutOrders 47 = .ok (.iconst 2, 1) := by decide +kernel
theorem dX2_carryOutOrders_48 : decode cX2_carryOutOrders 48 = .ok (.iaload, 1) := by decide +kernel
theorem dX2_carryOutOrders_49 : decode cX2_carryOutOrders 49 = .ok (.invokevirtual 125, 3) := by decide +kernel
theorem dX2_carryOutOrders_52 : decode cX2_carryOutOrders 52 = .ok (.goto 16, 3) := by decide +kernel
theorem dX2_carryOutOrders_55 : decode cX2_carryOutOrders 55 = .ok (.aload_n 0, 1) := by decide +kernel
theorem dX2_carryOutOrders_56 : decode cX2_carryOutOrders 56 = .ok (.getfield 32, 3) := by decide +kernel
theorem dX2_carryOutOrders_59 : decode cX2_carryOutOrders 59 = .ok (.iload_n 1, 1) := by decide +kernel
theorem dX2_carryOutOrders_60 : decode cX2_carryOutOrders 60 = .ok (.aload_n 3, 1) := by decide +kernel
theorem dX2_carryOutOrders_61 : decode cX2_carryOutOrders 61 = .ok (.invokevirtual 129, 3) := by decide +kernel
theorem dX2_carryOutOrders_64 : decode cX2_carryOutOrders 64 = .ok (.pop, 1) := by decide +kernel
theorem dX2_carryOutOrders_65 : decode cX2_carryOutOrders 65 = .ok (.iinc 1 1, 3) := by decide +kernel
theorem dX2_carryOutOrders_68 : decode cX2_carryOutOrders 68 = .ok (.iinc 2 1, 3) := by decide +kernel
theorem dX2_carryOutOrders_71 : decode cX2_carryOutOrders 71 = .ok (.goto (-67), 3) := by decide +kernel
theorem dX2_carryOutOrders_74 : decode cX2_carryOutOrders 74 = .ok (.aload_n 0, 1) := by decide +kernel
theorem dX2_carryOutOrders_75 : decode cX2_carryOutOrders 75 = .ok (.getfield 32, 3) := by decide +kernel
theorem dX2_carryOutOrders_78 : decode cX2_carryOutOrders 78 = .ok (.invokevirtual 111, 3) := by decide +kernel
theorem dX2_carryOutOrders_81 : decode cX2_carryOutOrders 81 = .ok (.iconst 1, 1) := by decide +kernel
theorem dX2_carryOutOrders_82 : decode cX2_carryOutOrders 82 = .ok (.isub, 1) := by decide +kernel
theorem dX2_carryOutOrders_83 : decode cX2_carryOutOrders 83 = .ok (.istore_n 2, 1) := by decide +kernel
theorem dX2_carryOutOrders_84 : decode cX2_carryOutOrders 84 = .ok (.iload_n 2, 1) := by decide +kernel
theorem dX2_carryOutOrders_85 : decode cX2_carryOutOrders 85 = .ok (.iload_n 1, 1) := by decide +kernel
theorem dX2_carryOutOrders_86 : decode cX2_carryOutOrders 86 = .ok (.if_icmp .lt 18, 3) := by decide +kernel
theorem dX2_carryOutOrders_89 : decode cX2_carryOutOrders 89 = .ok (.aload_n 0, 1) := by decide +kernel
theorem dX2_carryOutOrders_90 : decode cX2_carryOutOrders 90 = .ok (.getfield 32, 3) := by decide +kernel
theorem dX2_carryOutOrders_93 : decode cX2_carryOutOrders 93 = .ok (.iload_n 2, 1) := by decide +kernel
theorem dX2_carryOutOrders_94 : decode cX2_carryOutOrders 94 = .ok (.invokevirtual 133, 3) := by decide +kernel
theorem dX2_carryOutOrders_97 : decode cX2_carryOutOrders 97 = .ok (.pop, 1) := by decide +kernel
theorem dX2_carryOutOrders_98 : decode cX2_carryOutOrders 98 = .ok (.iinc 2 (-1), 3) := by decide +kernel
theorem dX2_carryOutOrders_101 : decode cX2_carryOutOrders 101 = .ok (.goto (-17), 3) := by decide +kernel
theorem dX2_carryOutOrders_104 : decode cX2_carryOutOrders 104 = .ok (.return_, 1) := by decide +kernel
theorem dX3_init_0 : decode cX3_init 0 = .ok (.aload_n 0, 1) := by decide +kernel
theorem dX3_init_1 : decode cX3_init 1 = .ok (.invokespecial 3, 3) := by decide +kernel
theorem dX3_init_4 : decode cX3_init 4 = .ok (.aload_n 0, 1) := by decide +kernel
theorem dX3_init_5 : decode cX3_init 5 = .ok (.bipush 60, 2) := by decide +kernel
theorem dX3_init_7 : decode cX3_init 7 = .ok (.newarray .int, 2) := by decide +kernel
theorem dX3_init_9 : decode cX3_init 9 = .ok (.putfield 9, 3) := by decide +kernel
theorem dX3_init_12 : decode cX3_init 12 = .ok (.aload_n 0, 1) := by decide +kernel
theorem dX3_init_13 : decode cX3_init 13 = .ok (.iconst 0, 1) := by decide +kernel
theorem dX3_init_14 : decode cX3_init 14 = .ok (.putfield 15, 3) := by decide +kernel
theorem dX3_init_17 : decode cX3_init 17 = .ok (.aload_n 0, 1) := by decide +kernel
theorem dX3_init_18 : decode cX3_init 18 = .ok (.new 19, 3) := by decide +kernel
theorem dX3_init_21 : decode cX3_init 21 = .ok (.dup, 1) := by decide +kernel
theorem dX3_init_22 : decode cX3_init 22 = .ok (.invokespecial 21, 3) := by decide +kernel
theorem dX3_init_25 : decode cX3_init 25 = .ok (.putfield 22, 3) := by decide +kernel
theorem dX3_init_28 : decode cX3_init 28 = .ok (.aload_n 0, 1) := by decide +kernel
theorem dX3_init_29 : decode cX3_init 29 = .ok (.sipush (-1001), 3) := by decide +kernel
theorem dX3_init_32 : decode cX3_init 32 = .ok (.putfield 26, 3) := by decide +kernel
theorem dX3_init_35 : decode cX3_init 35 = .ok (.aload_n 0, 1) := by decide +kernel
theorem dX3_init_36 : decode cX3_init 36 = .ok (.iconst 0, 1) := by decide +kernel
theorem dX3_init_37 : decode cX3_init 37 = .ok (.putfield 29, 3) := by decide +kernel
theorem dX3_init_40 : decode cX3_init 40 = .ok (.return_, 1) := by decide +kernel
theorem dX3_append_0 : decode cX3_append 0 = .ok (.aload_n 0, 1) := by decide +kernel
theorem dX3_append_1 : decode cX3_append 1 = .ok (.getfield 15, 3) := by decide +kernel
theorem dX3_append_4 : decode cX3_append 4 = .ok (.ifCond .lt 15, 3) := by decide +kernel
theorem dX3_append_7 : decode cX3_append 7 = .ok (.aload_n 0, 1) := by decide +kernel
theorem dX3_append_8 : decode cX3_append 8 = .ok (.getfield 15, 3) := by decide +kernel
theorem dX3_append_11 : decode cX3_append 11 = .ok (.aload_n 0, 1) := by decide +kernel
theorem dX3_append_12 : decode cX3_append 12 = .ok (.getfield 9, 3) := by decide +kernel
theorem dX3_append_15 : decode cX3_append 15 = .ok (.arraylength, 1) := by decide +kernel
theorem dX3_append_16 : decode cX3_append 16 = .ok (.if_icmp .lt 5, 3) := by decide +kernel
theorem dX3_append_19 : decode cX3_append 19 = .ok (.iconst 0, 1) := by decide +kernel
theorem dX3_append_20 : decode cX3_append 20 = .ok (.ireturn, 1) := by decide +kernel
theorem dX3_append_21 : decode cX3_append 21 = .ok (.aload_n 0, 1) := by decide +kernel
theorem dX3_append_22 : decode cX3_append 22 = .ok (.getfield 9, 3) := by decide +kernel
theorem dX3_append_25 : decode cX3_append 25 = .ok (.aload_n 0, 1) := by decide +kernel
theorem dX3_append_26 : decode cX3_append 26 = .ok (.getfield 15, 3) := by decide +kernel
theorem dX3_append_29 : decode cX3_append 29 = .ok (.iload_n 1, 1) := by decide +kernel
theorem dX3_append_30 : decode cX3_append 30 = .ok (.iastore, 1) := by decide +kernel
theorem dX3_append_31 : decode cX3_append 31 = .ok (.aload_n 0, 1) := by decide +kernel
theorem dX3_append_32 : decode cX3_append 32 = .ok (.dup, 1) := by decide +kernel
theorem dX3_append_33 : decode cX3_append 33 = .ok (.getfield 15, 3) := by decide +kernel
theorem dX3_append_36 : decode cX3_append 36 = .ok (.iconst 1, 1) := by decide +kernel
theorem dX3_append_37 : decode cX3_append 37 = .ok (.iadd, 1) := by decide +kernel
theorem dX3_append_38 : decode cX3_append 38 = .ok (.putfield 15, 3) := by decide +kernel
theorem dX3_append_41 : decode cX3_append 41 = .ok (.iconst 1, 1) := by decide +kernel
theorem dX3_append_42 : decode cX3_append 42 = .ok (.ireturn, 1) := by decide +kernel
theorem dX3_byteAt_0 : decode cX3_byteAt 0 = .ok (.iload_n 1, 1) := by decide +kernel
theorem dX3_byteAt_1 : decode cX3_byteAt 1 = .ok (.ifCond .lt 29, 3) := by decide +kernel
theorem dX3_byteAt_4 : decode cX3_byteAt 4 = .ok (.iload_n 1, 1) := by decide +kernel
theorem dX3_byteAt_5 : decode cX3_byteAt 5 = .ok (.aload_n 0, 1) := by decide +kernel
theorem dX3_byteAt_6 : decode cX3_byteAt 6 = .ok (.getfield 15, 3) := by decide +kernel
theorem dX3_byteAt_9 : decode cX3_byteAt 9 = .ok (.if_icmp .ge 21, 3) := by decide +kernel
theorem dX3_byteAt_12 : decode cX3_byteAt 12 = .ok (.iload_n 1, 1) := by decide +kernel
theorem dX3_byteAt_13 : decode cX3_byteAt 13 = .ok (.aload_n 0, 1) := by decide +kernel
theorem dX3_byteAt_14 : decode cX3_byteAt 14 = .ok (.getfield 9, 3) := by decide +kernel
theorem dX3_byteAt_17 : decode cX3_byteAt 17 = .ok (.arraylength, 1) := by decide +kernel
theorem dX3_byteAt_18 : decode cX3_byteAt 18 = .ok (.if_icmp .ge 12, 3) := by decide +kernel
theorem dX3_byteAt_21 : decode cX3_byteAt 21 = .ok (.aload_n 0, 1) := by decide +kernel
theorem dX3_byteAt_22 : decode cX3_byteAt 22 = .ok (.getfield 9, 3) := by decide +kernel
theorem dX3_byteAt_25 : decode cX3_byteAt 25 = .ok (.iload_n 1, 1) := by decide +kernel
theorem dX3_byteAt_26 : decode cX3_byteAt 26 = .ok (.iaload, 1) := by decide +kernel
theorem dX3_byteAt_27 : decode cX3_byteAt 27 = .ok (.goto 4, 3) := by decide +kernel
theorem dX3_byteAt_30 : decode cX3_byteAt 30 = .ok (.iconst (-1), 1) := by decide +kernel
theorem dX3_byteAt_31 : decode cX3_byteAt 31 = .ok (.ireturn, 1) := by decide +kernel
theorem dX3_read_0 : decode cX3_read 0 = .ok (.aload_n 0, 1) := by decide +kernel
theorem dX3_read_1 : decode cX3_read 1 = .ok (.getfield 22, 3) := by decide +kernel
theorem dX3_read_4 : decode cX3_read 4 = .ok (.invokevirtual 32, 3) := by decide +kernel
theorem dX3_read_7 : decode cX3_read 7 = .ok (.aload_n 0, 1) := by decide +kernel
theorem dX3_read_8 : decode cX3_read 8 = .ok (.iconst 0, 1) := by decide +kernel
theorem dX3_read_9 : decode cX3_read 9 = .ok (.putfield 29, 3) := by decide +kernel
theorem dX3_read_12 : decode cX3_read 12 = .ok (.aload_n 0, 1) := by decide +kernel
theorem dX3_read_13 : decode cX3_read 13 = .ok (.sipush (-1001), 3) := by decide +kernel
theorem dX3_read_16 : decode cX3_read 16 = .ok (.putfield 26, 3) := by decide +kernel
theorem dX3_read_19 : decode cX3_read 19 = .ok (.aload_n 0, 1) := by decide +kernel
theorem dX3_read_20 : decode cX3_read 20 = .ok (.invokevirtual 35, 3) := by decide +kernel
theorem dX3_read_23 : decode cX3_read 23 = .ok (.iconst 0, 1) := by decide +kernel
theorem dX3_read_24 : decode cX3_read 24 = .ok (.istore_n 1, 1) := by decide +kernel
theorem dX3_read_25 : decode cX3_read 25 = .ok (.iload_n 1, 1) := by decide +kernel
theorem dX3_read_26 : decode cX3_read 26 = .ok (.bipush 60, 2) := by decide +kernel
theorem dX3_read_28 : decode cX3_read 28 = .ok (.if_icmp .ge 34, 3) := by decide +kernel
theorem dX3_read_31 : decode cX3_read 31 = .ok (.aload_n 0, 1) := by decide +kernel
theorem dX3_read_32 : decode cX3_read 32 = .ok (.getfield 26, 3) := by decide +kernel
theorem dX3_read_35 : decode cX3_read 35 = .ok (.sipush (-1001), 3) := by decide +kernel
theorem dX3_read_38 : decode cX3_read 38 = .ok (.if_icmp .ne 24, 3) := by decide +kernel
theorem dX3_read_41 : decode cX3_read 41 = .ok (.aload_n 0, 1) := by decide +kernel
theorem dX3_read_42 : decode cX3_read 42 = .ok (.getfield 29, 3) := by decide +kernel
theorem dX3_read_45 : decode cX3_read 45 = .ok (.aload_n 0, 1) := by decide +kernel
theorem dX3_read_46 : decode cX3_read 46 = .ok (.getfield 15, 3) := by decide +kernel
theorem dX3_read_49 : decode cX3_read 49 = .ok (.if_icmp .ge 13, 3) := by decide +kernel
theorem dX3_read_52 : decode cX3_read 52 = .ok (.aload_n 0, 1) := by decide +kernel
theorem dX3_read_53 : decode cX3_read 53 = .ok (.invokevirtual 38, 3) := by decide +kernel
theorem dX3_read_56 : decode cX3_read 56 = .ok (.iinc 1 1, 3) := by decide +kernel
theorem dX3_read_59 : decode cX3_read 59 = .ok (.goto (-34), 3) := by decide +kernel
theorem dX3_read_62 : decode cX3_read 62 = .ok (.return_, 1) := by decide +kernel
theorem dX3_readOrder_0 : decode cX3_readOrder 0 = .ok (.aload_n 0, 1) := by decide +kernel
theorem dX3_readOrder_1 : decode cX3_readOrder 1 = .ok (.ldc 41, 2) := by decide +kernel
theorem dX3_readOrder_3 : decode cX3_readOrder 3 = .ok (.invokevirtual 43, 3) := by decide +kernel
theorem dX3_readOrder_6 : decode cX3_readOrder 6 = .ok (.pop, 1) := by decide +kernel
theorem dX3_readOrder_7 : decode cX3_readOrder 7 = .ok (.aload_n 0, 1) := by decide +kernel
theorem dX3_readOrder_8 : decode cX3_readOrder 8 = .ok (.invokevirtual 47, 3) := by decide +kernel
theorem dX3_readOrder_11 : decode cX3_readOrder 11 = .ok (.istore_n 1, 1) := by decide +kernel
theorem dX3_readOrder_12 : decode cX3_readOrder 12 = .ok (.aload_n 0, 1) := by decide +kernel
theorem dX3_readOrder_13 : decode cX3_readOrder 13 = .ok (.ldc 51, 2) := by decide +kernel
theorem dX3_readOrder_15 : decode cX3_readOrder 15 = .ok (.invokevirtual 43, 3) := by decide +kernel
theorem dX3_readOrder_18 : decode cX3_readOrder 18 = .ok (.istore_n 2, 1) := by decide +kernel
theorem dX3_readOrder_19 : decode cX3_readOrder 19 = .ok (.sipush (-1001), 3) := by decide +kernel
theorem dX3_readOrder_22 : decode cX3_readOrder 22 = .ok (.istore_n 3, 1) := by decide +kernel
theorem dX3_readOrder_23 : decode cX3_readOrder 23 = .ok (.sipush (-1001), 3) := by decide +kernel
theorem dX3_readOrder_26 : decode cX3_readOrder 26 = .ok (.istore 4, 2) := by decide +kernel
theorem dX3_readOrder_28 : decode cX3_readOrder 28 = .ok (.sipush (-1001), 3) := by decide +kernel
theorem dX3_readOrder_31 : decode cX3_readOrder 31 = .ok (.istore 5, 2) := by decide +kernel
theorem dX3_readOrder_33 : decode cX3_readOrder 33 = .ok (.iload_n 2, 1) := by decide +kernel
theorem dX3_readOrder_34 : decode cX3_readOrder 34 = .ok (.ifCond .eq 8, 3) := by decide +kernel
theorem dX3_readOrder_37 : decode cX3_readOrder 37 = .ok (.iload_n 2, 1) := by decide +kernel
theorem dX3_readOrder_38 : decode cX3_readOrder 38 = .ok (.iconst 1, 1) := by decide +kernel
theorem dX3_readOrder_39 : decode cX3_readOrder 39 = .ok (.if_icmp .ne 18, 3) := by decide +kernel
theorem dX3_readOrder_42 : decode cX3_readOrder 42 = .ok (.aload_n 0, 1) := by decide +kernel
theorem dX3_readOrder_43 : decode cX3_readOrder 43 = .ok (.iconst 0, 1) := by decide +kernel
theorem dX3_readOrder_44 : decode cX3_readOrder 44 = .ok (.iconst 5, 1) := by decide +kernel
theorem dX3_readOrder_45 : decode cX3_readOrder 45 = .ok (.invokevirtual 53, 3) := by decide +kernel
theorem dX3_readOrder_48 : decode cX3_readOrder 48 = .ok (.istore_n 3, 1) := by decide +kernel
theorem dX3_readOrder_49 : decode cX3_readOrder 49 = .ok (.aload_n 0, 1) := by decide +kernel
theorem dX3_readOrder_50 : decode cX3_readOrder 50 = .ok (.ldc 57, 2) := by decide +kernel
theorem dX3_readOrder_52 : decode cX3_readOrder 52 = .ok (.invokevirtual 43, 3) := by decide +kernel
theorem dX3_readOrder_55 : decode cX3_readOrder 55 = .ok (.istore 4, 2) := by decide +kernel
theorem dX3_readOrder_57 : decode cX3_readOrder 57 = .ok (.iload_n 2, 1) := by decide +kernel
theorem dX3_readOrder_58 : decode cX3_readOrder 58 = .ok (.ifCond .ne 11, 3) := by decide +kernel
theorem dX3_readOrder_61 : decode cX3_readOrder 61 = .ok (.aload_n 0, 1) := by decide +kernel
theorem dX3_readOrder_62 : decode cX3_readOrder 62 = .ok (.iconst 1, 1) := by decide +kernel
theorem dX3_readOrder_63 : decode cX3_readOrder 63 = .ok (.iconst 3, 1) := by decide +kernel
theorem dX3_readOrder_64 : decode cX3_readOrder 64 = .ok (.invokevirtual 53, 3) := by decide +kernel
theorem dX3_readOrder_67 : decode cX3_readOrder 67 = .ok (.istore 5, 2) := by decide +kernel
theorem dX3_readOrder_69 : decode cX3_readOrder 69 = .ok (.iload_n 2, 1) := by decide +kernel
theorem dX3_readOrder_70 : decode cX3_readOrder 70 = .ok (.iconst 2, 1) := by decide +kernel
theorem dX3_readOrder_71 : decode cX3_readOrder 71 = .ok (.if_icmp .ne 11, 3) := by decide +kernel
theorem dX3_readOrder_74 : decode cX3_readOrder 74 = .ok (.aload_n 0, 1) := by decide +kernel
theorem dX3_readOrder_75 : decode cX3_readOrder 75 = .ok (.iconst 0, 1) := by decide +kernel
theorem dX3_readOrder_76 : decode cX3_readOrder 76 = .ok (.iconst 3, 1) := by decide +kernel
theorem dX3_readOrder_77 : decode cX3_readOrder 77 = .ok (.invokevirtual 53, 3) := by decide +kernel
theorem dX3_readOrder_80 : decode cX3_readOrder 80 = .ok (.istore 5, 2) := by decide +kernel
theorem dX3_readOrder_82 : decode cX3_readOrder 82 = .ok (.aload_n 0, 1) := by decide +kernel
theorem dX3_readOrder_83 : decode cX3_readOrder 83 = .ok (.ldc 59, 2) := by decide +kernel
theorem dX3_readOrder_85 : decode cX3_readOrder 85 = .ok (.invokevirtual 43, 3) := by decide +kernel
theorem dX3_readOrder_88 : decode cX3_readOrder 88 = .ok (.pop, 1) := by decide +kernel
theorem dX3_readOrder_89 : decode cX3_readOrder 89 = .ok (.aload_n 0, 1) := by decide +kernel
theorem dX3_readOrder_90 : decode cX3_readOrder 90 = .ok (.getfield 26, 3) := by decide +kernel
theorem dX3_readOrder_93 : decode cX3_readOrder 93 = .ok (.sipush (-1001), 3) := by decide +kernel
theorem dX3_readOrder_96 : decode cX3_readOrder 96 = .ok (.if_icmp .ne 25, 3) := by decide +kernel
theorem dX3_readOrder_99 : decode cX3_readOrder 99 = .ok (.aload_n 0, 1) := by decide +kernel
theorem dX3_readOrder_100 : decode cX3_readOrder 100 = .ok (.getfield 22, 3) := by decide +kernel
theorem dX3_readOrder_103 : decode cX3_readOrder 103 = .ok (.new 61, 3) := by decide +kernel
theorem dX3_readOrder_106 : decode cX3_readOrder 106 = .ok (.dup, 1) := by decide +kernel
theorem dX3_readOrder_107 : decode cX3_readOrder 107 = .ok (.iload_n 1, 1) := by decide +kernel
theorem dX3_readOrder_108 : decode cX3_readOrder 108 = .ok (.iload_n 2, 1) := by decide +kernel
theorem dX3_readOrder_109 : decode cX3_readOrder 109 = .ok (.iload_n 3, 1) := by decide +kernel
theorem dX3_readOrder_110 : decode cX3_readOrder 110 = .ok (.iload 4, 2) := by decide +kernel
theorem dX3_readOrder_112 : decode cX3_readOrder 112 = .ok (.iload 5, 2) := by decide +kernel
theorem dX3_readOrder_114 : decode cX3_readOrder 114 = .ok (.invokespecial 63, 3) := by decide +kernel
theorem dX3_readOrder_117 : decode cX3_readOrder 117 = .ok (.invokevirtual 66, 3) := by decide +kernel
theorem dX3_readOrder_120 : decode cX3_readOrder 120 = .ok (.pop, 1) := by decide +kernel
theorem dX3_readOrder_121 : decode cX3_readOrder 121 = .ok (.return_, 1) := by decide +kernel
theorem dX3_takeOneOf_0 : decode cX3_takeOneOf 0 = .ok (.aload_n 0, 1) := by decide +kernel
theorem dX3_takeOneOf_1 : decode cX3_takeOneOf 1 = .ok (.aload_n 0, 1) := by decide +kernel
theorem dX3_takeOneOf_2 : decode cX3_takeOneOf 2 = .ok (.getfield 29, 3) := by decide +kernel
theorem dX3_takeOneOf_5 : decode cX3_takeOneOf 5 = .ok (.invokevirtual 70, 3) := by decide +kernel
theorem dX3_takeOneOf_8 : decode cX3_takeOneOf 8 = .ok (.istore_n 2, 1) := by decide +kernel
theorem dX3_takeOneOf_9 : decode cX3_takeOneOf 9 = .ok (.iload_n 2, 1) := by decide +kernel
theorem dX3_takeOneOf_10 : decode cX3_takeOneOf 10 = .ok (.iconst (-1), 1) := by decide +kernel
theorem dX3_takeOneOf_11 : decode cX3_takeOneOf 11 = .ok (.if_icmp .ne 7, 3) := by decide +kernel
theorem dX3_takeOneOf_14 : decode cX3_takeOneOf 14 = .ok (.iconst (-1), 1) := by decide +kernel
theorem dX3_takeOneOf_15 : decode cX3_takeOneOf 15 = .ok (.goto 9, 3) := by decide +kernel
theorem dX3_takeOneOf_18 : decode cX3_takeOneOf 18 = .ok (.aload_n 1, 1) := by decide +kernel
theorem dX3_takeOneOf_19 : decode cX3_takeOneOf 19 = .ok (.iload_n 2, 1) := by decide +kernel
theorem dX3_takeOneOf_20 : decode cX3_takeOneOf 20 = .ok (.i2c, 1) := by decide +kernel
theorem dX3_takeOneOf_21 : decode cX3_takeOneOf 21 = .ok (.invokevirtual 74, 3) := by decide +kernel
theorem dX3_takeOneOf_24 : decode cX3_takeOneOf 24 = .ok (.istore_n 3, 1) := by decide +kernel
theorem dX3_takeOneOf_25 : decode cX3_takeOneOf 25 = .ok (.aload_n 0, 1) := by decide +kernel
theorem dX3_takeOneOf_26 : decode cX3_takeOneOf 26 = .ok (.iload_n 3, 1) := by decide +kernel
theorem dX3_takeOneOf_27 : decode cX3_takeOneOf 27 = .ok (.iconst 0, 1) := by decide +kernel
theorem dX3_takeOneOf_28 : decode cX3_takeOneOf 28 = .ok (.aload_n 1, 1) := by decide +kernel
theorem dX3_takeOneOf_29 : decode cX3_takeOneOf 29 = .ok (.invokevirtual 79, 3) := by decide +kernel
theorem dX3_takeOneOf_32 : decode cX3_takeOneOf 32 = .ok (.iconst 1, 1) := by decide +kernel
theorem dX3_takeOneOf_33 : decode cX3_takeOneOf 33 = .ok (.isub, 1) := by decide +kernel
theorem dX3_takeOneOf_34 : decode cX3_takeOneOf 34 = .ok (.invokevirtual 81, 3) := by decide +kernel
theorem dX3_takeOneOf_37 : decode cX3_takeOneOf 37 = .ok (.ireturn, 1) := by decide +kernel
theorem dX3_takeDigit_0 : decode cX3_takeDigit 0 = .ok (.aload_n 0, 1) := by decide +kernel
theorem dX3_takeDigit_1 : decode cX3_takeDigit 1 = .ok (.aload_n 0, 1) := by decide +kernel
theorem dX3_takeDigit_2 : decode cX3_takeDigit 2 = .ok (.aload_n 0, 1) := by decide +kernel
theorem dX3_takeDigit_3 : decode cX3_takeDigit 3 = .ok (.getfield 29, 3) := by decide +kernel
theorem dX3_takeDigit_6 : decode cX3_takeDigit 6 = .ok (.invokevirtual 70, 3) := by decide +kernel
theorem dX3_takeDigit_9 : decode cX3_takeDigit 9 = .ok (.bipush 48, 2) := by decide +kernel
theorem dX3_takeDigit_11 : decode cX3_takeDigit 11 = .ok (.isub, 1) := by decide +kernel
theorem dX3_takeDigit_12 : decode cX3_takeDigit 12 = .ok (.iload_n 1, 1) := by decide +kernel
theorem dX3_takeDigit_13 : decode cX3_takeDigit 13 = .ok (.iload_n 2, 1) := by decide +kernel
theorem dX3_takeDigit_14 : decode cX3_takeDigit 14 = .ok (.invokevirtual 81, 3) := by decide +kernel
theorem dX3_takeDigit_17 : decode cX3_takeDigit 17 = .ok (.ireturn, 1) := by decide +kernel
theorem dX3_take_0 : decode cX3_take 0 = .ok (.aload_n 0, 1) := by decide +kernel
theorem dX3_take_1 : decode cX3_take 1 = .ok (.getfield 26, 3) := by decide +kernel
theorem dX3_take_4 : decode cX3_take 4 = .ok (.sipush (-1001), 3) := by decide +kernel
theorem dX3_take_7 : decode cX3_take 7 = .ok (.if_icmp .eq 7, 3) := by decide +kernel
theorem dX3_take_10 : decode cX3_take 10 = .ok (.sipush (-1001), 3) := by decide +kernel
theorem dX3_take_13 : decode cX3_take 13 = .ok (.ireturn, 1) := by decide +kernel
theorem dX3_take_14 : decode cX3_take 14 = .ok (.iload_n 1, 1) := by decide +kernel
theorem dX3_take_15 : decode cX3_take 15 = .ok (.iload_n 2, 1) := by decide +kernel
theorem dX3_take_16 : decode cX3_take 16 = .ok (.iload_n 3, 1) := by decide +kernel
theorem dX3_take_17 : decode cX3_take 17 = .ok (.invokestatic 85, 3) := by decide +kernel
theorem dX3_take_20 : decode cX3_take 20 = .ok (.ifCond .ne 15, 3) := by decide +kernel
theorem dX3_take_23 : decode cX3_take 23 = .ok (.aload_n 0, 1) := by decide +kernel
theorem dX3_take_24 : decode cX3_take 24 = .ok (.aload_n 0, 1) := by decide +kernel
theorem dX3_take_25 : decode cX3_take 25 = .ok (.getfield 29, 3) := by decide +kernel
theorem dX3_take_28 : decode cX3_take 28 = .ok (.putfield 26, 3) := by decide +kernel
theorem dX3_take_31 : decode cX3_take 31 = .ok (.sipush (-1001), 3) := by decide +kernel
theorem dX3_take_34 : decode cX3_take 34 = .ok (.ireturn, 1) := by decide +kernel
theorem dX3_take_35 : decode cX3_take 35 = .ok (.aload_n 0, 1) := by decide +kernel
theorem dX3_take_36 : decode cX3_take 36 = .ok (.dup, 1) := by decide +kernel
theorem dX3_take_37 : decode cX3_take 37 = .ok (.getfield 29, 3) := by decide +kernel
theorem dX3_take_40 : decode cX3_take 40 = .ok (.iconst 1, 1) := by decide +kernel
theorem dX3_take_41 : decode cX3_take 41 = .ok (.iadd, 1) := by decide +kernel
theorem dX3_take_42 : decode cX3_take 42 = .ok (.putfield 29, 3) := by decide +kernel
theorem dX3_take_45 : decode cX3_take 45 = .ok (.aload_n 0, 1) := by decide +kernel
theorem dX3_take_46 : decode cX3_take 46 = .ok (.invokevirtual 35, 3) := by decide +kernel
theorem dX3_take_49 : decode cX3_take 49 = .ok (.iload_n 1, 1) := by decide +kernel
theorem dX3_take_50 : decode cX3_take 50 = .ok (.ireturn, 1) := by decide +kernel
theorem dX3_takeCell_0 : decode cX3_takeCell 0 = .ok (.aload_n 0, 1) := by decide +kernel
theorem dX3_takeCell_1 : decode cX3_takeCell 1 = .ok (.getfield 26, 3) := by decide +kernel
theorem dX3_takeCell_4 : decode cX3_takeCell 4 = .ok (.sipush (-1001), 3) := by decide +kernel
theorem dX3_takeCell_7 : decode cX3_takeCell 7 = .ok (.if_icmp .eq 7, 3) := by decide +kernel
theorem dX3_takeCell_10 : decode cX3_takeCell 10 = .ok (.sipush (-1001), 3) := by decide +kernel
theorem dX3_takeCell_13 : decode cX3_takeCell 13 = .ok (.ireturn, 1) := by decide +kernel
theorem dX3_takeCell_14 : decode cX3_takeCell 14 = .ok (.aload_n 0, 1) := by decide +kernel
theorem dX3_takeCell_15 : decode cX3_takeCell 15 = .ok (.getfield 29, 3) := by decide +kernel
theorem dX3_takeCell_18 : decode cX3_takeCell 18 = .ok (.istore_n 1, 1) := by decide +kernel
theorem dX3_takeCell_19 : decode cX3_takeCell 19 = .ok (.iconst 0, 1) := by decide +kernel
theorem dX3_takeCell_20 : decode cX3_takeCell 20 = .ok (.istore_n 2, 1) := by decide +kernel
theorem dX3_takeCell_21 : decode cX3_takeCell 21 = .ok (.iconst 0, 1) := by decide +kernel
theorem dX3_takeCell_22 : decode cX3_takeCell 22 = .ok (.istore_n 3, 1) := by decide +kernel
theorem dX3_takeCell_23 : decode cX3_takeCell 23 = .ok (.iload_n 3, 1) := by decide +kernel
theorem dX3_takeCell_24 : decode cX3_takeCell 24 = .ok (.iconst 2, 1) := by decide +kernel
theorem dX3_takeCell_25 : decode cX3_takeCell 25 = .ok (.if_icmp .ge 50, 3) := by decide +kernel
theorem dX3_takeCell_28 : decode cX3_takeCell 28 = .ok (.aload_n 0, 1) := by decide +kernel
theorem dX3_takeCell_29 : decode cX3_takeCell 29 = .ok (.aload_n 0, 1) := by decide +kernel
theorem dX3_takeCell_30 : decode cX3_takeCell 30 = .ok (.getfield 29, 3) := by decide +kernel
theorem dX3_takeCell_33 : decode cX3_takeCell 33 = .ok (.invokevirtual 70, 3) := by decide +kernel
theorem dX3_takeCell_36 : decode cX3_takeCell 36 = .ok (.invokestatic 89, 3) := by decide +kernel
theorem dX3_takeCell_39 : decode cX3_takeCell 39 = .ok (.ifCond .eq 36, 3) := by decide +kernel
theorem dX3_takeCell_42 : decode cX3_takeCell 42 = .ok (.bipush 10, 2) := by decide +kernel
theorem dX3_takeCell_44 : decode cX3_takeCell 44 = .ok (.iload_n 2, 1) := by decide +kernel
theorem dX3_takeCell_45 : decode cX3_takeCell 45 = .ok (.imul, 1) := by decide +kernel
theorem dX3_takeCell_46 : decode cX3_takeCell 46 = .ok (.aload_n 0, 1) := by decide +kernel
theorem dX3_takeCell_47 : decode cX3_takeCell 47 = .ok (.aload_n 0, 1) := by decide +kernel
theorem dX3_takeCell_48 : decode cX3_takeCell 48 = .ok (.getfield 29, 3) := by decide +kernel
theorem dX3_takeCell_51 : decode cX3_takeCell 51 = .ok (.invokevirtual 70, 3) := by decide +kernel
theorem dX3_takeCell_54 : decode cX3_takeCell 54 = .ok (.iadd, 1) := by decide +kernel
theorem dX3_takeCell_55 : decode cX3_takeCell 55 = .ok (.bipush 48, 2) := by decide +kernel
theorem dX3_takeCell_57 : decode cX3_takeCell 57 = .ok (.isub, 1) := by decide +kernel
theorem dX3_takeCell_58 : decode cX3_takeCell 58 = .ok (.istore_n 2, 1) := by decide +kernel
theorem dX3_takeCell_59 : decode cX3_takeCell 59 = .ok (.aload_n 0, 1) := by decide +kernel
theorem dX3_takeCell_60 : decode cX3_takeCell 60 = .ok (.dup, 1) := by decide +kernel
theorem dX3_takeCell_61 : decode cX3_takeCell 61 = .ok (.getfield 29, 3) := by decide +kernel
theorem dX3_takeCell_64 : decode cX3_takeCell 64 = .ok (.iconst 1, 1) := by decide +kernel
theorem dX3_takeCell_65 : decode cX3_takeCell 65 = .ok (.iadd, 1) := by decide +kernel
theorem dX3_takeCell_66 : decode cX3_takeCell 66 = .ok (.putfield 29, 3) := by decide +kernel
theorem dX3_takeCell_69 : decode cX3_takeCell 69 = .ok (.iinc 3 1, 3) := by decide +kernel
theorem dX3_takeCell_72 : decode cX3_takeCell 72 = .ok (.goto (-49), 3) := by decide +kernel
theorem dX3_takeCell_75 : decode cX3_takeCell 75 = .ok (.aload_n 0, 1) := by decide +kernel
theorem dX3_takeCell_76 : decode cX3_takeCell 76 = .ok (.getfield 29, 3) := by decide +kernel
theorem dX3_takeCell_79 : decode cX3_takeCell 79 = .ok (.iload_n 1, 1) := by decide +kernel
theorem dX3_takeCell_80 : decode cX3_takeCell 80 = .ok (.if_icmp .eq 9, 3) := by decide +kernel
theorem dX3_takeCell_83 : decode cX3_takeCell 83 = .ok (.iload_n 2, 1) := by decide +kernel
theorem dX3_takeCell_84 : decode cX3_takeCell 84 = .ok (.bipush 40, 2) := by decide +kernel
theorem dX3_takeCell_86 : decode cX3_takeCell 86 = .ok (.if_icmp .lt 12, 3) := by decide +kernel
theorem dX3_takeCell_89 : decode cX3_takeCell 89 = .ok (.aload_n 0, 1) := by decide +kernel
theorem dX3_takeCell_90 : decode cX3_takeCell 90 = .ok (.iload_n 1, 1) := by decide +kernel
theorem dX3_takeCell_91 : decode cX3_takeCell 91 = .ok (.putfield 26, 3) := by decide +kernel
theorem dX3_takeCell_94 : decode cX3_takeCell 94 = .ok (.sipush (-1001), 3) := by decide +kernel
theorem dX3_takeCell_97 : decode cX3_takeCell 97 = .ok (.ireturn, 1) := by decide +kernel
theorem dX3_takeCell_98 : decode cX3_takeCell 98 = .ok (.aload_n 0, 1) := by decide +kernel
theorem dX3_takeCell_99 : decode cX3_takeCell 99 = .ok (.invokevirtual 35, 3) := by decide +kernel
theorem dX3_takeCell_102 : decode cX3_takeCell 102 = .ok (.iload_n 2, 1) := by decide +kernel
theorem dX3_takeCell_103 : decode cX3_takeCell 103 = .ok (.ireturn, 1) := by decide +kernel
theorem dX3_skipBlanks_0 : decode cX3_skipBlanks 0 = .ok (.iconst 0, 1) := by decide +kernel
theorem dX3_skipBlanks_1 : decode cX3_skipBlanks 1 = .ok (.istore_n 1, 1) := by decide +kernel
theorem dX3_skipBlanks_2 : decode cX3_skipBlanks 2 = .ok (.iload_n 1, 1) := by decide +kernel
theorem dX3_skipBlanks_3 : decode cX3_skipBlanks 3 = .ok (.bipush 60, 2) := by decide +kernel
theorem dX3_skipBlanks_5 : decode cX3_skipBlanks 5 = .ok (.if_icmp .ge 32, 3) := by decide +kernel
theorem dX3_skipBlanks_8 : decode cX3_skipBlanks 8 = .ok (.aload_n 0, 1) := by decide +kernel
theorem dX3_skipBlanks_9 : decode cX3_skipBlanks 9 = .ok (.aload_n 0, 1) := by decide +kernel
theorem dX3_skipBlanks_10 : decode cX3_skipBlanks 10 = .ok (.getfield 29, 3) := by decide +kernel
theorem dX3_skipBlanks_13 : decode cX3_skipBlanks 13 = .ok (.invokevirtual 70, 3) := by decide +kernel
theorem dX3_skipBlanks_16 : decode cX3_skipBlanks 16 = .ok (.bipush 32, 2) := by decide +kernel
theorem dX3_skipBlanks_18 : decode cX3_skipBlanks 18 = .ok (.if_icmp .ne 19, 3) := by decide +kernel
theorem dX3_skipBlanks_21 : decode cX3_skipBlanks 21 = .ok (.aload_n 0, 1) := by decide +kernel
theorem dX3_skipBlanks_22 : decode cX3_skipBlanks 22 = .ok (.dup, 1) := by decide +kernel
theorem dX3_skipBlanks_23 : decode cX3_skipBlanks 23 = .ok (.getfield 29, 3) := by decide +kernel
theorem dX3_skipBlanks_26 : decode cX3_skipBlanks 26 = .ok (.iconst 1, 1) := by decide +kernel
theorem dX3_skipBlanks_27 : decode cX3_skipBlanks 27 = .ok (.iadd, 1) := by decide +kernel
theorem dX3_skipBlanks_28 : decode cX3_skipBlanks 28 = .ok (.putfield 29, 3) := by decide +kernel
theorem dX3_skipBlanks_31 : decode cX3_skipBlanks 31 = .ok (.iinc 1 1, 3) := by decide +kernel
theorem dX3_skipBlanks_34 : decode cX3_skipBlanks 34 = .ok (.goto (-32), 3) := by decide +kernel
theorem dX3_skipBlanks_37 : decode cX3_skipBlanks 37 = .ok (.return_, 1) := by decide +kernel
theorem dX3_isDigit_0 : decode cX3_isDigit 0 = .ok (.iload_n 0, 1) := by decide +kernel
theorem dX3_isDigit_1 : decode cX3_isDigit 1 = .ok (.bipush 48, 2) := by decide +kernel
theorem dX3_isDigit_3 : decode cX3_isDigit 3 = .ok (.bipush 57, 2) := by decide +kernel
theorem dX3_isDigit_5 : decode cX3_isDigit 5 = .ok (.invokestatic 85, 3) := by decide +kernel
theorem dX3_isDigit_8 : decode cX3_isDigit 8 = .ok (.ireturn, 1) := by decide +kernel
theorem dX4_init_0 : decode cX4_init 0 = .ok (.aload_n 0, 1) := by decide +kernel
theorem dX4_init_1 : decode cX4_init 1 = .ok (.invokespecial 3, 3) := by decide +kernel
theorem dX4_init_4 : decode cX4_init 4 = .ok (.aload_n 0, 1) := by decide +kernel
theorem dX4_init_5 : decode cX4_init 5 = .ok (.bipush 120, 2) := by decide +kernel
theorem dX4_init_7 : decode cX4_init 7 = .ok (.newarray .int, 2) := by decide +kernel
theorem dX4_init_9 : decode cX4_init 9 = .ok (.putfield 9, 3) := by decide +kernel
theorem dX4_init_12 : decode cX4_init 12 = .ok (.return_, 1) := by decide +kernel
theorem dX4_has_0 : decode cX4_has 0 = .ok (.iload_n 0, 1) := by decide +kernel
theorem dX4_has_1 : decode cX4_has 1 = .ok (.ifCond .lt 22, 3) := by decide +kernel
theorem dX4_has_4 : decode cX4_has 4 = .ok (.iload_n 0, 1) := by decide +kernel
theorem dX4_has_5 : decode cX4_has 5 = .ok (.bipush 40, 2) := by decide +kernel
theorem dX4_has_7 : decode cX4_has 7 = .ok (.if_icmp .ge 16, 3) := by decide +kernel
theorem dX4_has_10 : decode cX4_has 10 = .ok (.iload_n 1, 1) := by decide +kernel
theorem dX4_has_11 : decode cX4_has 11 = .ok (.ifCond .lt 12, 3) := by decide +kernel
theorem dX4_has_14 : decode cX4_has 14 = .ok (.iload_n 1, 1) := by decide +kernel
theorem dX4_has_15 : decode cX4_has 15 = .ok (.iconst 3, 1) := by decide +kernel
theorem dX4_has_16 : decode cX4_has 16 = .ok (.if_icmp .ge 7, 3) := by decide +kernel
theorem dX4_has_19 : decode cX4_has 19 = .ok (.iconst 1, 1) := by decide +kernel
theorem dX4_has_20 : decode cX4_has 20 = .ok (.goto 4, 3) := by decide +kernel
theorem dX4_has_23 : decode cX4_has 23 = .ok (.iconst 0, 1) := by decide +kernel
theorem dX4_has_24 : decode cX4_has 24 = .ok (.ireturn, 1) := by decide +kernel
theorem dX4_heightAt_0 : decode cX4_heightAt 0 = .ok (.iload_n 1, 1) := by decide +kernel
theorem dX4_heightAt_1 : decode cX4_heightAt 1 = .ok (.iload_n 2, 1) := by decide +kernel
theorem dX4_heightAt_2 : decode cX4_heightAt 2 = .ok (.invokestatic 15, 3) := by decide +kernel
theorem dX4_heightAt_5 : decode cX4_heightAt 5 = .ok (.ifCond .eq 16, 3) := by decide +kernel
theorem dX4_heightAt_8 : decode cX4_heightAt 8 = .ok (.aload_n 0, 1) := by decide +kernel
theorem dX4_heightAt_9 : decode cX4_heightAt 9 = .ok (.getfield 9, 3) := by decide +kernel
theorem dX4_heightAt_12 : decode cX4_heightAt 12 = .ok (.iconst 3, 1) := by decide +kernel
theorem dX4_heightAt_13 : decode cX4_heightAt 13 = .ok (.iload_n 1, 1) := by decide +kernel
theorem dX4_heightAt_14 : decode cX4_heightAt 14 = .ok (.imul, 1) := by decide +kernel
theorem dX4_heightAt_15 : decode cX4_heightAt 15 = .ok (.iload_n 2, 1) := by decide +kernel
theorem dX4_heightAt_16 : decode cX4_heightAt 16 = .ok (.iadd, 1) := by decide +kernel
theorem dX4_heightAt_17 : decode cX4_heightAt 17 = .ok (.iaload, 1) := by decide +kernel
theorem dX4_heightAt_18 : decode cX4_heightAt 18 = .ok (.goto 4, 3) := by decide +kernel
theorem dX4_heightAt_21 : decode cX4_heightAt 21 = .ok (.iconst 0, 1) := by decide +kernel
theorem dX4_heightAt_22 : decode cX4_heightAt 22 = .ok (.ireturn, 1) := by decide +kernel
theorem dX4_add_0 : decode cX4_add 0 = .ok (.iload_n 1, 1) := by decide +kernel
theorem dX4_add_1 : decode cX4_add 1 = .ok (.iload_n 2, 1) := by decide +kernel
theorem dX4_add_2 : decode cX4_add 2 = .ok (.invokestatic 15, 3) := by decide +kernel
theorem dX4_add_5 : decode cX4_add 5 = .ok (.ifCond .eq 17, 3) := by decide +kernel
theorem dX4_add_8 : decode cX4_add 8 = .ok (.aload_n 0, 1) := by decide +kernel
theorem dX4_add_9 : decode cX4_add 9 = .ok (.getfield 9, 3) := by decide +kernel
theorem dX4_add_12 : decode cX4_add 12 = .ok (.iconst 3, 1) := by decide +kernel
theorem dX4_add_13 : decode cX4_add 13 = .ok (.iload_n 1, 1) := by decide +kernel
theorem dX4_add_14 : decode cX4_add 14 = .ok (.imul, 1) := by decide +kernel
theorem dX4_add_15 : decode cX4_add 15 = .ok (.iload_n 2, 1) := by decide +kernel
theorem dX4_add_16 : decode cX4_add 16 = .ok (.iadd, 1) := by decide +kernel
theorem dX4_add_17 : decode cX4_add 17 = .ok (.dup2, 1) := by decide +kernel
theorem dX4_add_18 : decode cX4_add 18 = .ok (.iaload, 1) := by decide +kernel
theorem dX4_add_19 : decode cX4_add 19 = .ok (.iload_n 3, 1) := by decide +kernel
theorem dX4_add_20 : decode cX4_add 20 = .ok (.iadd, 1) := by decide +kernel
theorem dX4_add_21 : decode cX4_add 21 = .ok (.iastore, 1) := by decide +kernel
theorem dX4_add_22 : decode cX4_add 22 = .ok (.return_, 1) := by decide +kernel
theorem dX4_slide_0 : decode cX4_slide 0 = .ok (.iconst 0, 1) := by decide +kernel
theorem dX4_slide_1 : decode cX4_slide 1 = .ok (.istore_n 2, 1) := by decide +kernel
theorem dX4_slide_2 : decode cX4_slide 2 = .ok (.iload_n 2, 1) := by decide +kernel
theorem dX4_slide_3 : decode cX4_slide 3 = .ok (.iconst 3, 1) := by decide +kernel
theorem dX4_slide_4 : decode cX4_slide 4 = .ok (.iadd, 1) := by decide +kernel
theorem dX4_slide_5 : decode cX4_slide 5 = .ok (.aload_n 0, 1) := by decide +kernel
theorem dX4_slide_6 : decode cX4_slide 6 = .ok (.getfield 9, 3) := by decide +kernel
theorem dX4_slide_9 : decode cX4_slide 9 = .ok (.arraylength, 1) := by decide +kernel
theorem dX4_slide_10 : decode cX4_slide 10 = .ok (.if_icmp .ge 83, 3) := by decide +kernel
theorem dX4_slide_13 : decode cX4_slide 13 = .ok (.aload_n 0, 1) := by decide +kernel
theorem dX4_slide_14 : decode cX4_slide 14 = .ok (.getfield 9, 3) := by decide +kernel
theorem dX4_slide_17 : decode cX4_slide 17 = .ok (.iload_n 2, 1) := by decide +kernel
theorem dX4_slide_18 : decode cX4_slide 18 = .ok (.iaload, 1) := by decide +kernel
theorem dX4_slide_19 : decode cX4_slide 19 = .ok (.aload_n 0, 1) := by decide +kernel
theorem dX4_slide_20 : decode cX4_slide 20 = .ok (.getfield 9, 3) := by decide +kernel
theorem dX4_slide_23 : decode cX4_slide 23 = .ok (.iload_n 2, 1) := by decide +kernel
theorem dX4_slide_24 : decode cX4_slide 24 = .ok (.iconst 3, 1) := by decide +kernel
theorem dX4_slide_25 : decode cX4_slide 25 = .ok (.iadd, 1) := by decide +kernel
theorem dX4_slide_26 : decode cX4_slide 26 = .ok (.iaload, 1) := by decide +kernel
theorem dX4_slide_27 : decode cX4_slide 27 = .ok (.isub, 1) := by decide +kernel
theorem dX4_slide_28 : decode cX4_slide 28 = .ok (.istore_n 3, 1) := by decide +kernel
theorem dX4_slide_29 : decode cX4_slide 29 = .ok (.iload_n 3, 1) := by decide +kernel
theorem dX4_slide_30 : decode cX4_slide 30 = .ok (.iload_n 1, 1) := by decide +kernel
theorem dX4_slide_31 : decode cX4_slide 31 = .ok (.if_icmp .le 28, 3) := by decide +kernel
theorem dX4_slide_34 : decode cX4_slide 34 = .ok (.aload_n 0, 1) := by decide +kernel
theorem dX4_slide_35 : decode cX4_slide 35 = .ok (.getfield 9, 3) := by decide +kernel
theorem dX4_slide_38 : decode cX4_slide 38 = .ok (.iload_n 2, 1) := by decide +kernel
theorem dX4_slide_39 : decode cX4_slide 39 = .ok (.dup2, 1) := by decide +kernel
theorem dX4_slide_40 : decode cX4_slide 40 = .ok (.iaload, 1) := by decide +kernel
theorem dX4_slide_41 : decode cX4_slide 41 = .ok (.iconst 1, 1) := by decide +kernel
theorem dX4_slide_42 : decode cX4_slide 42 = .ok (.isub, 1) := by decide +kernel
theorem dX4_slide_43 : decode cX4_slide 43 = .ok (.iastore, 1) := by decide +kernel
theorem dX4_slide_44 : decode cX4_slide 44 = .ok (.aload_n 0, 1) := by decide +kernel
theorem dX4_slide_45 : decode cX4_slide 45 = .ok (.getfield 9, 3) := by decide +kernel
theorem dX4_slide_48 : decode cX4_slide 48 = .ok (.iload_n 2, 1) := by decide +kernel
theorem dX4_slide_49 : decode cX4_slide 49 = .ok (.iconst 3, 1) := by decide +kernel
theorem dX4_slide_50 : decode cX4_slide 50 = .ok (.iadd, 1) := by decide +kernel
theorem dX4_slide_51 : decode cX4_slide 51 = .ok (.dup2, 1) := by decide +kernel
theorem dX4_slide_52 : decode cX4_slide 52 = .ok (.iaload, 1) := by decide +kernel
theorem dX4_slide_53 : decode cX4_slide 53 = .ok (.iconst 1, 1) := by decide +kernel
theorem dX4_slide_54 : decode cX4_slide 54 = .ok (.iadd, 1) := by decide +kernel
theorem dX4_slide_55 : decode cX4_slide 55 = .ok (.iastore, 1) := by decide +kernel
theorem dX4_slide_56 : decode cX4_slide 56 = .ok (.goto 31, 3) := by decide +kernel
theorem dX4_slide_59 : decode cX4_slide 59 = .ok (.iload_n 3, 1) := by decide +kernel
theorem dX4_slide_60 : decode cX4_slide 60 = .ok (.iload_n 1, 1) := by decide +kernel
theorem dX4_slide_61 : decode cX4_slide 61 = .ok (.ineg, 1) := by decide +kernel
theorem dX4_slide_62 : decode cX4_slide 62 = .ok (.if_icmp .ge 25, 3) := by decide +kernel
theorem dX4_slide_65 : decode cX4_slide 65 = .ok (.aload_n 0, 1) := by decide +kernel
theorem dX4_slide_66 : decode cX4_slide 66 = .ok (.getfield 9, 3) := by decide +kernel
theorem dX4_slide_69 : decode cX4_slide 69 = .ok (.iload_n 2, 1) := by decide +kernel
theorem dX4_slide_70 : decode cX4_slide 70 = .ok (.dup2, 1) := by decide +kernel
theorem dX4_slide_71 : decode cX4_slide 71 = .ok (.iaload, 1) := by decide +kernel
theorem dX4_slide_72 : decode cX4_slide 72 = .ok (.iconst 1, 1) := by decide +kernel
theorem dX4_slide_73 : decode cX4_slide 73 = .ok (.iadd, 1) := by decide +kernel
theorem dX4_slide_74 : decode cX4_slide 74 = .ok (.iastore, 1) := by decide +kernel
theorem dX4_slide_75 : decode cX4_slide 75 = .ok (.aload_n 0, 1) := by decide +kernel
theorem dX4_slide_76 : decode cX4_slide 76 = .ok (.getfield 9, 3) := by decide +kernel
theorem dX4_slide_79 : decode cX4_slide 79 = .ok (.iload_n 2, 1) := by decide +kernel
theorem dX4_slide_80 : decode cX4_slide 80 = .ok (.iconst 3, 1) := by decide +kernel
theorem dX4_slide_81 : decode cX4_slide 81 = .ok (.iadd, 1) := by decide +kernel
theorem dX4_slide_82 : decode cX4_slide 82 = .ok (.dup2, 1) := by decide +kernel
theorem dX4_slide_83 : decode cX4_slide 83 = .ok (.iaload, 1) := by decide +kernel
theorem dX4_slide_84 : decode cX4_slide 84 = .ok (.iconst 1, 1) := by decide +kernel
theorem dX4_slide_85 : decode cX4_slide 85 = .ok (.isub, 1) := by decide +kernel
theorem dX4_slide_86 : decode cX4_slide 86 = .ok (.iastore, 1) := by decide +kernel
theorem dX4_slide_87 : decode cX4_slide 87 = .ok (.iinc 2 1, 3) := by decide +kernel
theorem dX4_slide_90 : decode cX4_slide 90 = .ok (.goto (-88), 3) := by decide +kernel
theorem dX4_slide_93 : decode cX4_slide 93 = .ok (.return_, 1) := by decide +kernel
theorem dX4_cutShoulders_0 : decode cX4_cutShoulders 0 = .ok (.iconst 0, 1) := by decide +kernel
theorem dX4_cutShoulders_1 : decode cX4_cutShoulders 1 = .ok (.istore_n 2, 1) := by decide +kernel
theorem dX4_cutShoulders_2 : decode cX4_cutShoulders 2 = .ok (.iconst 0, 1) := by decide +kernel
theorem dX4_cutShoulders_3 : decode cX4_cutShoulders 3 = .ok (.istore_n 3, 1) := by decide +kernel
theorem dX4_cutShoulders_4 : decode cX4_cutShoulders 4 = .ok (.iload_n 3, 1) := by decide +kernel
theorem dX4_cutShoulders_5 : decode cX4_cutShoulders 5 = .ok (.aload_n 0, 1) := by decide +kernel
theorem dX4_cutShoulders_6 : decode cX4_cutShoulders 6 = .ok (.getfield 9, 3) := by decide +kernel
theorem dX4_cutShoulders_9 : decode cX4_cutShoulders 9 = .ok (.arraylength, 1) := by decide +kernel
theorem dX4_cutShoulders_10 : decode cX4_cutShoulders 10 = .ok (.if_icmp .ge 47, 3) := by decide +kernel
theorem dX4_cutShoulders_13 : decode cX4_cutShoulders 13 = .ok (.aload_n 0, 1) := by decide +kernel
theorem dX4_cutShoulders_14 : decode cX4_cutShoulders 14 = .ok (.getfield 9, 3) := by decide +kernel
theorem dX4_cutShoulders_17 : decode cX4_cutShoulders 17 = .ok (.iload_n 3, 1) := by decide +kernel
theorem dX4_cutShoulders_18 : decode cX4_cutShoulders 18 = .ok (.iaload, 1) := by decide +kernel
theorem dX4_cutShoulders_19 : decode cX4_cutShoulders 19 = .ok (.iload_n 1, 1) := by decide +kernel
theorem dX4_cutShoulders_20 : decode cX4_cutShoulders 20 = .ok (.isub, 1) := by decide +kernel
theorem dX4_cutShoulders_21 : decode cX4_cutShoulders 21 = .ok (.istore 4, 2) := by decide +kernel
theorem dX4_cutShoulders_23 : decode cX4_cutShoulders 23 = .ok (.iload_n 3, 1) := by decide +kernel
theorem dX4_cutShoulders_24 : decode cX4_cutShoulders 24 = .ok (.iconst 3, 1) := by decide +kernel
theorem dX4_cutShoulders_25 : decode cX4_cutShoulders 25 = .ok (.irem, 1) := by decide +kernel
theorem dX4_cutShoulders_26 : decode cX4_cutShoulders 26 = .ok (.iconst 1, 1) := by decide +kernel
theorem dX4_cutShoulders_27 : decode cX4_cutShoulders 27 = .ok (.if_icmp .eq 24, 3) := by decide +kernel
theorem dX4_cutShoulders_30 : decode cX4_cutShoulders 30 = .ok (.iload 4, 2) := by decide +kernel
theorem dX4_cutShoulders_32 : decode cX4_cutShoulders 32 = .ok (.ifCond .le 19, 3) := by decide +kernel
theorem dX4_cutShoulders_35 : decode cX4_cutShoulders 35 = .ok (.aload_n 0, 1) := by decide +kernel
theorem dX4_cutShoulders_36 : decode cX4_cutShoulders 36 = .ok (.getfield 9, 3) := by decide +kernel
theorem dX4_cutShoulders_39 : decode cX4_cutShoulders 39 = .ok (.iload_n 3, 1) := by decide +kernel
theorem dX4_cutShoulders_40 : decode cX4_cutShoulders 40 = .ok (.dup2, 1) := by decide +kernel
theorem dX4_cutShoulders_41 : decode cX4_cutShoulders 41 = .ok (.iaload, 1) := by decide +kernel
theorem dX4_cutShoulders_42 : decode cX4_cutShoulders 42 = .ok (.iload 4, 2) := by decide +kernel
theorem dX4_cutShoulders_44 : decode cX4_cutShoulders 44 = .ok (.isub, 1) := by decide +kernel
theorem dX4_cutShoulders_45 : decode cX4_cutShoulders 45 = .ok (.iastore, 1) := by decide +kernel
theorem dX4_cutShoulders_46 : decode cX4_cutShoulders 46 = .ok (.iload_n 2, 1) := by decide +kernel
theorem dX4_cutShoulders_47 : decode cX4_cutShoulders 47 = .ok (.iload 4, 2) := by decide +kernel
theorem dX4_cutShoulders_49 : decode cX4_cutShoulders 49 = .ok (.iadd, 1) := by decide +kernel
theorem dX4_cutShoulders_50 : decode cX4_cutShoulders 50 = .ok (.istore_n 2, 1) := by decide +kernel
theorem dX4_cutShoulders_51 : decode cX4_cutShoulders 51 = .ok (.iinc 3 1, 3) := by decide +kernel
theorem dX4_cutShoulders_54 : decode cX4_cutShoulders 54 = .ok (.goto (-50), 3) := by decide +kernel
theorem dX4_cutShoulders_57 : decode cX4_cutShoulders 57 = .ok (.iload_n 2, 1) := by decide +kernel
theorem dX4_cutShoulders_58 : decode cX4_cutShoulders 58 = .ok (.ireturn, 1) := by decide +kernel
theorem dX4_units_0 : decode cX4_units 0 = .ok (.aload_n 0, 1) := by decide +kernel
theorem dX4_units_1 : decode cX4_units 1 = .ok (.getfield 9, 3) := by decide +kernel
theorem dX4_units_4 : decode cX4_units 4 = .ok (.invokestatic 19, 3) := by decide +kernel
theorem dX4_units_7 : decode cX4_units 7 = .ok (.ireturn, 1) := by decide +kernel
theorem dX4_sumOn_0 : decode cX4_sumOn 0 = .ok (.iconst 0, 1) := by decide +kernel
theorem dX4_sumOn_1 : decode cX4_sumOn 1 = .ok (.istore_n 2, 1) := by decide +kernel
theorem dX4_sumOn_2 : decode cX4_sumOn 2 = .ok (.iconst 0, 1) := by decide +kernel
theorem dX4_sumOn_3 : decode cX4_sumOn 3 = .ok (.istore_n 3, 1) := by decide +kernel
theorem dX4_sumOn_4 : decode cX4_sumOn 4 = .ok (.iload_n 3, 1) := by decide +kernel
theorem dX4_sumOn_5 : decode cX4_sumOn 5 = .ok (.bipush 40, 2) := by decide +kernel
theorem dX4_sumOn_7 : decode cX4_sumOn 7 = .ok (.if_icmp .ge 18, 3) := by decide +kernel
theorem dX4_sumOn_10 : decode cX4_sumOn 10 = .ok (.iload_n 2, 1) := by decide +kernel
theorem dX4_sumOn_11 : decode cX4_sumOn 11 = .ok (.aload_n 0, 1) := by decide +kernel
theorem dX4_sumOn_12 : decode cX4_sumOn 12 = .ok (.iload_n 3, 1) := by decide +kernel
theorem dX4_sumOn_13 : decode cX4_sumOn 13 = .ok (.iload_n 1, 1) := by decide +kernel
theorem dX4_sumOn_14 : decode cX4_sumOn 14 = .ok (.invokevirtual 23, 3) := by decide +kernel
theorem dX4_sumOn_17 : decode cX4_sumOn 17 = .ok (.iadd, 1) := by decide +kernel
theorem dX4_sumOn_18 : decode cX4_sumOn 18 = .ok (.istore_n 2, 1) := by decide +kernel
theorem dX4_sumOn_19 : decode cX4_sumOn 19 = .ok (.iinc 3 1, 3) := by decide +kernel
theorem dX4_sumOn_22 : decode cX4_sumOn 22 = .ok (.goto (-18), 3) := by decide +kernel
theorem dX4_sumOn_25 : decode cX4_sumOn 25 = .ok (.iload_n 2, 1) := by decide +kernel
theorem dX4_sumOn_26 : decode cX4_sumOn 26 = .ok (.ireturn, 1) := by decide +kernel
theorem dX4_greatestOn_0 : decode cX4_greatestOn 0 = .ok (.aload_n 0, 1) := by decide +kernel
theorem dX4_greatestOn_1 : decode cX4_greatestOn 1 = .ok (.aload_n 0, 1) := by decide +kernel
theorem dX4_greatestOn_2 : decode cX4_greatestOn 2 = .ok (.iload_n 1, 1) := by decide +kernel
theorem dX4_greatestOn_3 : decode cX4_greatestOn 3 = .ok (.invokevirtual 27, 3) := by decide +kernel
theorem dX4_greatestOn_6 : decode cX4_greatestOn 6 = .ok (.iload_n 1, 1) := by decide +kernel
theorem dX4_greatestOn_7 : decode cX4_greatestOn 7 = .ok (.invokevirtual 23, 3) := by decide +kernel
theorem dX4_greatestOn_10 : decode cX4_greatestOn 10 = .ok (.ireturn, 1) := by decide +kernel
theorem dX4_firstGreatestOn_0 : decode cX4_firstGreatestOn 0 = .ok (.iconst 0, 1) := by decide +kernel
theorem dX4_firstGreatestOn_1 : decode cX4_firstGreatestOn 1 = .ok (.istore_n 2, 1) := by decide +kernel
theorem dX4_firstGreatestOn_2 : decode cX4_firstGreatestOn 2 = .ok (.iconst 1, 1) := by decide +kernel
theorem dX4_firstGreatestOn_3 : decode cX4_firstGreatestOn 3 = .ok (.istore_n 3, 1) := by decide +kernel
theorem dX4_firstGreatestOn_4 : decode cX4_firstGreatestOn 4 = .ok (.iload_n 3, 1) := by decide +kernel
theorem dX4_firstGreatestOn_5 : decode cX4_firstGreatestOn 5 = .ok (.bipush 40, 2) := by decide +kernel
theorem dX4_firstGreatestOn_7 : decode cX4_firstGreatestOn 7 = .ok (.if_icmp .ge 26, 3) := by decide +kernel
theorem dX4_firstGreatestOn_10 : decode cX4_firstGreatestOn 10 = .ok (.aload_n 0, 1) := by decide +kernel
theorem dX4_firstGreatestOn_11 : decode cX4_firstGreatestOn 11 = .ok (.iload_n 3, 1) := by decide +kernel
theorem dX4_firstGreatestOn_12 : decode cX4_firstGreatestOn 12 = .ok (.iload_n 1, 1) := by decide +kernel
theorem dX4_firstGreatestOn_13 : decode cX4_firstGreatestOn 13 = .ok (.invokevirtual 23, 3) := by decide +kernel
theorem dX4_firstGreatestOn_16 : decode cX4_firstGreatestOn 16 = .ok (.aload_n 0, 1) := by decide +kernel
theorem dX4_firstGreatestOn_17 : decode cX4_firstGreatestOn 17 = .ok (.iload_n 2, 1) := by decide +kernel
theorem dX4_firstGreatestOn_18 : decode cX4_firstGreatestOn 18 = .ok (.iload_n 1, 1) := by decide +kernel
theorem dX4_firstGreatestOn_19 : decode cX4_firstGreatestOn 19 = .ok (.invokevirtual 23, 3) := by decide +kernel
theorem dX4_firstGreatestOn_22 : decode cX4_firstGreatestOn 22 = .ok (.if_icmp .le 5, 3) := by decide +kernel
theorem dX4_firstGreatestOn_25 : decode cX4_firstGreatestOn 25 = .ok (.iload_n 3, 1) := by decide +kernel
theorem dX4_firstGreatestOn_26 : decode cX4_firstGreatestOn 26 = .ok (.istore_n 2, 1) := by decide +kernel
theorem dX4_firstGreatestOn_27 : decode cX4_firstGreatestOn 27 = .ok (.iinc 3 1, 3) := by decide +kernel
theorem dX4_firstGreatestOn_30 : decode cX4_firstGreatestOn 30 = .ok (.goto (-26), 3) := by decide +kernel
theorem dX4_firstGreatestOn_33 : decode cX4_firstGreatestOn 33 = .ok (.iload_n 2, 1) := by decide +kernel
theorem dX4_firstGreatestOn_34 : decode cX4_firstGreatestOn 34 = .ok (.ireturn, 1) := by decide +kernel
theorem dX4_cellsReaching_0 : decode cX4_cellsReaching 0 = .ok (.iconst 0, 1) := by decide +kernel
theorem dX4_cellsReaching_1 : decode cX4_cellsReaching 1 = .ok (.istore_n 3, 1) := by decide +kernel
theorem dX4_cellsReaching_2 : decode cX4_cellsReaching 2 = .ok (.iconst 0, 1) := by decide +kernel
theorem dX4_cellsReaching_3 : decode cX4_cellsReaching 3 = .ok (.istore 4, 2) := by decide +kernel
theorem dX4_cellsReaching_5 : decode cX4_cellsReaching 5 = .ok (.iload 4, 2) := by decide +kernel
theorem dX4_cellsReaching_7 : decode cX4_cellsReaching 7 = .ok (.bipush 40, 2) := by decide +kernel
theorem dX4_cellsReaching_9 : decode cX4_cellsReaching 9 = .ok (.if_icmp .ge 23, 3) := by decide +kernel
theorem dX4_cellsReaching_12 : decode cX4_cellsReaching 12 = .ok (.aload_n 0, 1) := by decide +kernel
theorem dX4_cellsReaching_13 : decode cX4_cellsReaching 13 = .ok (.iload 4, 2) := by decide +kernel
theorem dX4_cellsReaching_15 : decode cX4_cellsReaching 15 = .ok (.iload_n 2, 1) := by decide +kernel
theorem dX4_cellsReaching_16 : decode cX4_cellsReaching 16 = .ok (.invokevirtual 23, 3) := by decide +kernel
theorem dX4_cellsReaching_19 : decode cX4_cellsReaching 19 = .ok (.iload_n 1, 1) := by decide +kernel
theorem dX4_cellsReaching_20 : decode cX4_cellsReaching 20 = .ok (.if_icmp .lt 6, 3) := by decide +kernel
theorem dX4_cellsReaching_23 : decode cX4_cellsReaching 23 = .ok (.iinc 3 1, 3) := by decide +kernel
theorem dX4_cellsReaching_26 : decode cX4_cellsReaching 26 = .ok (.iinc 4 1, 3) := by decide +kernel
theorem dX4_cellsReaching_29 : decode cX4_cellsReaching 29 = .ok (.goto (-24), 3) := by decide +kernel
theorem dX4_cellsReaching_32 : decode cX4_cellsReaching 32 = .ok (.iload_n 3, 1) := by decide +kernel
theorem dX4_cellsReaching_33 : decode cX4_cellsReaching 33 = .ok (.ireturn, 1) := by decide +kernel
theorem dX4_longestRowReaching_0 : decode cX4_longestRowReaching 0 = .ok (.iconst 0, 1) := by decide +kernel
theorem dX4_longestRowReaching_1 : decode cX4_longestRowReaching 1 = .ok (.istore_n 3, 1) := by decide +kernel
theorem dX4_longestRowReaching_2 : decode cX4_longestRowReaching 2 = .ok (.iconst 0, 1) := by decide +kernel
theorem dX4_longestRowReaching_3 : decode cX4_longestRowReaching 3 = .ok (.istore 4, 2) := by decide +kernel
theorem dX4_longestRowReaching_5 : decode cX4_longestRowReaching 5 = .ok (.iconst 0, 1) := by decide +kernel
theorem dX4_longestRowReaching_6 : decode cX4_longestRowReaching 6 = .ok (.istore 5, 2) := by decide +kernel
theorem dX4_longestRowReaching_8 : decode cX4_longestRowReaching 8 = .ok (.iload 5, 2) := by decide +kernel
theorem dX4_longestRowReaching_10 : decode cX4_longestRowReaching 10 = .ok (.bipush 40, 2) := by decide +kernel
theorem dX4_longestRowReaching_12 : decode cX4_longestRowReaching 12 = .ok (.if_icmp .ge 37, 3) := by decide +kernel
theorem dX4_longestRowReaching_15 : decode cX4_longestRowReaching 15 = .ok (.aload_n 0, 1) := by decide +kernel
theorem dX4_longestRowReaching_16 : decode cX4_longestRowReaching 16 = .ok (.iload 5, 2) := by decide +kernel
theorem dX4_longestRowReaching_18 : decode cX4_longestRowReaching 18 = .ok (.iload_n 2, 1) := by decide +kernel
theorem dX4_longestRowReaching_19 : decode cX4_longestRowReaching 19 = .ok (.invokevirtual 23, 3) := by decide +kernel
theorem dX4_longestRowReaching_22 : decode cX4_longestRowReaching 22 = .ok (.iload_n 1, 1) := by decide +kernel
theorem dX4_longestRowReaching_23 : decode cX4_longestRowReaching 23 = .ok (.if_icmp .lt 10, 3) := by decide +kernel
theorem dX4_longestRowReaching_26 : decode cX4_longestRowReaching 26 = .ok (.iload 4, 2) := by decide +kernel
theorem dX4_longestRowReaching_28 : decode cX4_longestRowReaching 28 = .ok (.iconst 1, 1) := by decide +kernel
theorem dX4_longestRowReaching_29 : decode cX4_longestRowReaching 29 = .ok (.iadd, 1) := by decide +kernel
theorem dX4_longestRowReaching_30 : decode cX4_longestRowReaching 30 = .ok (.goto 4, 3) := by decide +kernel
theorem dX4_longestRowReaching_33 : decode cX4_longestRowReaching 33 = .ok (.iconst 0, 1) := by decide +kernel
theorem dX4_longestRowReaching_34 : decode cX4_longestRowReaching 34 = .ok (.istore 4, 2) := by decide +kernel
theorem dX4_longestRowReaching_36 : decode cX4_longestRowReaching 36 = .ok (.iload_n 3, 1) := by decide +kernel
theorem dX4_longestRowReaching_37 : decode cX4_longestRowReaching 37 = .ok (.iload 4, 2) := by decide +kernel
theorem dX4_longestRowReaching_39 : decode cX4_longestRowReaching 39 = .ok (.invokestatic 31, 3) := by decide +kernel
theorem dX4_longestRowReaching_42 : decode cX4_longestRowReaching 42 = .ok (.istore_n 3, 1) := by decide +kernel
theorem dX4_longestRowReaching_43 : decode cX4_longestRowReaching 43 = .ok (.iinc 5 1, 3) := by decide +kernel
theorem dX4_longestRowReaching_46 : decode cX4_longestRowReaching 46 = .ok (.goto (-38), 3) := by decide +kernel
theorem dX4_longestRowReaching_49 : decode cX4_longestRowReaching 49 = .ok (.iload_n 3, 1) := by decide +kernel
theorem dX4_longestRowReaching_50 : decode cX4_longestRowReaching 50 = .ok (.ireturn, 1) := by decide +kernel
theorem dX4_steepestOn_0 : decode cX4_steepestOn 0 = .ok (.iconst 0, 1) := by decide +kernel
theorem dX4_steepestOn_1 : decode cX4_steepestOn 1 = .ok (.istore_n 2, 1) := by decide +kernel
theorem dX4_steepestOn_2 : decode cX4_steepestOn 2 = .ok (.iconst 0, 1) := by decide +kernel
theorem dX4_steepestOn_3 : decode cX4_steepestOn 3 = .ok (.istore_n 3, 1) := by decide +kernel
theorem dX4_steepestOn_4 : decode cX4_steepestOn 4 = .ok (.iload_n 3, 1) := by decide +kernel
theorem dX4_steepestOn_5 : decode cX4_steepestOn 5 = .ok (.iconst 1, 1) := by decide +kernel
theorem dX4_steepestOn_6 : decode cX4_steepestOn 6 = .ok (.iadd, 1) := by decide +kernel
theorem dX4_steepestOn_7 : decode cX4_steepestOn 7 = .ok (.bipush 40, 2) := by decide +kernel
theorem dX4_steepestOn_9 : decode cX4_steepestOn 9 = .ok (.if_icmp .ge 36, 3) := by decide +kernel
theorem dX4_steepestOn_12 : decode cX4_steepestOn 12 = .ok (.aload_n 0, 1) := by decide +kernel
theorem dX4_steepestOn_13 : decode cX4_steepestOn 13 = .ok (.iload_n 3, 1) := by decide +kernel
theorem dX4_steepestOn_14 : decode cX4_steepestOn 14 = .ok (.iload_n 1, 1) := by decide +kernel
theorem dX4_steepestOn_15 : decode cX4_steepestOn 15 = .ok (.invokevirtual 23, 3) := by decide +kernel
theorem dX4_steepestOn_18 : decode cX4_steepestOn 18 = .ok (.aload_n 0, 1) := by decide +kernel
theorem dX4_steepestOn_19 : decode cX4_steepestOn 19 = .ok (.iload_n 3, 1) := by decide +kernel
theorem dX4_steepestOn_20 : decode cX4_steepestOn 20 = .ok (.iconst 1, 1) := by decide +kernel
theorem dX4_steepestOn_21 : decode cX4_steepestOn 21 = .ok (.iadd, 1) := by decide +kernel
theorem dX4_steepestOn_22 : decode cX4_steepestOn 22 = .ok (.iload_n 1, 1) := by decide +kernel
theorem dX4_steepestOn_23 : decode cX4_steepestOn 23 = .ok (.invokevirtual 23, 3) := by decide +kernel
theorem dX4_steepestOn_26 : decode cX4_steepestOn 26 = .ok (.isub, 1) := by decide +kernel
theorem dX4_steepestOn_27 : decode cX4_steepestOn 27 = .ok (.istore 4, 2) := by decide +kernel
theorem dX4_steepestOn_29 : decode cX4_steepestOn 29 = .ok (.iload_n 2, 1) := by decide +kernel
theorem dX4_steepestOn_30 : decode cX4_steepestOn 30 = .ok (.iload 4, 2) := by decide +kernel
theorem dX4_steepestOn_32 : decode cX4_steepestOn 32 = .ok (.invokestatic 36, 3) := by decide +kernel
theorem dX4_steepestOn_35 : decode cX4_steepestOn 35 = .ok (.invokestatic 31, 3) := by decide +kernel
theorem dX4_steepestOn_38 : decode cX4_steepestOn 38 = .ok (.istore_n 2, 1) := by decide +kernel
theorem dX4_steepestOn_39 : decode cX4_steepestOn 39 = .ok (.iinc 3 1, 3) := by decide +kernel
theorem dX4_steepestOn_42 : decode cX4_steepestOn 42 = .ok (.goto (-38), 3) := by decide +kernel
theorem dX4_steepestOn_45 : decode cX4_steepestOn 45 = .ok (.iload_n 2, 1) := by decide +kernel
theorem dX4_steepestOn_46 : decode cX4_steepestOn 46 = .ok (.ireturn, 1) := by decide +kernel
theorem dX4_unitsBelow_0 : decode cX4_unitsBelow 0 = .ok (.iconst 0, 1) := by decide +kernel
theorem dX4_unitsBelow_1 : decode cX4_unitsBelow 1 = .ok (.istore_n 2, 1) := by decide +kernel
theorem dX4_unitsBelow_2 : decode cX4_unitsBelow 2 = .ok (.aload_n 0, 1) := by decide +kernel
theorem dX4_unitsBelow_3 : decode cX4_unitsBelow 3 = .ok (.getfield 9, 3) := by decide +kernel
theorem dX4_unitsBelow_6 : decode cX4_unitsBelow 6 = .ok (.astore_n 3, 1) := by decide +kernel
theorem dX4_unitsBelow_7 : decode cX4_unitsBelow 7 = .ok (.aload_n 3, 1) := by decide +kernel
theorem dX4_unitsBelow_8 : decode cX4_unitsBelow 8 = .ok (.arraylength, 1) := by decide +kernel
theorem dX4_unitsBelow_9 : decode cX4_unitsBelow 9 = .ok (.istore 4, 2) := by decide +kernel
theorem dX4_unitsBelow_11 : decode cX4_unitsBelow 11 = .ok (.iconst 0, 1) := by decide +kernel
theorem dX4_unitsBelow_12 : decode cX4_unitsBelow 12 = .ok (.istore 5, 2) := by decide +kernel
theorem dX4_unitsBelow_14 : decode cX4_unitsBelow 14 = .ok (.iload 5, 2) := by decide +kernel
theorem dX4_unitsBelow_16 : decode cX4_unitsBelow 16 = .ok (.iload 4, 2) := by decide +kernel
theorem dX4_unitsBelow_18 : decode cX4_unitsBelow 18 = .ok (.if_icmp .ge 26, 3) := by decide +kernel
theorem dX4_unitsBelow_21 : decode cX4_unitsBelow 21 = .ok (.aload_n 3, 1) := by decide +kernel
theorem dX4_unitsBelow_22 : decode cX4_unitsBelow 22 = .ok (.iload 5, 2) := by decide +kernel
theorem dX4_unitsBelow_24 : decode cX4_unitsBelow 24 = .ok (.iaload, 1) := by decide +kernel
theorem dX4_unitsBelow_25 : decode cX4_unitsBelow 25 = .ok (.istore 6, 2) := by decide +kernel
theorem dX4_unitsBelow_27 : decode cX4_unitsBelow 27 = .ok (.iload_n 2, 1) := by decide +kernel
theorem dX4_unitsBelow_28 : decode cX4_unitsBelow 28 = .ok (.iconst 0, 1) := by decide +kernel
theorem dX4_unitsBelow_29 : decode cX4_unitsBelow 29 = .ok (.iload_n 1, 1) := by decide +kernel
theorem dX4_unitsBelow_30 : decode cX4_unitsBelow 30 = .ok (.iload 6, 2) := by decide +kernel
theorem dX4_unitsBelow_32 : decode cX4_unitsBelow 32 = .ok (.isub, 1) := by decide +kernel
theorem dX4_unitsBelow_33 : decode cX4_unitsBelow 33 = .ok (.invokestatic 31, 3) := by decide +kernel
theorem dX4_unitsBelow_36 : decode cX4_unitsBelow 36 = .ok (.iadd, 1) := by decide +kernel
theorem dX4_unitsBelow_37 : decode cX4_unitsBelow 37 = .ok (.istore_n 2, 1) := by decide +kernel
theorem dX4_unitsBelow_38 : decode cX4_unitsBelow 38 = .ok (.iinc 5 1, 3) := by decide +kernel
theorem dX4_unitsBelow_41 : decode cX4_unitsBelow 41 = .ok (.goto (-27), 3) := by decide +kernel
theorem dX4_unitsBelow_44 : decode cX4_unitsBelow 44 = .ok (.iload_n 2, 1) := by decide +kernel
theorem dX4_unitsBelow_45 : decode cX4_unitsBelow 45 = .ok (.ireturn, 1) := by decide +kernel
theorem dX4_cellBelow_0 : decode cX4_cellBelow 0 = .ok (.iconst 0, 1) := by decide +kernel
theorem dX4_cellBelow_1 : decode cX4_cellBelow 1 = .ok (.istore_n 3, 1) := by decide +kernel
theorem dX4_cellBelow_2 : decode cX4_cellBelow 2 = .ok (.iconst 0, 1) := by decide +kernel
theorem dX4_cellBelow_3 : decode cX4_cellBelow 3 = .ok (.istore 4, 2) := by decide +kernel
theorem dX4_cellBelow_5 : decode cX4_cellBelow 5 = .ok (.iload 4, 2) := by decide +kernel
theorem dX4_cellBelow_7 : decode cX4_cellBelow 7 = .ok (.bipush 40, 2) := by decide +kernel
theorem dX4_cellBelow_9 : decode cX4_cellBelow 9 = .ok (.if_icmp .ge 30, 3) := by decide +kernel
theorem dX4_cellBelow_12 : decode cX4_cellBelow 12 = .ok (.aload_n 0, 1) := by decide +kernel
theorem dX4_cellBelow_13 : decode cX4_cellBelow 13 = .ok (.iload 4, 2) := by decide +kernel
theorem dX4_cellBelow_15 : decode cX4_cellBelow 15 = .ok (.invokevirtual 39, 3) := by decide +kernel
theorem dX4_cellBelow_18 : decode cX4_cellBelow 18 = .ok (.iload_n 1, 1) := by decide +kernel
theorem dX4_cellBelow_19 : decode cX4_cellBelow 19 = .ok (.if_icmp .ge 14, 3) := by decide +kernel
theorem dX4_cellBelow_22 : decode cX4_cellBelow 22 = .ok (.iload_n 3, 1) := by decide +kernel
theorem dX4_cellBelow_23 : decode cX4_cellBelow 23 = .ok (.iload_n 2, 1) := by decide +kernel
theorem dX4_cellBelow_24 : decode cX4_cellBelow 24 = .ok (.if_icmp .ne 6, 3) := by decide +kernel
theorem dX4_cellBelow_27 : decode cX4_cellBelow 27 = .ok (.iload 4, 2) := by decide +kernel
theorem dX4_cellBelow_29 : decode cX4_cellBelow 29 = .ok (.ireturn, 1) := by decide +kernel
theorem dX4_cellBelow_30 : decode cX4_cellBelow 30 = .ok (.iinc 3 1, 3) := by decide +kernel
theorem dX4_cellBelow_33 : decode cX4_cellBelow 33 = .ok (.iinc 4 1, 3) := by decide +kernel
theorem dX4_cellBelow_36 : decode cX4_cellBelow 36 = .ok (.goto (-31), 3) := by decide +kernel
theorem dX4_cellBelow_39 : decode cX4_cellBelow 39 = .ok (.sipush (-1001), 3) := by decide +kernel
theorem dX4_cellBelow_42 : decode cX4_cellBelow 42 = .ok (.ireturn, 1) := by decide +kernel
theorem dX4_lowestIn_0 : decode cX4_lowestIn 0 = .ok (.aload_n 0, 1) := by decide +kernel
theorem dX4_lowestIn_1 : decode cX4_lowestIn 1 = .ok (.iload_n 1, 1) := by decide +kernel
theorem dX4_lowestIn_2 : decode cX4_lowestIn 2 = .ok (.iconst 0, 1) := by decide +kernel
theorem dX4_lowestIn_3 : decode cX4_lowestIn 3 = .ok (.invokevirtual 23, 3) := by decide +kernel
theorem dX4_lowestIn_6 : decode cX4_lowestIn 6 = .ok (.istore_n 2, 1) := by decide +kernel
theorem dX4_lowestIn_7 : decode cX4_lowestIn 7 = .ok (.iconst 1, 1) := by decide +kernel
theorem dX4_lowestIn_8 : decode cX4_lowestIn 8 = .ok (.istore_n 3, 1) := by decide +kernel
theorem dX4_lowestIn_9 : decode cX4_lowestIn 9 = .ok (.iload_n 3, 1) := by decide +kernel
theorem dX4_lowestIn_10 : decode cX4_lowestIn 10 = .ok (.iconst 3, 1) := by decide +kernel
theorem dX4_lowestIn_11 : decode cX4_lowestIn 11 = .ok (.if_icmp .ge 20, 3) := by decide +kernel
theorem dX4_lowestIn_14 : decode cX4_lowestIn 14 = .ok (.iload_n 2, 1) := by decide +kernel
theorem dX4_lowestIn_15 : decode cX4_lowestIn 15 = .ok (.aload_n 0, 1) := by decide +kernel
theorem dX4_lowestIn_16 : decode cX4_lowestIn 16 = .ok (.iload_n 1, 1) := by decide +kernel
theorem dX4_lowestIn_17 : decode cX4_lowestIn 17 = .ok (.iload_n 3, 1) := by decide +kernel
theorem dX4_lowestIn_18 : decode cX4_lowestIn 18 = .ok (.invokevirtual 23, 3) := by decide +kernel
theorem dX4_lowestIn_21 : decode cX4_lowestIn 21 = .ok (.invokestatic 42, 3) := by decide +kernel
theorem dX4_lowestIn_24 : decode cX4_lowestIn 24 = .ok (.istore_n 2, 1) := by decide +kernel
theorem dX4_lowestIn_25 : decode cX4_lowestIn 25 = .ok (.iinc 3 1, 3) := by decide +kernel
theorem dX4_lowestIn_28 : decode cX4_lowestIn 28 = .ok (.goto (-19), 3) := by decide +kernel
theorem dX4_lowestIn_31 : decode cX4_lowestIn 31 = .ok (.iload_n 2, 1) := by decide +kernel
theorem dX4_lowestIn_32 : decode cX4_lowestIn 32 = .ok (.ireturn, 1) := by decide +kernel
theorem dX5_init_0 : decode cX5_init 0 = .ok (.aload_n 0, 1) := by decide +kernel
theorem dX5_init_1 : decode cX5_init 1 = .ok (.invokespecial 3, 3) := by decide +kernel
theorem dX5_init_4 : decode cX5_init 4 = .ok (.aload_n 0, 1) := by decide +kernel
theorem dX5_init_5 : decode cX5_init 5 = .ok (.iconst 3, 1) := by decide +kernel
theorem dX5_init_6 : decode cX5_init 6 = .ok (.putfield 9, 3) := by decide +kernel
theorem dX5_init_9 : decode cX5_init 9 = .ok (.aload_n 0, 1) := by decide +kernel
theorem dX5_init_10 : decode cX5_init 10 = .ok (.iconst (-1), 1) := by decide +kernel
theorem dX5_init_11 : decode cX5_init 11 = .ok (.putfield 15, 3) := by decide +kernel
theorem dX5_init_14 : decode cX5_init 14 = .ok (.aload_n 0, 1) := by decide +kernel
theorem dX5_init_15 : decode cX5_init 15 = .ok (.iconst 0, 1) := by decide +kernel
theorem dX5_init_16 : decode cX5_init 16 = .ok (.putfield 18, 3) := by decide +kernel
theorem dX5_init_19 : decode cX5_init 19 = .ok (.aload_n 0, 1) := by decide +kernel
theorem dX5_init_20 : decode cX5_init 20 = .ok (.iconst 0, 1) := by decide +kernel
theorem dX5_init_21 : decode cX5_init 21 = .ok (.putfield 21, 3) := by decide +kernel
theorem dX5_init_24 : decode cX5_init 24 = .ok (.aload_n 0, 1) := by decide +kernel
theorem dX5_init_25 : decode cX5_init 25 = .ok (.bipush 6, 2) := by decide +kernel
theorem dX5_init_27 : decode cX5_init 27 = .ok (.newarray .int, 2) := by decide +kernel
theorem dX5_init_29 : decode cX5_init 29 = .ok (.putfield 24, 3) := by decide +kernel
theorem dX5_init_32 : decode cX5_init 32 = .ok (.aload_n 0, 1) := by decide +kernel
theorem dX5_init_33 : decode cX5_init 33 = .ok (.bipush 6, 2) := by decide +kernel
theorem dX5_init_35 : decode cX5_init 35 = .ok (.newarray .int, 2) := by decide +kernel
theorem dX5_init_37 : decode cX5_init 37 = .ok (.putfield 28, 3) := by decide +kernel
theorem dX5_init_40 : decode cX5_init 40 = .ok (.aload_n 0, 1) := by decide +kernel
theorem dX5_init_41 : decode cX5_init 41 = .ok (.bipush 18, 2) := by decide +kernel
theorem dX5_init_43 : decode cX5_init 43 = .ok (.newarray .int, 2) := by decide +kernel
theorem dX5_init_45 : decode cX5_init 45 = .ok (.putfield 31, 3) := by decide +kernel
theorem dX5_init_48 : decode cX5_init 48 = .ok (.aload_n 0, 1) := by decide +kernel
theorem dX5_init_49 : decode cX5_init 49 = .ok (.bipush 18, 2) := by decide +kernel
theorem dX5_init_51 : decode cX5_init 51 = .ok (.newarray .int, 2) := by decide +kernel
theorem dX5_init_53 : decode cX5_init 53 = .ok (.putfield 34, 3) := by decide +kernel
theorem dX5_init_56 : decode cX5_init 56 = .ok (.aload_n 0, 1) := by decide +kernel
theorem dX5_init_57 : decode cX5_init 57 = .ok (.getfield 34, 3) := by decide +kernel
theorem dX5_init_60 : decode cX5_init 60 = .ok (.sipush (-1001), 3) := by decide +kernel
theorem dX5_init_63 : decode cX5_init 63 = .ok (.invokestatic 37, 3) := by decide +kernel
theorem dX5_init_66 : decode cX5_init 66 = .ok (.return_, 1) := by decide +kernel
theorem dX5_replace_0 : decode cX5_replace 0 = .ok (.aload_n 0, 1) := by decide +kernel
theorem dX5_replace_1 : decode cX5_replace 1 = .ok (.iload_n 1, 1) := by decide +kernel
theorem dX5_replace_2 : decode cX5_replace 2 = .ok (.putfield 9, 3) := by decide +kernel
theorem dX5_replace_5 : decode cX5_replace 5 = .ok (.aload_n 0, 1) := by decide +kernel
theorem dX5_replace_6 : decode cX5_replace 6 = .ok (.iconst (-1), 1) := by decide +kernel
theorem dX5_replace_7 : decode cX5_replace 7 = .ok (.putfield 15, 3) := by decide +kernel
theorem dX5_replace_10 : decode cX5_replace 10 = .ok (.aload_n 0, 1) := by decide +kernel
theorem dX5_replace_11 : decode cX5_replace 11 = .ok (.iconst 0, 1) := by decide +kernel
theorem dX5_replace_12 : decode cX5_replace 12 = .ok (.putfield 18, 3) := by decide +kernel
theorem dX5_replace_15 : decode cX5_replace 15 = .ok (.aload_n 0, 1) := by decide +kernel
theorem dX5_replace_16 : decode cX5_replace 16 = .ok (.iconst 0, 1) := by decide +kernel
theorem dX5_replace_17 : decode cX5_replace 17 = .ok (.putfield 21, 3) := by decide +kernel
theorem dX5_replace_20 : decode cX5_replace 20 = .ok (.aload_n 0, 1) := by decide +kernel
theorem dX5_replace_21 : decode cX5_replace 21 = .ok (.getfield 24, 3) := by decide +kernel
theorem dX5_replace_24 : decode cX5_replace 24 = .ok (.iconst 0, 1) := by decide +kernel
theorem dX5_replace_25 : decode cX5_replace 25 = .ok (.invokestatic 37, 3) := by decide +kernel
theorem dX5_replace_28 : decode cX5_replace 28 = .ok (.aload_n 0, 1) := by decide +kernel
theorem dX5_replace_29 : decode cX5_replace 29 = .ok (.getfield 28, 3) := by decide +kernel
theorem dX5_replace_32 : decode cX5_replace 32 = .ok (.iconst 0, 1) := by decide +kernel
theorem dX5_replace_33 : decode cX5_replace 33 = .ok (.invokestatic 37, 3) := by decide +kernel
theorem dX5_replace_36 : decode cX5_replace 36 = .ok (.aload_n 0, 1) := by decide +kernel
theorem dX5_replace_37 : decode cX5_replace 37 = .ok (.getfield 31, 3) := by decide +kernel
theorem dX5_replace_40 : decode cX5_replace 40 = .ok (.iconst 0, 1) := by decide +kernel
theorem dX5_replace_41 : decode cX5_replace 41 = .ok (.invokestatic 37, 3) := by decide +kernel
theorem dX5_replace_44 : decode cX5_replace 44 = .ok (.aload_n 0, 1) := by decide +kernel
theorem dX5_replace_45 : decode cX5_replace 45 = .ok (.getfield 34, 3) := by decide +kernel
theorem dX5_replace_48 : decode cX5_replace 48 = .ok (.sipush (-1001), 3) := by decide +kernel
theorem dX5_replace_51 : decode cX5_replace 51 = .ok (.invokestatic 37, 3) := by decide +kernel
theorem dX5_replace_54 : decode cX5_replace 54 = .ok (.return_, 1) := by decide +kernel
theorem dX5_copyFrom_0 : decode cX5_copyFrom 0 = .ok (.aload_n 0, 1) := by decide +kernel
theorem dX5_copyFrom_1 : decode cX5_copyFrom 1 = .ok (.aload_n 1, 1) := by decide +kernel
theorem dX5_copyFrom_2 : decode cX5_copyFrom 2 = .ok (.getfield 9, 3) := by decide +kernel
theorem dX5_copyFrom_5 : decode cX5_copyFrom 5 = .ok (.putfield 9, 3) := by decide +kernel
theorem dX5_copyFrom_8 : decode cX5_copyFrom 8 = .ok (.aload_n 0, 1) := by decide +kernel
theorem dX5_copyFrom_9 : decode cX5_copyFrom 9 = .ok (.aload_n 1, 1) := by decide +kernel
theorem dX5_copyFrom_10 : decode cX5_copyFrom 10 = .ok (.getfield 15, 3) := by decide +kernel
theorem dX5_copyFrom_13 : decode cX5_copyFrom 13 = .ok (.putfield 15, 3) := by decide +kernel
theorem dX5_copyFrom_16 : decode cX5_copyFrom 16 = .ok (.aload_n 0, 1) := by decide +kernel
theorem dX5_copyFrom_17 : decode cX5_copyFrom 17 = .ok (.aload_n 1, 1) := by decide +kernel
theorem dX5_copyFrom_18 : decode cX5_copyFrom 18 = .ok (.getfield 18, 3) := by decide +kernel
theorem dX5_copyFrom_21 : decode cX5_copyFrom 21 = .ok (.putfield 18, 3) := by decide +kernel
theorem dX5_copyFrom_24 : decode cX5_copyFrom 24 = .ok (.aload_n 0, 1) := by decide +kernel
theorem dX5_copyFrom_25 : decode cX5_copyFrom 25 = .ok (.aload_n 1, 1) := by decide +kernel
theorem dX5_copyFrom_26 : decode cX5_copyFrom 26 = .ok (.getfield 21, 3) := by decide +kernel
theorem dX5_copyFrom_29 : decode cX5_copyFrom 29 = .ok (.putfield 21, 3) := by decide +kernel
theorem dX5_copyFrom_32 : decode cX5_copyFrom 32 = .ok (.aload_n 1, 1) := by decide +kernel
theorem dX5_copyFrom_33 : decode cX5_copyFrom 33 = .ok (.getfield 24, 3) := by decide +kernel
theorem dX5_copyFrom_36 : decode cX5_copyFrom 36 = .ok (.aload_n 0, 1) := by decide +kernel
theorem dX5_copyFrom_37 : decode cX5_copyFrom 37 = .ok (.getfield 24, 3) := by decide +kernel
theorem dX5_copyFrom_40 : decode cX5_copyFrom 40 = .ok (.invokestatic 43, 3) := by decide +kernel
theorem dX5_copyFrom_43 : decode cX5_copyFrom 43 = .ok (.aload_n 1, 1) := by decide +kernel
theorem dX5_copyFrom_44 : decode cX5_copyFrom 44 = .ok (.getfield 28, 3) := by decide +kernel
theorem dX5_copyFrom_47 : decode cX5_copyFrom 47 = .ok (.aload_n 0, 1) := by decide +kernel
theorem dX5_copyFrom_48 : decode cX5_copyFrom 48 = .ok (.getfield 28, 3) := by decide +kernel
theorem dX5_copyFrom_51 : decode cX5_copyFrom 51 = .ok (.invokestatic 43, 3) := by decide +kernel
theorem dX5_copyFrom_54 : decode cX5_copyFrom 54 = .ok (.aload_n 1, 1) := by decide +kernel
theorem dX5_copyFrom_55 : decode cX5_copyFrom 55 = .ok (.getfield 31, 3) := by decide +kernel
theorem dX5_copyFrom_58 : decode cX5_copyFrom 58 = .ok (.aload_n 0, 1) := by decide +kernel
theorem dX5_copyFrom_59 : decode cX5_copyFrom 59 = .ok (.getfield 31, 3) := by decide +kernel
theorem dX5_copyFrom_62 : decode cX5_copyFrom 62 = .ok (.invokestatic 43, 3) := by decide +kernel
theorem dX5_copyFrom_65 : decode cX5_copyFrom 65 = .ok (.aload_n 1, 1) := by decide +kernel
theorem dX5_copyFrom_66 : decode cX5_copyFrom 66 = .ok (.getfield 34, 3) := by decide +kernel
theorem dX5_copyFrom_69 : decode cX5_copyFrom 69 = .ok (.aload_n 0, 1) := by decide +kernel
theorem dX5_copyFrom_70 : decode cX5_copyFrom 70 = .ok (.getfield 34, 3) := by decide +kernel
theorem dX5_copyFrom_73 : decode cX5_copyFrom 73 = .ok (.invokestatic 43, 3) := by decide +kernel
theorem dX5_copyFrom_76 : decode cX5_copyFrom 76 = .ok (.return_, 1) := by decide +kernel
theorem dX5_hasWagon_0 : decode cX5_hasWagon 0 = .ok (.iload_n 1, 1) := by decide +kernel
theorem dX5_hasWagon_1 : decode cX5_hasWagon 1 = .ok (.ifCond .lt 21, 3) := by decide +kernel
theorem dX5_hasWagon_4 : decode cX5_hasWagon 4 = .ok (.iload_n 1, 1) := by decide +kernel
theorem dX5_hasWagon_5 : decode cX5_hasWagon 5 = .ok (.aload_n 0, 1) := by decide +kernel
theorem dX5_hasWagon_6 : decode cX5_hasWagon 6 = .ok (.getfield 9, 3) := by decide +kernel
theorem dX5_hasWagon_9 : decode cX5_hasWagon 9 = .ok (.if_icmp .ge 13, 3) := by decide +kernel
theorem dX5_hasWagon_12 : decode cX5_hasWagon 12 = .ok (.iload_n 1, 1) := by decide +kernel
theorem dX5_hasWagon_13 : decode cX5_hasWagon 13 = .ok (.bipush 6, 2) := by decide +kernel
theorem dX5_hasWagon_15 : decode cX5_hasWagon 15 = .ok (.if_icmp .ge 7, 3) := by decide +kernel
theorem dX5_hasWagon_18 : decode cX5_hasWagon 18 = .ok (.iconst 1, 1) := by decide +kernel
theorem dX5_hasWagon_19 : decode cX5_hasWagon 19 = .ok (.goto 4, 3) := by decide +kernel
theorem dX5_hasWagon_22 : decode cX5_hasWagon 22 = .ok (.iconst 0, 1) := by decide +kernel
theorem dX5_hasWagon_23 : decode cX5_hasWagon 23 = .ok (.ireturn, 1) := by decide +kernel
theorem dX5_hasDoor_0 : decode cX5_hasDoor 0 = .ok (.iload_n 1, 1) := by decide +kernel
theorem dX5_hasDoor_1 : decode cX5_hasDoor 1 = .ok (.ifCond .lt 30, 3) := by decide +kernel
theorem dX5_hasDoor_4 : decode cX5_hasDoor 4 = .ok (.iload_n 1, 1) := by decide +kernel
theorem dX5_hasDoor_5 : decode cX5_hasDoor 5 = .ok (.aload_n 0, 1) := by decide +kernel
theorem dX5_hasDoor_6 : decode cX5_hasDoor 6 = .ok (.getfield 9, 3) := by decide +kernel
theorem dX5_hasDoor_9 : decode cX5_hasDoor 9 = .ok (.if_icmp .ge 22, 3) := by decide +kernel
theorem dX5_hasDoor_12 : decode cX5_hasDoor 12 = .ok (.iload_n 1, 1) := by decide +kernel
theorem dX5_hasDoor_13 : decode cX5_hasDoor 13 = .ok (.bipush 6, 2) := by decide +kernel
theorem dX5_hasDoor_15 : decode cX5_hasDoor 15 = .ok (.if_icmp .ge 16, 3) := by decide +kernel
theorem dX5_hasDoor_18 : decode cX5_hasDoor 18 = .ok (.iload_n 2, 1) := by decide +kernel
theorem dX5_hasDoor_19 : decode cX5_hasDoor 19 = .ok (.ifCond .lt 12, 3) := by decide +kernel
theorem dX5_hasDoor_22 : decode cX5_hasDoor 22 = .ok (.iload_n 2, 1) := by decide +kernel
theorem dX5_hasDoor_23 : decode cX5_hasDoor 23 = .ok (.iconst 3, 1) := by decide +kernel
theorem dX5_hasDoor_24 : decode cX5_hasDoor 24 = .ok (.if_icmp .ge 7, 3) := by decide +kernel
theorem dX5_hasDoor_27 : decode cX5_hasDoor 27 = .ok (.iconst 1, 1) := by decide +kernel
theorem dX5_hasDoor_28 : decode cX5_hasDoor 28 = .ok (.goto 4, 3) := by decide +kernel
theorem dX5_hasDoor_31 : decode cX5_hasDoor 31 = .ok (.iconst 0, 1) := by decide +kernel
theorem dX5_hasDoor_32 : decode cX5_hasDoor 32 = .ok (.ireturn, 1) := by decide +kernel
theorem dX5_levelOf_0 : decode cX5_levelOf 0 = .ok (.aload_n 0, 1) := by decide +kernel
theorem dX5_levelOf_1 : decode cX5_levelOf 1 = .ok (.iload_n 1, 1) := by decide +kernel
theorem dX5_levelOf_2 : decode cX5_levelOf 2 = .ok (.iload_n 2, 1) := by decide +kernel
theorem dX5_levelOf_3 : decode cX5_levelOf 3 = .ok (.invokevirtual 47, 3) := by decide +kernel
theorem dX5_levelOf_6 : decode cX5_levelOf 6 = .ok (.ifCond .eq 16, 3) := by decide +kernel
theorem dX5_levelOf_9 : decode cX5_levelOf 9 = .ok (.aload_n 0, 1) := by decide +kernel
theorem dX5_levelOf_10 : decode cX5_levelOf 10 = .ok (.getfield 31, 3) := by decide +kernel
theorem dX5_levelOf_13 : decode cX5_levelOf 13 = .ok (.iconst 3, 1) := by decide +kernel
theorem dX5_levelOf_14 : decode cX5_levelOf 14 = .ok (.iload_n 1, 1) := by decide +kernel
theorem dX5_levelOf_15 : decode cX5_levelOf 15 = .ok (.imul, 1) := by decide +kernel
theorem dX5_levelOf_16 : decode cX5_levelOf 16 = .ok (.iload_n 2, 1) := by decide +kernel
theorem dX5_levelOf_17 : decode cX5_levelOf 17 = .ok (.iadd, 1) := by decide +kernel
theorem dX5_levelOf_18 : decode cX5_levelOf 18 = .ok (.iaload, 1) := by decide +kernel
theorem dX5_levelOf_19 : decode cX5_levelOf 19 = .ok (.goto 4, 3) := by decide +kernel
theorem dX5_levelOf_22 : decode cX5_levelOf 22 = .ok (.iconst 0, 1) := by decide +kernel
theorem dX5_levelOf_23 : decode cX5_levelOf 23 = .ok (.ireturn, 1) := by decide +kernel
theorem dX5_restOf_0 : decode cX5_restOf 0 = .ok (.aload_n 0, 1) := by decide +kernel
theorem dX5_restOf_1 : decode cX5_restOf 1 = .ok (.iload_n 1, 1) := by decide +kernel
theorem dX5_restOf_2 : decode cX5_restOf 2 = .ok (.iload_n 2, 1) := by decide +kernel
theorem dX5_restOf_3 : decode cX5_restOf 3 = .ok (.invokevirtual 47, 3) := by decide +kernel
theorem dX5_restOf_6 : decode cX5_restOf 6 = .ok (.ifCond .eq 16, 3) := by decide +kernel
theorem dX5_restOf_9 : decode cX5_restOf 9 = .ok (.aload_n 0, 1) := by decide +kernel
theorem dX5_restOf_10 : decode cX5_restOf 10 = .ok (.getfield 34, 3) := by decide +kernel
theorem dX5_restOf_13 : decode cX5_restOf 13 = .ok (.iconst 3, 1) := by decide +kernel
theorem dX5_restOf_14 : decode cX5_restOf 14 = .ok (.iload_n 1, 1) := by decide +kernel
theorem dX5_restOf_15 : decode cX5_restOf 15 = .ok (.imul, 1) := by decide +kernel
theorem dX5_restOf_16 : decode cX5_restOf 16 = .ok (.iload_n 2, 1) := by decide +kernel
theorem dX5_restOf_17 : decode cX5_restOf 17 = .ok (.iadd, 1) := by decide +kernel
theorem dX5_restOf_18 : decode cX5_restOf 18 = .ok (.iaload, 1) := by decide +kernel
theorem dX5_restOf_19 : decode cX5_restOf 19 = .ok (.goto 6, 3) := by decide +kernel
theorem dX5_restOf_22 : decode cX5_restOf 22 = .ok (.sipush (-1001), 3) := by decide +kernel
theorem dX5_restOf_25 : decode cX5_restOf 25 = .ok (.ireturn, 1) := by decide +kernel
theorem dX5_cellBelow_0 : decode cX5_cellBelow 0 = .ok (.aload_n 0, 1) := by decide +kernel
theorem dX5_cellBelow_1 : decode cX5_cellBelow 1 = .ok (.getfield 15, 3) := by decide +kernel
theorem dX5_cellBelow_4 : decode cX5_cellBelow 4 = .ok (.iconst 4, 1) := by decide +kernel
theorem dX5_cellBelow_5 : decode cX5_cellBelow 5 = .ok (.iload_n 1, 1) := by decide +kernel
theorem dX5_cellBelow_6 : decode cX5_cellBelow 6 = .ok (.imul, 1) := by decide +kernel
theorem dX5_cellBelow_7 : decode cX5_cellBelow 7 = .ok (.isub, 1) := by decide +kernel
theorem dX5_cellBelow_8 : decode cX5_cellBelow 8 = .ok (.ireturn, 1) := by decide +kernel
theorem dX5_units_0 : decode cX5_units 0 = .ok (.aload_n 0, 1) := by decide +kernel
theorem dX5_units_1 : decode cX5_units 1 = .ok (.getfield 24, 3) := by decide +kernel
theorem dX5_units_4 : decode cX5_units 4 = .ok (.invokestatic 51, 3) := by decide +kernel
theorem dX5_units_7 : decode cX5_units 7 = .ok (.ireturn, 1) := by decide +kernel
theorem dX5_sumOfLevels_0 : decode cX5_sumOfLevels 0 = .ok (.iconst 0, 1) := by decide +kernel
theorem dX5_sumOfLevels_1 : decode cX5_sumOfLevels 1 = .ok (.istore_n 2, 1) := by decide +kernel
theorem dX5_sumOfLevels_2 : decode cX5_sumOfLevels 2 = .ok (.iconst 0, 1) := by decide +kernel
theorem dX5_sumOfLevels_3 : decode cX5_sumOfLevels 3 = .ok (.istore_n 3, 1) := by decide +kernel
theorem dX5_sumOfLevels_4 : decode cX5_sumOfLevels 4 = .ok (.iload_n 3, 1) := by decide +kernel
theorem dX5_sumOfLevels_5 : decode cX5_sumOfLevels 5 = .ok (.iconst 3, 1) := by decide +kernel
theorem dX5_sumOfLevels_6 : decode cX5_sumOfLevels 6 = .ok (.if_icmp .ge 18, 3) := by decide +kernel
theorem dX5_sumOfLevels_9 : decode cX5_sumOfLevels 9 = .ok (.iload_n 2, 1) := by decide +kernel
theorem dX5_sumOfLevels_10 : decode cX5_sumOfLevels 10 = .ok (.aload_n 0, 1) := by decide +kernel
theorem dX5_sumOfLevels_11 : decode cX5_sumOfLevels 11 = .ok (.iload_n 1, 1) := by decide +kernel
theorem dX5_sumOfLevels_12 : decode cX5_sumOfLevels 12 = .ok (.iload_n 3, 1) := by decide +kernel
theorem dX5_sumOfLevels_13 : decode cX5_sumOfLevels 13 = .ok (.invokevirtual 55, 3) := by decide +kernel
theorem dX5_sumOfLevels_16 : decode cX5_sumOfLevels 16 = .ok (.iadd, 1) := by decide +kernel
theorem dX5_sumOfLevels_17 : decode cX5_sumOfLevels 17 = .ok (.istore_n 2, 1) := by decide +kernel
theorem dX5_sumOfLevels_18 : decode cX5_sumOfLevels 18 = .ok (.iinc 3 1, 3) := by decide +kernel
theorem dX5_sumOfLevels_21 : decode cX5_sumOfLevels 21 = .ok (.goto (-17), 3) := by decide +kernel
theorem dX5_sumOfLevels_24 : decode cX5_sumOfLevels 24 = .ok (.iload_n 2, 1) := by decide +kernel
theorem dX5_sumOfLevels_25 : decode cX5_sumOfLevels 25 = .ok (.ireturn, 1) := by decide +kernel
theorem dX5_closingDoors_0 : decode cX5_closingDoors 0 = .ok (.iconst 0, 1) := by decide +kernel
theorem dX5_closingDoors_1 : decode cX5_closingDoors 1 = .ok (.istore_n 2, 1) := by decide +kernel
theorem dX5_closingDoors_2 : decode cX5_closingDoors 2 = .ok (.iconst 0, 1) := by decide +kernel
theorem dX5_closingDoors_3 : decode cX5_closingDoors 3 = .ok (.istore_n 3, 1) := by decide +kernel
theorem dX5_closingDoors_4 : decode cX5_closingDoors 4 = .ok (.iload_n 3, 1) := by decide +kernel
theorem dX5_closingDoors_5 : decode cX5_closingDoors 5 = .ok (.iconst 3, 1) := by decide +kernel
theorem dX5_closingDoors_6 : decode cX5_closingDoors 6 = .ok (.if_icmp .ge 24, 3) := by decide +kernel
theorem dX5_closingDoors_9 : decode cX5_closingDoors 9 = .ok (.aload_n 0, 1) := by decide +kernel
theorem dX5_closingDoors_10 : decode cX5_closingDoors 10 = .ok (.iload_n 1, 1) := by decide +kernel
theorem dX5_closingDoors_11 : decode cX5_closingDoors 11 = .ok (.iload_n 3, 1) := by decide +kernel
theorem dX5_closingDoors_12 : decode cX5_closingDoors 12 = .ok (.invokevirtual 59, 3) := by decide +kernel
theorem dX5_closingDoors_15 : decode cX5_closingDoors 15 = .ok (.sipush (-1001), 3) := by decide +kernel
theorem dX5_closingDoors_18 : decode cX5_closingDoors 18 = .ok (.if_icmp .eq 6, 3) := by decide +kernel
theorem dX5_closingDoors_21 : decode cX5_closingDoors 21 = .ok (.iinc 2 1, 3) := by decide +kernel
theorem dX5_closingDoors_24 : decode cX5_closingDoors 24 = .ok (.iinc 3 1, 3) := by decide +kernel
theorem dX5_closingDoors_27 : decode cX5_closingDoors 27 = .ok (.goto (-23), 3) := by decide +kernel
theorem dX5_closingDoors_30 : decode cX5_closingDoors 30 = .ok (.iload_n 2, 1) := by decide +kernel
theorem dX5_closingDoors_31 : decode cX5_closingDoors 31 = .ok (.ireturn, 1) := by decide +kernel
theorem dX5_openDoor_0 : decode cX5_openDoor 0 = .ok (.aload_n 0, 1) := by decide +kernel
theorem dX5_openDoor_1 : decode cX5_openDoor 1 = .ok (.iload_n 1, 1) := by decide +kernel
theorem dX5_openDoor_2 : decode cX5_openDoor 2 = .ok (.iload_n 2, 1) := by decide +kernel
theorem dX5_openDoor_3 : decode cX5_openDoor 3 = .ok (.invokevirtual 47, 3) := by decide +kernel
theorem dX5_openDoor_6 : decode cX5_openDoor 6 = .ok (.ifCond .eq 27, 3) := by decide +kernel
theorem dX5_openDoor_9 : decode cX5_openDoor 9 = .ok (.aload_n 0, 1) := by decide +kernel
theorem dX5_openDoor_10 : decode cX5_openDoor 10 = .ok (.getfield 31, 3) := by decide +kernel
theorem dX5_openDoor_13 : decode cX5_openDoor 13 = .ok (.iconst 3, 1) := by decide +kernel
theorem dX5_openDoor_14 : decode cX5_openDoor 14 = .ok (.iload_n 1, 1) := by decide +kernel
theorem dX5_openDoor_15 : decode cX5_openDoor 15 = .ok (.imul, 1) := by decide +kernel
theorem dX5_openDoor_16 : decode cX5_openDoor 16 = .ok (.iload_n 2, 1) := by decide +kernel
theorem dX5_openDoor_17 : decode cX5_openDoor 17 = .ok (.iadd, 1) := by decide +kernel
theorem dX5_openDoor_18 : decode cX5_openDoor 18 = .ok (.iload_n 3, 1) := by decide +kernel
theorem dX5_openDoor_19 : decode cX5_openDoor 19 = .ok (.iastore, 1) := by decide +kernel
theorem dX5_openDoor_20 : decode cX5_openDoor 20 = .ok (.aload_n 0, 1) := by decide +kernel
theorem dX5_openDoor_21 : decode cX5_openDoor 21 = .ok (.getfield 34, 3) := by decide +kernel
theorem dX5_openDoor_24 : decode cX5_openDoor 24 = .ok (.iconst 3, 1) := by decide +kernel
theorem dX5_openDoor_25 : decode cX5_openDoor 25 = .ok (.iload_n 1, 1) := by decide +kernel
theorem dX5_openDoor_26 : decode cX5_openDoor 26 = .ok (.imul, 1) := by decide +kernel
theorem dX5_openDoor_27 : decode cX5_openDoor 27 = .ok (.iload_n 2, 1) := by decide +kernel
theorem dX5_openDoor_28 : decode cX5_openDoor 28 = .ok (.iadd, 1) := by decide +kernel
theorem dX5_openDoor_29 : decode cX5_openDoor 29 = .ok (.sipush (-1001), 3) := by decide +kernel
theorem dX5_openDoor_32 : decode cX5_openDoor 32 = .ok (.iastore, 1) := by decide +kernel
theorem dX5_openDoor_33 : decode cX5_openDoor 33 = .ok (.return_, 1) := by decide +kernel
theorem dX5_closeDoor_0 : decode cX5_closeDoor 0 = .ok (.aload_n 0, 1) := by decide +kernel
theorem dX5_closeDoor_1 : decode cX5_closeDoor 1 = .ok (.iload_n 1, 1) := by decide +kernel
theorem dX5_closeDoor_2 : decode cX5_closeDoor 2 = .ok (.iload_n 2, 1) := by decide +kernel
theorem dX5_closeDoor_3 : decode cX5_closeDoor 3 = .ok (.invokevirtual 47, 3) := by decide +kernel
theorem dX5_closeDoor_6 : decode cX5_closeDoor 6 = .ok (.ifCond .eq 27, 3) := by decide +kernel
theorem dX5_closeDoor_9 : decode cX5_closeDoor 9 = .ok (.aload_n 0, 1) := by decide +kernel
theorem dX5_closeDoor_10 : decode cX5_closeDoor 10 = .ok (.getfield 31, 3) := by decide +kernel
theorem dX5_closeDoor_13 : decode cX5_closeDoor 13 = .ok (.iconst 3, 1) := by decide +kernel
theorem dX5_closeDoor_14 : decode cX5_closeDoor 14 = .ok (.iload_n 1, 1) := by decide +kernel
theorem dX5_closeDoor_15 : decode cX5_closeDoor 15 = .ok (.imul, 1) := by decide +kernel
theorem dX5_closeDoor_16 : decode cX5_closeDoor 16 = .ok (.iload_n 2, 1) := by decide +kernel
theorem dX5_closeDoor_17 : decode cX5_closeDoor 17 = .ok (.iadd, 1) := by decide +kernel
theorem dX5_closeDoor_18 : decode cX5_closeDoor 18 = .ok (.iaload, 1) := by decide +kernel
theorem dX5_closeDoor_19 : decode cX5_closeDoor 19 = .ok (.ifCond .eq 14, 3) := by decide +kernel
theorem dX5_closeDoor_22 : decode cX5_closeDoor 22 = .ok (.aload_n 0, 1) := by decide +kernel
theorem dX5_closeDoor_23 : decode cX5_closeDoor 23 = .ok (.getfield 34, 3) := by decide +kernel
theorem dX5_closeDoor_26 : decode cX5_closeDoor 26 = .ok (.iconst 3, 1) := by decide +kernel
theorem dX5_closeDoor_27 : decode cX5_closeDoor 27 = .ok (.iload_n 1, 1) := by decide +kernel
theorem dX5_closeDoor_28 : decode cX5_closeDoor 28 = .ok (.imul, 1) := by decide +kernel
theorem dX5_closeDoor_29 : decode cX5_closeDoor 29 = .ok (.iload_n 2, 1) := by decide +kernel
theorem dX5_closeDoor_30 : decode cX5_closeDoor 30 = .ok (.iadd, 1) := by decide +kernel
theorem dX5_closeDoor_31 : decode cX5_closeDoor 31 = .ok (.iload_n 3, 1) := by decide +kernel
theorem dX5_closeDoor_32 : decode cX5_closeDoor 32 = .ok (.iastore, 1) := by decide +kernel
theorem dX5_closeDoor_33 : decode cX5_closeDoor 33 = .ok (.return_, 1) := by decide +kernel
theorem dX5_move_0 : decode cX5_move 0 = .ok (.aload_n 0, 1) := by decide +kernel
theorem dX5_move_1 : decode cX5_move 1 = .ok (.getfield 18, 3) := by decide +kernel
theorem dX5_move_4 : decode cX5_move 4 = .ok (.aload_n 0, 1) := by decide +kernel
theorem dX5_move_5 : decode cX5_move 5 = .ok (.getfield 21, 3) := by decide +kernel
theorem dX5_move_8 : decode cX5_move 8 = .ok (.if_icmp .ge 16, 3) := by decide +kernel
theorem dX5_move_11 : decode cX5_move 11 = .ok (.aload_n 0, 1) := by decide +kernel
theorem dX5_move_12 : decode cX5_move 12 = .ok (.dup, 1) := by decide +kernel
theorem dX5_move_13 : decode cX5_move 13 = .ok (.getfield 18, 3) := by decide +kernel
theorem dX5_move_16 : decode cX5_move 16 = .ok (.iconst 1, 1) := by decide +kernel
theorem dX5_move_17 : decode cX5_move 17 = .ok (.iadd, 1) := by decide +kernel
theorem dX5_move_18 : decode cX5_move 18 = .ok (.putfield 18, 3) := by decide +kernel
theorem dX5_move_21 : decode cX5_move 21 = .ok (.goto 24, 3) := by decide +kernel
theorem dX5_move_24 : decode cX5_move 24 = .ok (.aload_n 0, 1) := by decide +kernel
theorem dX5_move_25 : decode cX5_move 25 = .ok (.getfield 18, 3) := by decide +kernel
theorem dX5_move_28 : decode cX5_move 28 = .ok (.aload_n 0, 1) := by decide +kernel
theorem dX5_move_29 : decode cX5_move 29 = .ok (.getfield 21, 3) := by decide +kernel
theorem dX5_move_32 : decode cX5_move 32 = .ok (.if_icmp .le 13, 3) := by decide +kernel
theorem dX5_move_35 : decode cX5_move 35 = .ok (.aload_n 0, 1) := by decide +kernel
theorem dX5_move_36 : decode cX5_move 36 = .ok (.dup, 1) := by decide +kernel
theorem dX5_move_37 : decode cX5_move 37 = .ok (.getfield 18, 3) := by decide +kernel
theorem dX5_move_40 : decode cX5_move 40 = .ok (.iconst 1, 1) := by decide +kernel
theorem dX5_move_41 : decode cX5_move 41 = .ok (.isub, 1) := by decide +kernel
theorem dX5_move_42 : decode cX5_move 42 = .ok (.putfield 18, 3) := by decide +kernel
theorem dX5_move_45 : decode cX5_move 45 = .ok (.aload_n 0, 1) := by decide +kernel
theorem dX5_move_46 : decode cX5_move 46 = .ok (.aload_n 0, 1) := by decide +kernel
theorem dX5_move_47 : decode cX5_move 47 = .ok (.getfield 15, 3) := by decide +kernel
theorem dX5_move_50 : decode cX5_move 50 = .ok (.aload_n 0, 1) := by decide +kernel
theorem dX5_move_51 : decode cX5_move 51 = .ok (.getfield 18, 3) := by decide +kernel
theorem dX5_move_54 : decode cX5_move 54 = .ok (.iadd, 1) := by decide +kernel
theorem dX5_move_55 : decode cX5_move 55 = .ok (.bipush 99, 2) := by decide +kernel
theorem dX5_move_57 : decode cX5_move 57 = .ok (.invokestatic 62, 3) := by decide +kernel
theorem dX5_move_60 : decode cX5_move 60 = .ok (.putfield 15, 3) := by decide +kernel
theorem dX5_move_63 : decode cX5_move 63 = .ok (.return_, 1) := by decide +kernel
theorem dX5_drop_0 : decode cX5_drop 0 = .ok (.aload_n 0, 1) := by decide +kernel
theorem dX5_drop_1 : decode cX5_drop 1 = .ok (.iload_n 1, 1) := by decide +kernel
theorem dX5_drop_2 : decode cX5_drop 2 = .ok (.iload_n 2, 1) := by decide +kernel
theorem dX5_drop_3 : decode cX5_drop 3 = .ok (.invokevirtual 47, 3) := by decide +kernel
theorem dX5_drop_6 : decode cX5_drop 6 = .ok (.ifCond .ne 5, 3) := by decide +kernel
theorem dX5_drop_9 : decode cX5_drop 9 = .ok (.iconst 0, 1) := by decide +kernel
theorem dX5_drop_10 : decode cX5_drop 10 = .ok (.ireturn, 1) := by decide +kernel
theorem dX5_drop_11 : decode cX5_drop 11 = .ok (.aload_n 0, 1) := by decide +kernel
theorem dX5_drop_12 : decode cX5_drop 12 = .ok (.getfield 31, 3) := by decide +kernel
theorem dX5_drop_15 : decode cX5_drop 15 = .ok (.iconst 3, 1) := by decide +kernel
theorem dX5_drop_16 : decode cX5_drop 16 = .ok (.iload_n 1, 1) := by decide +kernel
theorem dX5_drop_17 : decode cX5_drop 17 = .ok (.imul, 1) := by decide +kernel
theorem dX5_drop_18 : decode cX5_drop 18 = .ok (.iload_n 2, 1) := by decide +kernel
theorem dX5_drop_19 : decode cX5_drop 19 = .ok (.iadd, 1) := by decide +kernel
theorem dX5_drop_20 : decode cX5_drop 20 = .ok (.iaload, 1) := by decide +kernel
theorem dX5_drop_21 : decode cX5_drop 21 = .ok (.aload_n 0, 1) := by decide +kernel
theorem dX5_drop_22 : decode cX5_drop 22 = .ok (.getfield 24, 3) := by decide +kernel
theorem dX5_drop_25 : decode cX5_drop 25 = .ok (.iload_n 1, 1) := by decide +kernel
theorem dX5_drop_26 : decode cX5_drop 26 = .ok (.iaload, 1) := by decide +kernel
theorem dX5_drop_27 : decode cX5_drop 27 = .ok (.invokestatic 62, 3) := by decide +kernel
theorem dX5_drop_30 : decode cX5_drop 30 = .ok (.istore_n 3, 1) := by decide +kernel
theorem dX5_drop_31 : decode cX5_drop 31 = .ok (.aload_n 0, 1) := by decide +kernel
theorem dX5_drop_32 : decode cX5_drop 32 = .ok (.getfield 24, 3) := by decide +kernel
theorem dX5_drop_35 : decode cX5_drop 35 = .ok (.iload_n 1, 1) := by decide +kernel
theorem dX5_drop_36 : decode cX5_drop 36 = .ok (.dup2, 1) := by decide +kernel
theorem dX5_drop_37 : decode cX5_drop 37 = .ok (.iaload, 1) := by decide +kernel
theorem dX5_drop_38 : decode cX5_drop 38 = .ok (.iload_n 3, 1) := by decide +kernel
theorem dX5_drop_39 : decode cX5_drop 39 = .ok (.isub, 1) := by decide +kernel
theorem dX5_drop_40 : decode cX5_drop 40 = .ok (.iastore, 1) := by decide +kernel
theorem dX5_drop_41 : decode cX5_drop 41 = .ok (.aload_n 0, 1) := by decide +kernel
theorem dX5_drop_42 : decode cX5_drop 42 = .ok (.getfield 28, 3) := by decide +kernel
theorem dX5_drop_45 : decode cX5_drop 45 = .ok (.iload_n 1, 1) := by decide +kernel
theorem dX5_drop_46 : decode cX5_drop 46 = .ok (.dup2, 1) := by decide +kernel
theorem dX5_drop_47 : decode cX5_drop 47 = .ok (.iaload, 1) := by decide +kernel
theorem dX5_drop_48 : decode cX5_drop 48 = .ok (.iload_n 3, 1) := by decide +kernel
theorem dX5_drop_49 : decode cX5_drop 49 = .ok (.iadd, 1) := by decide +kernel
theorem dX5_drop_50 : decode cX5_drop 50 = .ok (.iastore, 1) := by decide +kernel
theorem dX5_drop_51 : decode cX5_drop 51 = .ok (.iload_n 3, 1) := by decide +kernel
theorem dX5_drop_52 : decode cX5_drop 52 = .ok (.ireturn, 1) := by decide +kernel
theorem dX5_closeFurther_0 : decode cX5_closeFurther 0 = .ok (.iconst 0, 1) := by decide +kernel
theorem dX5_closeFurther_1 : decode cX5_closeFurther 1 = .ok (.istore_n 2, 1) := by decide +kernel
theorem dX5_closeFurther_2 : decode cX5_closeFurther 2 = .ok (.iconst 0, 1) := by decide +kernel
theorem dX5_closeFurther_3 : decode cX5_closeFurther 3 = .ok (.istore_n 3, 1) := by decide +kernel
theorem dX5_closeFurther_4 : decode cX5_closeFurther 4 = .ok (.iload_n 3, 1) := by decide +kernel
theorem dX5_closeFurther_5 : decode cX5_closeFurther 5 = .ok (.bipush 18, 2) := by decide +kernel
theorem dX5_closeFurther_7 : decode cX5_closeFurther 7 = .ok (.if_icmp .ge 97, 3) := by decide +kernel
theorem dX5_closeFurther_10 : decode cX5_closeFurther 10 = .ok (.aload_n 0, 1) := by decide +kernel
theorem dX5_closeFurther_11 : decode cX5_closeFurther 11 = .ok (.getfield 34, 3) := by decide +kernel
theorem dX5_closeFurther_14 : decode cX5_closeFurther 14 = .ok (.iload_n 3, 1) := by decide +kernel
theorem dX5_closeFurther_15 : decode cX5_closeFurther 15 = .ok (.iaload, 1) := by decide +kernel
theorem dX5_closeFurther_16 : decode cX5_closeFurther 16 = .ok (.ifCond .le 16, 3) := by decide +kernel
theorem dX5_closeFurther_19 : decode cX5_closeFurther 19 = .ok (.aload_n 0, 1) := by decide +kernel
theorem dX5_closeFurther_20 : decode cX5_closeFurther 20 = .ok (.getfield 34, 3) := by decide +kernel
theorem dX5_closeFurther_23 : decode cX5_closeFurther 23 = .ok (.iload_n 3, 1) := by decide +kernel
theorem dX5_closeFurther_24 : decode cX5_closeFurther 24 = .ok (.dup2, 1) := by decide +kernel
theorem dX5_closeFurther_25 : decode cX5_closeFurther 25 = .ok (.iaload, 1) := by decide +kernel
theorem dX5_closeFurther_26 : decode cX5_closeFurther 26 = .ok (.iconst 1, 1) := by decide +kernel
theorem dX5_closeFurther_27 : decode cX5_closeFurther 27 = .ok (.isub, 1) := by decide +kernel
theorem dX5_closeFurther_28 : decode cX5_closeFurther 28 = .ok (.iastore, 1) := by decide +kernel
theorem dX5_closeFurther_29 : decode cX5_closeFurther 29 = .ok (.goto 69, 3) := by decide +kernel
theorem dX5_closeFurther_32 : decode cX5_closeFurther 32 = .ok (.aload_n 0, 1) := by decide +kernel
theorem dX5_closeFurther_33 : decode cX5_closeFurther 33 = .ok (.getfield 34, 3) := by decide +kernel
theorem dX5_closeFurther_36 : decode cX5_closeFurther 36 = .ok (.iload_n 3, 1) := by decide +kernel
theorem dX5_closeFurther_37 : decode cX5_closeFurther 37 = .ok (.iaload, 1) := by decide +kernel
theorem dX5_closeFurther_38 : decode cX5_closeFurther 38 = .ok (.ifCond .ne 60, 3) := by decide +kernel
theorem dX5_closeFurther_41 : decode cX5_closeFurther 41 = .ok (.aload_n 0, 1) := by decide +kernel
theorem dX5_closeFurther_42 : decode cX5_closeFurther 42 = .ok (.getfield 24, 3) := by decide +kernel
theorem dX5_closeFurther_45 : decode cX5_closeFurther 45 = .ok (.iload_n 3, 1) := by decide +kernel
theorem dX5_closeFurther_46 : decode cX5_closeFurther 46 = .ok (.iconst 3, 1) := by decide +kernel
theorem dX5_closeFurther_47 : decode cX5_closeFurther 47 = .ok (.idiv, 1) := by decide +kernel
theorem dX5_closeFurther_48 : decode cX5_closeFurther 48 = .ok (.iaload, 1) := by decide +kernel
theorem dX5_closeFurther_49 : decode cX5_closeFurther 49 = .ok (.iload_n 1, 1) := by decide +kernel
theorem dX5_closeFurther_50 : decode cX5_closeFurther 50 = .ok (.if_icmp .le 7, 3) := by decide +kernel
theorem dX5_closeFurther_53 : decode cX5_closeFurther 53 = .ok (.iconst 1, 1) := by decide +kernel
theorem dX5_closeFurther_54 : decode cX5_closeFurther 54 = .ok (.goto 4, 3) := by decide +kernel
theorem dX5_closeFurther_57 : decode cX5_closeFurther 57 = .ok (.iconst 0, 1) := by decide +kernel
theorem dX5_closeFurther_58 : decode cX5_closeFurther 58 = .ok (.istore 4, 2) := by decide +kernel
theorem dX5_closeFurther_60 : decode cX5_closeFurther 60 = .ok (.aload_n 0, 1) := by decide +kernel
theorem dX5_closeFurther_61 : decode cX5_closeFurther 61 = .ok (.getfield 31, 3) := by decide +kernel
theorem dX5_closeFurther_64 : decode cX5_closeFurther 64 = .ok (.iload_n 3, 1) := by decide +kernel
theorem dX5_closeFurther_65 : decode cX5_closeFurther 65 = .ok (.iload 4, 2) := by decide +kernel
theorem dX5_closeFurther_67 : decode cX5_closeFurther 67 = .ok (.ifCond .eq 7, 3) := by decide +kernel
theorem dX5_closeFurther_70 : decode cX5_closeFurther 70 = .ok (.iconst 1, 1) := by decide +kernel
theorem dX5_closeFurther_71 : decode cX5_closeFurther 71 = .ok (.goto 4, 3) := by decide +kernel
theorem dX5_closeFurther_74 : decode cX5_closeFurther 74 = .ok (.iconst 0, 1) := by decide +kernel
theorem dX5_closeFurther_75 : decode cX5_closeFurther 75 = .ok (.iastore, 1) := by decide +kernel
theorem dX5_closeFurther_76 : decode cX5_closeFurther 76 = .ok (.aload_n 0, 1) := by decide +kernel
theorem dX5_closeFurther_77 : decode cX5_closeFurther 77 = .ok (.getfield 34, 3) := by decide +kernel
theorem dX5_closeFurther_80 : decode cX5_closeFurther 80 = .ok (.iload_n 3, 1) := by decide +kernel
theorem dX5_closeFurther_81 : decode cX5_closeFurther 81 = .ok (.sipush (-1001), 3) := by decide +kernel
theorem dX5_closeFurther_84 : decode cX5_closeFurther 84 = .ok (.iastore, 1) := by decide +kernel
end
section
theorem dX5_closeFurther_85 : decode cX5_closeFurther 85 = .ok (.iload_n 2, 1) := by decide +kernel
theorem dX5_closeFurther_86 : decode cX5_closeFurther 86 = .ok (.iload 4, 2) := by decide +kernel
theorem dX5_closeFurther_88 : decode cX5_closeFurther 88 = .ok (.ifCond .eq 7, 3) := by decide +kernel
theorem dX5_closeFurther_91 : decode cX5_closeFurther 91 = .ok (.iconst 1, 1) := by decide +kernel
theorem dX5_closeFurther_92 : decode cX5_closeFurther 92 = .ok (.goto 4, 3) := by decide +kernel
theorem dX5_closeFurther_95 : decode cX5_closeFurther 95 = .ok (.iconst 0, 1) := by decide +kernel
theorem dX5_closeFurther_96 : decode cX5_closeFurther 96 = .ok (.iadd, 1) := by decide +kernel
theorem dX5_closeFurther_97 : decode cX5_closeFurther 97 = .ok (.istore_n 2, 1) := by decide +kernel
theorem dX5_closeFurther_98 : decode cX5_closeFurther 98 = .ok (.iinc 3 1, 3) := by decide +kernel
theorem dX5_closeFurther_101 : decode cX5_closeFurther 101 = .ok (.goto (-97), 3) := by decide +kernel
theorem dX5_closeFurther_104 : decode cX5_closeFurther 104 = .ok (.iload_n 2, 1) := by decide +kernel
theorem dX5_closeFurther_105 : decode cX5_closeFurther 105 = .ok (.ireturn, 1) := by decide +kernel
theorem dX6_init_0 : decode cX6_init 0 = .ok (.aload_n 0, 1) := by decide +kernel
theorem dX6_init_1 : decode cX6_init 1 = .ok (.invokespecial 1, 3) := by decide +kernel
theorem dX6_init_4 : decode cX6_init 4 = .ok (.aload_n 0, 1) := by decide +kernel
theorem dX6_init_5 : decode cX6_init 5 = .ok (.new 7, 3) := by decide +kernel
theorem dX6_init_8 : decode cX6_init 8 = .ok (.dup, 1) := by decide +kernel
theorem dX6_init_9 : decode cX6_init 9 = .ok (.invokespecial 9, 3) := by decide +kernel
theorem dX6_init_12 : decode cX6_init 12 = .ok (.putfield 10, 3) := by decide +kernel
theorem dX6_init_15 : decode cX6_init 15 = .ok (.aload_n 0, 1) := by decide +kernel
theorem dX6_init_16 : decode cX6_init 16 = .ok (.new 16, 3) := by decide +kernel
theorem dX6_init_19 : decode cX6_init 19 = .ok (.dup, 1) := by decide +kernel
theorem dX6_init_20 : decode cX6_init 20 = .ok (.invokespecial 18, 3) := by decide +kernel
theorem dX6_init_23 : decode cX6_init 23 = .ok (.putfield 19, 3) := by decide +kernel
theorem dX6_init_26 : decode cX6_init 26 = .ok (.aload_n 0, 1) := by decide +kernel
theorem dX6_init_27 : decode cX6_init 27 = .ok (.new 16, 3) := by decide +kernel
theorem dX6_init_30 : decode cX6_init 30 = .ok (.dup, 1) := by decide +kernel
theorem dX6_init_31 : decode cX6_init 31 = .ok (.invokespecial 18, 3) := by decide +kernel
theorem dX6_init_34 : decode cX6_init 34 = .ok (.putfield 23, 3) := by decide +kernel
theorem dX6_init_37 : decode cX6_init 37 = .ok (.aload_n 0, 1) := by decide +kernel
theorem dX6_init_38 : decode cX6_init 38 = .ok (.new 26, 3) := by decide +kernel
theorem dX6_init_41 : decode cX6_init 41 = .ok (.dup, 1) := by decide +kernel
theorem dX6_init_42 : decode cX6_init 42 = .ok (.invokespecial 28, 3) := by decide +kernel
theorem dX6_init_45 : decode cX6_init 45 = .ok (.putfield 29, 3) := by decide +kernel
theorem dX6_init_48 : decode cX6_init 48 = .ok (.return_, 1) := by decide +kernel
theorem dX6_type_0 : decode cX6_type 0 = .ok (.iload_n 1, 1) := by decide +kernel
theorem dX6_type_1 : decode cX6_type 1 = .ok (.iconst 0, 1) := by decide +kernel
theorem dX6_type_2 : decode cX6_type 2 = .ok (.bipush 127, 2) := by decide +kernel
theorem dX6_type_4 : decode cX6_type 4 = .ok (.invokestatic 33, 3) := by decide +kernel
theorem dX6_type_7 : decode cX6_type 7 = .ok (.ifCond .ne 7, 3) := by decide +kernel
theorem dX6_type_10 : decode cX6_type 10 = .ok (.sipush (-1002), 3) := by decide +kernel
theorem dX6_type_13 : decode cX6_type 13 = .ok (.ireturn, 1) := by decide +kernel
theorem dX6_type_14 : decode cX6_type 14 = .ok (.aload_n 0, 1) := by decide +kernel
theorem dX6_type_15 : decode cX6_type 15 = .ok (.getfield 10, 3) := by decide +kernel
theorem dX6_type_18 : decode cX6_type 18 = .ok (.iload_n 1, 1) := by decide +kernel
theorem dX6_type_19 : decode cX6_type 19 = .ok (.invokevirtual 37, 3) := by decide +kernel
theorem dX6_type_22 : decode cX6_type 22 = .ok (.ifCond .eq 13, 3) := by decide +kernel
theorem dX6_type_25 : decode cX6_type 25 = .ok (.aload_n 0, 1) := by decide +kernel
theorem dX6_type_26 : decode cX6_type 26 = .ok (.getfield 10, 3) := by decide +kernel
theorem dX6_type_29 : decode cX6_type 29 = .ok (.getfield 41, 3) := by decide +kernel
theorem dX6_type_32 : decode cX6_type 32 = .ok (.goto 6, 3) := by decide +kernel
theorem dX6_type_35 : decode cX6_type 35 = .ok (.sipush (-1004), 3) := by decide +kernel
theorem dX6_type_38 : decode cX6_type 38 = .ok (.ireturn, 1) := by decide +kernel
theorem dX6_clearText_0 : decode cX6_clearText 0 = .ok (.aload_n 0, 1) := by decide +kernel
theorem dX6_clearText_1 : decode cX6_clearText 1 = .ok (.getfield 10, 3) := by decide +kernel
theorem dX6_clearText_4 : decode cX6_clearText 4 = .ok (.getfield 41, 3) := by decide +kernel
theorem dX6_clearText_7 : decode cX6_clearText 7 = .ok (.istore_n 1, 1) := by decide +kernel
theorem dX6_clearText_8 : decode cX6_clearText 8 = .ok (.aload_n 0, 1) := by decide +kernel
theorem dX6_clearText_9 : decode cX6_clearText 9 = .ok (.getfield 10, 3) := by decide +kernel
theorem dX6_clearText_12 : decode cX6_clearText 12 = .ok (.iconst 0, 1) := by decide +kernel
theorem dX6_clearText_13 : decode cX6_clearText 13 = .ok (.putfield 41, 3) := by decide +kernel
theorem dX6_clearText_16 : decode cX6_clearText 16 = .ok (.iload_n 1, 1) := by decide +kernel
theorem dX6_clearText_17 : decode cX6_clearText 17 = .ok (.ireturn, 1) := by decide +kernel
theorem dX6_fault_0 : decode cX6_fault 0 = .ok (.aload_n 0, 1) := by decide +kernel
theorem dX6_fault_1 : decode cX6_fault 1 = .ok (.getfield 10, 3) := by decide +kernel
theorem dX6_fault_4 : decode cX6_fault 4 = .ok (.invokevirtual 45, 3) := by decide +kernel
theorem dX6_fault_7 : decode cX6_fault 7 = .ok (.aload_n 0, 1) := by decide +kernel
theorem dX6_fault_8 : decode cX6_fault 8 = .ok (.getfield 10, 3) := by decide +kernel
theorem dX6_fault_11 : decode cX6_fault 11 = .ok (.getfield 48, 3) := by decide +kernel
theorem dX6_fault_14 : decode cX6_fault 14 = .ok (.ireturn, 1) := by decide +kernel
theorem dX6_set_0 : decode cX6_set 0 = .ok (.iload_n 1, 1) := by decide +kernel
theorem dX6_set_1 : decode cX6_set 1 = .ok (.iconst 0, 1) := by decide +kernel
theorem dX6_set_2 : decode cX6_set 2 = .ok (.iconst 4, 1) := by decide +kernel
theorem dX6_set_3 : decode cX6_set 3 = .ok (.invokestatic 33, 3) := by decide +kernel
theorem dX6_set_6 : decode cX6_set 6 = .ok (.ifCond .eq 20, 3) := by decide +kernel
theorem dX6_set_9 : decode cX6_set 9 = .ok (.iload_n 2, 1) := by decide +kernel
theorem dX6_set_10 : decode cX6_set 10 = .ok (.getstatic 51, 3) := by decide +kernel
theorem dX6_set_13 : decode cX6_set 13 = .ok (.iload_n 1, 1) := by decide +kernel
theorem dX6_set_14 : decode cX6_set 14 = .ok (.iaload, 1) := by decide +kernel
theorem dX6_set_15 : decode cX6_set 15 = .ok (.getstatic 55, 3) := by decide +kernel
theorem dX6_set_18 : decode cX6_set 18 = .ok (.iload_n 1, 1) := by decide +kernel
theorem dX6_set_19 : decode cX6_set 19 = .ok (.iaload, 1) := by decide +kernel
theorem dX6_set_20 : decode cX6_set 20 = .ok (.invokestatic 33, 3) := by decide +kernel
theorem dX6_set_23 : decode cX6_set 23 = .ok (.ifCond .ne 7, 3) := by decide +kernel
theorem dX6_set_26 : decode cX6_set 26 = .ok (.sipush (-1002), 3) := by decide +kernel
theorem dX6_set_29 : decode cX6_set 29 = .ok (.ireturn, 1) := by decide +kernel
theorem dX6_set_30 : decode cX6_set 30 = .ok (.aload_n 0, 1) := by decide +kernel
theorem dX6_set_31 : decode cX6_set 31 = .ok (.getfield 29, 3) := by decide +kernel
theorem dX6_set_34 : decode cX6_set 34 = .ok (.aload_n 0, 1) := by decide +kernel
theorem dX6_set_35 : decode cX6_set 35 = .ok (.getfield 19, 3) := by decide +kernel
theorem dX6_set_38 : decode cX6_set 38 = .ok (.invokevirtual 58, 3) := by decide +kernel
theorem dX6_set_41 : decode cX6_set 41 = .ok (.aload_n 0, 1) := by decide +kernel
theorem dX6_set_42 : decode cX6_set 42 = .ok (.getfield 19, 3) := by decide +kernel
theorem dX6_set_45 : decode cX6_set 45 = .ok (.getfield 62, 3) := by decide +kernel
theorem dX6_set_48 : decode cX6_set 48 = .ok (.iload_n 1, 1) := by decide +kernel
theorem dX6_set_49 : decode cX6_set 49 = .ok (.iaload, 1) := by decide +kernel
theorem dX6_set_50 : decode cX6_set 50 = .ok (.istore_n 3, 1) := by decide +kernel
theorem dX6_set_51 : decode cX6_set 51 = .ok (.aload_n 0, 1) := by decide +kernel
theorem dX6_set_52 : decode cX6_set 52 = .ok (.getfield 19, 3) := by decide +kernel
theorem dX6_set_55 : decode cX6_set 55 = .ok (.getfield 62, 3) := by decide +kernel
theorem dX6_set_58 : decode cX6_set 58 = .ok (.iload_n 1, 1) := by decide +kernel
theorem dX6_set_59 : decode cX6_set 59 = .ok (.iload_n 2, 1) := by decide +kernel
theorem dX6_set_60 : decode cX6_set 60 = .ok (.iastore, 1) := by decide +kernel
theorem dX6_set_61 : decode cX6_set 61 = .ok (.iload_n 3, 1) := by decide +kernel
theorem dX6_set_62 : decode cX6_set 62 = .ok (.ireturn, 1) := by decide +kernel
theorem dX6_setTrain_0 : decode cX6_setTrain 0 = .ok (.iload_n 1, 1) := by decide +kernel
theorem dX6_setTrain_1 : decode cX6_setTrain 1 = .ok (.iconst 1, 1) := by decide +kernel
theorem dX6_setTrain_2 : decode cX6_setTrain 2 = .ok (.bipush 6, 2) := by decide +kernel
theorem dX6_setTrain_4 : decode cX6_setTrain 4 = .ok (.invokestatic 33, 3) := by decide +kernel
theorem dX6_setTrain_7 : decode cX6_setTrain 7 = .ok (.ifCond .ne 7, 3) := by decide +kernel
theorem dX6_setTrain_10 : decode cX6_setTrain 10 = .ok (.sipush (-1002), 3) := by decide +kernel
theorem dX6_setTrain_13 : decode cX6_setTrain 13 = .ok (.ireturn, 1) := by decide +kernel
theorem dX6_setTrain_14 : decode cX6_setTrain 14 = .ok (.aload_n 0, 1) := by decide +kernel
theorem dX6_setTrain_15 : decode cX6_setTrain 15 = .ok (.getfield 29, 3) := by decide +kernel
theorem dX6_setTrain_18 : decode cX6_setTrain 18 = .ok (.aload_n 0, 1) := by decide +kernel
theorem dX6_setTrain_19 : decode cX6_setTrain 19 = .ok (.getfield 19, 3) := by decide +kernel
theorem dX6_setTrain_22 : decode cX6_setTrain 22 = .ok (.invokevirtual 58, 3) := by decide +kernel
theorem dX6_setTrain_25 : decode cX6_setTrain 25 = .ok (.aload_n 0, 1) := by decide +kernel
theorem dX6_setTrain_26 : decode cX6_setTrain 26 = .ok (.getfield 19, 3) := by decide +kernel
theorem dX6_setTrain_29 : decode cX6_setTrain 29 = .ok (.getfield 65, 3) := by decide +kernel
theorem dX6_setTrain_32 : decode cX6_setTrain 32 = .ok (.invokevirtual 69, 3) := by decide +kernel
theorem dX6_setTrain_35 : decode cX6_setTrain 35 = .ok (.istore_n 2, 1) := by decide +kernel
theorem dX6_setTrain_36 : decode cX6_setTrain 36 = .ok (.aload_n 0, 1) := by decide +kernel
theorem dX6_setTrain_37 : decode cX6_setTrain 37 = .ok (.getfield 19, 3) := by decide +kernel
theorem dX6_setTrain_40 : decode cX6_setTrain 40 = .ok (.getfield 65, 3) := by decide +kernel
theorem dX6_setTrain_43 : decode cX6_setTrain 43 = .ok (.iload_n 1, 1) := by decide +kernel
theorem dX6_setTrain_44 : decode cX6_setTrain 44 = .ok (.invokevirtual 75, 3) := by decide +kernel
theorem dX6_setTrain_47 : decode cX6_setTrain 47 = .ok (.aload_n 0, 1) := by decide +kernel
theorem dX6_setTrain_48 : decode cX6_setTrain 48 = .ok (.getfield 19, 3) := by decide +kernel
theorem dX6_setTrain_51 : decode cX6_setTrain 51 = .ok (.dup, 1) := by decide +kernel
theorem dX6_setTrain_52 : decode cX6_setTrain 52 = .ok (.getfield 79, 3) := by decide +kernel
theorem dX6_setTrain_55 : decode cX6_setTrain 55 = .ok (.iload_n 2, 1) := by decide +kernel
theorem dX6_setTrain_56 : decode cX6_setTrain 56 = .ok (.iadd, 1) := by decide +kernel
theorem dX6_setTrain_57 : decode cX6_setTrain 57 = .ok (.putfield 79, 3) := by decide +kernel
theorem dX6_setTrain_60 : decode cX6_setTrain 60 = .ok (.iload_n 2, 1) := by decide +kernel
theorem dX6_setTrain_61 : decode cX6_setTrain 61 = .ok (.ireturn, 1) := by decide +kernel
theorem dX6_load_0 : decode cX6_load 0 = .ok (.aload_n 0, 1) := by decide +kernel
theorem dX6_load_1 : decode cX6_load 1 = .ok (.getfield 19, 3) := by decide +kernel
theorem dX6_load_4 : decode cX6_load 4 = .ok (.getfield 65, 3) := by decide +kernel
theorem dX6_load_7 : decode cX6_load 7 = .ok (.iload_n 1, 1) := by decide +kernel
theorem dX6_load_8 : decode cX6_load 8 = .ok (.invokevirtual 82, 3) := by decide +kernel
theorem dX6_load_11 : decode cX6_load 11 = .ok (.ifCond .eq 14, 3) := by decide +kernel
theorem dX6_load_14 : decode cX6_load 14 = .ok (.iload_n 2, 1) := by decide +kernel
theorem dX6_load_15 : decode cX6_load 15 = .ok (.iconst 1, 1) := by decide +kernel
theorem dX6_load_16 : decode cX6_load 16 = .ok (.sipush 200, 3) := by decide +kernel
theorem dX6_load_19 : decode cX6_load 19 = .ok (.invokestatic 33, 3) := by decide +kernel
theorem dX6_load_22 : decode cX6_load 22 = .ok (.ifCond .ne 7, 3) := by decide +kernel
theorem dX6_load_25 : decode cX6_load 25 = .ok (.sipush (-1002), 3) := by decide +kernel
theorem dX6_load_28 : decode cX6_load 28 = .ok (.ireturn, 1) := by decide +kernel
theorem dX6_load_29 : decode cX6_load 29 = .ok (.aload_n 0, 1) := by decide +kernel
theorem dX6_load_30 : decode cX6_load 30 = .ok (.getfield 19, 3) := by decide +kernel
theorem dX6_load_33 : decode cX6_load 33 = .ok (.getfield 65, 3) := by decide +kernel
theorem dX6_load_36 : decode cX6_load 36 = .ok (.getfield 85, 3) := by decide +kernel
theorem dX6_load_39 : decode cX6_load 39 = .ok (.ifCond .eq 7, 3) := by decide +kernel
theorem dX6_load_42 : decode cX6_load 42 = .ok (.sipush (-1003), 3) := by decide +kernel
theorem dX6_load_45 : decode cX6_load 45 = .ok (.ireturn, 1) := by decide +kernel
theorem dX6_load_46 : decode cX6_load 46 = .ok (.aload_n 0, 1) := by decide +kernel
theorem dX6_load_47 : decode cX6_load 47 = .ok (.getfield 19, 3) := by decide +kernel
theorem dX6_load_50 : decode cX6_load 50 = .ok (.getfield 65, 3) := by decide +kernel
theorem dX6_load_53 : decode cX6_load 53 = .ok (.getfield 88, 3) := by decide +kernel
theorem dX6_load_56 : decode cX6_load 56 = .ok (.iload_n 1, 1) := by decide +kernel
theorem dX6_load_57 : decode cX6_load 57 = .ok (.iaload, 1) := by decide +kernel
theorem dX6_load_58 : decode cX6_load 58 = .ok (.iload_n 2, 1) := by decide +kernel
theorem dX6_load_59 : decode cX6_load 59 = .ok (.iadd, 1) := by decide +kernel
theorem dX6_load_60 : decode cX6_load 60 = .ok (.sipush 200, 3) := by decide +kernel
theorem dX6_load_63 : decode cX6_load 63 = .ok (.if_icmp .le 7, 3) := by decide +kernel
theorem dX6_load_66 : decode cX6_load 66 = .ok (.sipush (-1004), 3) := by decide +kernel
theorem dX6_load_69 : decode cX6_load 69 = .ok (.ireturn, 1) := by decide +kernel
theorem dX6_load_70 : decode cX6_load 70 = .ok (.aload_n 0, 1) := by decide +kernel
theorem dX6_load_71 : decode cX6_load 71 = .ok (.getfield 29, 3) := by decide +kernel
theorem dX6_load_74 : decode cX6_load 74 = .ok (.aload_n 0, 1) := by decide +kernel
theorem dX6_load_75 : decode cX6_load 75 = .ok (.getfield 19, 3) := by decide +kernel
theorem dX6_load_78 : decode cX6_load 78 = .ok (.invokevirtual 58, 3) := by decide +kernel
theorem dX6_load_81 : decode cX6_load 81 = .ok (.aload_n 0, 1) := by decide +kernel
theorem dX6_load_82 : decode cX6_load 82 = .ok (.getfield 19, 3) := by decide +kernel
theorem dX6_load_85 : decode cX6_load 85 = .ok (.getfield 65, 3) := by decide +kernel
theorem dX6_load_88 : decode cX6_load 88 = .ok (.getfield 88, 3) := by decide +kernel
theorem dX6_load_91 : decode cX6_load 91 = .ok (.iload_n 1, 1) := by decide +kernel
theorem dX6_load_92 : decode cX6_load 92 = .ok (.dup2, 1) := by decide +kernel
theorem dX6_load_93 : decode cX6_load 93 = .ok (.iaload, 1) := by decide +kernel
theorem dX6_load_94 : decode cX6_load 94 = .ok (.iload_n 2, 1) := by decide +kernel
theorem dX6_load_95 : decode cX6_load 95 = .ok (.iadd, 1) := by decide +kernel
theorem dX6_load_96 : decode cX6_load 96 = .ok (.iastore, 1) := by decide +kernel
theorem dX6_load_97 : decode cX6_load 97 = .ok (.aload_n 0, 1) := by decide +kernel
theorem dX6_load_98 : decode cX6_load 98 = .ok (.getfield 19, 3) := by decide +kernel
theorem dX6_load_101 : decode cX6_load 101 = .ok (.dup, 1) := by decide +kernel
theorem dX6_load_102 : decode cX6_load 102 = .ok (.getfield 91, 3) := by decide +kernel
theorem dX6_load_105 : decode cX6_load 105 = .ok (.iload_n 2, 1) := by decide +kernel
theorem dX6_load_106 : decode cX6_load 106 = .ok (.iadd, 1) := by decide +kernel
theorem dX6_load_107 : decode cX6_load 107 = .ok (.putfield 91, 3) := by decide +kernel
theorem dX6_load_110 : decode cX6_load 110 = .ok (.aload_n 0, 1) := by decide +kernel
theorem dX6_load_111 : decode cX6_load 111 = .ok (.getfield 19, 3) := by decide +kernel
theorem dX6_load_114 : decode cX6_load 114 = .ok (.getfield 65, 3) := by decide +kernel
theorem dX6_load_117 : decode cX6_load 117 = .ok (.getfield 88, 3) := by decide +kernel
theorem dX6_load_120 : decode cX6_load 120 = .ok (.iload_n 1, 1) := by decide +kernel
theorem dX6_load_121 : decode cX6_load 121 = .ok (.iaload, 1) := by decide +kernel
theorem dX6_load_122 : decode cX6_load 122 = .ok (.ireturn, 1) := by decide +kernel
theorem dX6_door_0 : decode cX6_door 0 = .ok (.aload_n 0, 1) := by decide +kernel
theorem dX6_door_1 : decode cX6_door 1 = .ok (.getfield 19, 3) := by decide +kernel
theorem dX6_door_4 : decode cX6_door 4 = .ok (.getfield 65, 3) := by decide +kernel
theorem dX6_door_7 : decode cX6_door 7 = .ok (.iload_n 1, 1) := by decide +kernel
theorem dX6_door_8 : decode cX6_door 8 = .ok (.iload_n 2, 1) := by decide +kernel
theorem dX6_door_9 : decode cX6_door 9 = .ok (.invokevirtual 94, 3) := by decide +kernel
theorem dX6_door_12 : decode cX6_door 12 = .ok (.ifCond .eq 12, 3) := by decide +kernel
theorem dX6_door_15 : decode cX6_door 15 = .ok (.iload_n 3, 1) := by decide +kernel
theorem dX6_door_16 : decode cX6_door 16 = .ok (.iconst 0, 1) := by decide +kernel
theorem dX6_door_17 : decode cX6_door 17 = .ok (.iconst 3, 1) := by decide +kernel
theorem dX6_door_18 : decode cX6_door 18 = .ok (.invokestatic 33, 3) := by decide +kernel
theorem dX6_door_21 : decode cX6_door 21 = .ok (.ifCond .ne 7, 3) := by decide +kernel
theorem dX6_door_24 : decode cX6_door 24 = .ok (.sipush (-1002), 3) := by decide +kernel
theorem dX6_door_27 : decode cX6_door 27 = .ok (.ireturn, 1) := by decide +kernel
theorem dX6_door_28 : decode cX6_door 28 = .ok (.aload_n 0, 1) := by decide +kernel
theorem dX6_door_29 : decode cX6_door 29 = .ok (.getfield 29, 3) := by decide +kernel
theorem dX6_door_32 : decode cX6_door 32 = .ok (.aload_n 0, 1) := by decide +kernel
theorem dX6_door_33 : decode cX6_door 33 = .ok (.getfield 19, 3) := by decide +kernel
theorem dX6_door_36 : decode cX6_door 36 = .ok (.invokevirtual 58, 3) := by decide +kernel
theorem dX6_door_39 : decode cX6_door 39 = .ok (.aload_n 0, 1) := by decide +kernel
theorem dX6_door_40 : decode cX6_door 40 = .ok (.getfield 19, 3) := by decide +kernel
theorem dX6_door_43 : decode cX6_door 43 = .ok (.getfield 65, 3) := by decide +kernel
theorem dX6_door_46 : decode cX6_door 46 = .ok (.iload_n 1, 1) := by decide +kernel
theorem dX6_door_47 : decode cX6_door 47 = .ok (.iload_n 2, 1) := by decide +kernel
theorem dX6_door_48 : decode cX6_door 48 = .ok (.invokevirtual 98, 3) := by decide +kernel
theorem dX6_door_51 : decode cX6_door 51 = .ok (.istore 4, 2) := by decide +kernel
theorem dX6_door_53 : decode cX6_door 53 = .ok (.iload_n 3, 1) := by decide +kernel
theorem dX6_door_54 : decode cX6_door 54 = .ok (.ifCond .ne 27, 3) := by decide +kernel
theorem dX6_door_57 : decode cX6_door 57 = .ok (.aload_n 0, 1) := by decide +kernel
theorem dX6_door_58 : decode cX6_door 58 = .ok (.getfield 19, 3) := by decide +kernel
theorem dX6_door_61 : decode cX6_door 61 = .ok (.getfield 65, 3) := by decide +kernel
theorem dX6_door_64 : decode cX6_door 64 = .ok (.iload_n 1, 1) := by decide +kernel
theorem dX6_door_65 : decode cX6_door 65 = .ok (.iload_n 2, 1) := by decide +kernel
theorem dX6_door_66 : decode cX6_door 66 = .ok (.aload_n 0, 1) := by decide +kernel
theorem dX6_door_67 : decode cX6_door 67 = .ok (.getfield 19, 3) := by decide +kernel
theorem dX6_door_70 : decode cX6_door 70 = .ok (.getfield 62, 3) := by decide +kernel
theorem dX6_door_73 : decode cX6_door 73 = .ok (.iconst 2, 1) := by decide +kernel
theorem dX6_door_74 : decode cX6_door 74 = .ok (.iaload, 1) := by decide +kernel
theorem dX6_door_75 : decode cX6_door 75 = .ok (.invokevirtual 102, 3) := by decide +kernel
theorem dX6_door_78 : decode cX6_door 78 = .ok (.goto 16, 3) := by decide +kernel
theorem dX6_door_81 : decode cX6_door 81 = .ok (.aload_n 0, 1) := by decide +kernel
theorem dX6_door_82 : decode cX6_door 82 = .ok (.getfield 19, 3) := by decide +kernel
theorem dX6_door_85 : decode cX6_door 85 = .ok (.getfield 65, 3) := by decide +kernel
theorem dX6_door_88 : decode cX6_door 88 = .ok (.iload_n 1, 1) := by decide +kernel
theorem dX6_door_89 : decode cX6_door 89 = .ok (.iload_n 2, 1) := by decide +kernel
theorem dX6_door_90 : decode cX6_door 90 = .ok (.iload_n 3, 1) := by decide +kernel
theorem dX6_door_91 : decode cX6_door 91 = .ok (.invokevirtual 106, 3) := by decide +kernel
theorem dX6_door_94 : decode cX6_door 94 = .ok (.iload 4, 2) := by decide +kernel
theorem dX6_door_96 : decode cX6_door 96 = .ok (.ireturn, 1) := by decide +kernel
theorem dX6_wish_0 : decode cX6_wish 0 = .ok (.iload_n 1, 1) := by decide +kernel
theorem dX6_wish_1 : decode cX6_wish 1 = .ok (.iconst 0, 1) := by decide +kernel
theorem dX6_wish_2 : decode cX6_wish 2 = .ok (.iconst 3, 1) := by decide +kernel
theorem dX6_wish_3 : decode cX6_wish 3 = .ok (.invokestatic 33, 3) := by decide +kernel
theorem dX6_wish_6 : decode cX6_wish 6 = .ok (.ifCond .ne 7, 3) := by decide +kernel
theorem dX6_wish_9 : decode cX6_wish 9 = .ok (.sipush (-1002), 3) := by decide +kernel
theorem dX6_wish_12 : decode cX6_wish 12 = .ok (.ireturn, 1) := by decide +kernel
theorem dX6_wish_13 : decode cX6_wish 13 = .ok (.aload_n 0, 1) := by decide +kernel
theorem dX6_wish_14 : decode cX6_wish 14 = .ok (.getfield 29, 3) := by decide +kernel
theorem dX6_wish_17 : decode cX6_wish 17 = .ok (.aload_n 0, 1) := by decide +kernel
theorem dX6_wish_18 : decode cX6_wish 18 = .ok (.getfield 19, 3) := by decide +kernel
theorem dX6_wish_21 : decode cX6_wish 21 = .ok (.invokevirtual 58, 3) := by decide +kernel
theorem dX6_wish_24 : decode cX6_wish 24 = .ok (.aload_n 0, 1) := by decide +kernel
theorem dX6_wish_25 : decode cX6_wish 25 = .ok (.getfield 19, 3) := by decide +kernel
theorem dX6_wish_28 : decode cX6_wish 28 = .ok (.getfield 65, 3) := by decide +kernel
theorem dX6_wish_31 : decode cX6_wish 31 = .ok (.getfield 109, 3) := by decide +kernel
theorem dX6_wish_34 : decode cX6_wish 34 = .ok (.istore_n 2, 1) := by decide +kernel
theorem dX6_wish_35 : decode cX6_wish 35 = .ok (.aload_n 0, 1) := by decide +kernel
theorem dX6_wish_36 : decode cX6_wish 36 = .ok (.getfield 19, 3) := by decide +kernel
theorem dX6_wish_39 : decode cX6_wish 39 = .ok (.getfield 65, 3) := by decide +kernel
theorem dX6_wish_42 : decode cX6_wish 42 = .ok (.iload_n 1, 1) := by decide +kernel
theorem dX6_wish_43 : decode cX6_wish 43 = .ok (.putfield 109, 3) := by decide +kernel
theorem dX6_wish_46 : decode cX6_wish 46 = .ok (.iload_n 2, 1) := by decide +kernel
theorem dX6_wish_47 : decode cX6_wish 47 = .ok (.ireturn, 1) := by decide +kernel
theorem dX6_order_0 : decode cX6_order 0 = .ok (.aload_n 0, 1) := by decide +kernel
theorem dX6_order_1 : decode cX6_order 1 = .ok (.getfield 10, 3) := by decide +kernel
theorem dX6_order_4 : decode cX6_order 4 = .ok (.invokevirtual 45, 3) := by decide +kernel
theorem dX6_order_7 : decode cX6_order 7 = .ok (.aload_n 0, 1) := by decide +kernel
theorem dX6_order_8 : decode cX6_order 8 = .ok (.getfield 10, 3) := by decide +kernel
theorem dX6_order_11 : decode cX6_order 11 = .ok (.getfield 48, 3) := by decide +kernel
theorem dX6_order_14 : decode cX6_order 14 = .ok (.sipush (-1001), 3) := by decide +kernel
theorem dX6_order_17 : decode cX6_order 17 = .ok (.if_icmp .eq 7, 3) := by decide +kernel
theorem dX6_order_20 : decode cX6_order 20 = .ok (.sipush (-1003), 3) := by decide +kernel
theorem dX6_order_23 : decode cX6_order 23 = .ok (.ireturn, 1) := by decide +kernel
theorem dX6_order_24 : decode cX6_order 24 = .ok (.aload_n 0, 1) := by decide +kernel
theorem dX6_order_25 : decode cX6_order 25 = .ok (.getfield 19, 3) := by decide +kernel
theorem dX6_order_28 : decode cX6_order 28 = .ok (.getfield 112, 3) := by decide +kernel
theorem dX6_order_31 : decode cX6_order 31 = .ok (.invokevirtual 116, 3) := by decide +kernel
theorem dX6_order_34 : decode cX6_order 34 = .ok (.aload_n 0, 1) := by decide +kernel
theorem dX6_order_35 : decode cX6_order 35 = .ok (.getfield 10, 3) := by decide +kernel
theorem dX6_order_38 : decode cX6_order 38 = .ok (.getfield 121, 3) := by decide +kernel
theorem dX6_order_41 : decode cX6_order 41 = .ok (.invokevirtual 116, 3) := by decide +kernel
theorem dX6_order_44 : decode cX6_order 44 = .ok (.iadd, 1) := by decide +kernel
theorem dX6_order_45 : decode cX6_order 45 = .ok (.bipush 10, 2) := by decide +kernel
theorem dX6_order_47 : decode cX6_order 47 = .ok (.if_icmp .le 7, 3) := by decide +kernel
theorem dX6_order_50 : decode cX6_order 50 = .ok (.sipush (-1004), 3) := by decide +kernel
theorem dX6_order_53 : decode cX6_order 53 = .ok (.ireturn, 1) := by decide +kernel
theorem dX6_order_54 : decode cX6_order 54 = .ok (.aload_n 0, 1) := by decide +kernel
theorem dX6_order_55 : decode cX6_order 55 = .ok (.getfield 29, 3) := by decide +kernel
theorem dX6_order_58 : decode cX6_order 58 = .ok (.aload_n 0, 1) := by decide +kernel
theorem dX6_order_59 : decode cX6_order 59 = .ok (.getfield 19, 3) := by decide +kernel
theorem dX6_order_62 : decode cX6_order 62 = .ok (.invokevirtual 58, 3) := by decide +kernel
theorem dX6_order_65 : decode cX6_order 65 = .ok (.aload_n 0, 1) := by decide +kernel
theorem dX6_order_66 : decode cX6_order 66 = .ok (.getfield 10, 3) := by decide +kernel
theorem dX6_order_69 : decode cX6_order 69 = .ok (.getfield 121, 3) := by decide +kernel
theorem dX6_order_72 : decode cX6_order 72 = .ok (.aload_n 0, 1) := by decide +kernel
theorem dX6_order_73 : decode cX6_order 73 = .ok (.getfield 19, 3) := by decide +kernel
theorem dX6_order_76 : decode cX6_order 76 = .ok (.getfield 112, 3) := by decide +kernel
theorem dX6_order_79 : decode cX6_order 79 = .ok (.invokestatic 122, 3) := by decide +kernel
theorem dX6_order_82 : decode cX6_order 82 = .ok (.aload_n 0, 1) := by decide +kernel
theorem dX6_order_83 : decode cX6_order 83 = .ok (.getfield 10, 3) := by decide +kernel
theorem dX6_order_86 : decode cX6_order 86 = .ok (.getfield 121, 3) := by decide +kernel
theorem dX6_order_89 : decode cX6_order 89 = .ok (.invokevirtual 116, 3) := by decide +kernel
theorem dX6_order_92 : decode cX6_order 92 = .ok (.ireturn, 1) := by decide +kernel
theorem dX6_cancel_0 : decode cX6_cancel 0 = .ok (.iload_n 1, 1) := by decide +kernel
theorem dX6_cancel_1 : decode cX6_cancel 1 = .ok (.ifCond .lt 17, 3) := by decide +kernel
theorem dX6_cancel_4 : decode cX6_cancel 4 = .ok (.iload_n 1, 1) := by decide +kernel
theorem dX6_cancel_5 : decode cX6_cancel 5 = .ok (.aload_n 0, 1) := by decide +kernel
theorem dX6_cancel_6 : decode cX6_cancel 6 = .ok (.getfield 19, 3) := by decide +kernel
theorem dX6_cancel_9 : decode cX6_cancel 9 = .ok (.getfield 112, 3) := by decide +kernel
theorem dX6_cancel_12 : decode cX6_cancel 12 = .ok (.invokevirtual 116, 3) := by decide +kernel
theorem dX6_cancel_15 : decode cX6_cancel 15 = .ok (.if_icmp .lt 7, 3) := by decide +kernel
theorem dX6_cancel_18 : decode cX6_cancel 18 = .ok (.sipush (-1002), 3) := by decide +kernel
theorem dX6_cancel_21 : decode cX6_cancel 21 = .ok (.ireturn, 1) := by decide +kernel
theorem dX6_cancel_22 : decode cX6_cancel 22 = .ok (.aload_n 0, 1) := by decide +kernel
theorem dX6_cancel_23 : decode cX6_cancel 23 = .ok (.getfield 29, 3) := by decide +kernel
theorem dX6_cancel_26 : decode cX6_cancel 26 = .ok (.aload_n 0, 1) := by decide +kernel
theorem dX6_cancel_27 : decode cX6_cancel 27 = .ok (.getfield 19, 3) := by decide +kernel
theorem dX6_cancel_30 : decode cX6_cancel 30 = .ok (.invokevirtual 58, 3) := by decide +kernel
theorem dX6_cancel_33 : decode cX6_cancel 33 = .ok (.aload_n 0, 1) := by decide +kernel
theorem dX6_cancel_34 : decode cX6_cancel 34 = .ok (.getfield 19, 3) := by decide +kernel
theorem dX6_cancel_37 : decode cX6_cancel 37 = .ok (.getfield 112, 3) := by decide +kernel
theorem dX6_cancel_40 : decode cX6_cancel 40 = .ok (.iload_n 1, 1) := by decide +kernel
theorem dX6_cancel_41 : decode cX6_cancel 41 = .ok (.invokevirtual 126, 3) := by decide +kernel
theorem dX6_cancel_44 : decode cX6_cancel 44 = .ok (.pop, 1) := by decide +kernel
theorem dX6_cancel_45 : decode cX6_cancel 45 = .ok (.aload_n 0, 1) := by decide +kernel
theorem dX6_cancel_46 : decode cX6_cancel 46 = .ok (.getfield 19, 3) := by decide +kernel
theorem dX6_cancel_49 : decode cX6_cancel 49 = .ok (.getfield 112, 3) := by decide +kernel
theorem dX6_cancel_52 : decode cX6_cancel 52 = .ok (.invokevirtual 116, 3) := by decide +kernel
theorem dX6_cancel_55 : decode cX6_cancel 55 = .ok (.ireturn, 1) := by decide +kernel
theorem dX6_pass_0 : decode cX6_pass 0 = .ok (.iload_n 1, 1) := by decide +kernel
theorem dX6_pass_1 : decode cX6_pass 1 = .ok (.iconst 1, 1) := by decide +kernel
theorem dX6_pass_2 : decode cX6_pass 2 = .ok (.sipush 200, 3) := by decide +kernel
theorem dX6_pass_5 : decode cX6_pass 5 = .ok (.invokestatic 33, 3) := by decide +kernel
theorem dX6_pass_8 : decode cX6_pass 8 = .ok (.ifCond .ne 7, 3) := by decide +kernel
theorem dX6_pass_11 : decode cX6_pass 11 = .ok (.sipush (-1002), 3) := by decide +kernel
theorem dX6_pass_14 : decode cX6_pass 14 = .ok (.ireturn, 1) := by decide +kernel
theorem dX6_pass_15 : decode cX6_pass 15 = .ok (.aload_n 0, 1) := by decide +kernel
theorem dX6_pass_16 : decode cX6_pass 16 = .ok (.getfield 19, 3) := by decide +kernel
theorem dX6_pass_19 : decode cX6_pass 19 = .ok (.getfield 130, 3) := by decide +kernel
theorem dX6_pass_22 : decode cX6_pass 22 = .ok (.iload_n 1, 1) := by decide +kernel
theorem dX6_pass_23 : decode cX6_pass 23 = .ok (.iadd, 1) := by decide +kernel
theorem dX6_pass_24 : decode cX6_pass 24 = .ok (.sipush 9999, 3) := by decide +kernel
theorem dX6_pass_27 : decode cX6_pass 27 = .ok (.if_icmp .le 7, 3) := by decide +kernel
theorem dX6_pass_30 : decode cX6_pass 30 = .ok (.sipush (-1004), 3) := by decide +kernel
theorem dX6_pass_33 : decode cX6_pass 33 = .ok (.ireturn, 1) := by decide +kernel
theorem dX6_pass_34 : decode cX6_pass 34 = .ok (.aload_n 0, 1) := by decide +kernel
theorem dX6_pass_35 : decode cX6_pass 35 = .ok (.getfield 29, 3) := by decide +kernel
theorem dX6_pass_38 : decode cX6_pass 38 = .ok (.aload_n 0, 1) := by decide +kernel
theorem dX6_pass_39 : decode cX6_pass 39 = .ok (.getfield 19, 3) := by decide +kernel
theorem dX6_pass_42 : decode cX6_pass 42 = .ok (.invokevirtual 58, 3) := by decide +kernel
theorem dX6_pass_45 : decode cX6_pass 45 = .ok (.iconst 0, 1) := by decide +kernel
theorem dX6_pass_46 : decode cX6_pass 46 = .ok (.istore_n 2, 1) := by decide +kernel
theorem dX6_pass_47 : decode cX6_pass 47 = .ok (.iload_n 2, 1) := by decide +kernel
theorem dX6_pass_48 : decode cX6_pass 48 = .ok (.iload_n 1, 1) := by decide +kernel
theorem dX6_pass_49 : decode cX6_pass 49 = .ok (.if_icmp .ge 16, 3) := by decide +kernel
theorem dX6_pass_52 : decode cX6_pass 52 = .ok (.aload_n 0, 1) := by decide +kernel
theorem dX6_pass_53 : decode cX6_pass 53 = .ok (.getfield 19, 3) := by decide +kernel
theorem dX6_pass_56 : decode cX6_pass 56 = .ok (.invokevirtual 133, 3) := by decide +kernel
theorem dX6_pass_59 : decode cX6_pass 59 = .ok (.iinc 2 1, 3) := by decide +kernel
theorem dX6_pass_62 : decode cX6_pass 62 = .ok (.goto (-15), 3) := by decide +kernel
theorem dX6_pass_65 : decode cX6_pass 65 = .ok (.aload_n 0, 1) := by decide +kernel
theorem dX6_pass_66 : decode cX6_pass 66 = .ok (.getfield 19, 3) := by decide +kernel
theorem dX6_pass_69 : decode cX6_pass 69 = .ok (.getfield 65, 3) := by decide +kernel
theorem dX6_pass_72 : decode cX6_pass 72 = .ok (.getfield 136, 3) := by decide +kernel
theorem dX6_pass_75 : decode cX6_pass 75 = .ok (.ireturn, 1) := by decide +kernel
theorem dX6_scrape_0 : decode cX6_scrape 0 = .ok (.iload_n 1, 1) := by decide +kernel
theorem dX6_scrape_1 : decode cX6_scrape 1 = .ok (.iload_n 2, 1) := by decide +kernel
theorem dX6_scrape_2 : decode cX6_scrape 2 = .ok (.invokestatic 139, 3) := by decide +kernel
theorem dX6_scrape_5 : decode cX6_scrape 5 = .ok (.ifCond .eq 13, 3) := by decide +kernel
theorem dX6_scrape_8 : decode cX6_scrape 8 = .ok (.iload_n 3, 1) := by decide +kernel
theorem dX6_scrape_9 : decode cX6_scrape 9 = .ok (.iconst 1, 1) := by decide +kernel
theorem dX6_scrape_10 : decode cX6_scrape 10 = .ok (.bipush 60, 2) := by decide +kernel
theorem dX6_scrape_12 : decode cX6_scrape 12 = .ok (.invokestatic 33, 3) := by decide +kernel
theorem dX6_scrape_15 : decode cX6_scrape 15 = .ok (.ifCond .ne 7, 3) := by decide +kernel
theorem dX6_scrape_18 : decode cX6_scrape 18 = .ok (.sipush (-1002), 3) := by decide +kernel
theorem dX6_scrape_21 : decode cX6_scrape 21 = .ok (.ireturn, 1) := by decide +kernel
theorem dX6_scrape_22 : decode cX6_scrape 22 = .ok (.aload_n 0, 1) := by decide +kernel
theorem dX6_scrape_23 : decode cX6_scrape 23 = .ok (.getfield 29, 3) := by decide +kernel
theorem dX6_scrape_26 : decode cX6_scrape 26 = .ok (.aload_n 0, 1) := by decide +kernel
theorem dX6_scrape_27 : decode cX6_scrape 27 = .ok (.getfield 19, 3) := by decide +kernel
theorem dX6_scrape_30 : decode cX6_scrape 30 = .ok (.invokevirtual 58, 3) := by decide +kernel
theorem dX6_scrape_33 : decode cX6_scrape 33 = .ok (.iload_n 3, 1) := by decide +kernel
theorem dX6_scrape_34 : decode cX6_scrape 34 = .ok (.aload_n 0, 1) := by decide +kernel
theorem dX6_scrape_35 : decode cX6_scrape 35 = .ok (.getfield 19, 3) := by decide +kernel
theorem dX6_scrape_38 : decode cX6_scrape 38 = .ok (.getfield 144, 3) := by decide +kernel
theorem dX6_scrape_41 : decode cX6_scrape 41 = .ok (.iload_n 1, 1) := by decide +kernel
theorem dX6_scrape_42 : decode cX6_scrape 42 = .ok (.iload_n 2, 1) := by decide +kernel
theorem dX6_scrape_43 : decode cX6_scrape 43 = .ok (.invokevirtual 148, 3) := by decide +kernel
theorem dX6_scrape_46 : decode cX6_scrape 46 = .ok (.invokestatic 151, 3) := by decide +kernel
theorem dX6_scrape_49 : decode cX6_scrape 49 = .ok (.istore 4, 2) := by decide +kernel
theorem dX6_scrape_51 : decode cX6_scrape 51 = .ok (.aload_n 0, 1) := by decide +kernel
theorem dX6_scrape_52 : decode cX6_scrape 52 = .ok (.getfield 19, 3) := by decide +kernel
theorem dX6_scrape_55 : decode cX6_scrape 55 = .ok (.getfield 144, 3) := by decide +kernel
theorem dX6_scrape_58 : decode cX6_scrape 58 = .ok (.iload_n 1, 1) := by decide +kernel
theorem dX6_scrape_59 : decode cX6_scrape 59 = .ok (.iload_n 2, 1) := by decide +kernel
theorem dX6_scrape_60 : decode cX6_scrape 60 = .ok (.iload 4, 2) := by decide +kernel
theorem dX6_scrape_62 : decode cX6_scrape 62 = .ok (.ineg, 1) := by decide +kernel
theorem dX6_scrape_63 : decode cX6_scrape 63 = .ok (.invokevirtual 156, 3) := by decide +kernel
theorem dX6_scrape_66 : decode cX6_scrape 66 = .ok (.aload_n 0, 1) := by decide +kernel
theorem dX6_scrape_67 : decode cX6_scrape 67 = .ok (.getfield 19, 3) := by decide +kernel
theorem dX6_scrape_70 : decode cX6_scrape 70 = .ok (.dup, 1) := by decide +kernel
theorem dX6_scrape_71 : decode cX6_scrape 71 = .ok (.getfield 79, 3) := by decide +kernel
theorem dX6_scrape_74 : decode cX6_scrape 74 = .ok (.iload 4, 2) := by decide +kernel
theorem dX6_scrape_76 : decode cX6_scrape 76 = .ok (.iadd, 1) := by decide +kernel
theorem dX6_scrape_77 : decode cX6_scrape 77 = .ok (.putfield 79, 3) := by decide +kernel
theorem dX6_scrape_80 : decode cX6_scrape 80 = .ok (.iload 4, 2) := by decide +kernel
theorem dX6_scrape_82 : decode cX6_scrape 82 = .ok (.ireturn, 1) := by decide +kernel
theorem dX6_undo_0 : decode cX6_undo 0 = .ok (.aload_n 0, 1) := by decide +kernel
theorem dX6_undo_1 : decode cX6_undo 1 = .ok (.getfield 29, 3) := by decide +kernel
theorem dX6_undo_4 : decode cX6_undo 4 = .ok (.getfield 159, 3) := by decide +kernel
theorem dX6_undo_7 : decode cX6_undo 7 = .ok (.ifCond .ne 7, 3) := by decide +kernel
theorem dX6_undo_10 : decode cX6_undo 10 = .ok (.sipush (-1003), 3) := by decide +kernel
theorem dX6_undo_13 : decode cX6_undo 13 = .ok (.ireturn, 1) := by decide +kernel
theorem dX6_undo_14 : decode cX6_undo 14 = .ok (.aload_n 0, 1) := by decide +kernel
theorem dX6_undo_15 : decode cX6_undo 15 = .ok (.getfield 29, 3) := by decide +kernel
theorem dX6_undo_18 : decode cX6_undo 18 = .ok (.aload_n 0, 1) := by decide +kernel
theorem dX6_undo_19 : decode cX6_undo 19 = .ok (.getfield 19, 3) := by decide +kernel
theorem dX6_undo_22 : decode cX6_undo 22 = .ok (.invokevirtual 161, 3) := by decide +kernel
theorem dX6_undo_25 : decode cX6_undo 25 = .ok (.aload_n 0, 1) := by decide +kernel
theorem dX6_undo_26 : decode cX6_undo 26 = .ok (.getfield 29, 3) := by decide +kernel
theorem dX6_undo_29 : decode cX6_undo 29 = .ok (.getfield 159, 3) := by decide +kernel
theorem dX6_undo_32 : decode cX6_undo 32 = .ok (.ireturn, 1) := by decide +kernel
theorem dX6_wagon_0 : decode cX6_wagon 0 = .ok (.aload_n 0, 1) := by decide +kernel
theorem dX6_wagon_1 : decode cX6_wagon 1 = .ok (.getfield 19, 3) := by decide +kernel
theorem dX6_wagon_4 : decode cX6_wagon 4 = .ok (.getfield 65, 3) := by decide +kernel
theorem dX6_wagon_7 : decode cX6_wagon 7 = .ok (.iload_n 1, 1) := by decide +kernel
theorem dX6_wagon_8 : decode cX6_wagon 8 = .ok (.invokevirtual 82, 3) := by decide +kernel
theorem dX6_wagon_11 : decode cX6_wagon 11 = .ok (.ifCond .ne 7, 3) := by decide +kernel
theorem dX6_wagon_14 : decode cX6_wagon 14 = .ok (.sipush (-1002), 3) := by decide +kernel
theorem dX6_wagon_17 : decode cX6_wagon 17 = .ok (.ireturn, 1) := by decide +kernel
theorem dX6_wagon_18 : decode cX6_wagon 18 = .ok (.iload_n 2, 1) := by decide +kernel
theorem dX6_wagon_19 : decode cX6_wagon 19 = .ok (.tableswitch 95 0 4 #[33, 46, 58, 70, 82], 33) := by decide +kernel
theorem dX6_wagon_52 : decode cX6_wagon 52 = .ok (.aload_n 0, 1) := by decide +kernel
theorem dX6_wagon_53 : decode cX6_wagon 53 = .ok (.getfield 19, 3) := by decide +kernel
theorem dX6_wagon_56 : decode cX6_wagon 56 = .ok (.getfield 65, 3) := by decide +kernel
theorem dX6_wagon_59 : decode cX6_wagon 59 = .ok (.getfield 88, 3) := by decide +kernel
theorem dX6_wagon_62 : decode cX6_wagon 62 = .ok (.iload_n 1, 1) := by decide +kernel
theorem dX6_wagon_63 : decode cX6_wagon 63 = .ok (.iaload, 1) := by decide +kernel
theorem dX6_wagon_64 : decode cX6_wagon 64 = .ok (.ireturn, 1) := by decide +kernel
theorem dX6_wagon_65 : decode cX6_wagon 65 = .ok (.aload_n 0, 1) := by decide +kernel
theorem dX6_wagon_66 : decode cX6_wagon 66 = .ok (.getfield 19, 3) := by decide +kernel
theorem dX6_wagon_69 : decode cX6_wagon 69 = .ok (.getfield 65, 3) := by decide +kernel
theorem dX6_wagon_72 : decode cX6_wagon 72 = .ok (.iload_n 1, 1) := by decide +kernel
theorem dX6_wagon_73 : decode cX6_wagon 73 = .ok (.invokevirtual 164, 3) := by decide +kernel
theorem dX6_wagon_76 : decode cX6_wagon 76 = .ok (.ireturn, 1) := by decide +kernel
theorem dX6_wagon_77 : decode cX6_wagon 77 = .ok (.aload_n 0, 1) := by decide +kernel
theorem dX6_wagon_78 : decode cX6_wagon 78 = .ok (.getfield 19, 3) := by decide +kernel
theorem dX6_wagon_81 : decode cX6_wagon 81 = .ok (.getfield 65, 3) := by decide +kernel
theorem dX6_wagon_84 : decode cX6_wagon 84 = .ok (.iload_n 1, 1) := by decide +kernel
theorem dX6_wagon_85 : decode cX6_wagon 85 = .ok (.invokevirtual 168, 3) := by decide +kernel
theorem dX6_wagon_88 : decode cX6_wagon 88 = .ok (.ireturn, 1) := by decide +kernel
theorem dX6_wagon_89 : decode cX6_wagon 89 = .ok (.aload_n 0, 1) := by decide +kernel
theorem dX6_wagon_90 : decode cX6_wagon 90 = .ok (.getfield 19, 3) := by decide +kernel
theorem dX6_wagon_93 : decode cX6_wagon 93 = .ok (.getfield 65, 3) := by decide +kernel
theorem dX6_wagon_96 : decode cX6_wagon 96 = .ok (.iload_n 1, 1) := by decide +kernel
theorem dX6_wagon_97 : decode cX6_wagon 97 = .ok (.invokevirtual 171, 3) := by decide +kernel
theorem dX6_wagon_100 : decode cX6_wagon 100 = .ok (.ireturn, 1) := by decide +kernel
theorem dX6_wagon_101 : decode cX6_wagon 101 = .ok (.aload_n 0, 1) := by decide +kernel
theorem dX6_wagon_102 : decode cX6_wagon 102 = .ok (.getfield 19, 3) := by decide +kernel
theorem dX6_wagon_105 : decode cX6_wagon 105 = .ok (.getfield 65, 3) := by decide +kernel
theorem dX6_wagon_108 : decode cX6_wagon 108 = .ok (.getfield 174, 3) := by decide +kernel
theorem dX6_wagon_111 : decode cX6_wagon 111 = .ok (.iload_n 1, 1) := by decide +kernel
theorem dX6_wagon_112 : decode cX6_wagon 112 = .ok (.iaload, 1) := by decide +kernel
theorem dX6_wagon_113 : decode cX6_wagon 113 = .ok (.ireturn, 1) := by decide +kernel
theorem dX6_wagon_114 : decode cX6_wagon 114 = .ok (.sipush (-1002), 3) := by decide +kernel
theorem dX6_wagon_117 : decode cX6_wagon 117 = .ok (.ireturn, 1) := by decide +kernel
theorem dX6_doorOf_0 : decode cX6_doorOf 0 = .ok (.aload_n 0, 1) := by decide +kernel
theorem dX6_doorOf_1 : decode cX6_doorOf 1 = .ok (.getfield 19, 3) := by decide +kernel
theorem dX6_doorOf_4 : decode cX6_doorOf 4 = .ok (.getfield 65, 3) := by decide +kernel
theorem dX6_doorOf_7 : decode cX6_doorOf 7 = .ok (.iload_n 1, 1) := by decide +kernel
theorem dX6_doorOf_8 : decode cX6_doorOf 8 = .ok (.iload_n 2, 1) := by decide +kernel
theorem dX6_doorOf_9 : decode cX6_doorOf 9 = .ok (.invokevirtual 94, 3) := by decide +kernel
theorem dX6_doorOf_12 : decode cX6_doorOf 12 = .ok (.ifCond .ne 7, 3) := by decide +kernel
theorem dX6_doorOf_15 : decode cX6_doorOf 15 = .ok (.sipush (-1002), 3) := by decide +kernel
theorem dX6_doorOf_18 : decode cX6_doorOf 18 = .ok (.ireturn, 1) := by decide +kernel
theorem dX6_doorOf_19 : decode cX6_doorOf 19 = .ok (.iload_n 3, 1) := by decide +kernel
theorem dX6_doorOf_20 : decode cX6_doorOf 20 = .ok (.lookupswitch 54 #[(0, 28), (1, 41)], 28) := by decide +kernel
theorem dX6_doorOf_48 : decode cX6_doorOf 48 = .ok (.aload_n 0, 1) := by decide +kernel
theorem dX6_doorOf_49 : decode cX6_doorOf 49 = .ok (.getfield 19, 3) := by decide +kernel
theorem dX6_doorOf_52 : decode cX6_doorOf 52 = .ok (.getfield 65, 3) := by decide +kernel
theorem dX6_doorOf_55 : decode cX6_doorOf 55 = .ok (.iload_n 1, 1) := by decide +kernel
theorem dX6_doorOf_56 : decode cX6_doorOf 56 = .ok (.iload_n 2, 1) := by decide +kernel
theorem dX6_doorOf_57 : decode cX6_doorOf 57 = .ok (.invokevirtual 98, 3) := by decide +kernel
theorem dX6_doorOf_60 : decode cX6_doorOf 60 = .ok (.ireturn, 1) := by decide +kernel
theorem dX6_doorOf_61 : decode cX6_doorOf 61 = .ok (.aload_n 0, 1) := by decide +kernel
theorem dX6_doorOf_62 : decode cX6_doorOf 62 = .ok (.getfield 19, 3) := by decide +kernel
theorem dX6_doorOf_65 : decode cX6_doorOf 65 = .ok (.getfield 65, 3) := by decide +kernel
theorem dX6_doorOf_68 : decode cX6_doorOf 68 = .ok (.iload_n 1, 1) := by decide +kernel
theorem dX6_doorOf_69 : decode cX6_doorOf 69 = .ok (.iload_n 2, 1) := by decide +kernel
theorem dX6_doorOf_70 : decode cX6_doorOf 70 = .ok (.invokevirtual 177, 3) := by decide +kernel
theorem dX6_doorOf_73 : decode cX6_doorOf 73 = .ok (.ireturn, 1) := by decide +kernel
theorem dX6_doorOf_74 : decode cX6_doorOf 74 = .ok (.sipush (-1002), 3) := by decide +kernel
theorem dX6_doorOf_77 : decode cX6_doorOf 77 = .ok (.ireturn, 1) := by decide +kernel
theorem dX6_height_0 : decode cX6_height 0 = .ok (.iload_n 1, 1) := by decide +kernel
theorem dX6_height_1 : decode cX6_height 1 = .ok (.iload_n 2, 1) := by decide +kernel
theorem dX6_height_2 : decode cX6_height 2 = .ok (.invokestatic 139, 3) := by decide +kernel
theorem dX6_height_5 : decode cX6_height 5 = .ok (.ifCond .eq 18, 3) := by decide +kernel
theorem dX6_height_8 : decode cX6_height 8 = .ok (.aload_n 0, 1) := by decide +kernel
theorem dX6_height_9 : decode cX6_height 9 = .ok (.getfield 19, 3) := by decide +kernel
theorem dX6_height_12 : decode cX6_height 12 = .ok (.getfield 144, 3) := by decide +kernel
theorem dX6_height_15 : decode cX6_height 15 = .ok (.iload_n 1, 1) := by decide +kernel
theorem dX6_height_16 : decode cX6_height 16 = .ok (.iload_n 2, 1) := by decide +kernel
theorem dX6_height_17 : decode cX6_height 17 = .ok (.invokevirtual 148, 3) := by decide +kernel
theorem dX6_height_20 : decode cX6_height 20 = .ok (.goto 6, 3) := by decide +kernel
theorem dX6_height_23 : decode cX6_height 23 = .ok (.sipush (-1002), 3) := by decide +kernel
theorem dX6_height_26 : decode cX6_height 26 = .ok (.ireturn, 1) := by decide +kernel
theorem dX6_profile_0 : decode cX6_profile 0 = .ok (.iload_n 1, 1) := by decide +kernel
theorem dX6_profile_1 : decode cX6_profile 1 = .ok (.iconst 0, 1) := by decide +kernel
theorem dX6_profile_2 : decode cX6_profile 2 = .ok (.iconst 2, 1) := by decide +kernel
theorem dX6_profile_3 : decode cX6_profile 3 = .ok (.invokestatic 33, 3) := by decide +kernel
theorem dX6_profile_6 : decode cX6_profile 6 = .ok (.ifCond .ne 7, 3) := by decide +kernel
theorem dX6_profile_9 : decode cX6_profile 9 = .ok (.sipush (-1002), 3) := by decide +kernel
theorem dX6_profile_12 : decode cX6_profile 12 = .ok (.ireturn, 1) := by decide +kernel
theorem dX6_profile_13 : decode cX6_profile 13 = .ok (.iload_n 2, 1) := by decide +kernel
theorem dX6_profile_14 : decode cX6_profile 14 = .ok (.tableswitch 128 0 5 #[38, 50, 62, 74, 95, 116], 38) := by decide +kernel
theorem dX6_profile_52 : decode cX6_profile 52 = .ok (.aload_n 0, 1) := by decide +kernel
theorem dX6_profile_53 : decode cX6_profile 53 = .ok (.getfield 19, 3) := by decide +kernel
theorem dX6_profile_56 : decode cX6_profile 56 = .ok (.getfield 144, 3) := by decide +kernel
theorem dX6_profile_59 : decode cX6_profile 59 = .ok (.iload_n 1, 1) := by decide +kernel
theorem dX6_profile_60 : decode cX6_profile 60 = .ok (.invokevirtual 180, 3) := by decide +kernel
theorem dX6_profile_63 : decode cX6_profile 63 = .ok (.ireturn, 1) := by decide +kernel
theorem dX6_profile_64 : decode cX6_profile 64 = .ok (.aload_n 0, 1) := by decide +kernel
theorem dX6_profile_65 : decode cX6_profile 65 = .ok (.getfield 19, 3) := by decide +kernel
theorem dX6_profile_68 : decode cX6_profile 68 = .ok (.getfield 144, 3) := by decide +kernel
theorem dX6_profile_71 : decode cX6_profile 71 = .ok (.iload_n 1, 1) := by decide +kernel
theorem dX6_profile_72 : decode cX6_profile 72 = .ok (.invokevirtual 183, 3) := by decide +kernel
theorem dX6_profile_75 : decode cX6_profile 75 = .ok (.ireturn, 1) := by decide +kernel
theorem dX6_profile_76 : decode cX6_profile 76 = .ok (.aload_n 0, 1) := by decide +kernel
theorem dX6_profile_77 : decode cX6_profile 77 = .ok (.getfield 19, 3) := by decide +kernel
theorem dX6_profile_80 : decode cX6_profile 80 = .ok (.getfield 144, 3) := by decide +kernel
theorem dX6_profile_83 : decode cX6_profile 83 = .ok (.iload_n 1, 1) := by decide +kernel
theorem dX6_profile_84 : decode cX6_profile 84 = .ok (.invokevirtual 186, 3) := by decide +kernel
theorem dX6_profile_87 : decode cX6_profile 87 = .ok (.ireturn, 1) := by decide +kernel
theorem dX6_profile_88 : decode cX6_profile 88 = .ok (.aload_n 0, 1) := by decide +kernel
theorem dX6_profile_89 : decode cX6_profile 89 = .ok (.getfield 19, 3) := by decide +kernel
theorem dX6_profile_92 : decode cX6_profile 92 = .ok (.getfield 144, 3) := by decide +kernel
theorem dX6_profile_95 : decode cX6_profile 95 = .ok (.aload_n 0, 1) := by decide +kernel
theorem dX6_profile_96 : decode cX6_profile 96 = .ok (.getfield 19, 3) := by decide +kernel
theorem dX6_profile_99 : decode cX6_profile 99 = .ok (.getfield 62, 3) := by decide +kernel
theorem dX6_profile_102 : decode cX6_profile 102 = .ok (.iconst 4, 1) := by decide +kernel
theorem dX6_profile_103 : decode cX6_profile 103 = .ok (.iaload, 1) := by decide +kernel
theorem dX6_profile_104 : decode cX6_profile 104 = .ok (.iload_n 1, 1) := by decide +kernel
theorem dX6_profile_105 : decode cX6_profile 105 = .ok (.invokevirtual 189, 3) := by decide +kernel
theorem dX6_profile_108 : decode cX6_profile 108 = .ok (.ireturn, 1) := by decide +kernel
theorem dX6_profile_109 : decode cX6_profile 109 = .ok (.aload_n 0, 1) := by decide +kernel
theorem dX6_profile_110 : decode cX6_profile 110 = .ok (.getfield 19, 3) := by decide +kernel
theorem dX6_profile_113 : decode cX6_profile 113 = .ok (.getfield 144, 3) := by decide +kernel
theorem dX6_profile_116 : decode cX6_profile 116 = .ok (.aload_n 0, 1) := by decide +kernel
theorem dX6_profile_117 : decode cX6_profile 117 = .ok (.getfield 19, 3) := by decide +kernel
theorem dX6_profile_120 : decode cX6_profile 120 = .ok (.getfield 62, 3) := by decide +kernel
theorem dX6_profile_123 : decode cX6_profile 123 = .ok (.iconst 4, 1) := by decide +kernel
theorem dX6_profile_124 : decode cX6_profile 124 = .ok (.iaload, 1) := by decide +kernel
theorem dX6_profile_125 : decode cX6_profile 125 = .ok (.iload_n 1, 1) := by decide +kernel
theorem dX6_profile_126 : decode cX6_profile 126 = .ok (.invokevirtual 192, 3) := by decide +kernel
theorem dX6_profile_129 : decode cX6_profile 129 = .ok (.ireturn, 1) := by decide +kernel
theorem dX6_profile_130 : decode cX6_profile 130 = .ok (.aload_n 0, 1) := by decide +kernel
theorem dX6_profile_131 : decode cX6_profile 131 = .ok (.getfield 19, 3) := by decide +kernel
theorem dX6_profile_134 : decode cX6_profile 134 = .ok (.getfield 144, 3) := by decide +kernel
theorem dX6_profile_137 : decode cX6_profile 137 = .ok (.iload_n 1, 1) := by decide +kernel
theorem dX6_profile_138 : decode cX6_profile 138 = .ok (.invokevirtual 195, 3) := by decide +kernel
theorem dX6_profile_141 : decode cX6_profile 141 = .ok (.ireturn, 1) := by decide +kernel
theorem dX6_profile_142 : decode cX6_profile 142 = .ok (.sipush (-1002), 3) := by decide +kernel
theorem dX6_profile_145 : decode cX6_profile 145 = .ok (.ireturn, 1) := by decide +kernel
theorem dX6_lacking_0 : decode cX6_lacking 0 = .ok (.iload_n 1, 1) := by decide +kernel
theorem dX6_lacking_1 : decode cX6_lacking 1 = .ok (.iconst (-1), 1) := by decide +kernel
theorem dX6_lacking_2 : decode cX6_lacking 2 = .ok (.if_icmp .ge 7, 3) := by decide +kernel
theorem dX6_lacking_5 : decode cX6_lacking 5 = .ok (.sipush (-1002), 3) := by decide +kernel
theorem dX6_lacking_8 : decode cX6_lacking 8 = .ok (.ireturn, 1) := by decide +kernel
theorem dX6_lacking_9 : decode cX6_lacking 9 = .ok (.aload_n 0, 1) := by decide +kernel
theorem dX6_lacking_10 : decode cX6_lacking 10 = .ok (.getfield 19, 3) := by decide +kernel
theorem dX6_lacking_13 : decode cX6_lacking 13 = .ok (.getfield 62, 3) := by decide +kernel
theorem dX6_lacking_16 : decode cX6_lacking 16 = .ok (.iconst 4, 1) := by decide +kernel
theorem dX6_lacking_17 : decode cX6_lacking 17 = .ok (.iaload, 1) := by decide +kernel
theorem dX6_lacking_18 : decode cX6_lacking 18 = .ok (.istore_n 2, 1) := by decide +kernel
theorem dX6_lacking_19 : decode cX6_lacking 19 = .ok (.iload_n 1, 1) := by decide +kernel
theorem dX6_lacking_20 : decode cX6_lacking 20 = .ok (.iconst (-1), 1) := by decide +kernel
theorem dX6_lacking_21 : decode cX6_lacking 21 = .ok (.if_icmp .ne 17, 3) := by decide +kernel
theorem dX6_lacking_24 : decode cX6_lacking 24 = .ok (.aload_n 0, 1) := by decide +kernel
theorem dX6_lacking_25 : decode cX6_lacking 25 = .ok (.getfield 19, 3) := by decide +kernel
theorem dX6_lacking_28 : decode cX6_lacking 28 = .ok (.getfield 144, 3) := by decide +kernel
theorem dX6_lacking_31 : decode cX6_lacking 31 = .ok (.iload_n 2, 1) := by decide +kernel
theorem dX6_lacking_32 : decode cX6_lacking 32 = .ok (.invokevirtual 198, 3) := by decide +kernel
theorem dX6_lacking_35 : decode cX6_lacking 35 = .ok (.goto 15, 3) := by decide +kernel
theorem dX6_lacking_38 : decode cX6_lacking 38 = .ok (.aload_n 0, 1) := by decide +kernel
theorem dX6_lacking_39 : decode cX6_lacking 39 = .ok (.getfield 19, 3) := by decide +kernel
theorem dX6_lacking_42 : decode cX6_lacking 42 = .ok (.getfield 144, 3) := by decide +kernel
theorem dX6_lacking_45 : decode cX6_lacking 45 = .ok (.iload_n 2, 1) := by decide +kernel
theorem dX6_lacking_46 : decode cX6_lacking 46 = .ok (.iload_n 1, 1) := by decide +kernel
theorem dX6_lacking_47 : decode cX6_lacking 47 = .ok (.invokevirtual 201, 3) := by decide +kernel
theorem dX6_lacking_50 : decode cX6_lacking 50 = .ok (.ireturn, 1) := by decide +kernel
theorem dX6_ordered_0 : decode cX6_ordered 0 = .ok (.iload_n 1, 1) := by decide +kernel
theorem dX6_ordered_1 : decode cX6_ordered 1 = .ok (.ifCond .lt 12, 3) := by decide +kernel
theorem dX6_ordered_4 : decode cX6_ordered 4 = .ok (.iload_n 2, 1) := by decide +kernel
theorem dX6_ordered_5 : decode cX6_ordered 5 = .ok (.iconst 0, 1) := by decide +kernel
theorem dX6_ordered_6 : decode cX6_ordered 6 = .ok (.iconst 4, 1) := by decide +kernel
theorem dX6_ordered_7 : decode cX6_ordered 7 = .ok (.invokestatic 33, 3) := by decide +kernel
theorem dX6_ordered_10 : decode cX6_ordered 10 = .ok (.ifCond .ne 7, 3) := by decide +kernel
theorem dX6_ordered_13 : decode cX6_ordered 13 = .ok (.sipush (-1002), 3) := by decide +kernel
theorem dX6_ordered_16 : decode cX6_ordered 16 = .ok (.ireturn, 1) := by decide +kernel
theorem dX6_ordered_17 : decode cX6_ordered 17 = .ok (.iload_n 1, 1) := by decide +kernel
theorem dX6_ordered_18 : decode cX6_ordered 18 = .ok (.aload_n 0, 1) := by decide +kernel
theorem dX6_ordered_19 : decode cX6_ordered 19 = .ok (.getfield 19, 3) := by decide +kernel
theorem dX6_ordered_22 : decode cX6_ordered 22 = .ok (.getfield 112, 3) := by decide +kernel
theorem dX6_ordered_25 : decode cX6_ordered 25 = .ok (.invokevirtual 116, 3) := by decide +kernel
theorem dX6_ordered_28 : decode cX6_ordered 28 = .ok (.if_icmp .ge 24, 3) := by decide +kernel
theorem dX6_ordered_31 : decode cX6_ordered 31 = .ok (.aload_n 0, 1) := by decide +kernel
theorem dX6_ordered_32 : decode cX6_ordered 32 = .ok (.getfield 19, 3) := by decide +kernel
theorem dX6_ordered_35 : decode cX6_ordered 35 = .ok (.getfield 112, 3) := by decide +kernel
theorem dX6_ordered_38 : decode cX6_ordered 38 = .ok (.iload_n 1, 1) := by decide +kernel
theorem dX6_ordered_39 : decode cX6_ordered 39 = .ok (.invokevirtual 203, 3) := by decide +kernel
theorem dX6_ordered_42 : decode cX6_ordered 42 = .ok (.checkcast 206, 3) := by decide +kernel
theorem dX6_ordered_45 : decode cX6_ordered 45 = .ok (.iload_n 2, 1) := by decide +kernel
theorem dX6_ordered_46 : decode cX6_ordered 46 = .ok (.invokevirtual 208, 3) := by decide +kernel
theorem dX6_ordered_49 : decode cX6_ordered 49 = .ok (.goto 6, 3) := by decide +kernel
theorem dX6_ordered_52 : decode cX6_ordered 52 = .ok (.sipush (-1001), 3) := by decide +kernel
theorem dX6_ordered_55 : decode cX6_ordered 55 = .ok (.ireturn, 1) := by decide +kernel
theorem dX6_foretell_0 : decode cX6_foretell 0 = .ok (.iload_n 1, 1) := by decide +kernel
theorem dX6_foretell_1 : decode cX6_foretell 1 = .ok (.iconst 1, 1) := by decide +kernel
theorem dX6_foretell_2 : decode cX6_foretell 2 = .ok (.sipush 200, 3) := by decide +kernel
theorem dX6_foretell_5 : decode cX6_foretell 5 = .ok (.invokestatic 33, 3) := by decide +kernel
theorem dX6_foretell_8 : decode cX6_foretell 8 = .ok (.ifCond .eq 13, 3) := by decide +kernel
theorem dX6_foretell_11 : decode cX6_foretell 11 = .ok (.iload_n 2, 1) := by decide +kernel
theorem dX6_foretell_12 : decode cX6_foretell 12 = .ok (.iconst 0, 1) := by decide +kernel
theorem dX6_foretell_13 : decode cX6_foretell 13 = .ok (.bipush 6, 2) := by decide +kernel
theorem dX6_foretell_15 : decode cX6_foretell 15 = .ok (.invokestatic 33, 3) := by decide +kernel
theorem dX6_foretell_18 : decode cX6_foretell 18 = .ok (.ifCond .ne 7, 3) := by decide +kernel
theorem dX6_foretell_21 : decode cX6_foretell 21 = .ok (.sipush (-1002), 3) := by decide +kernel
theorem dX6_foretell_24 : decode cX6_foretell 24 = .ok (.ireturn, 1) := by decide +kernel
theorem dX6_foretell_25 : decode cX6_foretell 25 = .ok (.aload_n 0, 1) := by decide +kernel
theorem dX6_foretell_26 : decode cX6_foretell 26 = .ok (.iload_n 1, 1) := by decide +kernel
theorem dX6_foretell_27 : decode cX6_foretell 27 = .ok (.invokevirtual 211, 3) := by decide +kernel
theorem dX6_foretell_30 : decode cX6_foretell 30 = .ok (.aload_n 0, 1) := by decide +kernel
theorem dX6_foretell_31 : decode cX6_foretell 31 = .ok (.iload_n 2, 1) := by decide +kernel
theorem dX6_foretell_32 : decode cX6_foretell 32 = .ok (.invokevirtual 214, 3) := by decide +kernel
theorem dX6_foretell_35 : decode cX6_foretell 35 = .ok (.ireturn, 1) := by decide +kernel
theorem dX6_emptyAfter_0 : decode cX6_emptyAfter 0 = .ok (.aload_n 0, 1) := by decide +kernel
theorem dX6_emptyAfter_1 : decode cX6_emptyAfter 1 = .ok (.getfield 23, 3) := by decide +kernel
theorem dX6_emptyAfter_4 : decode cX6_emptyAfter 4 = .ok (.aload_n 0, 1) := by decide +kernel
theorem dX6_emptyAfter_5 : decode cX6_emptyAfter 5 = .ok (.getfield 19, 3) := by decide +kernel
theorem dX6_emptyAfter_8 : decode cX6_emptyAfter 8 = .ok (.invokevirtual 217, 3) := by decide +kernel
theorem dX6_emptyAfter_11 : decode cX6_emptyAfter 11 = .ok (.iconst 0, 1) := by decide +kernel
theorem dX6_emptyAfter_12 : decode cX6_emptyAfter 12 = .ok (.istore_n 1, 1) := by decide +kernel
theorem dX6_emptyAfter_13 : decode cX6_emptyAfter 13 = .ok (.iload_n 1, 1) := by decide +kernel
theorem dX6_emptyAfter_14 : decode cX6_emptyAfter 14 = .ok (.sipush 400, 3) := by decide +kernel
theorem dX6_emptyAfter_17 : decode cX6_emptyAfter 17 = .ok (.if_icmp .gt 31, 3) := by decide +kernel
theorem dX6_emptyAfter_20 : decode cX6_emptyAfter 20 = .ok (.aload_n 0, 1) := by decide +kernel
theorem dX6_emptyAfter_21 : decode cX6_emptyAfter 21 = .ok (.getfield 23, 3) := by decide +kernel
theorem dX6_emptyAfter_24 : decode cX6_emptyAfter 24 = .ok (.getfield 65, 3) := by decide +kernel
theorem dX6_emptyAfter_27 : decode cX6_emptyAfter 27 = .ok (.invokevirtual 69, 3) := by decide +kernel
theorem dX6_emptyAfter_30 : decode cX6_emptyAfter 30 = .ok (.ifCond .ne 5, 3) := by decide +kernel
theorem dX6_emptyAfter_33 : decode cX6_emptyAfter 33 = .ok (.iload_n 1, 1) := by decide +kernel
theorem dX6_emptyAfter_34 : decode cX6_emptyAfter 34 = .ok (.ireturn, 1) := by decide +kernel
theorem dX6_emptyAfter_35 : decode cX6_emptyAfter 35 = .ok (.aload_n 0, 1) := by decide +kernel
theorem dX6_emptyAfter_36 : decode cX6_emptyAfter 36 = .ok (.getfield 23, 3) := by decide +kernel
theorem dX6_emptyAfter_39 : decode cX6_emptyAfter 39 = .ok (.invokevirtual 220, 3) := by decide +kernel
theorem dX6_emptyAfter_42 : decode cX6_emptyAfter 42 = .ok (.iinc 1 1, 3) := by decide +kernel
theorem dX6_emptyAfter_45 : decode cX6_emptyAfter 45 = .ok (.goto (-32), 3) := by decide +kernel
theorem dX6_emptyAfter_48 : decode cX6_emptyAfter 48 = .ok (.sipush (-1001), 3) := by decide +kernel
theorem dX6_emptyAfter_51 : decode cX6_emptyAfter 51 = .ok (.ireturn, 1) := by decide +kernel
theorem dX6_count_0 : decode cX6_count 0 = .ok (.iload_n 1, 1) := by decide +kernel
theorem dX6_count_1 : decode cX6_count 1 = .ok (.bipush 14, 2) := by decide +kernel
theorem dX6_count_3 : decode cX6_count 3 = .ok (.bipush 18, 2) := by decide +kernel
theorem dX6_count_5 : decode cX6_count 5 = .ok (.invokestatic 33, 3) := by decide +kernel
theorem dX6_count_8 : decode cX6_count 8 = .ok (.ifCond .eq 16, 3) := by decide +kernel
theorem dX6_count_11 : decode cX6_count 11 = .ok (.aload_n 0, 1) := by decide +kernel
theorem dX6_count_12 : decode cX6_count 12 = .ok (.getfield 19, 3) := by decide +kernel
theorem dX6_count_15 : decode cX6_count 15 = .ok (.getfield 62, 3) := by decide +kernel
theorem dX6_count_18 : decode cX6_count 18 = .ok (.iload_n 1, 1) := by decide +kernel
theorem dX6_count_19 : decode cX6_count 19 = .ok (.bipush 14, 2) := by decide +kernel
theorem dX6_count_21 : decode cX6_count 21 = .ok (.isub, 1) := by decide +kernel
theorem dX6_count_22 : decode cX6_count 22 = .ok (.iaload, 1) := by decide +kernel
theorem dX6_count_23 : decode cX6_count 23 = .ok (.ireturn, 1) := by decide +kernel
theorem dX6_count_24 : decode cX6_count 24 = .ok (.iload_n 1, 1) := by decide +kernel
theorem dX6_count_25 : decode cX6_count 25 = .ok (.tableswitch 204 0 13 #[71, 82, 93, 104, 115, 123, 134, 142, 150, 161, 172, 180, 188, 196], 71) := by decide +kernel
theorem dX6_count_96 : decode cX6_count 96 = .ok (.aload_n 0, 1) := by decide +kernel
theorem dX6_count_97 : decode cX6_count 97 = .ok (.getfield 19, 3) := by decide +kernel
theorem dX6_count_100 : decode cX6_count 100 = .ok (.getfield 65, 3) := by decide +kernel
theorem dX6_count_103 : decode cX6_count 103 = .ok (.getfield 223, 3) := by decide +kernel
theorem dX6_count_106 : decode cX6_count 106 = .ok (.ireturn, 1) := by decide +kernel
theorem dX6_count_107 : decode cX6_count 107 = .ok (.aload_n 0, 1) := by decide +kernel
theorem dX6_count_108 : decode cX6_count 108 = .ok (.getfield 19, 3) := by decide +kernel
theorem dX6_count_111 : decode cX6_count 111 = .ok (.getfield 65, 3) := by decide +kernel
theorem dX6_count_114 : decode cX6_count 114 = .ok (.getfield 136, 3) := by decide +kernel
theorem dX6_count_117 : decode cX6_count 117 = .ok (.ireturn, 1) := by decide +kernel
theorem dX6_count_118 : decode cX6_count 118 = .ok (.aload_n 0, 1) := by decide +kernel
theorem dX6_count_119 : decode cX6_count 119 = .ok (.getfield 19, 3) := by decide +kernel
theorem dX6_count_122 : decode cX6_count 122 = .ok (.getfield 65, 3) := by decide +kernel
theorem dX6_count_125 : decode cX6_count 125 = .ok (.getfield 85, 3) := by decide +kernel
theorem dX6_count_128 : decode cX6_count 128 = .ok (.ireturn, 1) := by decide +kernel
theorem dX6_count_129 : decode cX6_count 129 = .ok (.aload_n 0, 1) := by decide +kernel
theorem dX6_count_130 : decode cX6_count 130 = .ok (.getfield 19, 3) := by decide +kernel
theorem dX6_count_133 : decode cX6_count 133 = .ok (.getfield 65, 3) := by decide +kernel
theorem dX6_count_136 : decode cX6_count 136 = .ok (.getfield 109, 3) := by decide +kernel
theorem dX6_count_139 : decode cX6_count 139 = .ok (.ireturn, 1) := by decide +kernel
theorem dX6_count_140 : decode cX6_count 140 = .ok (.aload_n 0, 1) := by decide +kernel
theorem dX6_count_141 : decode cX6_count 141 = .ok (.getfield 19, 3) := by decide +kernel
theorem dX6_count_144 : decode cX6_count 144 = .ok (.getfield 130, 3) := by decide +kernel
theorem dX6_count_147 : decode cX6_count 147 = .ok (.ireturn, 1) := by decide +kernel
theorem dX6_count_148 : decode cX6_count 148 = .ok (.aload_n 0, 1) := by decide +kernel
theorem dX6_count_149 : decode cX6_count 149 = .ok (.getfield 19, 3) := by decide +kernel
theorem dX6_count_152 : decode cX6_count 152 = .ok (.getfield 112, 3) := by decide +kernel
theorem dX6_count_155 : decode cX6_count 155 = .ok (.invokevirtual 116, 3) := by decide +kernel
theorem dX6_count_158 : decode cX6_count 158 = .ok (.ireturn, 1) := by decide +kernel
theorem dX6_count_159 : decode cX6_count 159 = .ok (.aload_n 0, 1) := by decide +kernel
theorem dX6_count_160 : decode cX6_count 160 = .ok (.getfield 19, 3) := by decide +kernel
theorem dX6_count_163 : decode cX6_count 163 = .ok (.getfield 226, 3) := by decide +kernel
theorem dX6_count_166 : decode cX6_count 166 = .ok (.ireturn, 1) := by decide +kernel
theorem dX6_count_167 : decode cX6_count 167 = .ok (.aload_n 0, 1) := by decide +kernel
theorem dX6_count_168 : decode cX6_count 168 = .ok (.getfield 19, 3) := by decide +kernel
theorem dX6_count_171 : decode cX6_count 171 = .ok (.getfield 91, 3) := by decide +kernel
theorem dX6_count_174 : decode cX6_count 174 = .ok (.ireturn, 1) := by decide +kernel
theorem dX6_count_175 : decode cX6_count 175 = .ok (.aload_n 0, 1) := by decide +kernel
theorem dX6_count_176 : decode cX6_count 176 = .ok (.getfield 19, 3) := by decide +kernel
theorem dX6_count_179 : decode cX6_count 179 = .ok (.getfield 65, 3) := by decide +kernel
theorem dX6_count_182 : decode cX6_count 182 = .ok (.invokevirtual 69, 3) := by decide +kernel
theorem dX6_count_185 : decode cX6_count 185 = .ok (.ireturn, 1) := by decide +kernel
theorem dX6_count_186 : decode cX6_count 186 = .ok (.aload_n 0, 1) := by decide +kernel
theorem dX6_count_187 : decode cX6_count 187 = .ok (.getfield 19, 3) := by decide +kernel
theorem dX6_count_190 : decode cX6_count 190 = .ok (.getfield 144, 3) := by decide +kernel
theorem dX6_count_193 : decode cX6_count 193 = .ok (.invokevirtual 229, 3) := by decide +kernel
theorem dX6_count_196 : decode cX6_count 196 = .ok (.ireturn, 1) := by decide +kernel
theorem dX6_count_197 : decode cX6_count 197 = .ok (.aload_n 0, 1) := by decide +kernel
theorem dX6_count_198 : decode cX6_count 198 = .ok (.getfield 19, 3) := by decide +kernel
theorem dX6_count_201 : decode cX6_count 201 = .ok (.getfield 230, 3) := by decide +kernel
theorem dX6_count_204 : decode cX6_count 204 = .ok (.ireturn, 1) := by decide +kernel
theorem dX6_count_205 : decode cX6_count 205 = .ok (.aload_n 0, 1) := by decide +kernel
theorem dX6_count_206 : decode cX6_count 206 = .ok (.getfield 19, 3) := by decide +kernel
theorem dX6_count_209 : decode cX6_count 209 = .ok (.getfield 79, 3) := by decide +kernel
theorem dX6_count_212 : decode cX6_count 212 = .ok (.ireturn, 1) := by decide +kernel
theorem dX6_count_213 : decode cX6_count 213 = .ok (.aload_n 0, 1) := by decide +kernel
theorem dX6_count_214 : decode cX6_count 214 = .ok (.getfield 29, 3) := by decide +kernel
theorem dX6_count_217 : decode cX6_count 217 = .ok (.getfield 159, 3) := by decide +kernel
theorem dX6_count_220 : decode cX6_count 220 = .ok (.ireturn, 1) := by decide +kernel
theorem dX6_count_221 : decode cX6_count 221 = .ok (.aload_n 0, 1) := by decide +kernel
theorem dX6_count_222 : decode cX6_count 222 = .ok (.getfield 10, 3) := by decide +kernel
theorem dX6_count_225 : decode cX6_count 225 = .ok (.getfield 41, 3) := by decide +kernel
theorem dX6_count_228 : decode cX6_count 228 = .ok (.ireturn, 1) := by decide +kernel
theorem dX6_count_229 : decode cX6_count 229 = .ok (.sipush (-1002), 3) := by decide +kernel
theorem dX6_count_232 : decode cX6_count 232 = .ok (.ireturn, 1) := by decide +kernel
theorem dX6_digest_0 : decode cX6_digest 0 = .ok (.ldc2_w 233, 3) := by decide +kernel
theorem dX6_digest_3 : decode cX6_digest 3 = .ok (.lstore_n 1, 1) := by decide +kernel
theorem dX6_digest_4 : decode cX6_digest 4 = .ok (.iconst 0, 1) := by decide +kernel
theorem dX6_digest_5 : decode cX6_digest 5 = .ok (.istore_n 3, 1) := by decide +kernel
theorem dX6_digest_6 : decode cX6_digest 6 = .ok (.iload_n 3, 1) := by decide +kernel
theorem dX6_digest_7 : decode cX6_digest 7 = .ok (.bipush 19, 2) := by decide +kernel
theorem dX6_digest_9 : decode cX6_digest 9 = .ok (.if_icmp .ge 19, 3) := by decide +kernel
theorem dX6_digest_12 : decode cX6_digest 12 = .ok (.lload_n 1, 1) := by decide +kernel
theorem dX6_digest_13 : decode cX6_digest 13 = .ok (.aload_n 0, 1) := by decide +kernel
theorem dX6_digest_14 : decode cX6_digest 14 = .ok (.iload_n 3, 1) := by decide +kernel
theorem dX6_digest_15 : decode cX6_digest 15 = .ok (.invokevirtual 235, 3) := by decide +kernel
theorem dX6_digest_18 : decode cX6_digest 18 = .ok (.invokestatic 238, 3) := by decide +kernel
theorem dX6_digest_21 : decode cX6_digest 21 = .ok (.lstore_n 1, 1) := by decide +kernel
theorem dX6_digest_22 : decode cX6_digest 22 = .ok (.iinc 3 1, 3) := by decide +kernel
theorem dX6_digest_25 : decode cX6_digest 25 = .ok (.goto (-19), 3) := by decide +kernel
theorem dX6_digest_28 : decode cX6_digest 28 = .ok (.aload_n 0, 1) := by decide +kernel
theorem dX6_digest_29 : decode cX6_digest 29 = .ok (.lload_n 1, 1) := by decide +kernel
theorem dX6_digest_30 : decode cX6_digest 30 = .ok (.invokevirtual 242, 3) := by decide +kernel
theorem dX6_digest_33 : decode cX6_digest 33 = .ok (.lstore_n 1, 1) := by decide +kernel
theorem dX6_digest_34 : decode cX6_digest 34 = .ok (.aload_n 0, 1) := by decide +kernel
theorem dX6_digest_35 : decode cX6_digest 35 = .ok (.lload_n 1, 1) := by decide +kernel
theorem dX6_digest_36 : decode cX6_digest 36 = .ok (.invokevirtual 246, 3) := by decide +kernel
theorem dX6_digest_39 : decode cX6_digest 39 = .ok (.lstore_n 1, 1) := by decide +kernel
theorem dX6_digest_40 : decode cX6_digest 40 = .ok (.aload_n 0, 1) := by decide +kernel
theorem dX6_digest_41 : decode cX6_digest 41 = .ok (.lload_n 1, 1) := by decide +kernel
theorem dX6_digest_42 : decode cX6_digest 42 = .ok (.invokevirtual 249, 3) := by decide +kernel
theorem dX6_digest_45 : decode cX6_digest 45 = .ok (.lstore_n 1, 1) := by decide +kernel
theorem dX6_digest_46 : decode cX6_digest 46 = .ok (.aload_n 0, 1) := by decide +kernel
theorem dX6_digest_47 : decode cX6_digest 47 = .ok (.bipush 20, 2) := by decide +kernel
theorem dX6_digest_49 : decode cX6_digest 49 = .ok (.invokevirtual 211, 3) := by decide +kernel
theorem dX6_digest_52 : decode cX6_digest 52 = .ok (.iconst 0, 1) := by decide +kernel
theorem dX6_digest_53 : decode cX6_digest 53 = .ok (.istore_n 3, 1) := by decide +kernel
theorem dX6_digest_54 : decode cX6_digest 54 = .ok (.iload_n 3, 1) := by decide +kernel
theorem dX6_digest_55 : decode cX6_digest 55 = .ok (.bipush 7, 2) := by decide +kernel
theorem dX6_digest_57 : decode cX6_digest 57 = .ok (.if_icmp .ge 19, 3) := by decide +kernel
theorem dX6_digest_60 : decode cX6_digest 60 = .ok (.lload_n 1, 1) := by decide +kernel
theorem dX6_digest_61 : decode cX6_digest 61 = .ok (.aload_n 0, 1) := by decide +kernel
theorem dX6_digest_62 : decode cX6_digest 62 = .ok (.iload_n 3, 1) := by decide +kernel
theorem dX6_digest_63 : decode cX6_digest 63 = .ok (.invokevirtual 214, 3) := by decide +kernel
theorem dX6_digest_66 : decode cX6_digest 66 = .ok (.invokestatic 238, 3) := by decide +kernel
theorem dX6_digest_69 : decode cX6_digest 69 = .ok (.lstore_n 1, 1) := by decide +kernel
theorem dX6_digest_70 : decode cX6_digest 70 = .ok (.iinc 3 1, 3) := by decide +kernel
theorem dX6_digest_73 : decode cX6_digest 73 = .ok (.goto (-19), 3) := by decide +kernel
theorem dX6_digest_76 : decode cX6_digest 76 = .ok (.lload_n 1, 1) := by decide +kernel
theorem dX6_digest_77 : decode cX6_digest 77 = .ok (.aload_n 0, 1) := by decide +kernel
theorem dX6_digest_78 : decode cX6_digest 78 = .ok (.invokevirtual 252, 3) := by decide +kernel
theorem dX6_digest_81 : decode cX6_digest 81 = .ok (.invokestatic 238, 3) := by decide +kernel
theorem dX6_digest_84 : decode cX6_digest 84 = .ok (.lstore_n 1, 1) := by decide +kernel
theorem dX6_digest_85 : decode cX6_digest 85 = .ok (.iconst 0, 1) := by decide +kernel
theorem dX6_digest_86 : decode cX6_digest 86 = .ok (.istore_n 3, 1) := by decide +kernel
theorem dX6_digest_87 : decode cX6_digest 87 = .ok (.iload_n 3, 1) := by decide +kernel
theorem dX6_digest_88 : decode cX6_digest 88 = .ok (.aload_n 0, 1) := by decide +kernel
theorem dX6_digest_89 : decode cX6_digest 89 = .ok (.getfield 10, 3) := by decide +kernel
theorem dX6_digest_92 : decode cX6_digest 92 = .ok (.getfield 41, 3) := by decide +kernel
theorem dX6_digest_95 : decode cX6_digest 95 = .ok (.if_icmp .ge 22, 3) := by decide +kernel
theorem dX6_digest_98 : decode cX6_digest 98 = .ok (.lload_n 1, 1) := by decide +kernel
theorem dX6_digest_99 : decode cX6_digest 99 = .ok (.aload_n 0, 1) := by decide +kernel
theorem dX6_digest_100 : decode cX6_digest 100 = .ok (.getfield 10, 3) := by decide +kernel
theorem dX6_digest_103 : decode cX6_digest 103 = .ok (.iload_n 3, 1) := by decide +kernel
theorem dX6_digest_104 : decode cX6_digest 104 = .ok (.invokevirtual 255, 3) := by decide +kernel
theorem dX6_digest_107 : decode cX6_digest 107 = .ok (.invokestatic 238, 3) := by decide +kernel
theorem dX6_digest_110 : decode cX6_digest 110 = .ok (.lstore_n 1, 1) := by decide +kernel
theorem dX6_digest_111 : decode cX6_digest 111 = .ok (.iinc 3 1, 3) := by decide +kernel
theorem dX6_digest_114 : decode cX6_digest 114 = .ok (.goto (-27), 3) := by decide +kernel
theorem dX6_digest_117 : decode cX6_digest 117 = .ok (.lload_n 1, 1) := by decide +kernel
theorem dX6_digest_118 : decode cX6_digest 118 = .ok (.lreturn, 1) := by decide +kernel
theorem dX6_mixedWithTrain_0 : decode cX6_mixedWithTrain 0 = .ok (.lload_n 1, 1) := by decide +kernel
theorem dX6_mixedWithTrain_1 : decode cX6_mixedWithTrain 1 = .ok (.lstore_n 3, 1) := by decide +kernel
theorem dX6_mixedWithTrain_2 : decode cX6_mixedWithTrain 2 = .ok (.iconst 0, 1) := by decide +kernel
theorem dX6_mixedWithTrain_3 : decode cX6_mixedWithTrain 3 = .ok (.istore 5, 2) := by decide +kernel
theorem dX6_mixedWithTrain_5 : decode cX6_mixedWithTrain 5 = .ok (.iload 5, 2) := by decide +kernel
theorem dX6_mixedWithTrain_7 : decode cX6_mixedWithTrain 7 = .ok (.aload_n 0, 1) := by decide +kernel
theorem dX6_mixedWithTrain_8 : decode cX6_mixedWithTrain 8 = .ok (.getfield 19, 3) := by decide +kernel
theorem dX6_mixedWithTrain_11 : decode cX6_mixedWithTrain 11 = .ok (.getfield 65, 3) := by decide +kernel
theorem dX6_mixedWithTrain_14 : decode cX6_mixedWithTrain 14 = .ok (.getfield 223, 3) := by decide +kernel
theorem dX6_mixedWithTrain_17 : decode cX6_mixedWithTrain 17 = .ok (.if_icmp .ge 82, 3) := by decide +kernel
theorem dX6_mixedWithTrain_20 : decode cX6_mixedWithTrain 20 = .ok (.iconst 0, 1) := by decide +kernel
theorem dX6_mixedWithTrain_21 : decode cX6_mixedWithTrain 21 = .ok (.istore 6, 2) := by decide +kernel
theorem dX6_mixedWithTrain_23 : decode cX6_mixedWithTrain 23 = .ok (.iload 6, 2) := by decide +kernel
theorem dX6_mixedWithTrain_25 : decode cX6_mixedWithTrain 25 = .ok (.iconst 5, 1) := by decide +kernel
theorem dX6_mixedWithTrain_26 : decode cX6_mixedWithTrain 26 = .ok (.if_icmp .ge 22, 3) := by decide +kernel
theorem dX6_mixedWithTrain_29 : decode cX6_mixedWithTrain 29 = .ok (.lload_n 3, 1) := by decide +kernel
theorem dX6_mixedWithTrain_30 : decode cX6_mixedWithTrain 30 = .ok (.aload_n 0, 1) := by decide +kernel
theorem dX6_mixedWithTrain_31 : decode cX6_mixedWithTrain 31 = .ok (.iload 5, 2) := by decide +kernel
theorem dX6_mixedWithTrain_33 : decode cX6_mixedWithTrain 33 = .ok (.iload 6, 2) := by decide +kernel
theorem dX6_mixedWithTrain_35 : decode cX6_mixedWithTrain 35 = .ok (.invokevirtual 258, 3) := by decide +kernel
theorem dX6_mixedWithTrain_38 : decode cX6_mixedWithTrain 38 = .ok (.invokestatic 238, 3) := by decide +kernel
theorem dX6_mixedWithTrain_41 : decode cX6_mixedWithTrain 41 = .ok (.lstore_n 3, 1) := by decide +kernel
theorem dX6_mixedWithTrain_42 : decode cX6_mixedWithTrain 42 = .ok (.iinc 6 1, 3) := by decide +kernel
theorem dX6_mixedWithTrain_45 : decode cX6_mixedWithTrain 45 = .ok (.goto (-22), 3) := by decide +kernel
theorem dX6_mixedWithTrain_48 : decode cX6_mixedWithTrain 48 = .ok (.iconst 0, 1) := by decide +kernel
theorem dX6_mixedWithTrain_49 : decode cX6_mixedWithTrain 49 = .ok (.istore 6, 2) := by decide +kernel
theorem dX6_mixedWithTrain_51 : decode cX6_mixedWithTrain 51 = .ok (.iload 6, 2) := by decide +kernel
theorem dX6_mixedWithTrain_53 : decode cX6_mixedWithTrain 53 = .ok (.iconst 3, 1) := by decide +kernel
theorem dX6_mixedWithTrain_54 : decode cX6_mixedWithTrain 54 = .ok (.if_icmp .ge 39, 3) := by decide +kernel
theorem dX6_mixedWithTrain_57 : decode cX6_mixedWithTrain 57 = .ok (.iconst 0, 1) := by decide +kernel
theorem dX6_mixedWithTrain_58 : decode cX6_mixedWithTrain 58 = .ok (.istore 7, 2) := by decide +kernel
theorem dX6_mixedWithTrain_60 : decode cX6_mixedWithTrain 60 = .ok (.iload 7, 2) := by decide +kernel
theorem dX6_mixedWithTrain_62 : decode cX6_mixedWithTrain 62 = .ok (.iconst 2, 1) := by decide +kernel
theorem dX6_mixedWithTrain_63 : decode cX6_mixedWithTrain 63 = .ok (.if_icmp .ge 24, 3) := by decide +kernel
theorem dX6_mixedWithTrain_66 : decode cX6_mixedWithTrain 66 = .ok (.lload_n 3, 1) := by decide +kernel
theorem dX6_mixedWithTrain_67 : decode cX6_mixedWithTrain 67 = .ok (.aload_n 0, 1) := by decide +kernel
theorem dX6_mixedWithTrain_68 : decode cX6_mixedWithTrain 68 = .ok (.iload 5, 2) := by decide +kernel
theorem dX6_mixedWithTrain_70 : decode cX6_mixedWithTrain 70 = .ok (.iload 6, 2) := by decide +kernel
theorem dX6_mixedWithTrain_72 : decode cX6_mixedWithTrain 72 = .ok (.iload 7, 2) := by decide +kernel
theorem dX6_mixedWithTrain_74 : decode cX6_mixedWithTrain 74 = .ok (.invokevirtual 261, 3) := by decide +kernel
theorem dX6_mixedWithTrain_77 : decode cX6_mixedWithTrain 77 = .ok (.invokestatic 238, 3) := by decide +kernel
theorem dX6_mixedWithTrain_80 : decode cX6_mixedWithTrain 80 = .ok (.lstore_n 3, 1) := by decide +kernel
theorem dX6_mixedWithTrain_81 : decode cX6_mixedWithTrain 81 = .ok (.iinc 7 1, 3) := by decide +kernel
theorem dX6_mixedWithTrain_84 : decode cX6_mixedWithTrain 84 = .ok (.goto (-24), 3) := by decide +kernel
theorem dX6_mixedWithTrain_87 : decode cX6_mixedWithTrain 87 = .ok (.iinc 6 1, 3) := by decide +kernel
theorem dX6_mixedWithTrain_90 : decode cX6_mixedWithTrain 90 = .ok (.goto (-39), 3) := by decide +kernel
theorem dX6_mixedWithTrain_93 : decode cX6_mixedWithTrain 93 = .ok (.iinc 5 1, 3) := by decide +kernel
theorem dX6_mixedWithTrain_96 : decode cX6_mixedWithTrain 96 = .ok (.goto (-91), 3) := by decide +kernel
theorem dX6_mixedWithTrain_99 : decode cX6_mixedWithTrain 99 = .ok (.lload_n 3, 1) := by decide +kernel
theorem dX6_mixedWithTrain_100 : decode cX6_mixedWithTrain 100 = .ok (.lreturn, 1) := by decide +kernel
theorem dX6_mixedWithTrack_0 : decode cX6_mixedWithTrack 0 = .ok (.lload_n 1, 1) := by decide +kernel
theorem dX6_mixedWithTrack_1 : decode cX6_mixedWithTrack 1 = .ok (.lstore_n 3, 1) := by decide +kernel
theorem dX6_mixedWithTrack_2 : decode cX6_mixedWithTrack 2 = .ok (.iconst 0, 1) := by decide +kernel
theorem dX6_mixedWithTrack_3 : decode cX6_mixedWithTrack 3 = .ok (.istore 5, 2) := by decide +kernel
theorem dX6_mixedWithTrack_5 : decode cX6_mixedWithTrack 5 = .ok (.iload 5, 2) := by decide +kernel
theorem dX6_mixedWithTrack_7 : decode cX6_mixedWithTrack 7 = .ok (.bipush 40, 2) := by decide +kernel
theorem dX6_mixedWithTrack_9 : decode cX6_mixedWithTrack 9 = .ok (.if_icmp .ge 37, 3) := by decide +kernel
theorem dX6_mixedWithTrack_12 : decode cX6_mixedWithTrack 12 = .ok (.iconst 0, 1) := by decide +kernel
theorem dX6_mixedWithTrack_13 : decode cX6_mixedWithTrack 13 = .ok (.istore 6, 2) := by decide +kernel
theorem dX6_mixedWithTrack_15 : decode cX6_mixedWithTrack 15 = .ok (.iload 6, 2) := by decide +kernel
theorem dX6_mixedWithTrack_17 : decode cX6_mixedWithTrack 17 = .ok (.iconst 3, 1) := by decide +kernel
theorem dX6_mixedWithTrack_18 : decode cX6_mixedWithTrack 18 = .ok (.if_icmp .ge 22, 3) := by decide +kernel
theorem dX6_mixedWithTrack_21 : decode cX6_mixedWithTrack 21 = .ok (.lload_n 3, 1) := by decide +kernel
theorem dX6_mixedWithTrack_22 : decode cX6_mixedWithTrack 22 = .ok (.aload_n 0, 1) := by decide +kernel
theorem dX6_mixedWithTrack_23 : decode cX6_mixedWithTrack 23 = .ok (.iload 5, 2) := by decide +kernel
theorem dX6_mixedWithTrack_25 : decode cX6_mixedWithTrack 25 = .ok (.iload 6, 2) := by decide +kernel
theorem dX6_mixedWithTrack_27 : decode cX6_mixedWithTrack 27 = .ok (.invokevirtual 265, 3) := by decide +kernel
theorem dX6_mixedWithTrack_30 : decode cX6_mixedWithTrack 30 = .ok (.invokestatic 238, 3) := by decide +kernel
theorem dX6_mixedWithTrack_33 : decode cX6_mixedWithTrack 33 = .ok (.lstore_n 3, 1) := by decide +kernel
theorem dX6_mixedWithTrack_34 : decode cX6_mixedWithTrack 34 = .ok (.iinc 6 1, 3) := by decide +kernel
theorem dX6_mixedWithTrack_37 : decode cX6_mixedWithTrack 37 = .ok (.goto (-22), 3) := by decide +kernel
theorem dX6_mixedWithTrack_40 : decode cX6_mixedWithTrack 40 = .ok (.iinc 5 1, 3) := by decide +kernel
theorem dX6_mixedWithTrack_43 : decode cX6_mixedWithTrack 43 = .ok (.goto (-38), 3) := by decide +kernel
theorem dX6_mixedWithTrack_46 : decode cX6_mixedWithTrack 46 = .ok (.iconst 0, 1) := by decide +kernel
theorem dX6_mixedWithTrack_47 : decode cX6_mixedWithTrack 47 = .ok (.istore 5, 2) := by decide +kernel
theorem dX6_mixedWithTrack_49 : decode cX6_mixedWithTrack 49 = .ok (.iload 5, 2) := by decide +kernel
theorem dX6_mixedWithTrack_51 : decode cX6_mixedWithTrack 51 = .ok (.iconst 3, 1) := by decide +kernel
theorem dX6_mixedWithTrack_52 : decode cX6_mixedWithTrack 52 = .ok (.if_icmp .ge 38, 3) := by decide +kernel
theorem dX6_mixedWithTrack_55 : decode cX6_mixedWithTrack 55 = .ok (.iconst 0, 1) := by decide +kernel
theorem dX6_mixedWithTrack_56 : decode cX6_mixedWithTrack 56 = .ok (.istore 6, 2) := by decide +kernel
theorem dX6_mixedWithTrack_58 : decode cX6_mixedWithTrack 58 = .ok (.iload 6, 2) := by decide +kernel
theorem dX6_mixedWithTrack_60 : decode cX6_mixedWithTrack 60 = .ok (.bipush 6, 2) := by decide +kernel
theorem dX6_mixedWithTrack_62 : decode cX6_mixedWithTrack 62 = .ok (.if_icmp .ge 22, 3) := by decide +kernel
theorem dX6_mixedWithTrack_65 : decode cX6_mixedWithTrack 65 = .ok (.lload_n 3, 1) := by decide +kernel
theorem dX6_mixedWithTrack_66 : decode cX6_mixedWithTrack 66 = .ok (.aload_n 0, 1) := by decide +kernel
theorem dX6_mixedWithTrack_67 : decode cX6_mixedWithTrack 67 = .ok (.iload 5, 2) := by decide +kernel
theorem dX6_mixedWithTrack_69 : decode cX6_mixedWithTrack 69 = .ok (.iload 6, 2) := by decide +kernel
theorem dX6_mixedWithTrack_71 : decode cX6_mixedWithTrack 71 = .ok (.invokevirtual 268, 3) := by decide +kernel
theorem dX6_mixedWithTrack_74 : decode cX6_mixedWithTrack 74 = .ok (.invokestatic 238, 3) := by decide +kernel
theorem dX6_mixedWithTrack_77 : decode cX6_mixedWithTrack 77 = .ok (.lstore_n 3, 1) := by decide +kernel
theorem dX6_mixedWithTrack_78 : decode cX6_mixedWithTrack 78 = .ok (.iinc 6 1, 3) := by decide +kernel
theorem dX6_mixedWithTrack_81 : decode cX6_mixedWithTrack 81 = .ok (.goto (-23), 3) := by decide +kernel
theorem dX6_mixedWithTrack_84 : decode cX6_mixedWithTrack 84 = .ok (.iinc 5 1, 3) := by decide +kernel
theorem dX6_mixedWithTrack_87 : decode cX6_mixedWithTrack 87 = .ok (.goto (-38), 3) := by decide +kernel
theorem dX6_mixedWithTrack_90 : decode cX6_mixedWithTrack 90 = .ok (.lload_n 3, 1) := by decide +kernel
theorem dX6_mixedWithTrack_91 : decode cX6_mixedWithTrack 91 = .ok (.aload_n 0, 1) := by decide +kernel
theorem dX6_mixedWithTrack_92 : decode cX6_mixedWithTrack 92 = .ok (.iconst (-1), 1) := by decide +kernel
theorem dX6_mixedWithTrack_93 : decode cX6_mixedWithTrack 93 = .ok (.invokevirtual 271, 3) := by decide +kernel
theorem dX6_mixedWithTrack_96 : decode cX6_mixedWithTrack 96 = .ok (.invokestatic 238, 3) := by decide +kernel
theorem dX6_mixedWithTrack_99 : decode cX6_mixedWithTrack 99 = .ok (.lreturn, 1) := by decide +kernel
theorem dX6_mixedWithOrders_0 : decode cX6_mixedWithOrders 0 = .ok (.lload_n 1, 1) := by decide +kernel
theorem dX6_mixedWithOrders_1 : decode cX6_mixedWithOrders 1 = .ok (.lstore_n 3, 1) := by decide +kernel
theorem dX6_mixedWithOrders_2 : decode cX6_mixedWithOrders 2 = .ok (.iconst 0, 1) := by decide +kernel
theorem dX6_mixedWithOrders_3 : decode cX6_mixedWithOrders 3 = .ok (.istore 5, 2) := by decide +kernel
theorem dX6_mixedWithOrders_5 : decode cX6_mixedWithOrders 5 = .ok (.iload 5, 2) := by decide +kernel
theorem dX6_mixedWithOrders_7 : decode cX6_mixedWithOrders 7 = .ok (.aload_n 0, 1) := by decide +kernel
theorem dX6_mixedWithOrders_8 : decode cX6_mixedWithOrders 8 = .ok (.getfield 19, 3) := by decide +kernel
theorem dX6_mixedWithOrders_11 : decode cX6_mixedWithOrders 11 = .ok (.getfield 112, 3) := by decide +kernel
theorem dX6_mixedWithOrders_14 : decode cX6_mixedWithOrders 14 = .ok (.invokevirtual 116, 3) := by decide +kernel
theorem dX6_mixedWithOrders_17 : decode cX6_mixedWithOrders 17 = .ok (.if_icmp .ge 37, 3) := by decide +kernel
theorem dX6_mixedWithOrders_20 : decode cX6_mixedWithOrders 20 = .ok (.iconst 0, 1) := by decide +kernel
theorem dX6_mixedWithOrders_21 : decode cX6_mixedWithOrders 21 = .ok (.istore 6, 2) := by decide +kernel
theorem dX6_mixedWithOrders_23 : decode cX6_mixedWithOrders 23 = .ok (.iload 6, 2) := by decide +kernel
theorem dX6_mixedWithOrders_25 : decode cX6_mixedWithOrders 25 = .ok (.iconst 5, 1) := by decide +kernel
theorem dX6_mixedWithOrders_26 : decode cX6_mixedWithOrders 26 = .ok (.if_icmp .ge 22, 3) := by decide +kernel
theorem dX6_mixedWithOrders_29 : decode cX6_mixedWithOrders 29 = .ok (.lload_n 3, 1) := by decide +kernel
theorem dX6_mixedWithOrders_30 : decode cX6_mixedWithOrders 30 = .ok (.aload_n 0, 1) := by decide +kernel
theorem dX6_mixedWithOrders_31 : decode cX6_mixedWithOrders 31 = .ok (.iload 5, 2) := by decide +kernel
theorem dX6_mixedWithOrders_33 : decode cX6_mixedWithOrders 33 = .ok (.iload 6, 2) := by decide +kernel
theorem dX6_mixedWithOrders_35 : decode cX6_mixedWithOrders 35 = .ok (.invokevirtual 274, 3) := by decide +kernel
theorem dX6_mixedWithOrders_38 : decode cX6_mixedWithOrders 38 = .ok (.invokestatic 238, 3) := by decide +kernel
theorem dX6_mixedWithOrders_41 : decode cX6_mixedWithOrders 41 = .ok (.lstore_n 3, 1) := by decide +kernel
theorem dX6_mixedWithOrders_42 : decode cX6_mixedWithOrders 42 = .ok (.iinc 6 1, 3) := by decide +kernel
theorem dX6_mixedWithOrders_45 : decode cX6_mixedWithOrders 45 = .ok (.goto (-22), 3) := by decide +kernel
theorem dX6_mixedWithOrders_48 : decode cX6_mixedWithOrders 48 = .ok (.iinc 5 1, 3) := by decide +kernel
theorem dX6_mixedWithOrders_51 : decode cX6_mixedWithOrders 51 = .ok (.goto (-46), 3) := by decide +kernel
theorem dX6_mixedWithOrders_54 : decode cX6_mixedWithOrders 54 = .ok (.lload_n 3, 1) := by decide +kernel
theorem dX6_mixedWithOrders_55 : decode cX6_mixedWithOrders 55 = .ok (.lreturn, 1) := by decide +kernel
theorem dX6_mixed_0 : decode cX6_mixed 0 = .ok (.ldc2_w 277, 3) := by decide +kernel
theorem dX6_mixed_3 : decode cX6_mixed 3 = .ok (.lload_n 0, 1) := by decide +kernel
theorem dX6_mixed_4 : decode cX6_mixed 4 = .ok (.lmul, 1) := by decide +kernel
theorem dX6_mixed_5 : decode cX6_mixed 5 = .ok (.iload_n 2, 1) := by decide +kernel
theorem dX6_mixed_6 : decode cX6_mixed 6 = .ok (.i2l, 1) := by decide +kernel
theorem dX6_mixed_7 : decode cX6_mixed 7 = .ok (.ladd, 1) := by decide +kernel
theorem dX6_mixed_8 : decode cX6_mixed 8 = .ok (.lreturn, 1) := by decide +kernel
theorem dX6_lookAhead_0 : decode cX6_lookAhead 0 = .ok (.aload_n 0, 1) := by decide +kernel
theorem dX6_lookAhead_1 : decode cX6_lookAhead 1 = .ok (.getfield 23, 3) := by decide +kernel
theorem dX6_lookAhead_4 : decode cX6_lookAhead 4 = .ok (.aload_n 0, 1) := by decide +kernel
theorem dX6_lookAhead_5 : decode cX6_lookAhead 5 = .ok (.getfield 19, 3) := by decide +kernel
theorem dX6_lookAhead_8 : decode cX6_lookAhead 8 = .ok (.invokevirtual 217, 3) := by decide +kernel
theorem dX6_lookAhead_11 : decode cX6_lookAhead 11 = .ok (.iconst 0, 1) := by decide +kernel
theorem dX6_lookAhead_12 : decode cX6_lookAhead 12 = .ok (.istore_n 2, 1) := by decide +kernel
theorem dX6_lookAhead_13 : decode cX6_lookAhead 13 = .ok (.iload_n 2, 1) := by decide +kernel
theorem dX6_lookAhead_14 : decode cX6_lookAhead 14 = .ok (.iload_n 1, 1) := by decide +kernel
theorem dX6_lookAhead_15 : decode cX6_lookAhead 15 = .ok (.if_icmp .ge 16, 3) := by decide +kernel
theorem dX6_lookAhead_18 : decode cX6_lookAhead 18 = .ok (.aload_n 0, 1) := by decide +kernel
theorem dX6_lookAhead_19 : decode cX6_lookAhead 19 = .ok (.getfield 23, 3) := by decide +kernel
theorem dX6_lookAhead_22 : decode cX6_lookAhead 22 = .ok (.invokevirtual 133, 3) := by decide +kernel
theorem dX6_lookAhead_25 : decode cX6_lookAhead 25 = .ok (.iinc 2 1, 3) := by decide +kernel
theorem dX6_lookAhead_28 : decode cX6_lookAhead 28 = .ok (.goto (-15), 3) := by decide +kernel
theorem dX6_lookAhead_31 : decode cX6_lookAhead 31 = .ok (.return_, 1) := by decide +kernel
theorem dX6_foretold_0 : decode cX6_foretold 0 = .ok (.iload_n 1, 1) := by decide +kernel
theorem dX6_foretold_1 : decode cX6_foretold 1 = .ok (.tableswitch 123 0 6 #[43, 54, 65, 76, 84, 92, 112], 43) := by decide +kernel
theorem dX6_foretold_44 : decode cX6_foretold 44 = .ok (.aload_n 0, 1) := by decide +kernel
theorem dX6_foretold_45 : decode cX6_foretold 45 = .ok (.getfield 23, 3) := by decide +kernel
theorem dX6_foretold_48 : decode cX6_foretold 48 = .ok (.getfield 65, 3) := by decide +kernel
theorem dX6_foretold_51 : decode cX6_foretold 51 = .ok (.getfield 136, 3) := by decide +kernel
theorem dX6_foretold_54 : decode cX6_foretold 54 = .ok (.ireturn, 1) := by decide +kernel
theorem dX6_foretold_55 : decode cX6_foretold 55 = .ok (.aload_n 0, 1) := by decide +kernel
theorem dX6_foretold_56 : decode cX6_foretold 56 = .ok (.getfield 23, 3) := by decide +kernel
theorem dX6_foretold_59 : decode cX6_foretold 59 = .ok (.getfield 65, 3) := by decide +kernel
theorem dX6_foretold_62 : decode cX6_foretold 62 = .ok (.invokevirtual 69, 3) := by decide +kernel
theorem dX6_foretold_65 : decode cX6_foretold 65 = .ok (.ireturn, 1) := by decide +kernel
theorem dX6_foretold_66 : decode cX6_foretold 66 = .ok (.aload_n 0, 1) := by decide +kernel
theorem dX6_foretold_67 : decode cX6_foretold 67 = .ok (.getfield 23, 3) := by decide +kernel
theorem dX6_foretold_70 : decode cX6_foretold 70 = .ok (.getfield 144, 3) := by decide +kernel
theorem dX6_foretold_73 : decode cX6_foretold 73 = .ok (.invokevirtual 229, 3) := by decide +kernel
theorem dX6_foretold_76 : decode cX6_foretold 76 = .ok (.ireturn, 1) := by decide +kernel
theorem dX6_foretold_77 : decode cX6_foretold 77 = .ok (.aload_n 0, 1) := by decide +kernel
theorem dX6_foretold_78 : decode cX6_foretold 78 = .ok (.getfield 23, 3) := by decide +kernel
theorem dX6_foretold_81 : decode cX6_foretold 81 = .ok (.getfield 230, 3) := by decide +kernel
theorem dX6_foretold_84 : decode cX6_foretold 84 = .ok (.ireturn, 1) := by decide +kernel
theorem dX6_foretold_85 : decode cX6_foretold 85 = .ok (.aload_n 0, 1) := by decide +kernel
theorem dX6_foretold_86 : decode cX6_foretold 86 = .ok (.getfield 23, 3) := by decide +kernel
theorem dX6_foretold_89 : decode cX6_foretold 89 = .ok (.getfield 226, 3) := by decide +kernel
theorem dX6_foretold_92 : decode cX6_foretold 92 = .ok (.ireturn, 1) := by decide +kernel
theorem dX6_foretold_93 : decode cX6_foretold 93 = .ok (.aload_n 0, 1) := by decide +kernel
theorem dX6_foretold_94 : decode cX6_foretold 94 = .ok (.getfield 23, 3) := by decide +kernel
theorem dX6_foretold_97 : decode cX6_foretold 97 = .ok (.getfield 144, 3) := by decide +kernel
theorem dX6_foretold_100 : decode cX6_foretold 100 = .ok (.aload_n 0, 1) := by decide +kernel
theorem dX6_foretold_101 : decode cX6_foretold 101 = .ok (.getfield 23, 3) := by decide +kernel
theorem dX6_foretold_104 : decode cX6_foretold 104 = .ok (.getfield 62, 3) := by decide +kernel
theorem dX6_foretold_107 : decode cX6_foretold 107 = .ok (.iconst 4, 1) := by decide +kernel
theorem dX6_foretold_108 : decode cX6_foretold 108 = .ok (.iaload, 1) := by decide +kernel
theorem dX6_foretold_109 : decode cX6_foretold 109 = .ok (.invokevirtual 198, 3) := by decide +kernel
theorem dX6_foretold_112 : decode cX6_foretold 112 = .ok (.ireturn, 1) := by decide +kernel
theorem dX6_foretold_113 : decode cX6_foretold 113 = .ok (.aload_n 0, 1) := by decide +kernel
theorem dX6_foretold_114 : decode cX6_foretold 114 = .ok (.getfield 23, 3) := by decide +kernel
theorem dX6_foretold_117 : decode cX6_foretold 117 = .ok (.getfield 112, 3) := by decide +kernel
theorem dX6_foretold_120 : decode cX6_foretold 120 = .ok (.invokevirtual 116, 3) := by decide +kernel
theorem dX6_foretold_123 : decode cX6_foretold 123 = .ok (.ireturn, 1) := by decide +kernel
theorem dX6_foretold_124 : decode cX6_foretold 124 = .ok (.sipush (-1002), 3) := by decide +kernel
theorem dX6_foretold_127 : decode cX6_foretold 127 = .ok (.ireturn, 1) := by decide +kernel
theorem dX6_isWithin_0 : decode cX6_isWithin 0 = .ok (.iload_n 0, 1) := by decide +kernel
theorem dX6_isWithin_1 : decode cX6_isWithin 1 = .ok (.iload_n 1, 1) := by decide +kernel
theorem dX6_isWithin_2 : decode cX6_isWithin 2 = .ok (.if_icmp .lt 12, 3) := by decide +kernel
theorem dX6_isWithin_5 : decode cX6_isWithin 5 = .ok (.iload_n 0, 1) := by decide +kernel
theorem dX6_isWithin_6 : decode cX6_isWithin 6 = .ok (.iload_n 2, 1) := by decide +kernel
theorem dX6_isWithin_7 : decode cX6_isWithin 7 = .ok (.if_icmp .gt 7, 3) := by decide +kernel
theorem dX6_isWithin_10 : decode cX6_isWithin 10 = .ok (.iconst 1, 1) := by decide +kernel
theorem dX6_isWithin_11 : decode cX6_isWithin 11 = .ok (.goto 4, 3) := by decide +kernel
theorem dX6_isWithin_14 : decode cX6_isWithin 14 = .ok (.iconst 0, 1) := by decide +kernel
theorem dX6_isWithin_15 : decode cX6_isWithin 15 = .ok (.ireturn, 1) := by decide +kernel
theorem dX6_sum_0 : decode cX6_sum 0 = .ok (.iconst 0, 1) := by decide +kernel
theorem dX6_sum_1 : decode cX6_sum 1 = .ok (.istore_n 1, 1) := by decide +kernel
theorem dX6_sum_2 : decode cX6_sum 2 = .ok (.aload_n 0, 1) := by decide +kernel
theorem dX6_sum_3 : decode cX6_sum 3 = .ok (.astore_n 2, 1) := by decide +kernel
theorem dX6_sum_4 : decode cX6_sum 4 = .ok (.aload_n 2, 1) := by decide +kernel
theorem dX6_sum_5 : decode cX6_sum 5 = .ok (.arraylength, 1) := by decide +kernel
theorem dX6_sum_6 : decode cX6_sum 6 = .ok (.istore_n 3, 1) := by decide +kernel
theorem dX6_sum_7 : decode cX6_sum 7 = .ok (.iconst 0, 1) := by decide +kernel
theorem dX6_sum_8 : decode cX6_sum 8 = .ok (.istore 4, 2) := by decide +kernel
theorem dX6_sum_10 : decode cX6_sum 10 = .ok (.iload 4, 2) := by decide +kernel
theorem dX6_sum_12 : decode cX6_sum 12 = .ok (.iload_n 3, 1) := by decide +kernel
theorem dX6_sum_13 : decode cX6_sum 13 = .ok (.if_icmp .ge 20, 3) := by decide +kernel
theorem dX6_sum_16 : decode cX6_sum 16 = .ok (.aload_n 2, 1) := by decide +kernel
theorem dX6_sum_17 : decode cX6_sum 17 = .ok (.iload 4, 2) := by decide +kernel
theorem dX6_sum_19 : decode cX6_sum 19 = .ok (.iaload, 1) := by decide +kernel
theorem dX6_sum_20 : decode cX6_sum 20 = .ok (.istore 5, 2) := by decide +kernel
theorem dX6_sum_22 : decode cX6_sum 22 = .ok (.iload_n 1, 1) := by decide +kernel
theorem dX6_sum_23 : decode cX6_sum 23 = .ok (.iload 5, 2) := by decide +kernel
theorem dX6_sum_25 : decode cX6_sum 25 = .ok (.iadd, 1) := by decide +kernel
theorem dX6_sum_26 : decode cX6_sum 26 = .ok (.istore_n 1, 1) := by decide +kernel
theorem dX6_sum_27 : decode cX6_sum 27 = .ok (.iinc 4 1, 3) := by decide +kernel
theorem dX6_sum_30 : decode cX6_sum 30 = .ok (.goto (-20), 3) := by decide +kernel
theorem dX6_sum_33 : decode cX6_sum 33 = .ok (.iload_n 1, 1) := by decide +kernel
theorem dX6_sum_34 : decode cX6_sum 34 = .ok (.ireturn, 1) := by decide +kernel
theorem dX6_copyRow_0 : decode cX6_copyRow 0 = .ok (.aload_n 0, 1) := by decide +kernel
theorem dX6_copyRow_1 : decode cX6_copyRow 1 = .ok (.iconst 0, 1) := by decide +kernel
theorem dX6_copyRow_2 : decode cX6_copyRow 2 = .ok (.aload_n 1, 1) := by decide +kernel
theorem dX6_copyRow_3 : decode cX6_copyRow 3 = .ok (.iconst 0, 1) := by decide +kernel
theorem dX6_copyRow_4 : decode cX6_copyRow 4 = .ok (.aload_n 0, 1) := by decide +kernel
theorem dX6_copyRow_5 : decode cX6_copyRow 5 = .ok (.arraylength, 1) := by decide +kernel
theorem dX6_copyRow_6 : decode cX6_copyRow 6 = .ok (.aload_n 1, 1) := by decide +kernel
theorem dX6_copyRow_7 : decode cX6_copyRow 7 = .ok (.arraylength, 1) := by decide +kernel
theorem dX6_copyRow_8 : decode cX6_copyRow 8 = .ok (.invokestatic 151, 3) := by decide +kernel
theorem dX6_copyRow_11 : decode cX6_copyRow 11 = .ok (.invokestatic 279, 3) := by decide +kernel
theorem dX6_copyRow_14 : decode cX6_copyRow 14 = .ok (.return_, 1) := by decide +kernel
theorem dX6_addAll_0 : decode cX6_addAll 0 = .ok (.iconst 0, 1) := by decide +kernel
theorem dX6_addAll_1 : decode cX6_addAll 1 = .ok (.istore_n 2, 1) := by decide +kernel
theorem dX6_addAll_2 : decode cX6_addAll 2 = .ok (.iload_n 2, 1) := by decide +kernel
theorem dX6_addAll_3 : decode cX6_addAll 3 = .ok (.aload_n 0, 1) := by decide +kernel
theorem dX6_addAll_4 : decode cX6_addAll 4 = .ok (.invokevirtual 116, 3) := by decide +kernel
theorem dX6_addAll_7 : decode cX6_addAll 7 = .ok (.if_icmp .ge 22, 3) := by decide +kernel
theorem dX6_addAll_10 : decode cX6_addAll 10 = .ok (.aload_n 1, 1) := by decide +kernel
theorem dX6_addAll_11 : decode cX6_addAll 11 = .ok (.aload_n 0, 1) := by decide +kernel
theorem dX6_addAll_12 : decode cX6_addAll 12 = .ok (.iload_n 2, 1) := by decide +kernel
theorem dX6_addAll_13 : decode cX6_addAll 13 = .ok (.invokevirtual 203, 3) := by decide +kernel
theorem dX6_addAll_16 : decode cX6_addAll 16 = .ok (.checkcast 206, 3) := by decide +kernel
theorem dX6_addAll_19 : decode cX6_addAll 19 = .ok (.invokevirtual 285, 3) := by decide +kernel
theorem dX6_addAll_22 : decode cX6_addAll 22 = .ok (.pop, 1) := by decide +kernel
theorem dX6_addAll_23 : decode cX6_addAll 23 = .ok (.iinc 2 1, 3) := by decide +kernel
theorem dX6_addAll_26 : decode cX6_addAll 26 = .ok (.goto (-24), 3) := by decide +kernel
theorem dX6_addAll_29 : decode cX6_addAll 29 = .ok (.return_, 1) := by decide +kernel
theorem dX7_init_0 : decode cX7_init 0 = .ok (.aload_n 0, 1) := by decide +kernel
theorem dX7_init_1 : decode cX7_init 1 = .ok (.invokespecial 1, 3) := by decide +kernel
theorem dX7_init_4 : decode cX7_init 4 = .ok (.aload_n 0, 1) := by decide +kernel
theorem dX7_init_5 : decode cX7_init 5 = .ok (.sipush 233, 3) := by decide +kernel
theorem dX7_init_8 : decode cX7_init 8 = .ok (.newarray .int, 2) := by decide +kernel
theorem dX7_init_10 : decode cX7_init 10 = .ok (.putfield 7, 3) := by decide +kernel
theorem dX7_init_13 : decode cX7_init 13 = .ok (.aload_n 0, 1) := by decide +kernel
theorem dX7_init_14 : decode cX7_init 14 = .ok (.sipush 1398, 3) := by decide +kernel
theorem dX7_init_17 : decode cX7_init 17 = .ok (.newarray .int, 2) := by decide +kernel
theorem dX7_init_19 : decode cX7_init 19 = .ok (.putfield 13, 3) := by decide +kernel
theorem dX7_init_22 : decode cX7_init 22 = .ok (.aload_n 0, 1) := by decide +kernel
theorem dX7_init_23 : decode cX7_init 23 = .ok (.sipush 233, 3) := by decide +kernel
theorem dX7_init_26 : decode cX7_init 26 = .ok (.newarray .int, 2) := by decide +kernel
theorem dX7_init_28 : decode cX7_init 28 = .ok (.putfield 16, 3) := by decide +kernel
theorem dX7_init_31 : decode cX7_init 31 = .ok (.aload_n 0, 1) := by decide +kernel
theorem dX7_init_32 : decode cX7_init 32 = .ok (.bipush 60, 2) := by decide +kernel
theorem dX7_init_34 : decode cX7_init 34 = .ok (.newarray .int, 2) := by decide +kernel
theorem dX7_init_36 : decode cX7_init 36 = .ok (.putfield 19, 3) := by decide +kernel
theorem dX7_init_39 : decode cX7_init 39 = .ok (.aload_n 0, 1) := by decide +kernel
theorem dX7_init_40 : decode cX7_init 40 = .ok (.bipush 80, 2) := by decide +kernel
theorem dX7_init_42 : decode cX7_init 42 = .ok (.newarray .int, 2) := by decide +kernel
theorem dX7_init_44 : decode cX7_init 44 = .ok (.putfield 22, 3) := by decide +kernel
theorem dX7_init_47 : decode cX7_init 47 = .ok (.aload_n 0, 1) := by decide +kernel
theorem dX7_init_48 : decode cX7_init 48 = .ok (.getfield 7, 3) := by decide +kernel
theorem dX7_init_51 : decode cX7_init 51 = .ok (.sipush 228, 3) := by decide +kernel
theorem dX7_init_54 : decode cX7_init 54 = .ok (.iconst 4, 1) := by decide +kernel
theorem dX7_init_55 : decode cX7_init 55 = .ok (.iastore, 1) := by decide +kernel
theorem dX7_init_56 : decode cX7_init 56 = .ok (.aload_n 0, 1) := by decide +kernel
theorem dX7_init_57 : decode cX7_init 57 = .ok (.getfield 7, 3) := by decide +kernel
theorem dX7_init_60 : decode cX7_init 60 = .ok (.sipush 229, 3) := by decide +kernel
theorem dX7_init_63 : decode cX7_init 63 = .ok (.bipush 12, 2) := by decide +kernel
theorem dX7_init_65 : decode cX7_init 65 = .ok (.iastore, 1) := by decide +kernel
theorem dX7_init_66 : decode cX7_init 66 = .ok (.aload_n 0, 1) := by decide +kernel
theorem dX7_init_67 : decode cX7_init 67 = .ok (.getfield 7, 3) := by decide +kernel
theorem dX7_init_70 : decode cX7_init 70 = .ok (.sipush 230, 3) := by decide +kernel
theorem dX7_init_73 : decode cX7_init 73 = .ok (.iconst 1, 1) := by decide +kernel
theorem dX7_init_74 : decode cX7_init 74 = .ok (.iastore, 1) := by decide +kernel
theorem dX7_init_75 : decode cX7_init 75 = .ok (.aload_n 0, 1) := by decide +kernel
theorem dX7_init_76 : decode cX7_init 76 = .ok (.getfield 7, 3) := by decide +kernel
theorem dX7_init_79 : decode cX7_init 79 = .ok (.sipush 231, 3) := by decide +kernel
theorem dX7_init_82 : decode cX7_init 82 = .ok (.bipush 100, 2) := by decide +kernel
theorem dX7_init_84 : decode cX7_init 84 = .ok (.iastore, 1) := by decide +kernel
theorem dX7_init_85 : decode cX7_init 85 = .ok (.aload_n 0, 1) := by decide +kernel
theorem dX7_init_86 : decode cX7_init 86 = .ok (.getfield 7, 3) := by decide +kernel
theorem dX7_init_89 : decode cX7_init 89 = .ok (.sipush 232, 3) := by decide +kernel
theorem dX7_init_92 : decode cX7_init 92 = .ok (.bipush 8, 2) := by decide +kernel
theorem dX7_init_94 : decode cX7_init 94 = .ok (.iastore, 1) := by decide +kernel
theorem dX7_init_95 : decode cX7_init 95 = .ok (.aload_n 0, 1) := by decide +kernel
theorem dX7_init_96 : decode cX7_init 96 = .ok (.iconst 3, 1) := by decide +kernel
theorem dX7_init_97 : decode cX7_init 97 = .ok (.invokevirtual 25, 3) := by decide +kernel
theorem dX7_init_100 : decode cX7_init 100 = .ok (.return_, 1) := by decide +kernel
theorem dX7_in_0 : decode cX7_in 0 = .ok (.iload_n 0, 1) := by decide +kernel
theorem dX7_in_1 : decode cX7_in 1 = .ok (.iload_n 1, 1) := by decide +kernel
theorem dX7_in_2 : decode cX7_in 2 = .ok (.if_icmp .lt 12, 3) := by decide +kernel
theorem dX7_in_5 : decode cX7_in 5 = .ok (.iload_n 0, 1) := by decide +kernel
theorem dX7_in_6 : decode cX7_in 6 = .ok (.iload_n 2, 1) := by decide +kernel
theorem dX7_in_7 : decode cX7_in 7 = .ok (.if_icmp .gt 7, 3) := by decide +kernel
theorem dX7_in_10 : decode cX7_in 10 = .ok (.iconst 1, 1) := by decide +kernel
theorem dX7_in_11 : decode cX7_in 11 = .ok (.goto 4, 3) := by decide +kernel
theorem dX7_in_14 : decode cX7_in 14 = .ok (.iconst 0, 1) := by decide +kernel
theorem dX7_in_15 : decode cX7_in 15 = .ok (.ireturn, 1) := by decide +kernel
theorem dX7_least_0 : decode cX7_least 0 = .ok (.iload_n 0, 1) := by decide +kernel
theorem dX7_least_1 : decode cX7_least 1 = .ok (.iload_n 1, 1) := by decide +kernel
theorem dX7_least_2 : decode cX7_least 2 = .ok (.if_icmp .ge 7, 3) := by decide +kernel
theorem dX7_least_5 : decode cX7_least 5 = .ok (.iload_n 0, 1) := by decide +kernel
theorem dX7_least_6 : decode cX7_least 6 = .ok (.goto 4, 3) := by decide +kernel
theorem dX7_least_9 : decode cX7_least 9 = .ok (.iload_n 1, 1) := by decide +kernel
theorem dX7_least_10 : decode cX7_least 10 = .ok (.ireturn, 1) := by decide +kernel
theorem dX7_isWagon_0 : decode cX7_isWagon 0 = .ok (.iload_n 1, 1) := by decide +kernel
theorem dX7_isWagon_1 : decode cX7_isWagon 1 = .ok (.iconst 0, 1) := by decide +kernel
theorem dX7_isWagon_2 : decode cX7_isWagon 2 = .ok (.aload_n 0, 1) := by decide +kernel
theorem dX7_isWagon_3 : decode cX7_isWagon 3 = .ok (.getfield 7, 3) := by decide +kernel
theorem dX7_isWagon_6 : decode cX7_isWagon 6 = .ok (.sipush 218, 3) := by decide +kernel
theorem dX7_isWagon_9 : decode cX7_isWagon 9 = .ok (.iaload, 1) := by decide +kernel
theorem dX7_isWagon_10 : decode cX7_isWagon 10 = .ok (.iconst 1, 1) := by decide +kernel
theorem dX7_isWagon_11 : decode cX7_isWagon 11 = .ok (.isub, 1) := by decide +kernel
theorem dX7_isWagon_12 : decode cX7_isWagon 12 = .ok (.invokestatic 29, 3) := by decide +kernel
theorem dX7_isWagon_15 : decode cX7_isWagon 15 = .ok (.ireturn, 1) := by decide +kernel
theorem dX7_isStrip_0 : decode cX7_isStrip 0 = .ok (.iload_n 0, 1) := by decide +kernel
theorem dX7_isStrip_1 : decode cX7_isStrip 1 = .ok (.iconst 0, 1) := by decide +kernel
theorem dX7_isStrip_2 : decode cX7_isStrip 2 = .ok (.iconst 2, 1) := by decide +kernel
theorem dX7_isStrip_3 : decode cX7_isStrip 3 = .ok (.invokestatic 29, 3) := by decide +kernel
theorem dX7_isStrip_6 : decode cX7_isStrip 6 = .ok (.ireturn, 1) := by decide +kernel
theorem dX7_isCell_0 : decode cX7_isCell 0 = .ok (.iload_n 0, 1) := by decide +kernel
theorem dX7_isCell_1 : decode cX7_isCell 1 = .ok (.iconst 0, 1) := by decide +kernel
theorem dX7_isCell_2 : decode cX7_isCell 2 = .ok (.bipush 39, 2) := by decide +kernel
theorem dX7_isCell_4 : decode cX7_isCell 4 = .ok (.invokestatic 29, 3) := by decide +kernel
theorem dX7_isCell_7 : decode cX7_isCell 7 = .ok (.ireturn, 1) := by decide +kernel
theorem dX7_of_0 : decode cX7_of 0 = .ok (.aload_n 0, 1) := by decide +kernel
theorem dX7_of_1 : decode cX7_of 1 = .ok (.getfield 7, 3) := by decide +kernel
theorem dX7_of_4 : decode cX7_of 4 = .ok (.bipush 120, 2) := by decide +kernel
theorem dX7_of_6 : decode cX7_of 6 = .ok (.bipush 8, 2) := by decide +kernel
theorem dX7_of_8 : decode cX7_of 8 = .ok (.iload_n 1, 1) := by decide +kernel
theorem dX7_of_9 : decode cX7_of 9 = .ok (.imul, 1) := by decide +kernel
theorem dX7_of_10 : decode cX7_of 10 = .ok (.iadd, 1) := by decide +kernel
theorem dX7_of_11 : decode cX7_of 11 = .ok (.iload_n 2, 1) := by decide +kernel
theorem dX7_of_12 : decode cX7_of 12 = .ok (.iadd, 1) := by decide +kernel
theorem dX7_of_13 : decode cX7_of 13 = .ok (.iaload, 1) := by decide +kernel
theorem dX7_of_14 : decode cX7_of 14 = .ok (.ireturn, 1) := by decide +kernel
theorem dX7_put_0 : decode cX7_put 0 = .ok (.aload_n 0, 1) := by decide +kernel
theorem dX7_put_1 : decode cX7_put 1 = .ok (.getfield 7, 3) := by decide +kernel
theorem dX7_put_4 : decode cX7_put 4 = .ok (.bipush 120, 2) := by decide +kernel
theorem dX7_put_6 : decode cX7_put 6 = .ok (.bipush 8, 2) := by decide +kernel
theorem dX7_put_8 : decode cX7_put 8 = .ok (.iload_n 1, 1) := by decide +kernel
theorem dX7_put_9 : decode cX7_put 9 = .ok (.imul, 1) := by decide +kernel
theorem dX7_put_10 : decode cX7_put 10 = .ok (.iadd, 1) := by decide +kernel
theorem dX7_put_11 : decode cX7_put 11 = .ok (.iload_n 2, 1) := by decide +kernel
theorem dX7_put_12 : decode cX7_put 12 = .ok (.iadd, 1) := by decide +kernel
theorem dX7_put_13 : decode cX7_put 13 = .ok (.iload_n 3, 1) := by decide +kernel
theorem dX7_put_14 : decode cX7_put 14 = .ok (.iastore, 1) := by decide +kernel
theorem dX7_put_15 : decode cX7_put 15 = .ok (.return_, 1) := by decide +kernel
theorem dX7_couples_0 : decode cX7_couples 0 = .ok (.iconst 0, 1) := by decide +kernel
theorem dX7_couples_1 : decode cX7_couples 1 = .ok (.istore_n 2, 1) := by decide +kernel
theorem dX7_couples_2 : decode cX7_couples 2 = .ok (.iload_n 2, 1) := by decide +kernel
theorem dX7_couples_3 : decode cX7_couples 3 = .ok (.bipush 6, 2) := by decide +kernel
theorem dX7_couples_5 : decode cX7_couples 5 = .ok (.if_icmp .ge 41, 3) := by decide +kernel
theorem dX7_couples_8 : decode cX7_couples 8 = .ok (.iconst 0, 1) := by decide +kernel
theorem dX7_couples_9 : decode cX7_couples 9 = .ok (.istore_n 3, 1) := by decide +kernel
theorem dX7_couples_10 : decode cX7_couples 10 = .ok (.iload_n 3, 1) := by decide +kernel
theorem dX7_couples_11 : decode cX7_couples 11 = .ok (.bipush 8, 2) := by decide +kernel
theorem dX7_couples_13 : decode cX7_couples 13 = .ok (.if_icmp .ge 27, 3) := by decide +kernel
theorem dX7_couples_16 : decode cX7_couples 16 = .ok (.aload_n 0, 1) := by decide +kernel
theorem dX7_couples_17 : decode cX7_couples 17 = .ok (.iload_n 2, 1) := by decide +kernel
theorem dX7_couples_18 : decode cX7_couples 18 = .ok (.iload_n 3, 1) := by decide +kernel
theorem dX7_couples_19 : decode cX7_couples 19 = .ok (.iload_n 3, 1) := by decide +kernel
theorem dX7_couples_20 : decode cX7_couples 20 = .ok (.iconst 5, 1) := by decide +kernel
theorem dX7_couples_21 : decode cX7_couples 21 = .ok (.if_icmp .lt 9, 3) := by decide +kernel
theorem dX7_couples_24 : decode cX7_couples 24 = .ok (.sipush (-1001), 3) := by decide +kernel
theorem dX7_couples_27 : decode cX7_couples 27 = .ok (.goto 4, 3) := by decide +kernel
theorem dX7_couples_30 : decode cX7_couples 30 = .ok (.iconst 0, 1) := by decide +kernel
theorem dX7_couples_31 : decode cX7_couples 31 = .ok (.invokevirtual 33, 3) := by decide +kernel
theorem dX7_couples_34 : decode cX7_couples 34 = .ok (.iinc 3 1, 3) := by decide +kernel
theorem dX7_couples_37 : decode cX7_couples 37 = .ok (.goto (-27), 3) := by decide +kernel
theorem dX7_couples_40 : decode cX7_couples 40 = .ok (.iinc 2 1, 3) := by decide +kernel
theorem dX7_couples_43 : decode cX7_couples 43 = .ok (.goto (-41), 3) := by decide +kernel
theorem dX7_couples_46 : decode cX7_couples 46 = .ok (.aload_n 0, 1) := by decide +kernel
theorem dX7_couples_47 : decode cX7_couples 47 = .ok (.getfield 7, 3) := by decide +kernel
theorem dX7_couples_50 : decode cX7_couples 50 = .ok (.sipush 218, 3) := by decide +kernel
theorem dX7_couples_53 : decode cX7_couples 53 = .ok (.iload_n 1, 1) := by decide +kernel
theorem dX7_couples_54 : decode cX7_couples 54 = .ok (.iastore, 1) := by decide +kernel
theorem dX7_couples_55 : decode cX7_couples 55 = .ok (.aload_n 0, 1) := by decide +kernel
theorem dX7_couples_56 : decode cX7_couples 56 = .ok (.getfield 7, 3) := by decide +kernel
theorem dX7_couples_59 : decode cX7_couples 59 = .ok (.sipush 219, 3) := by decide +kernel
theorem dX7_couples_62 : decode cX7_couples 62 = .ok (.iconst (-1), 1) := by decide +kernel
theorem dX7_couples_63 : decode cX7_couples 63 = .ok (.iastore, 1) := by decide +kernel
theorem dX7_couples_64 : decode cX7_couples 64 = .ok (.aload_n 0, 1) := by decide +kernel
theorem dX7_couples_65 : decode cX7_couples 65 = .ok (.getfield 7, 3) := by decide +kernel
theorem dX7_couples_68 : decode cX7_couples 68 = .ok (.sipush 220, 3) := by decide +kernel
theorem dX7_couples_71 : decode cX7_couples 71 = .ok (.iconst 0, 1) := by decide +kernel
theorem dX7_couples_72 : decode cX7_couples 72 = .ok (.iastore, 1) := by decide +kernel
theorem dX7_couples_73 : decode cX7_couples 73 = .ok (.aload_n 0, 1) := by decide +kernel
theorem dX7_couples_74 : decode cX7_couples 74 = .ok (.getfield 7, 3) := by decide +kernel
theorem dX7_couples_77 : decode cX7_couples 77 = .ok (.sipush 221, 3) := by decide +kernel
theorem dX7_couples_80 : decode cX7_couples 80 = .ok (.iconst 0, 1) := by decide +kernel
theorem dX7_couples_81 : decode cX7_couples 81 = .ok (.iastore, 1) := by decide +kernel
theorem dX7_couples_82 : decode cX7_couples 82 = .ok (.return_, 1) := by decide +kernel
theorem dX7_keeps_0 : decode cX7_keeps 0 = .ok (.aload_n 0, 1) := by decide +kernel
theorem dX7_keeps_1 : decode cX7_keeps 1 = .ok (.getfield 37, 3) := by decide +kernel
theorem dX7_keeps_4 : decode cX7_keeps 4 = .ok (.bipush 6, 2) := by decide +kernel
theorem dX7_keeps_6 : decode cX7_keeps 6 = .ok (.if_icmp .ne 44, 3) := by decide +kernel
theorem dX7_keeps_9 : decode cX7_keeps 9 = .ok (.iconst 0, 1) := by decide +kernel
theorem dX7_keeps_10 : decode cX7_keeps 10 = .ok (.istore_n 1, 1) := by decide +kernel
theorem dX7_keeps_11 : decode cX7_keeps 11 = .ok (.iload_n 1, 1) := by decide +kernel
theorem dX7_keeps_12 : decode cX7_keeps 12 = .ok (.sipush 1165, 3) := by decide +kernel
theorem dX7_keeps_15 : decode cX7_keeps 15 = .ok (.if_icmp .ge 25, 3) := by decide +kernel
theorem dX7_keeps_18 : decode cX7_keeps 18 = .ok (.aload_n 0, 1) := by decide +kernel
theorem dX7_keeps_19 : decode cX7_keeps 19 = .ok (.getfield 13, 3) := by decide +kernel
theorem dX7_keeps_22 : decode cX7_keeps 22 = .ok (.iload_n 1, 1) := by decide +kernel
theorem dX7_keeps_23 : decode cX7_keeps 23 = .ok (.aload_n 0, 1) := by decide +kernel
theorem dX7_keeps_24 : decode cX7_keeps 24 = .ok (.getfield 13, 3) := by decide +kernel
theorem dX7_keeps_27 : decode cX7_keeps 27 = .ok (.iload_n 1, 1) := by decide +kernel
theorem dX7_keeps_28 : decode cX7_keeps 28 = .ok (.sipush 233, 3) := by decide +kernel
theorem dX7_keeps_31 : decode cX7_keeps 31 = .ok (.iadd, 1) := by decide +kernel
theorem dX7_keeps_32 : decode cX7_keeps 32 = .ok (.iaload, 1) := by decide +kernel
theorem dX7_keeps_33 : decode cX7_keeps 33 = .ok (.iastore, 1) := by decide +kernel
theorem dX7_keeps_34 : decode cX7_keeps 34 = .ok (.iinc 1 1, 3) := by decide +kernel
theorem dX7_keeps_37 : decode cX7_keeps 37 = .ok (.goto (-26), 3) := by decide +kernel
theorem dX7_keeps_40 : decode cX7_keeps 40 = .ok (.aload_n 0, 1) := by decide +kernel
theorem dX7_keeps_41 : decode cX7_keeps 41 = .ok (.dup, 1) := by decide +kernel
theorem dX7_keeps_42 : decode cX7_keeps 42 = .ok (.getfield 37, 3) := by decide +kernel
theorem dX7_keeps_45 : decode cX7_keeps 45 = .ok (.iconst 1, 1) := by decide +kernel
theorem dX7_keeps_46 : decode cX7_keeps 46 = .ok (.isub, 1) := by decide +kernel
theorem dX7_keeps_47 : decode cX7_keeps 47 = .ok (.putfield 37, 3) := by decide +kernel
theorem dX7_keeps_50 : decode cX7_keeps 50 = .ok (.iconst 0, 1) := by decide +kernel
theorem dX7_keeps_51 : decode cX7_keeps 51 = .ok (.istore_n 1, 1) := by decide +kernel
theorem dX7_keeps_52 : decode cX7_keeps 52 = .ok (.iload_n 1, 1) := by decide +kernel
theorem dX7_keeps_53 : decode cX7_keeps 53 = .ok (.sipush 233, 3) := by decide +kernel
theorem dX7_keeps_56 : decode cX7_keeps 56 = .ok (.if_icmp .ge 30, 3) := by decide +kernel
theorem dX7_keeps_59 : decode cX7_keeps 59 = .ok (.aload_n 0, 1) := by decide +kernel
theorem dX7_keeps_60 : decode cX7_keeps 60 = .ok (.getfield 13, 3) := by decide +kernel
theorem dX7_keeps_63 : decode cX7_keeps 63 = .ok (.sipush 233, 3) := by decide +kernel
theorem dX7_keeps_66 : decode cX7_keeps 66 = .ok (.aload_n 0, 1) := by decide +kernel
theorem dX7_keeps_67 : decode cX7_keeps 67 = .ok (.getfield 37, 3) := by decide +kernel
theorem dX7_keeps_70 : decode cX7_keeps 70 = .ok (.imul, 1) := by decide +kernel
theorem dX7_keeps_71 : decode cX7_keeps 71 = .ok (.iload_n 1, 1) := by decide +kernel
theorem dX7_keeps_72 : decode cX7_keeps 72 = .ok (.iadd, 1) := by decide +kernel
theorem dX7_keeps_73 : decode cX7_keeps 73 = .ok (.aload_n 0, 1) := by decide +kernel
theorem dX7_keeps_74 : decode cX7_keeps 74 = .ok (.getfield 7, 3) := by decide +kernel
theorem dX7_keeps_77 : decode cX7_keeps 77 = .ok (.iload_n 1, 1) := by decide +kernel
theorem dX7_keeps_78 : decode cX7_keeps 78 = .ok (.iaload, 1) := by decide +kernel
theorem dX7_keeps_79 : decode cX7_keeps 79 = .ok (.iastore, 1) := by decide +kernel
theorem dX7_keeps_80 : decode cX7_keeps 80 = .ok (.iinc 1 1, 3) := by decide +kernel
theorem dX7_keeps_83 : decode cX7_keeps 83 = .ok (.goto (-31), 3) := by decide +kernel
theorem dX7_keeps_86 : decode cX7_keeps 86 = .ok (.aload_n 0, 1) := by decide +kernel
theorem dX7_keeps_87 : decode cX7_keeps 87 = .ok (.dup, 1) := by decide +kernel
theorem dX7_keeps_88 : decode cX7_keeps 88 = .ok (.getfield 37, 3) := by decide +kernel
theorem dX7_keeps_91 : decode cX7_keeps 91 = .ok (.iconst 1, 1) := by decide +kernel
theorem dX7_keeps_92 : decode cX7_keeps 92 = .ok (.iadd, 1) := by decide +kernel
theorem dX7_keeps_93 : decode cX7_keeps 93 = .ok (.putfield 37, 3) := by decide +kernel
theorem dX7_keeps_96 : decode cX7_keeps 96 = .ok (.return_, 1) := by decide +kernel
theorem dX7_undo_0 : decode cX7_undo 0 = .ok (.aload_n 0, 1) := by decide +kernel
theorem dX7_undo_1 : decode cX7_undo 1 = .ok (.getfield 37, 3) := by decide +kernel
theorem dX7_undo_4 : decode cX7_undo 4 = .ok (.ifCond .ne 7, 3) := by decide +kernel
theorem dX7_undo_7 : decode cX7_undo 7 = .ok (.sipush (-1003), 3) := by decide +kernel
theorem dX7_undo_10 : decode cX7_undo 10 = .ok (.ireturn, 1) := by decide +kernel
theorem dX7_undo_11 : decode cX7_undo 11 = .ok (.aload_n 0, 1) := by decide +kernel
theorem dX7_undo_12 : decode cX7_undo 12 = .ok (.dup, 1) := by decide +kernel
theorem dX7_undo_13 : decode cX7_undo 13 = .ok (.getfield 37, 3) := by decide +kernel
theorem dX7_undo_16 : decode cX7_undo 16 = .ok (.iconst 1, 1) := by decide +kernel
theorem dX7_undo_17 : decode cX7_undo 17 = .ok (.isub, 1) := by decide +kernel
theorem dX7_undo_18 : decode cX7_undo 18 = .ok (.putfield 37, 3) := by decide +kernel
theorem dX7_undo_21 : decode cX7_undo 21 = .ok (.iconst 0, 1) := by decide +kernel
theorem dX7_undo_22 : decode cX7_undo 22 = .ok (.istore_n 1, 1) := by decide +kernel
theorem dX7_undo_23 : decode cX7_undo 23 = .ok (.iload_n 1, 1) := by decide +kernel
theorem dX7_undo_24 : decode cX7_undo 24 = .ok (.sipush 233, 3) := by decide +kernel
theorem dX7_undo_27 : decode cX7_undo 27 = .ok (.if_icmp .ge 30, 3) := by decide +kernel
theorem dX7_undo_30 : decode cX7_undo 30 = .ok (.aload_n 0, 1) := by decide +kernel
theorem dX7_undo_31 : decode cX7_undo 31 = .ok (.getfield 7, 3) := by decide +kernel
theorem dX7_undo_34 : decode cX7_undo 34 = .ok (.iload_n 1, 1) := by decide +kernel
theorem dX7_undo_35 : decode cX7_undo 35 = .ok (.aload_n 0, 1) := by decide +kernel
theorem dX7_undo_36 : decode cX7_undo 36 = .ok (.getfield 13, 3) := by decide +kernel
theorem dX7_undo_39 : decode cX7_undo 39 = .ok (.sipush 233, 3) := by decide +kernel
theorem dX7_undo_42 : decode cX7_undo 42 = .ok (.aload_n 0, 1) := by decide +kernel
theorem dX7_undo_43 : decode cX7_undo 43 = .ok (.getfield 37, 3) := by decide +kernel
theorem dX7_undo_46 : decode cX7_undo 46 = .ok (.imul, 1) := by decide +kernel
theorem dX7_undo_47 : decode cX7_undo 47 = .ok (.iload_n 1, 1) := by decide +kernel
theorem dX7_undo_48 : decode cX7_undo 48 = .ok (.iadd, 1) := by decide +kernel
theorem dX7_undo_49 : decode cX7_undo 49 = .ok (.iaload, 1) := by decide +kernel
theorem dX7_undo_50 : decode cX7_undo 50 = .ok (.iastore, 1) := by decide +kernel
theorem dX7_undo_51 : decode cX7_undo 51 = .ok (.iinc 1 1, 3) := by decide +kernel
theorem dX7_undo_54 : decode cX7_undo 54 = .ok (.goto (-31), 3) := by decide +kernel
theorem dX7_undo_57 : decode cX7_undo 57 = .ok (.aload_n 0, 1) := by decide +kernel
theorem dX7_undo_58 : decode cX7_undo 58 = .ok (.getfield 37, 3) := by decide +kernel
theorem dX7_undo_61 : decode cX7_undo 61 = .ok (.ireturn, 1) := by decide +kernel
theorem dX7_keepsAside_0 : decode cX7_keepsAside 0 = .ok (.iconst 0, 1) := by decide +kernel
theorem dX7_keepsAside_1 : decode cX7_keepsAside 1 = .ok (.istore_n 1, 1) := by decide +kernel
theorem dX7_keepsAside_2 : decode cX7_keepsAside 2 = .ok (.iload_n 1, 1) := by decide +kernel
theorem dX7_keepsAside_3 : decode cX7_keepsAside 3 = .ok (.sipush 233, 3) := by decide +kernel
theorem dX7_keepsAside_6 : decode cX7_keepsAside 6 = .ok (.if_icmp .ge 21, 3) := by decide +kernel
theorem dX7_keepsAside_9 : decode cX7_keepsAside 9 = .ok (.aload_n 0, 1) := by decide +kernel
theorem dX7_keepsAside_10 : decode cX7_keepsAside 10 = .ok (.getfield 16, 3) := by decide +kernel
theorem dX7_keepsAside_13 : decode cX7_keepsAside 13 = .ok (.iload_n 1, 1) := by decide +kernel
theorem dX7_keepsAside_14 : decode cX7_keepsAside 14 = .ok (.aload_n 0, 1) := by decide +kernel
theorem dX7_keepsAside_15 : decode cX7_keepsAside 15 = .ok (.getfield 7, 3) := by decide +kernel
theorem dX7_keepsAside_18 : decode cX7_keepsAside 18 = .ok (.iload_n 1, 1) := by decide +kernel
theorem dX7_keepsAside_19 : decode cX7_keepsAside 19 = .ok (.iaload, 1) := by decide +kernel
theorem dX7_keepsAside_20 : decode cX7_keepsAside 20 = .ok (.iastore, 1) := by decide +kernel
theorem dX7_keepsAside_21 : decode cX7_keepsAside 21 = .ok (.iinc 1 1, 3) := by decide +kernel
theorem dX7_keepsAside_24 : decode cX7_keepsAside 24 = .ok (.goto (-22), 3) := by decide +kernel
theorem dX7_keepsAside_27 : decode cX7_keepsAside 27 = .ok (.return_, 1) := by decide +kernel
theorem dX7_returns_0 : decode cX7_returns 0 = .ok (.iconst 0, 1) := by decide +kernel
theorem dX7_returns_1 : decode cX7_returns 1 = .ok (.istore_n 1, 1) := by decide +kernel
theorem dX7_returns_2 : decode cX7_returns 2 = .ok (.iload_n 1, 1) := by decide +kernel
theorem dX7_returns_3 : decode cX7_returns 3 = .ok (.sipush 233, 3) := by decide +kernel
theorem dX7_returns_6 : decode cX7_returns 6 = .ok (.if_icmp .ge 21, 3) := by decide +kernel
theorem dX7_returns_9 : decode cX7_returns 9 = .ok (.aload_n 0, 1) := by decide +kernel
theorem dX7_returns_10 : decode cX7_returns 10 = .ok (.getfield 7, 3) := by decide +kernel
theorem dX7_returns_13 : decode cX7_returns 13 = .ok (.iload_n 1, 1) := by decide +kernel
theorem dX7_returns_14 : decode cX7_returns 14 = .ok (.aload_n 0, 1) := by decide +kernel
theorem dX7_returns_15 : decode cX7_returns 15 = .ok (.getfield 16, 3) := by decide +kernel
theorem dX7_returns_18 : decode cX7_returns 18 = .ok (.iload_n 1, 1) := by decide +kernel
theorem dX7_returns_19 : decode cX7_returns 19 = .ok (.iaload, 1) := by decide +kernel
theorem dX7_returns_20 : decode cX7_returns 20 = .ok (.iastore, 1) := by decide +kernel
theorem dX7_returns_21 : decode cX7_returns 21 = .ok (.iinc 1 1, 3) := by decide +kernel
theorem dX7_returns_24 : decode cX7_returns 24 = .ok (.goto (-22), 3) := by decide +kernel
theorem dX7_returns_27 : decode cX7_returns 27 = .ok (.return_, 1) := by decide +kernel
theorem dX7_type_0 : decode cX7_type 0 = .ok (.iload_n 1, 1) := by decide +kernel
theorem dX7_type_1 : decode cX7_type 1 = .ok (.iconst 0, 1) := by decide +kernel
theorem dX7_type_2 : decode cX7_type 2 = .ok (.bipush 127, 2) := by decide +kernel
theorem dX7_type_4 : decode cX7_type 4 = .ok (.invokestatic 29, 3) := by decide +kernel
theorem dX7_type_7 : decode cX7_type 7 = .ok (.ifCond .ne 7, 3) := by decide +kernel
theorem dX7_type_10 : decode cX7_type 10 = .ok (.sipush (-1002), 3) := by decide +kernel
theorem dX7_type_13 : decode cX7_type 13 = .ok (.ireturn, 1) := by decide +kernel
theorem dX7_type_14 : decode cX7_type 14 = .ok (.aload_n 0, 1) := by decide +kernel
theorem dX7_type_15 : decode cX7_type 15 = .ok (.getfield 41, 3) := by decide +kernel
theorem dX7_type_18 : decode cX7_type 18 = .ok (.bipush 60, 2) := by decide +kernel
theorem dX7_type_20 : decode cX7_type 20 = .ok (.if_icmp .ne 7, 3) := by decide +kernel
theorem dX7_type_23 : decode cX7_type 23 = .ok (.sipush (-1004), 3) := by decide +kernel
theorem dX7_type_26 : decode cX7_type 26 = .ok (.ireturn, 1) := by decide +kernel
theorem dX7_type_27 : decode cX7_type 27 = .ok (.aload_n 0, 1) := by decide +kernel
theorem dX7_type_28 : decode cX7_type 28 = .ok (.getfield 19, 3) := by decide +kernel
theorem dX7_type_31 : decode cX7_type 31 = .ok (.aload_n 0, 1) := by decide +kernel
theorem dX7_type_32 : decode cX7_type 32 = .ok (.getfield 41, 3) := by decide +kernel
theorem dX7_type_35 : decode cX7_type 35 = .ok (.iload_n 1, 1) := by decide +kernel
theorem dX7_type_36 : decode cX7_type 36 = .ok (.iastore, 1) := by decide +kernel
theorem dX7_type_37 : decode cX7_type 37 = .ok (.aload_n 0, 1) := by decide +kernel
theorem dX7_type_38 : decode cX7_type 38 = .ok (.dup, 1) := by decide +kernel
theorem dX7_type_39 : decode cX7_type 39 = .ok (.getfield 41, 3) := by decide +kernel
theorem dX7_type_42 : decode cX7_type 42 = .ok (.iconst 1, 1) := by decide +kernel
theorem dX7_type_43 : decode cX7_type 43 = .ok (.iadd, 1) := by decide +kernel
theorem dX7_type_44 : decode cX7_type 44 = .ok (.putfield 41, 3) := by decide +kernel
theorem dX7_type_47 : decode cX7_type 47 = .ok (.aload_n 0, 1) := by decide +kernel
theorem dX7_type_48 : decode cX7_type 48 = .ok (.getfield 41, 3) := by decide +kernel
theorem dX7_type_51 : decode cX7_type 51 = .ok (.ireturn, 1) := by decide +kernel
theorem dX7_clearText_0 : decode cX7_clearText 0 = .ok (.aload_n 0, 1) := by decide +kernel
theorem dX7_clearText_1 : decode cX7_clearText 1 = .ok (.getfield 41, 3) := by decide +kernel
theorem dX7_clearText_4 : decode cX7_clearText 4 = .ok (.istore_n 1, 1) := by decide +kernel
theorem dX7_clearText_5 : decode cX7_clearText 5 = .ok (.aload_n 0, 1) := by decide +kernel
theorem dX7_clearText_6 : decode cX7_clearText 6 = .ok (.iconst 0, 1) := by decide +kernel
theorem dX7_clearText_7 : decode cX7_clearText 7 = .ok (.putfield 41, 3) := by decide +kernel
theorem dX7_clearText_10 : decode cX7_clearText 10 = .ok (.iload_n 1, 1) := by decide +kernel
theorem dX7_clearText_11 : decode cX7_clearText 11 = .ok (.ireturn, 1) := by decide +kernel
theorem dX7_next_0 : decode cX7_next 0 = .ok (.aload_n 0, 1) := by decide +kernel
theorem dX7_next_1 : decode cX7_next 1 = .ok (.getfield 44, 3) := by decide +kernel
theorem dX7_next_4 : decode cX7_next 4 = .ok (.aload_n 0, 1) := by decide +kernel
theorem dX7_next_5 : decode cX7_next 5 = .ok (.getfield 41, 3) := by decide +kernel
theorem dX7_next_8 : decode cX7_next 8 = .ok (.if_icmp .ge 15, 3) := by decide +kernel
theorem dX7_next_11 : decode cX7_next 11 = .ok (.aload_n 0, 1) := by decide +kernel
theorem dX7_next_12 : decode cX7_next 12 = .ok (.getfield 19, 3) := by decide +kernel
theorem dX7_next_15 : decode cX7_next 15 = .ok (.aload_n 0, 1) := by decide +kernel
theorem dX7_next_16 : decode cX7_next 16 = .ok (.getfield 44, 3) := by decide +kernel
theorem dX7_next_19 : decode cX7_next 19 = .ok (.iaload, 1) := by decide +kernel
theorem dX7_next_20 : decode cX7_next 20 = .ok (.goto 4, 3) := by decide +kernel
theorem dX7_next_23 : decode cX7_next 23 = .ok (.iconst (-1), 1) := by decide +kernel
theorem dX7_next_24 : decode cX7_next 24 = .ok (.ireturn, 1) := by decide +kernel
theorem dX7_isDigit_0 : decode cX7_isDigit 0 = .ok (.aload_n 0, 1) := by decide +kernel
theorem dX7_isDigit_1 : decode cX7_isDigit 1 = .ok (.invokevirtual 47, 3) := by decide +kernel
theorem dX7_isDigit_4 : decode cX7_isDigit 4 = .ok (.bipush 48, 2) := by decide +kernel
theorem dX7_isDigit_6 : decode cX7_isDigit 6 = .ok (.bipush 57, 2) := by decide +kernel
theorem dX7_isDigit_8 : decode cX7_isDigit 8 = .ok (.invokestatic 29, 3) := by decide +kernel
theorem dX7_isDigit_11 : decode cX7_isDigit 11 = .ok (.ireturn, 1) := by decide +kernel
theorem dX7_blanks_0 : decode cX7_blanks 0 = .ok (.aload_n 0, 1) := by decide +kernel
theorem dX7_blanks_1 : decode cX7_blanks 1 = .ok (.invokevirtual 47, 3) := by decide +kernel
theorem dX7_blanks_4 : decode cX7_blanks 4 = .ok (.bipush 32, 2) := by decide +kernel
theorem dX7_blanks_6 : decode cX7_blanks 6 = .ok (.if_icmp .ne 16, 3) := by decide +kernel
theorem dX7_blanks_9 : decode cX7_blanks 9 = .ok (.aload_n 0, 1) := by decide +kernel
theorem dX7_blanks_10 : decode cX7_blanks 10 = .ok (.dup, 1) := by decide +kernel
theorem dX7_blanks_11 : decode cX7_blanks 11 = .ok (.getfield 44, 3) := by decide +kernel
theorem dX7_blanks_14 : decode cX7_blanks 14 = .ok (.iconst 1, 1) := by decide +kernel
theorem dX7_blanks_15 : decode cX7_blanks 15 = .ok (.iadd, 1) := by decide +kernel
theorem dX7_blanks_16 : decode cX7_blanks 16 = .ok (.putfield 44, 3) := by decide +kernel
theorem dX7_blanks_19 : decode cX7_blanks 19 = .ok (.goto (-19), 3) := by decide +kernel
theorem dX7_blanks_22 : decode cX7_blanks 22 = .ok (.return_, 1) := by decide +kernel
theorem dX7_fails_0 : decode cX7_fails 0 = .ok (.aload_n 0, 1) := by decide +kernel
theorem dX7_fails_1 : decode cX7_fails 1 = .ok (.aload_n 0, 1) := by decide +kernel
theorem dX7_fails_2 : decode cX7_fails 2 = .ok (.getfield 51, 3) := by decide +kernel
theorem dX7_fails_5 : decode cX7_fails 5 = .ok (.sipush (-1001), 3) := by decide +kernel
theorem dX7_fails_8 : decode cX7_fails 8 = .ok (.if_icmp .ne 7, 3) := by decide +kernel
theorem dX7_fails_11 : decode cX7_fails 11 = .ok (.iload_n 1, 1) := by decide +kernel
theorem dX7_fails_12 : decode cX7_fails 12 = .ok (.goto 7, 3) := by decide +kernel
theorem dX7_fails_15 : decode cX7_fails 15 = .ok (.aload_n 0, 1) := by decide +kernel
theorem dX7_fails_16 : decode cX7_fails 16 = .ok (.getfield 51, 3) := by decide +kernel
theorem dX7_fails_19 : decode cX7_fails 19 = .ok (.putfield 51, 3) := by decide +kernel
theorem dX7_fails_22 : decode cX7_fails 22 = .ok (.return_, 1) := by decide +kernel
theorem dX7_needs_0 : decode cX7_needs 0 = .ok (.aload_n 0, 1) := by decide +kernel
theorem dX7_needs_1 : decode cX7_needs 1 = .ok (.getfield 51, 3) := by decide +kernel
theorem dX7_needs_4 : decode cX7_needs 4 = .ok (.sipush (-1001), 3) := by decide +kernel
theorem dX7_needs_7 : decode cX7_needs 7 = .ok (.if_icmp .ne 24, 3) := by decide +kernel
theorem dX7_needs_10 : decode cX7_needs 10 = .ok (.iload_n 1, 1) := by decide +kernel
theorem dX7_needs_11 : decode cX7_needs 11 = .ok (.ifCond .eq 20, 3) := by decide +kernel
theorem dX7_needs_14 : decode cX7_needs 14 = .ok (.aload_n 0, 1) := by decide +kernel
theorem dX7_needs_15 : decode cX7_needs 15 = .ok (.dup, 1) := by decide +kernel
theorem dX7_needs_16 : decode cX7_needs 16 = .ok (.getfield 44, 3) := by decide +kernel
theorem dX7_needs_19 : decode cX7_needs 19 = .ok (.iconst 1, 1) := by decide +kernel
theorem dX7_needs_20 : decode cX7_needs 20 = .ok (.iadd, 1) := by decide +kernel
theorem dX7_needs_21 : decode cX7_needs 21 = .ok (.putfield 44, 3) := by decide +kernel
theorem dX7_needs_24 : decode cX7_needs 24 = .ok (.aload_n 0, 1) := by decide +kernel
theorem dX7_needs_25 : decode cX7_needs 25 = .ok (.invokevirtual 54, 3) := by decide +kernel
theorem dX7_needs_28 : decode cX7_needs 28 = .ok (.goto 11, 3) := by decide +kernel
theorem dX7_needs_31 : decode cX7_needs 31 = .ok (.aload_n 0, 1) := by decide +kernel
theorem dX7_needs_32 : decode cX7_needs 32 = .ok (.aload_n 0, 1) := by decide +kernel
theorem dX7_needs_33 : decode cX7_needs 33 = .ok (.getfield 44, 3) := by decide +kernel
theorem dX7_needs_36 : decode cX7_needs 36 = .ok (.invokevirtual 57, 3) := by decide +kernel
theorem dX7_needs_39 : decode cX7_needs 39 = .ok (.return_, 1) := by decide +kernel
theorem dX7_digit_0 : decode cX7_digit 0 = .ok (.aload_n 0, 1) := by decide +kernel
theorem dX7_digit_1 : decode cX7_digit 1 = .ok (.invokevirtual 47, 3) := by decide +kernel
theorem dX7_digit_4 : decode cX7_digit 4 = .ok (.bipush 48, 2) := by decide +kernel
theorem dX7_digit_6 : decode cX7_digit 6 = .ok (.isub, 1) := by decide +kernel
theorem dX7_digit_7 : decode cX7_digit 7 = .ok (.istore_n 3, 1) := by decide +kernel
theorem dX7_digit_8 : decode cX7_digit 8 = .ok (.aload_n 0, 1) := by decide +kernel
theorem dX7_digit_9 : decode cX7_digit 9 = .ok (.iload_n 3, 1) := by decide +kernel
theorem dX7_digit_10 : decode cX7_digit 10 = .ok (.iload_n 1, 1) := by decide +kernel
theorem dX7_digit_11 : decode cX7_digit 11 = .ok (.iload_n 2, 1) := by decide +kernel
theorem dX7_digit_12 : decode cX7_digit 12 = .ok (.invokestatic 29, 3) := by decide +kernel
theorem dX7_digit_15 : decode cX7_digit 15 = .ok (.invokevirtual 60, 3) := by decide +kernel
theorem dX7_digit_18 : decode cX7_digit 18 = .ok (.iload_n 3, 1) := by decide +kernel
theorem dX7_digit_19 : decode cX7_digit 19 = .ok (.ireturn, 1) := by decide +kernel
theorem dX7_doorAt_0 : decode cX7_doorAt 0 = .ok (.aload_n 0, 1) := by decide +kernel
theorem dX7_doorAt_1 : decode cX7_doorAt 1 = .ok (.invokevirtual 47, 3) := by decide +kernel
theorem dX7_doorAt_4 : decode cX7_doorAt 4 = .ok (.istore_n 1, 1) := by decide +kernel
theorem dX7_doorAt_5 : decode cX7_doorAt 5 = .ok (.aload_n 0, 1) := by decide +kernel
theorem dX7_doorAt_6 : decode cX7_doorAt 6 = .ok (.iload_n 1, 1) := by decide +kernel
theorem dX7_doorAt_7 : decode cX7_doorAt 7 = .ok (.bipush 108, 2) := by decide +kernel
theorem dX7_doorAt_9 : decode cX7_doorAt 9 = .ok (.if_icmp .eq 15, 3) := by decide +kernel
theorem dX7_doorAt_12 : decode cX7_doorAt 12 = .ok (.iload_n 1, 1) := by decide +kernel
theorem dX7_doorAt_13 : decode cX7_doorAt 13 = .ok (.bipush 109, 2) := by decide +kernel
theorem dX7_doorAt_15 : decode cX7_doorAt 15 = .ok (.if_icmp .eq 9, 3) := by decide +kernel
theorem dX7_doorAt_18 : decode cX7_doorAt 18 = .ok (.iload_n 1, 1) := by decide +kernel
theorem dX7_doorAt_19 : decode cX7_doorAt 19 = .ok (.bipush 114, 2) := by decide +kernel
theorem dX7_doorAt_21 : decode cX7_doorAt 21 = .ok (.if_icmp .ne 7, 3) := by decide +kernel
theorem dX7_doorAt_24 : decode cX7_doorAt 24 = .ok (.iconst 1, 1) := by decide +kernel
theorem dX7_doorAt_25 : decode cX7_doorAt 25 = .ok (.goto 4, 3) := by decide +kernel
theorem dX7_doorAt_28 : decode cX7_doorAt 28 = .ok (.iconst 0, 1) := by decide +kernel
theorem dX7_doorAt_29 : decode cX7_doorAt 29 = .ok (.invokevirtual 60, 3) := by decide +kernel
theorem dX7_doorAt_32 : decode cX7_doorAt 32 = .ok (.iload_n 1, 1) := by decide +kernel
theorem dX7_doorAt_33 : decode cX7_doorAt 33 = .ok (.bipush 108, 2) := by decide +kernel
theorem dX7_doorAt_35 : decode cX7_doorAt 35 = .ok (.if_icmp .ne 7, 3) := by decide +kernel
theorem dX7_doorAt_38 : decode cX7_doorAt 38 = .ok (.iconst 0, 1) := by decide +kernel
theorem dX7_doorAt_39 : decode cX7_doorAt 39 = .ok (.goto 14, 3) := by decide +kernel
theorem dX7_doorAt_42 : decode cX7_doorAt 42 = .ok (.iload_n 1, 1) := by decide +kernel
theorem dX7_doorAt_43 : decode cX7_doorAt 43 = .ok (.bipush 109, 2) := by decide +kernel
theorem dX7_doorAt_45 : decode cX7_doorAt 45 = .ok (.if_icmp .ne 7, 3) := by decide +kernel
theorem dX7_doorAt_48 : decode cX7_doorAt 48 = .ok (.iconst 1, 1) := by decide +kernel
theorem dX7_doorAt_49 : decode cX7_doorAt 49 = .ok (.goto 4, 3) := by decide +kernel
theorem dX7_doorAt_52 : decode cX7_doorAt 52 = .ok (.iconst 2, 1) := by decide +kernel
theorem dX7_doorAt_53 : decode cX7_doorAt 53 = .ok (.ireturn, 1) := by decide +kernel
theorem dX7_cell_0 : decode cX7_cell 0 = .ok (.aload_n 0, 1) := by decide +kernel
theorem dX7_cell_1 : decode cX7_cell 1 = .ok (.getfield 44, 3) := by decide +kernel
theorem dX7_cell_4 : decode cX7_cell 4 = .ok (.istore_n 1, 1) := by decide +kernel
theorem dX7_cell_5 : decode cX7_cell 5 = .ok (.iconst 0, 1) := by decide +kernel
theorem dX7_cell_6 : decode cX7_cell 6 = .ok (.istore_n 2, 1) := by decide +kernel
theorem dX7_cell_7 : decode cX7_cell 7 = .ok (.aload_n 0, 1) := by decide +kernel
theorem dX7_cell_8 : decode cX7_cell 8 = .ok (.getfield 51, 3) := by decide +kernel
theorem dX7_cell_11 : decode cX7_cell 11 = .ok (.sipush (-1001), 3) := by decide +kernel
theorem dX7_cell_14 : decode cX7_cell 14 = .ok (.if_icmp .ne 46, 3) := by decide +kernel
end
section
theorem dX7_cell_17 : decode cX7_cell 17 = .ok (.aload_n 0, 1) := by decide +kernel
theorem dX7_cell_18 : decode cX7_cell 18 = .ok (.getfield 44, 3) := by decide +kernel
theorem dX7_cell_21 : decode cX7_cell 21 = .ok (.iload_n 1, 1) := by decide +kernel
theorem dX7_cell_22 : decode cX7_cell 22 = .ok (.iconst 2, 1) := by decide +kernel
theorem dX7_cell_23 : decode cX7_cell 23 = .ok (.iadd, 1) := by decide +kernel
theorem dX7_cell_24 : decode cX7_cell 24 = .ok (.if_icmp .ge 36, 3) := by decide +kernel
theorem dX7_cell_27 : decode cX7_cell 27 = .ok (.aload_n 0, 1) := by decide +kernel
theorem dX7_cell_28 : decode cX7_cell 28 = .ok (.invokevirtual 64, 3) := by decide +kernel
theorem dX7_cell_31 : decode cX7_cell 31 = .ok (.ifCond .eq 29, 3) := by decide +kernel
theorem dX7_cell_34 : decode cX7_cell 34 = .ok (.bipush 10, 2) := by decide +kernel
theorem dX7_cell_36 : decode cX7_cell 36 = .ok (.iload_n 2, 1) := by decide +kernel
theorem dX7_cell_37 : decode cX7_cell 37 = .ok (.imul, 1) := by decide +kernel
theorem dX7_cell_38 : decode cX7_cell 38 = .ok (.aload_n 0, 1) := by decide +kernel
theorem dX7_cell_39 : decode cX7_cell 39 = .ok (.invokevirtual 47, 3) := by decide +kernel
theorem dX7_cell_42 : decode cX7_cell 42 = .ok (.iadd, 1) := by decide +kernel
theorem dX7_cell_43 : decode cX7_cell 43 = .ok (.bipush 48, 2) := by decide +kernel
theorem dX7_cell_45 : decode cX7_cell 45 = .ok (.isub, 1) := by decide +kernel
theorem dX7_cell_46 : decode cX7_cell 46 = .ok (.istore_n 2, 1) := by decide +kernel
theorem dX7_cell_47 : decode cX7_cell 47 = .ok (.aload_n 0, 1) := by decide +kernel
theorem dX7_cell_48 : decode cX7_cell 48 = .ok (.dup, 1) := by decide +kernel
theorem dX7_cell_49 : decode cX7_cell 49 = .ok (.getfield 44, 3) := by decide +kernel
theorem dX7_cell_52 : decode cX7_cell 52 = .ok (.iconst 1, 1) := by decide +kernel
theorem dX7_cell_53 : decode cX7_cell 53 = .ok (.iadd, 1) := by decide +kernel
theorem dX7_cell_54 : decode cX7_cell 54 = .ok (.putfield 44, 3) := by decide +kernel
theorem dX7_cell_57 : decode cX7_cell 57 = .ok (.goto (-50), 3) := by decide +kernel
theorem dX7_cell_60 : decode cX7_cell 60 = .ok (.aload_n 0, 1) := by decide +kernel
theorem dX7_cell_61 : decode cX7_cell 61 = .ok (.getfield 44, 3) := by decide +kernel
theorem dX7_cell_64 : decode cX7_cell 64 = .ok (.iload_n 1, 1) := by decide +kernel
theorem dX7_cell_65 : decode cX7_cell 65 = .ok (.if_icmp .eq 9, 3) := by decide +kernel
theorem dX7_cell_68 : decode cX7_cell 68 = .ok (.iload_n 2, 1) := by decide +kernel
theorem dX7_cell_69 : decode cX7_cell 69 = .ok (.bipush 40, 2) := by decide +kernel
theorem dX7_cell_71 : decode cX7_cell 71 = .ok (.if_icmp .lt 8, 3) := by decide +kernel
theorem dX7_cell_74 : decode cX7_cell 74 = .ok (.aload_n 0, 1) := by decide +kernel
theorem dX7_cell_75 : decode cX7_cell 75 = .ok (.iload_n 1, 1) := by decide +kernel
theorem dX7_cell_76 : decode cX7_cell 76 = .ok (.invokevirtual 57, 3) := by decide +kernel
theorem dX7_cell_79 : decode cX7_cell 79 = .ok (.aload_n 0, 1) := by decide +kernel
theorem dX7_cell_80 : decode cX7_cell 80 = .ok (.invokevirtual 64, 3) := by decide +kernel
theorem dX7_cell_83 : decode cX7_cell 83 = .ok (.ifCond .eq 11, 3) := by decide +kernel
theorem dX7_cell_86 : decode cX7_cell 86 = .ok (.aload_n 0, 1) := by decide +kernel
theorem dX7_cell_87 : decode cX7_cell 87 = .ok (.aload_n 0, 1) := by decide +kernel
theorem dX7_cell_88 : decode cX7_cell 88 = .ok (.getfield 44, 3) := by decide +kernel
theorem dX7_cell_91 : decode cX7_cell 91 = .ok (.invokevirtual 57, 3) := by decide +kernel
theorem dX7_cell_94 : decode cX7_cell 94 = .ok (.aload_n 0, 1) := by decide +kernel
theorem dX7_cell_95 : decode cX7_cell 95 = .ok (.invokevirtual 54, 3) := by decide +kernel
theorem dX7_cell_98 : decode cX7_cell 98 = .ok (.iload_n 2, 1) := by decide +kernel
theorem dX7_cell_99 : decode cX7_cell 99 = .ok (.ireturn, 1) := by decide +kernel
theorem dX7_readsOrder_0 : decode cX7_readsOrder 0 = .ok (.iconst 5, 1) := by decide +kernel
theorem dX7_readsOrder_1 : decode cX7_readsOrder 1 = .ok (.aload_n 0, 1) := by decide +kernel
theorem dX7_readsOrder_2 : decode cX7_readsOrder 2 = .ok (.getfield 68, 3) := by decide +kernel
theorem dX7_readsOrder_5 : decode cX7_readsOrder 5 = .ok (.imul, 1) := by decide +kernel
theorem dX7_readsOrder_6 : decode cX7_readsOrder 6 = .ok (.istore_n 1, 1) := by decide +kernel
theorem dX7_readsOrder_7 : decode cX7_readsOrder 7 = .ok (.aload_n 0, 1) := by decide +kernel
theorem dX7_readsOrder_8 : decode cX7_readsOrder 8 = .ok (.aload_n 0, 1) := by decide +kernel
theorem dX7_readsOrder_9 : decode cX7_readsOrder 9 = .ok (.invokevirtual 47, 3) := by decide +kernel
theorem dX7_readsOrder_12 : decode cX7_readsOrder 12 = .ok (.bipush 64, 2) := by decide +kernel
theorem dX7_readsOrder_14 : decode cX7_readsOrder 14 = .ok (.if_icmp .ne 7, 3) := by decide +kernel
theorem dX7_readsOrder_17 : decode cX7_readsOrder 17 = .ok (.iconst 1, 1) := by decide +kernel
theorem dX7_readsOrder_18 : decode cX7_readsOrder 18 = .ok (.goto 4, 3) := by decide +kernel
theorem dX7_readsOrder_21 : decode cX7_readsOrder 21 = .ok (.iconst 0, 1) := by decide +kernel
theorem dX7_readsOrder_22 : decode cX7_readsOrder 22 = .ok (.invokevirtual 60, 3) := by decide +kernel
theorem dX7_readsOrder_25 : decode cX7_readsOrder 25 = .ok (.aload_n 0, 1) := by decide +kernel
theorem dX7_readsOrder_26 : decode cX7_readsOrder 26 = .ok (.getfield 22, 3) := by decide +kernel
theorem dX7_readsOrder_29 : decode cX7_readsOrder 29 = .ok (.iload_n 1, 1) := by decide +kernel
theorem dX7_readsOrder_30 : decode cX7_readsOrder 30 = .ok (.aload_n 0, 1) := by decide +kernel
theorem dX7_readsOrder_31 : decode cX7_readsOrder 31 = .ok (.invokevirtual 71, 3) := by decide +kernel
theorem dX7_readsOrder_34 : decode cX7_readsOrder 34 = .ok (.iastore, 1) := by decide +kernel
theorem dX7_readsOrder_35 : decode cX7_readsOrder 35 = .ok (.aload_n 0, 1) := by decide +kernel
theorem dX7_readsOrder_36 : decode cX7_readsOrder 36 = .ok (.invokevirtual 47, 3) := by decide +kernel
theorem dX7_readsOrder_39 : decode cX7_readsOrder 39 = .ok (.istore_n 2, 1) := by decide +kernel
theorem dX7_readsOrder_40 : decode cX7_readsOrder 40 = .ok (.aload_n 0, 1) := by decide +kernel
theorem dX7_readsOrder_41 : decode cX7_readsOrder 41 = .ok (.iload_n 2, 1) := by decide +kernel
theorem dX7_readsOrder_42 : decode cX7_readsOrder 42 = .ok (.bipush 111, 2) := by decide +kernel
theorem dX7_readsOrder_44 : decode cX7_readsOrder 44 = .ok (.if_icmp .eq 15, 3) := by decide +kernel
theorem dX7_readsOrder_47 : decode cX7_readsOrder 47 = .ok (.iload_n 2, 1) := by decide +kernel
theorem dX7_readsOrder_48 : decode cX7_readsOrder 48 = .ok (.bipush 99, 2) := by decide +kernel
theorem dX7_readsOrder_50 : decode cX7_readsOrder 50 = .ok (.if_icmp .eq 9, 3) := by decide +kernel
theorem dX7_readsOrder_53 : decode cX7_readsOrder 53 = .ok (.iload_n 2, 1) := by decide +kernel
theorem dX7_readsOrder_54 : decode cX7_readsOrder 54 = .ok (.bipush 118, 2) := by decide +kernel
theorem dX7_readsOrder_56 : decode cX7_readsOrder 56 = .ok (.if_icmp .ne 7, 3) := by decide +kernel
theorem dX7_readsOrder_59 : decode cX7_readsOrder 59 = .ok (.iconst 1, 1) := by decide +kernel
theorem dX7_readsOrder_60 : decode cX7_readsOrder 60 = .ok (.goto 4, 3) := by decide +kernel
theorem dX7_readsOrder_63 : decode cX7_readsOrder 63 = .ok (.iconst 0, 1) := by decide +kernel
theorem dX7_readsOrder_64 : decode cX7_readsOrder 64 = .ok (.invokevirtual 60, 3) := by decide +kernel
theorem dX7_readsOrder_67 : decode cX7_readsOrder 67 = .ok (.aload_n 0, 1) := by decide +kernel
theorem dX7_readsOrder_68 : decode cX7_readsOrder 68 = .ok (.getfield 22, 3) := by decide +kernel
theorem dX7_readsOrder_71 : decode cX7_readsOrder 71 = .ok (.iload_n 1, 1) := by decide +kernel
theorem dX7_readsOrder_72 : decode cX7_readsOrder 72 = .ok (.iconst 1, 1) := by decide +kernel
theorem dX7_readsOrder_73 : decode cX7_readsOrder 73 = .ok (.iadd, 1) := by decide +kernel
theorem dX7_readsOrder_74 : decode cX7_readsOrder 74 = .ok (.iload_n 2, 1) := by decide +kernel
theorem dX7_readsOrder_75 : decode cX7_readsOrder 75 = .ok (.bipush 111, 2) := by decide +kernel
theorem dX7_readsOrder_77 : decode cX7_readsOrder 77 = .ok (.if_icmp .ne 7, 3) := by decide +kernel
theorem dX7_readsOrder_80 : decode cX7_readsOrder 80 = .ok (.iconst 0, 1) := by decide +kernel
theorem dX7_readsOrder_81 : decode cX7_readsOrder 81 = .ok (.goto 14, 3) := by decide +kernel
theorem dX7_readsOrder_84 : decode cX7_readsOrder 84 = .ok (.iload_n 2, 1) := by decide +kernel
theorem dX7_readsOrder_85 : decode cX7_readsOrder 85 = .ok (.bipush 99, 2) := by decide +kernel
theorem dX7_readsOrder_87 : decode cX7_readsOrder 87 = .ok (.if_icmp .ne 7, 3) := by decide +kernel
theorem dX7_readsOrder_90 : decode cX7_readsOrder 90 = .ok (.iconst 1, 1) := by decide +kernel
theorem dX7_readsOrder_91 : decode cX7_readsOrder 91 = .ok (.goto 4, 3) := by decide +kernel
theorem dX7_readsOrder_94 : decode cX7_readsOrder 94 = .ok (.iconst 2, 1) := by decide +kernel
theorem dX7_readsOrder_95 : decode cX7_readsOrder 95 = .ok (.iastore, 1) := by decide +kernel
theorem dX7_readsOrder_96 : decode cX7_readsOrder 96 = .ok (.aload_n 0, 1) := by decide +kernel
theorem dX7_readsOrder_97 : decode cX7_readsOrder 97 = .ok (.getfield 22, 3) := by decide +kernel
theorem dX7_readsOrder_100 : decode cX7_readsOrder 100 = .ok (.iload_n 1, 1) := by decide +kernel
theorem dX7_readsOrder_101 : decode cX7_readsOrder 101 = .ok (.iconst 2, 1) := by decide +kernel
theorem dX7_readsOrder_102 : decode cX7_readsOrder 102 = .ok (.iadd, 1) := by decide +kernel
theorem dX7_readsOrder_103 : decode cX7_readsOrder 103 = .ok (.iload_n 2, 1) := by decide +kernel
theorem dX7_readsOrder_104 : decode cX7_readsOrder 104 = .ok (.bipush 118, 2) := by decide +kernel
theorem dX7_readsOrder_106 : decode cX7_readsOrder 106 = .ok (.if_icmp .ne 9, 3) := by decide +kernel
theorem dX7_readsOrder_109 : decode cX7_readsOrder 109 = .ok (.sipush (-1001), 3) := by decide +kernel
theorem dX7_readsOrder_112 : decode cX7_readsOrder 112 = .ok (.goto 9, 3) := by decide +kernel
theorem dX7_readsOrder_115 : decode cX7_readsOrder 115 = .ok (.aload_n 0, 1) := by decide +kernel
theorem dX7_readsOrder_116 : decode cX7_readsOrder 116 = .ok (.iconst 0, 1) := by decide +kernel
theorem dX7_readsOrder_117 : decode cX7_readsOrder 117 = .ok (.iconst 5, 1) := by decide +kernel
theorem dX7_readsOrder_118 : decode cX7_readsOrder 118 = .ok (.invokevirtual 74, 3) := by decide +kernel
theorem dX7_readsOrder_121 : decode cX7_readsOrder 121 = .ok (.iastore, 1) := by decide +kernel
theorem dX7_readsOrder_122 : decode cX7_readsOrder 122 = .ok (.aload_n 0, 1) := by decide +kernel
theorem dX7_readsOrder_123 : decode cX7_readsOrder 123 = .ok (.getfield 22, 3) := by decide +kernel
theorem dX7_readsOrder_126 : decode cX7_readsOrder 126 = .ok (.iload_n 1, 1) := by decide +kernel
theorem dX7_readsOrder_127 : decode cX7_readsOrder 127 = .ok (.iconst 3, 1) := by decide +kernel
theorem dX7_readsOrder_128 : decode cX7_readsOrder 128 = .ok (.iadd, 1) := by decide +kernel
theorem dX7_readsOrder_129 : decode cX7_readsOrder 129 = .ok (.iload_n 2, 1) := by decide +kernel
theorem dX7_readsOrder_130 : decode cX7_readsOrder 130 = .ok (.bipush 118, 2) := by decide +kernel
theorem dX7_readsOrder_132 : decode cX7_readsOrder 132 = .ok (.if_icmp .ne 9, 3) := by decide +kernel
theorem dX7_readsOrder_135 : decode cX7_readsOrder 135 = .ok (.sipush (-1001), 3) := by decide +kernel
theorem dX7_readsOrder_138 : decode cX7_readsOrder 138 = .ok (.goto 7, 3) := by decide +kernel
theorem dX7_readsOrder_141 : decode cX7_readsOrder 141 = .ok (.aload_n 0, 1) := by decide +kernel
theorem dX7_readsOrder_142 : decode cX7_readsOrder 142 = .ok (.invokevirtual 78, 3) := by decide +kernel
theorem dX7_readsOrder_145 : decode cX7_readsOrder 145 = .ok (.iastore, 1) := by decide +kernel
theorem dX7_readsOrder_146 : decode cX7_readsOrder 146 = .ok (.aload_n 0, 1) := by decide +kernel
theorem dX7_readsOrder_147 : decode cX7_readsOrder 147 = .ok (.getfield 22, 3) := by decide +kernel
theorem dX7_readsOrder_150 : decode cX7_readsOrder 150 = .ok (.iload_n 1, 1) := by decide +kernel
theorem dX7_readsOrder_151 : decode cX7_readsOrder 151 = .ok (.iconst 4, 1) := by decide +kernel
theorem dX7_readsOrder_152 : decode cX7_readsOrder 152 = .ok (.iadd, 1) := by decide +kernel
theorem dX7_readsOrder_153 : decode cX7_readsOrder 153 = .ok (.iload_n 2, 1) := by decide +kernel
theorem dX7_readsOrder_154 : decode cX7_readsOrder 154 = .ok (.bipush 111, 2) := by decide +kernel
theorem dX7_readsOrder_156 : decode cX7_readsOrder 156 = .ok (.if_icmp .ne 12, 3) := by decide +kernel
theorem dX7_readsOrder_159 : decode cX7_readsOrder 159 = .ok (.aload_n 0, 1) := by decide +kernel
theorem dX7_readsOrder_160 : decode cX7_readsOrder 160 = .ok (.iconst 1, 1) := by decide +kernel
theorem dX7_readsOrder_161 : decode cX7_readsOrder 161 = .ok (.iconst 3, 1) := by decide +kernel
theorem dX7_readsOrder_162 : decode cX7_readsOrder 162 = .ok (.invokevirtual 74, 3) := by decide +kernel
theorem dX7_readsOrder_165 : decode cX7_readsOrder 165 = .ok (.goto 21, 3) := by decide +kernel
theorem dX7_readsOrder_168 : decode cX7_readsOrder 168 = .ok (.iload_n 2, 1) := by decide +kernel
theorem dX7_readsOrder_169 : decode cX7_readsOrder 169 = .ok (.bipush 118, 2) := by decide +kernel
theorem dX7_readsOrder_171 : decode cX7_readsOrder 171 = .ok (.if_icmp .ne 12, 3) := by decide +kernel
theorem dX7_readsOrder_174 : decode cX7_readsOrder 174 = .ok (.aload_n 0, 1) := by decide +kernel
theorem dX7_readsOrder_175 : decode cX7_readsOrder 175 = .ok (.iconst 0, 1) := by decide +kernel
theorem dX7_readsOrder_176 : decode cX7_readsOrder 176 = .ok (.iconst 3, 1) := by decide +kernel
theorem dX7_readsOrder_177 : decode cX7_readsOrder 177 = .ok (.invokevirtual 74, 3) := by decide +kernel
theorem dX7_readsOrder_180 : decode cX7_readsOrder 180 = .ok (.goto 6, 3) := by decide +kernel
theorem dX7_readsOrder_183 : decode cX7_readsOrder 183 = .ok (.sipush (-1001), 3) := by decide +kernel
theorem dX7_readsOrder_186 : decode cX7_readsOrder 186 = .ok (.iastore, 1) := by decide +kernel
theorem dX7_readsOrder_187 : decode cX7_readsOrder 187 = .ok (.aload_n 0, 1) := by decide +kernel
theorem dX7_readsOrder_188 : decode cX7_readsOrder 188 = .ok (.aload_n 0, 1) := by decide +kernel
theorem dX7_readsOrder_189 : decode cX7_readsOrder 189 = .ok (.invokevirtual 47, 3) := by decide +kernel
theorem dX7_readsOrder_192 : decode cX7_readsOrder 192 = .ok (.bipush 59, 2) := by decide +kernel
theorem dX7_readsOrder_194 : decode cX7_readsOrder 194 = .ok (.if_icmp .ne 7, 3) := by decide +kernel
theorem dX7_readsOrder_197 : decode cX7_readsOrder 197 = .ok (.iconst 1, 1) := by decide +kernel
theorem dX7_readsOrder_198 : decode cX7_readsOrder 198 = .ok (.goto 4, 3) := by decide +kernel
theorem dX7_readsOrder_201 : decode cX7_readsOrder 201 = .ok (.iconst 0, 1) := by decide +kernel
theorem dX7_readsOrder_202 : decode cX7_readsOrder 202 = .ok (.invokevirtual 60, 3) := by decide +kernel
theorem dX7_readsOrder_205 : decode cX7_readsOrder 205 = .ok (.aload_n 0, 1) := by decide +kernel
theorem dX7_readsOrder_206 : decode cX7_readsOrder 206 = .ok (.dup, 1) := by decide +kernel
theorem dX7_readsOrder_207 : decode cX7_readsOrder 207 = .ok (.getfield 68, 3) := by decide +kernel
theorem dX7_readsOrder_210 : decode cX7_readsOrder 210 = .ok (.iconst 1, 1) := by decide +kernel
theorem dX7_readsOrder_211 : decode cX7_readsOrder 211 = .ok (.iadd, 1) := by decide +kernel
theorem dX7_readsOrder_212 : decode cX7_readsOrder 212 = .ok (.putfield 68, 3) := by decide +kernel
theorem dX7_readsOrder_215 : decode cX7_readsOrder 215 = .ok (.return_, 1) := by decide +kernel
theorem dX7_reads_0 : decode cX7_reads 0 = .ok (.aload_n 0, 1) := by decide +kernel
theorem dX7_reads_1 : decode cX7_reads 1 = .ok (.iconst 0, 1) := by decide +kernel
theorem dX7_reads_2 : decode cX7_reads 2 = .ok (.putfield 44, 3) := by decide +kernel
theorem dX7_reads_5 : decode cX7_reads 5 = .ok (.aload_n 0, 1) := by decide +kernel
theorem dX7_reads_6 : decode cX7_reads 6 = .ok (.sipush (-1001), 3) := by decide +kernel
theorem dX7_reads_9 : decode cX7_reads 9 = .ok (.putfield 51, 3) := by decide +kernel
theorem dX7_reads_12 : decode cX7_reads 12 = .ok (.aload_n 0, 1) := by decide +kernel
theorem dX7_reads_13 : decode cX7_reads 13 = .ok (.iconst 0, 1) := by decide +kernel
theorem dX7_reads_14 : decode cX7_reads 14 = .ok (.putfield 68, 3) := by decide +kernel
theorem dX7_reads_17 : decode cX7_reads 17 = .ok (.aload_n 0, 1) := by decide +kernel
theorem dX7_reads_18 : decode cX7_reads 18 = .ok (.invokevirtual 54, 3) := by decide +kernel
theorem dX7_reads_21 : decode cX7_reads 21 = .ok (.aload_n 0, 1) := by decide +kernel
theorem dX7_reads_22 : decode cX7_reads 22 = .ok (.getfield 51, 3) := by decide +kernel
theorem dX7_reads_25 : decode cX7_reads 25 = .ok (.sipush (-1001), 3) := by decide +kernel
theorem dX7_reads_28 : decode cX7_reads 28 = .ok (.if_icmp .ne 21, 3) := by decide +kernel
theorem dX7_reads_31 : decode cX7_reads 31 = .ok (.aload_n 0, 1) := by decide +kernel
theorem dX7_reads_32 : decode cX7_reads 32 = .ok (.getfield 44, 3) := by decide +kernel
theorem dX7_reads_35 : decode cX7_reads 35 = .ok (.aload_n 0, 1) := by decide +kernel
theorem dX7_reads_36 : decode cX7_reads 36 = .ok (.getfield 41, 3) := by decide +kernel
theorem dX7_reads_39 : decode cX7_reads 39 = .ok (.if_icmp .ge 10, 3) := by decide +kernel
theorem dX7_reads_42 : decode cX7_reads 42 = .ok (.aload_n 0, 1) := by decide +kernel
theorem dX7_reads_43 : decode cX7_reads 43 = .ok (.invokevirtual 81, 3) := by decide +kernel
theorem dX7_reads_46 : decode cX7_reads 46 = .ok (.goto (-25), 3) := by decide +kernel
theorem dX7_reads_49 : decode cX7_reads 49 = .ok (.return_, 1) := by decide +kernel
theorem dX7_fault_0 : decode cX7_fault 0 = .ok (.aload_n 0, 1) := by decide +kernel
theorem dX7_fault_1 : decode cX7_fault 1 = .ok (.invokevirtual 84, 3) := by decide +kernel
theorem dX7_fault_4 : decode cX7_fault 4 = .ok (.aload_n 0, 1) := by decide +kernel
theorem dX7_fault_5 : decode cX7_fault 5 = .ok (.getfield 51, 3) := by decide +kernel
theorem dX7_fault_8 : decode cX7_fault 8 = .ok (.ireturn, 1) := by decide +kernel
theorem dX7_isDue_0 : decode cX7_isDue 0 = .ok (.sipush 168, 3) := by decide +kernel
theorem dX7_isDue_3 : decode cX7_isDue 3 = .ok (.iconst 5, 1) := by decide +kernel
theorem dX7_isDue_4 : decode cX7_isDue 4 = .ok (.iload_n 1, 1) := by decide +kernel
theorem dX7_isDue_5 : decode cX7_isDue 5 = .ok (.imul, 1) := by decide +kernel
theorem dX7_isDue_6 : decode cX7_isDue 6 = .ok (.iadd, 1) := by decide +kernel
theorem dX7_isDue_7 : decode cX7_isDue 7 = .ok (.istore_n 2, 1) := by decide +kernel
theorem dX7_isDue_8 : decode cX7_isDue 8 = .ok (.aload_n 0, 1) := by decide +kernel
theorem dX7_isDue_9 : decode cX7_isDue 9 = .ok (.getfield 7, 3) := by decide +kernel
theorem dX7_isDue_12 : decode cX7_isDue 12 = .ok (.iload_n 2, 1) := by decide +kernel
theorem dX7_isDue_13 : decode cX7_isDue 13 = .ok (.iconst 1, 1) := by decide +kernel
theorem dX7_isDue_14 : decode cX7_isDue 14 = .ok (.iadd, 1) := by decide +kernel
theorem dX7_isDue_15 : decode cX7_isDue 15 = .ok (.iaload, 1) := by decide +kernel
theorem dX7_isDue_16 : decode cX7_isDue 16 = .ok (.iconst 2, 1) := by decide +kernel
theorem dX7_isDue_17 : decode cX7_isDue 17 = .ok (.if_icmp .ne 26, 3) := by decide +kernel
theorem dX7_isDue_20 : decode cX7_isDue 20 = .ok (.aload_n 0, 1) := by decide +kernel
theorem dX7_isDue_21 : decode cX7_isDue 21 = .ok (.getfield 7, 3) := by decide +kernel
theorem dX7_isDue_24 : decode cX7_isDue 24 = .ok (.sipush 219, 3) := by decide +kernel
theorem dX7_isDue_27 : decode cX7_isDue 27 = .ok (.iaload, 1) := by decide +kernel
theorem dX7_isDue_28 : decode cX7_isDue 28 = .ok (.aload_n 0, 1) := by decide +kernel
theorem dX7_isDue_29 : decode cX7_isDue 29 = .ok (.getfield 7, 3) := by decide +kernel
theorem dX7_isDue_32 : decode cX7_isDue 32 = .ok (.iload_n 2, 1) := by decide +kernel
theorem dX7_isDue_33 : decode cX7_isDue 33 = .ok (.iaload, 1) := by decide +kernel
theorem dX7_isDue_34 : decode cX7_isDue 34 = .ok (.if_icmp .lt 7, 3) := by decide +kernel
theorem dX7_isDue_37 : decode cX7_isDue 37 = .ok (.iconst 1, 1) := by decide +kernel
theorem dX7_isDue_38 : decode cX7_isDue 38 = .ok (.goto 4, 3) := by decide +kernel
theorem dX7_isDue_41 : decode cX7_isDue 41 = .ok (.iconst 0, 1) := by decide +kernel
theorem dX7_isDue_42 : decode cX7_isDue 42 = .ok (.ireturn, 1) := by decide +kernel
theorem dX7_isDue_43 : decode cX7_isDue 43 = .ok (.aload_n 0, 1) := by decide +kernel
theorem dX7_isDue_44 : decode cX7_isDue 44 = .ok (.aload_n 0, 1) := by decide +kernel
theorem dX7_isDue_45 : decode cX7_isDue 45 = .ok (.getfield 7, 3) := by decide +kernel
theorem dX7_isDue_48 : decode cX7_isDue 48 = .ok (.iload_n 2, 1) := by decide +kernel
theorem dX7_isDue_49 : decode cX7_isDue 49 = .ok (.iconst 2, 1) := by decide +kernel
theorem dX7_isDue_50 : decode cX7_isDue 50 = .ok (.iadd, 1) := by decide +kernel
theorem dX7_isDue_51 : decode cX7_isDue 51 = .ok (.iaload, 1) := by decide +kernel
theorem dX7_isDue_52 : decode cX7_isDue 52 = .ok (.invokevirtual 86, 3) := by decide +kernel
theorem dX7_isDue_55 : decode cX7_isDue 55 = .ok (.ifCond .eq 35, 3) := by decide +kernel
theorem dX7_isDue_58 : decode cX7_isDue 58 = .ok (.aload_n 0, 1) := by decide +kernel
theorem dX7_isDue_59 : decode cX7_isDue 59 = .ok (.getfield 7, 3) := by decide +kernel
theorem dX7_isDue_62 : decode cX7_isDue 62 = .ok (.sipush 219, 3) := by decide +kernel
theorem dX7_isDue_65 : decode cX7_isDue 65 = .ok (.iaload, 1) := by decide +kernel
theorem dX7_isDue_66 : decode cX7_isDue 66 = .ok (.iconst 4, 1) := by decide +kernel
theorem dX7_isDue_67 : decode cX7_isDue 67 = .ok (.aload_n 0, 1) := by decide +kernel
theorem dX7_isDue_68 : decode cX7_isDue 68 = .ok (.getfield 7, 3) := by decide +kernel
theorem dX7_isDue_71 : decode cX7_isDue 71 = .ok (.iload_n 2, 1) := by decide +kernel
theorem dX7_isDue_72 : decode cX7_isDue 72 = .ok (.iconst 2, 1) := by decide +kernel
theorem dX7_isDue_73 : decode cX7_isDue 73 = .ok (.iadd, 1) := by decide +kernel
theorem dX7_isDue_74 : decode cX7_isDue 74 = .ok (.iaload, 1) := by decide +kernel
theorem dX7_isDue_75 : decode cX7_isDue 75 = .ok (.imul, 1) := by decide +kernel
theorem dX7_isDue_76 : decode cX7_isDue 76 = .ok (.isub, 1) := by decide +kernel
theorem dX7_isDue_77 : decode cX7_isDue 77 = .ok (.aload_n 0, 1) := by decide +kernel
theorem dX7_isDue_78 : decode cX7_isDue 78 = .ok (.getfield 7, 3) := by decide +kernel
theorem dX7_isDue_81 : decode cX7_isDue 81 = .ok (.iload_n 2, 1) := by decide +kernel
theorem dX7_isDue_82 : decode cX7_isDue 82 = .ok (.iaload, 1) := by decide +kernel
theorem dX7_isDue_83 : decode cX7_isDue 83 = .ok (.if_icmp .lt 7, 3) := by decide +kernel
theorem dX7_isDue_86 : decode cX7_isDue 86 = .ok (.iconst 1, 1) := by decide +kernel
theorem dX7_isDue_87 : decode cX7_isDue 87 = .ok (.goto 4, 3) := by decide +kernel
theorem dX7_isDue_90 : decode cX7_isDue 90 = .ok (.iconst 0, 1) := by decide +kernel
theorem dX7_isDue_91 : decode cX7_isDue 91 = .ok (.ireturn, 1) := by decide +kernel
theorem dX7_moves_0 : decode cX7_moves 0 = .ok (.iload_n 3, 1) := by decide +kernel
theorem dX7_moves_1 : decode cX7_moves 1 = .ok (.ifCond .le 26, 3) := by decide +kernel
theorem dX7_moves_4 : decode cX7_moves 4 = .ok (.aload_n 0, 1) := by decide +kernel
theorem dX7_moves_5 : decode cX7_moves 5 = .ok (.iload_n 1, 1) := by decide +kernel
theorem dX7_moves_6 : decode cX7_moves 6 = .ok (.iconst 2, 1) := by decide +kernel
theorem dX7_moves_7 : decode cX7_moves 7 = .ok (.iload_n 2, 1) := by decide +kernel
theorem dX7_moves_8 : decode cX7_moves 8 = .ok (.iadd, 1) := by decide +kernel
theorem dX7_moves_9 : decode cX7_moves 9 = .ok (.iload_n 3, 1) := by decide +kernel
theorem dX7_moves_10 : decode cX7_moves 10 = .ok (.invokevirtual 33, 3) := by decide +kernel
theorem dX7_moves_13 : decode cX7_moves 13 = .ok (.aload_n 0, 1) := by decide +kernel
theorem dX7_moves_14 : decode cX7_moves 14 = .ok (.iload_n 1, 1) := by decide +kernel
theorem dX7_moves_15 : decode cX7_moves 15 = .ok (.iconst 5, 1) := by decide +kernel
theorem dX7_moves_16 : decode cX7_moves 16 = .ok (.iload_n 2, 1) := by decide +kernel
theorem dX7_moves_17 : decode cX7_moves 17 = .ok (.iadd, 1) := by decide +kernel
theorem dX7_moves_18 : decode cX7_moves 18 = .ok (.sipush (-1001), 3) := by decide +kernel
theorem dX7_moves_21 : decode cX7_moves 21 = .ok (.invokevirtual 33, 3) := by decide +kernel
theorem dX7_moves_24 : decode cX7_moves 24 = .ok (.goto 30, 3) := by decide +kernel
theorem dX7_moves_27 : decode cX7_moves 27 = .ok (.aload_n 0, 1) := by decide +kernel
theorem dX7_moves_28 : decode cX7_moves 28 = .ok (.iload_n 1, 1) := by decide +kernel
theorem dX7_moves_29 : decode cX7_moves 29 = .ok (.iconst 2, 1) := by decide +kernel
theorem dX7_moves_30 : decode cX7_moves 30 = .ok (.iload_n 2, 1) := by decide +kernel
theorem dX7_moves_31 : decode cX7_moves 31 = .ok (.iadd, 1) := by decide +kernel
theorem dX7_moves_32 : decode cX7_moves 32 = .ok (.invokevirtual 90, 3) := by decide +kernel
theorem dX7_moves_35 : decode cX7_moves 35 = .ok (.ifCond .le 19, 3) := by decide +kernel
theorem dX7_moves_38 : decode cX7_moves 38 = .ok (.aload_n 0, 1) := by decide +kernel
theorem dX7_moves_39 : decode cX7_moves 39 = .ok (.iload_n 1, 1) := by decide +kernel
theorem dX7_moves_40 : decode cX7_moves 40 = .ok (.iconst 5, 1) := by decide +kernel
theorem dX7_moves_41 : decode cX7_moves 41 = .ok (.iload_n 2, 1) := by decide +kernel
theorem dX7_moves_42 : decode cX7_moves 42 = .ok (.iadd, 1) := by decide +kernel
theorem dX7_moves_43 : decode cX7_moves 43 = .ok (.aload_n 0, 1) := by decide +kernel
theorem dX7_moves_44 : decode cX7_moves 44 = .ok (.getfield 7, 3) := by decide +kernel
theorem dX7_moves_47 : decode cX7_moves 47 = .ok (.sipush 230, 3) := by decide +kernel
theorem dX7_moves_50 : decode cX7_moves 50 = .ok (.iaload, 1) := by decide +kernel
theorem dX7_moves_51 : decode cX7_moves 51 = .ok (.invokevirtual 33, 3) := by decide +kernel
theorem dX7_moves_54 : decode cX7_moves 54 = .ok (.return_, 1) := by decide +kernel
theorem dX7_dropsOrder_0 : decode cX7_dropsOrder 0 = .ok (.aload_n 0, 1) := by decide +kernel
theorem dX7_dropsOrder_1 : decode cX7_dropsOrder 1 = .ok (.getfield 7, 3) := by decide +kernel
theorem dX7_dropsOrder_4 : decode cX7_dropsOrder 4 = .ok (.sipush 223, 3) := by decide +kernel
theorem dX7_dropsOrder_7 : decode cX7_dropsOrder 7 = .ok (.dup2, 1) := by decide +kernel
theorem dX7_dropsOrder_8 : decode cX7_dropsOrder 8 = .ok (.iaload, 1) := by decide +kernel
theorem dX7_dropsOrder_9 : decode cX7_dropsOrder 9 = .ok (.iconst 1, 1) := by decide +kernel
theorem dX7_dropsOrder_10 : decode cX7_dropsOrder 10 = .ok (.isub, 1) := by decide +kernel
theorem dX7_dropsOrder_11 : decode cX7_dropsOrder 11 = .ok (.iastore, 1) := by decide +kernel
theorem dX7_dropsOrder_12 : decode cX7_dropsOrder 12 = .ok (.sipush 168, 3) := by decide +kernel
theorem dX7_dropsOrder_15 : decode cX7_dropsOrder 15 = .ok (.iconst 5, 1) := by decide +kernel
theorem dX7_dropsOrder_16 : decode cX7_dropsOrder 16 = .ok (.iload_n 1, 1) := by decide +kernel
theorem dX7_dropsOrder_17 : decode cX7_dropsOrder 17 = .ok (.imul, 1) := by decide +kernel
theorem dX7_dropsOrder_18 : decode cX7_dropsOrder 18 = .ok (.iadd, 1) := by decide +kernel
theorem dX7_dropsOrder_19 : decode cX7_dropsOrder 19 = .ok (.istore_n 2, 1) := by decide +kernel
theorem dX7_dropsOrder_20 : decode cX7_dropsOrder 20 = .ok (.iload_n 2, 1) := by decide +kernel
theorem dX7_dropsOrder_21 : decode cX7_dropsOrder 21 = .ok (.sipush 168, 3) := by decide +kernel
theorem dX7_dropsOrder_24 : decode cX7_dropsOrder 24 = .ok (.iconst 5, 1) := by decide +kernel
theorem dX7_dropsOrder_25 : decode cX7_dropsOrder 25 = .ok (.aload_n 0, 1) := by decide +kernel
theorem dX7_dropsOrder_26 : decode cX7_dropsOrder 26 = .ok (.getfield 7, 3) := by decide +kernel
theorem dX7_dropsOrder_29 : decode cX7_dropsOrder 29 = .ok (.sipush 223, 3) := by decide +kernel
theorem dX7_dropsOrder_32 : decode cX7_dropsOrder 32 = .ok (.iaload, 1) := by decide +kernel
theorem dX7_dropsOrder_33 : decode cX7_dropsOrder 33 = .ok (.imul, 1) := by decide +kernel
theorem dX7_dropsOrder_34 : decode cX7_dropsOrder 34 = .ok (.iadd, 1) := by decide +kernel
theorem dX7_dropsOrder_35 : decode cX7_dropsOrder 35 = .ok (.if_icmp .ge 23, 3) := by decide +kernel
theorem dX7_dropsOrder_38 : decode cX7_dropsOrder 38 = .ok (.aload_n 0, 1) := by decide +kernel
theorem dX7_dropsOrder_39 : decode cX7_dropsOrder 39 = .ok (.getfield 7, 3) := by decide +kernel
theorem dX7_dropsOrder_42 : decode cX7_dropsOrder 42 = .ok (.iload_n 2, 1) := by decide +kernel
theorem dX7_dropsOrder_43 : decode cX7_dropsOrder 43 = .ok (.aload_n 0, 1) := by decide +kernel
theorem dX7_dropsOrder_44 : decode cX7_dropsOrder 44 = .ok (.getfield 7, 3) := by decide +kernel
theorem dX7_dropsOrder_47 : decode cX7_dropsOrder 47 = .ok (.iload_n 2, 1) := by decide +kernel
theorem dX7_dropsOrder_48 : decode cX7_dropsOrder 48 = .ok (.iconst 5, 1) := by decide +kernel
theorem dX7_dropsOrder_49 : decode cX7_dropsOrder 49 = .ok (.iadd, 1) := by decide +kernel
theorem dX7_dropsOrder_50 : decode cX7_dropsOrder 50 = .ok (.iaload, 1) := by decide +kernel
theorem dX7_dropsOrder_51 : decode cX7_dropsOrder 51 = .ok (.iastore, 1) := by decide +kernel
theorem dX7_dropsOrder_52 : decode cX7_dropsOrder 52 = .ok (.iinc 2 1, 3) := by decide +kernel
theorem dX7_dropsOrder_55 : decode cX7_dropsOrder 55 = .ok (.goto (-35), 3) := by decide +kernel
theorem dX7_dropsOrder_58 : decode cX7_dropsOrder 58 = .ok (.return_, 1) := by decide +kernel
theorem dX7_ordersDue_0 : decode cX7_ordersDue 0 = .ok (.iconst 0, 1) := by decide +kernel
theorem dX7_ordersDue_1 : decode cX7_ordersDue 1 = .ok (.istore_n 1, 1) := by decide +kernel
theorem dX7_ordersDue_2 : decode cX7_ordersDue 2 = .ok (.iload_n 1, 1) := by decide +kernel
theorem dX7_ordersDue_3 : decode cX7_ordersDue 3 = .ok (.aload_n 0, 1) := by decide +kernel
theorem dX7_ordersDue_4 : decode cX7_ordersDue 4 = .ok (.getfield 7, 3) := by decide +kernel
theorem dX7_ordersDue_7 : decode cX7_ordersDue 7 = .ok (.sipush 223, 3) := by decide +kernel
theorem dX7_ordersDue_10 : decode cX7_ordersDue 10 = .ok (.iaload, 1) := by decide +kernel
theorem dX7_ordersDue_11 : decode cX7_ordersDue 11 = .ok (.if_icmp .ge 107, 3) := by decide +kernel
theorem dX7_ordersDue_14 : decode cX7_ordersDue 14 = .ok (.sipush 168, 3) := by decide +kernel
theorem dX7_ordersDue_17 : decode cX7_ordersDue 17 = .ok (.iconst 5, 1) := by decide +kernel
theorem dX7_ordersDue_18 : decode cX7_ordersDue 18 = .ok (.iload_n 1, 1) := by decide +kernel
theorem dX7_ordersDue_19 : decode cX7_ordersDue 19 = .ok (.imul, 1) := by decide +kernel
theorem dX7_ordersDue_20 : decode cX7_ordersDue 20 = .ok (.iadd, 1) := by decide +kernel
theorem dX7_ordersDue_21 : decode cX7_ordersDue 21 = .ok (.istore_n 2, 1) := by decide +kernel
theorem dX7_ordersDue_22 : decode cX7_ordersDue 22 = .ok (.aload_n 0, 1) := by decide +kernel
theorem dX7_ordersDue_23 : decode cX7_ordersDue 23 = .ok (.iload_n 1, 1) := by decide +kernel
theorem dX7_ordersDue_24 : decode cX7_ordersDue 24 = .ok (.invokevirtual 93, 3) := by decide +kernel
theorem dX7_ordersDue_27 : decode cX7_ordersDue 27 = .ok (.ifCond .eq 85, 3) := by decide +kernel
theorem dX7_ordersDue_30 : decode cX7_ordersDue 30 = .ok (.aload_n 0, 1) := by decide +kernel
theorem dX7_ordersDue_31 : decode cX7_ordersDue 31 = .ok (.getfield 7, 3) := by decide +kernel
theorem dX7_ordersDue_34 : decode cX7_ordersDue 34 = .ok (.iload_n 2, 1) := by decide +kernel
theorem dX7_ordersDue_35 : decode cX7_ordersDue 35 = .ok (.iconst 1, 1) := by decide +kernel
theorem dX7_ordersDue_36 : decode cX7_ordersDue 36 = .ok (.iadd, 1) := by decide +kernel
theorem dX7_ordersDue_37 : decode cX7_ordersDue 37 = .ok (.iaload, 1) := by decide +kernel
theorem dX7_ordersDue_38 : decode cX7_ordersDue 38 = .ok (.iconst 2, 1) := by decide +kernel
theorem dX7_ordersDue_39 : decode cX7_ordersDue 39 = .ok (.if_icmp .ne 22, 3) := by decide +kernel
theorem dX7_ordersDue_42 : decode cX7_ordersDue 42 = .ok (.aload_n 0, 1) := by decide +kernel
theorem dX7_ordersDue_43 : decode cX7_ordersDue 43 = .ok (.getfield 7, 3) := by decide +kernel
theorem dX7_ordersDue_46 : decode cX7_ordersDue 46 = .ok (.sipush 221, 3) := by decide +kernel
theorem dX7_ordersDue_49 : decode cX7_ordersDue 49 = .ok (.aload_n 0, 1) := by decide +kernel
theorem dX7_ordersDue_50 : decode cX7_ordersDue 50 = .ok (.getfield 7, 3) := by decide +kernel
theorem dX7_ordersDue_53 : decode cX7_ordersDue 53 = .ok (.iload_n 2, 1) := by decide +kernel
theorem dX7_ordersDue_54 : decode cX7_ordersDue 54 = .ok (.iconst 4, 1) := by decide +kernel
theorem dX7_ordersDue_55 : decode cX7_ordersDue 55 = .ok (.iadd, 1) := by decide +kernel
theorem dX7_ordersDue_56 : decode cX7_ordersDue 56 = .ok (.iaload, 1) := by decide +kernel
theorem dX7_ordersDue_57 : decode cX7_ordersDue 57 = .ok (.iastore, 1) := by decide +kernel
theorem dX7_ordersDue_58 : decode cX7_ordersDue 58 = .ok (.goto 46, 3) := by decide +kernel
theorem dX7_ordersDue_61 : decode cX7_ordersDue 61 = .ok (.aload_n 0, 1) := by decide +kernel
theorem dX7_ordersDue_62 : decode cX7_ordersDue 62 = .ok (.aload_n 0, 1) := by decide +kernel
theorem dX7_ordersDue_63 : decode cX7_ordersDue 63 = .ok (.getfield 7, 3) := by decide +kernel
theorem dX7_ordersDue_66 : decode cX7_ordersDue 66 = .ok (.iload_n 2, 1) := by decide +kernel
theorem dX7_ordersDue_67 : decode cX7_ordersDue 67 = .ok (.iconst 2, 1) := by decide +kernel
theorem dX7_ordersDue_68 : decode cX7_ordersDue 68 = .ok (.iadd, 1) := by decide +kernel
theorem dX7_ordersDue_69 : decode cX7_ordersDue 69 = .ok (.iaload, 1) := by decide +kernel
theorem dX7_ordersDue_70 : decode cX7_ordersDue 70 = .ok (.aload_n 0, 1) := by decide +kernel
theorem dX7_ordersDue_71 : decode cX7_ordersDue 71 = .ok (.getfield 7, 3) := by decide +kernel
theorem dX7_ordersDue_74 : decode cX7_ordersDue 74 = .ok (.iload_n 2, 1) := by decide +kernel
theorem dX7_ordersDue_75 : decode cX7_ordersDue 75 = .ok (.iconst 3, 1) := by decide +kernel
theorem dX7_ordersDue_76 : decode cX7_ordersDue 76 = .ok (.iadd, 1) := by decide +kernel
theorem dX7_ordersDue_77 : decode cX7_ordersDue 77 = .ok (.iaload, 1) := by decide +kernel
theorem dX7_ordersDue_78 : decode cX7_ordersDue 78 = .ok (.aload_n 0, 1) := by decide +kernel
theorem dX7_ordersDue_79 : decode cX7_ordersDue 79 = .ok (.getfield 7, 3) := by decide +kernel
theorem dX7_ordersDue_82 : decode cX7_ordersDue 82 = .ok (.iload_n 2, 1) := by decide +kernel
theorem dX7_ordersDue_83 : decode cX7_ordersDue 83 = .ok (.iconst 1, 1) := by decide +kernel
theorem dX7_ordersDue_84 : decode cX7_ordersDue 84 = .ok (.iadd, 1) := by decide +kernel
theorem dX7_ordersDue_85 : decode cX7_ordersDue 85 = .ok (.iaload, 1) := by decide +kernel
theorem dX7_ordersDue_86 : decode cX7_ordersDue 86 = .ok (.ifCond .ne 14, 3) := by decide +kernel
theorem dX7_ordersDue_89 : decode cX7_ordersDue 89 = .ok (.aload_n 0, 1) := by decide +kernel
theorem dX7_ordersDue_90 : decode cX7_ordersDue 90 = .ok (.getfield 7, 3) := by decide +kernel
theorem dX7_ordersDue_93 : decode cX7_ordersDue 93 = .ok (.iload_n 2, 1) := by decide +kernel
theorem dX7_ordersDue_94 : decode cX7_ordersDue 94 = .ok (.iconst 4, 1) := by decide +kernel
theorem dX7_ordersDue_95 : decode cX7_ordersDue 95 = .ok (.iadd, 1) := by decide +kernel
theorem dX7_ordersDue_96 : decode cX7_ordersDue 96 = .ok (.iaload, 1) := by decide +kernel
theorem dX7_ordersDue_97 : decode cX7_ordersDue 97 = .ok (.goto 4, 3) := by decide +kernel
theorem dX7_ordersDue_100 : decode cX7_ordersDue 100 = .ok (.iconst 0, 1) := by decide +kernel
theorem dX7_ordersDue_101 : decode cX7_ordersDue 101 = .ok (.invokevirtual 96, 3) := by decide +kernel
theorem dX7_ordersDue_104 : decode cX7_ordersDue 104 = .ok (.aload_n 0, 1) := by decide +kernel
theorem dX7_ordersDue_105 : decode cX7_ordersDue 105 = .ok (.iload_n 1, 1) := by decide +kernel
theorem dX7_ordersDue_106 : decode cX7_ordersDue 106 = .ok (.invokevirtual 99, 3) := by decide +kernel
theorem dX7_ordersDue_109 : decode cX7_ordersDue 109 = .ok (.goto 6, 3) := by decide +kernel
theorem dX7_ordersDue_112 : decode cX7_ordersDue 112 = .ok (.iinc 1 1, 3) := by decide +kernel
theorem dX7_ordersDue_115 : decode cX7_ordersDue 115 = .ok (.goto (-113), 3) := by decide +kernel
theorem dX7_ordersDue_118 : decode cX7_ordersDue 118 = .ok (.return_, 1) := by decide +kernel
theorem dX7_falls_0 : decode cX7_falls 0 = .ok (.aload_n 0, 1) := by decide +kernel
theorem dX7_falls_1 : decode cX7_falls 1 = .ok (.iload_n 1, 1) := by decide +kernel
theorem dX7_falls_2 : decode cX7_falls 2 = .ok (.iconst 2, 1) := by decide +kernel
theorem dX7_falls_3 : decode cX7_falls 3 = .ok (.iload_n 2, 1) := by decide +kernel
theorem dX7_falls_4 : decode cX7_falls 4 = .ok (.iadd, 1) := by decide +kernel
theorem dX7_falls_5 : decode cX7_falls 5 = .ok (.invokevirtual 90, 3) := by decide +kernel
theorem dX7_falls_8 : decode cX7_falls 8 = .ok (.aload_n 0, 1) := by decide +kernel
theorem dX7_falls_9 : decode cX7_falls 9 = .ok (.iload_n 1, 1) := by decide +kernel
theorem dX7_falls_10 : decode cX7_falls 10 = .ok (.iconst 0, 1) := by decide +kernel
theorem dX7_falls_11 : decode cX7_falls 11 = .ok (.invokevirtual 90, 3) := by decide +kernel
theorem dX7_falls_14 : decode cX7_falls 14 = .ok (.invokestatic 102, 3) := by decide +kernel
theorem dX7_falls_17 : decode cX7_falls 17 = .ok (.istore_n 3, 1) := by decide +kernel
theorem dX7_falls_18 : decode cX7_falls 18 = .ok (.aload_n 0, 1) := by decide +kernel
theorem dX7_falls_19 : decode cX7_falls 19 = .ok (.iload_n 1, 1) := by decide +kernel
theorem dX7_falls_20 : decode cX7_falls 20 = .ok (.iconst 0, 1) := by decide +kernel
theorem dX7_falls_21 : decode cX7_falls 21 = .ok (.aload_n 0, 1) := by decide +kernel
theorem dX7_falls_22 : decode cX7_falls 22 = .ok (.iload_n 1, 1) := by decide +kernel
theorem dX7_falls_23 : decode cX7_falls 23 = .ok (.iconst 0, 1) := by decide +kernel
theorem dX7_falls_24 : decode cX7_falls 24 = .ok (.invokevirtual 90, 3) := by decide +kernel
theorem dX7_falls_27 : decode cX7_falls 27 = .ok (.iload_n 3, 1) := by decide +kernel
theorem dX7_falls_28 : decode cX7_falls 28 = .ok (.isub, 1) := by decide +kernel
theorem dX7_falls_29 : decode cX7_falls 29 = .ok (.invokevirtual 33, 3) := by decide +kernel
theorem dX7_falls_32 : decode cX7_falls 32 = .ok (.aload_n 0, 1) := by decide +kernel
theorem dX7_falls_33 : decode cX7_falls 33 = .ok (.iload_n 1, 1) := by decide +kernel
theorem dX7_falls_34 : decode cX7_falls 34 = .ok (.iconst 1, 1) := by decide +kernel
theorem dX7_falls_35 : decode cX7_falls 35 = .ok (.aload_n 0, 1) := by decide +kernel
theorem dX7_falls_36 : decode cX7_falls 36 = .ok (.iload_n 1, 1) := by decide +kernel
theorem dX7_falls_37 : decode cX7_falls 37 = .ok (.iconst 1, 1) := by decide +kernel
theorem dX7_falls_38 : decode cX7_falls 38 = .ok (.invokevirtual 90, 3) := by decide +kernel
theorem dX7_falls_41 : decode cX7_falls 41 = .ok (.iload_n 3, 1) := by decide +kernel
theorem dX7_falls_42 : decode cX7_falls 42 = .ok (.iadd, 1) := by decide +kernel
theorem dX7_falls_43 : decode cX7_falls 43 = .ok (.invokevirtual 33, 3) := by decide +kernel
theorem dX7_falls_46 : decode cX7_falls 46 = .ok (.aload_n 0, 1) := by decide +kernel
theorem dX7_falls_47 : decode cX7_falls 47 = .ok (.getfield 7, 3) := by decide +kernel
theorem dX7_falls_50 : decode cX7_falls 50 = .ok (.sipush 219, 3) := by decide +kernel
theorem dX7_falls_53 : decode cX7_falls 53 = .ok (.iaload, 1) := by decide +kernel
theorem dX7_falls_54 : decode cX7_falls 54 = .ok (.iconst 4, 1) := by decide +kernel
theorem dX7_falls_55 : decode cX7_falls 55 = .ok (.iload_n 1, 1) := by decide +kernel
theorem dX7_falls_56 : decode cX7_falls 56 = .ok (.imul, 1) := by decide +kernel
theorem dX7_falls_57 : decode cX7_falls 57 = .ok (.isub, 1) := by decide +kernel
theorem dX7_falls_58 : decode cX7_falls 58 = .ok (.istore 4, 2) := by decide +kernel
theorem dX7_falls_60 : decode cX7_falls 60 = .ok (.iload 4, 2) := by decide +kernel
theorem dX7_falls_62 : decode cX7_falls 62 = .ok (.invokestatic 105, 3) := by decide +kernel
theorem dX7_falls_65 : decode cX7_falls 65 = .ok (.ifCond .eq 21, 3) := by decide +kernel
theorem dX7_falls_68 : decode cX7_falls 68 = .ok (.aload_n 0, 1) := by decide +kernel
theorem dX7_falls_69 : decode cX7_falls 69 = .ok (.getfield 7, 3) := by decide +kernel
theorem dX7_falls_72 : decode cX7_falls 72 = .ok (.iconst 3, 1) := by decide +kernel
theorem dX7_falls_73 : decode cX7_falls 73 = .ok (.iload 4, 2) := by decide +kernel
theorem dX7_falls_75 : decode cX7_falls 75 = .ok (.imul, 1) := by decide +kernel
theorem dX7_falls_76 : decode cX7_falls 76 = .ok (.iload_n 2, 1) := by decide +kernel
theorem dX7_falls_77 : decode cX7_falls 77 = .ok (.iadd, 1) := by decide +kernel
theorem dX7_falls_78 : decode cX7_falls 78 = .ok (.dup2, 1) := by decide +kernel
theorem dX7_falls_79 : decode cX7_falls 79 = .ok (.iaload, 1) := by decide +kernel
theorem dX7_falls_80 : decode cX7_falls 80 = .ok (.iload_n 3, 1) := by decide +kernel
theorem dX7_falls_81 : decode cX7_falls 81 = .ok (.iadd, 1) := by decide +kernel
theorem dX7_falls_82 : decode cX7_falls 82 = .ok (.iastore, 1) := by decide +kernel
theorem dX7_falls_83 : decode cX7_falls 83 = .ok (.goto 15, 3) := by decide +kernel
theorem dX7_falls_86 : decode cX7_falls 86 = .ok (.aload_n 0, 1) := by decide +kernel
theorem dX7_falls_87 : decode cX7_falls 87 = .ok (.getfield 7, 3) := by decide +kernel
theorem dX7_falls_90 : decode cX7_falls 90 = .ok (.sipush 226, 3) := by decide +kernel
theorem dX7_falls_93 : decode cX7_falls 93 = .ok (.dup2, 1) := by decide +kernel
theorem dX7_falls_94 : decode cX7_falls 94 = .ok (.iaload, 1) := by decide +kernel
theorem dX7_falls_95 : decode cX7_falls 95 = .ok (.iload_n 3, 1) := by decide +kernel
theorem dX7_falls_96 : decode cX7_falls 96 = .ok (.iadd, 1) := by decide +kernel
theorem dX7_falls_97 : decode cX7_falls 97 = .ok (.iastore, 1) := by decide +kernel
theorem dX7_falls_98 : decode cX7_falls 98 = .ok (.return_, 1) := by decide +kernel
theorem dX7_slides_0 : decode cX7_slides 0 = .ok (.aload_n 0, 1) := by decide +kernel
theorem dX7_slides_1 : decode cX7_slides 1 = .ok (.getfield 7, 3) := by decide +kernel
theorem dX7_slides_4 : decode cX7_slides 4 = .ok (.iconst 3, 1) := by decide +kernel
theorem dX7_slides_5 : decode cX7_slides 5 = .ok (.iload_n 1, 1) := by decide +kernel
theorem dX7_slides_6 : decode cX7_slides 6 = .ok (.imul, 1) := by decide +kernel
theorem dX7_slides_7 : decode cX7_slides 7 = .ok (.iload_n 2, 1) := by decide +kernel
theorem dX7_slides_8 : decode cX7_slides 8 = .ok (.iadd, 1) := by decide +kernel
theorem dX7_slides_9 : decode cX7_slides 9 = .ok (.iaload, 1) := by decide +kernel
theorem dX7_slides_10 : decode cX7_slides 10 = .ok (.aload_n 0, 1) := by decide +kernel
theorem dX7_slides_11 : decode cX7_slides 11 = .ok (.getfield 7, 3) := by decide +kernel
theorem dX7_slides_14 : decode cX7_slides 14 = .ok (.iconst 3, 1) := by decide +kernel
theorem dX7_slides_15 : decode cX7_slides 15 = .ok (.iload_n 1, 1) := by decide +kernel
theorem dX7_slides_16 : decode cX7_slides 16 = .ok (.imul, 1) := by decide +kernel
theorem dX7_slides_17 : decode cX7_slides 17 = .ok (.iconst 3, 1) := by decide +kernel
theorem dX7_slides_18 : decode cX7_slides 18 = .ok (.iadd, 1) := by decide +kernel
theorem dX7_slides_19 : decode cX7_slides 19 = .ok (.iload_n 2, 1) := by decide +kernel
theorem dX7_slides_20 : decode cX7_slides 20 = .ok (.iadd, 1) := by decide +kernel
theorem dX7_slides_21 : decode cX7_slides 21 = .ok (.iaload, 1) := by decide +kernel
theorem dX7_slides_22 : decode cX7_slides 22 = .ok (.isub, 1) := by decide +kernel
theorem dX7_slides_23 : decode cX7_slides 23 = .ok (.istore_n 3, 1) := by decide +kernel
theorem dX7_slides_24 : decode cX7_slides 24 = .ok (.iload_n 3, 1) := by decide +kernel
theorem dX7_slides_25 : decode cX7_slides 25 = .ok (.aload_n 0, 1) := by decide +kernel
theorem dX7_slides_26 : decode cX7_slides 26 = .ok (.getfield 7, 3) := by decide +kernel
theorem dX7_slides_29 : decode cX7_slides 29 = .ok (.sipush 228, 3) := by decide +kernel
theorem dX7_slides_32 : decode cX7_slides 32 = .ok (.iaload, 1) := by decide +kernel
theorem dX7_slides_33 : decode cX7_slides 33 = .ok (.if_icmp .le 7, 3) := by decide +kernel
theorem dX7_slides_36 : decode cX7_slides 36 = .ok (.iconst 1, 1) := by decide +kernel
theorem dX7_slides_37 : decode cX7_slides 37 = .ok (.goto 21, 3) := by decide +kernel
theorem dX7_slides_40 : decode cX7_slides 40 = .ok (.iload_n 3, 1) := by decide +kernel
theorem dX7_slides_41 : decode cX7_slides 41 = .ok (.ineg, 1) := by decide +kernel
theorem dX7_slides_42 : decode cX7_slides 42 = .ok (.aload_n 0, 1) := by decide +kernel
theorem dX7_slides_43 : decode cX7_slides 43 = .ok (.getfield 7, 3) := by decide +kernel
theorem dX7_slides_46 : decode cX7_slides 46 = .ok (.sipush 228, 3) := by decide +kernel
theorem dX7_slides_49 : decode cX7_slides 49 = .ok (.iaload, 1) := by decide +kernel
theorem dX7_slides_50 : decode cX7_slides 50 = .ok (.if_icmp .le 7, 3) := by decide +kernel
theorem dX7_slides_53 : decode cX7_slides 53 = .ok (.iconst (-1), 1) := by decide +kernel
theorem dX7_slides_54 : decode cX7_slides 54 = .ok (.goto 4, 3) := by decide +kernel
theorem dX7_slides_57 : decode cX7_slides 57 = .ok (.iconst 0, 1) := by decide +kernel
theorem dX7_slides_58 : decode cX7_slides 58 = .ok (.istore 4, 2) := by decide +kernel
theorem dX7_slides_60 : decode cX7_slides 60 = .ok (.aload_n 0, 1) := by decide +kernel
theorem dX7_slides_61 : decode cX7_slides 61 = .ok (.getfield 7, 3) := by decide +kernel
theorem dX7_slides_64 : decode cX7_slides 64 = .ok (.iconst 3, 1) := by decide +kernel
theorem dX7_slides_65 : decode cX7_slides 65 = .ok (.iload_n 1, 1) := by decide +kernel
theorem dX7_slides_66 : decode cX7_slides 66 = .ok (.imul, 1) := by decide +kernel
theorem dX7_slides_67 : decode cX7_slides 67 = .ok (.iload_n 2, 1) := by decide +kernel
theorem dX7_slides_68 : decode cX7_slides 68 = .ok (.iadd, 1) := by decide +kernel
theorem dX7_slides_69 : decode cX7_slides 69 = .ok (.dup2, 1) := by decide +kernel
theorem dX7_slides_70 : decode cX7_slides 70 = .ok (.iaload, 1) := by decide +kernel
theorem dX7_slides_71 : decode cX7_slides 71 = .ok (.iload 4, 2) := by decide +kernel
theorem dX7_slides_73 : decode cX7_slides 73 = .ok (.isub, 1) := by decide +kernel
theorem dX7_slides_74 : decode cX7_slides 74 = .ok (.iastore, 1) := by decide +kernel
theorem dX7_slides_75 : decode cX7_slides 75 = .ok (.aload_n 0, 1) := by decide +kernel
theorem dX7_slides_76 : decode cX7_slides 76 = .ok (.getfield 7, 3) := by decide +kernel
theorem dX7_slides_79 : decode cX7_slides 79 = .ok (.iconst 3, 1) := by decide +kernel
theorem dX7_slides_80 : decode cX7_slides 80 = .ok (.iload_n 1, 1) := by decide +kernel
theorem dX7_slides_81 : decode cX7_slides 81 = .ok (.imul, 1) := by decide +kernel
theorem dX7_slides_82 : decode cX7_slides 82 = .ok (.iconst 3, 1) := by decide +kernel
theorem dX7_slides_83 : decode cX7_slides 83 = .ok (.iadd, 1) := by decide +kernel
theorem dX7_slides_84 : decode cX7_slides 84 = .ok (.iload_n 2, 1) := by decide +kernel
theorem dX7_slides_85 : decode cX7_slides 85 = .ok (.iadd, 1) := by decide +kernel
theorem dX7_slides_86 : decode cX7_slides 86 = .ok (.dup2, 1) := by decide +kernel
theorem dX7_slides_87 : decode cX7_slides 87 = .ok (.iaload, 1) := by decide +kernel
theorem dX7_slides_88 : decode cX7_slides 88 = .ok (.iload 4, 2) := by decide +kernel
theorem dX7_slides_90 : decode cX7_slides 90 = .ok (.iadd, 1) := by decide +kernel
theorem dX7_slides_91 : decode cX7_slides 91 = .ok (.iastore, 1) := by decide +kernel
theorem dX7_slides_92 : decode cX7_slides 92 = .ok (.return_, 1) := by decide +kernel
theorem dX7_spills_0 : decode cX7_spills 0 = .ok (.aload_n 0, 1) := by decide +kernel
theorem dX7_spills_1 : decode cX7_spills 1 = .ok (.getfield 7, 3) := by decide +kernel
theorem dX7_spills_4 : decode cX7_spills 4 = .ok (.iconst 3, 1) := by decide +kernel
theorem dX7_spills_5 : decode cX7_spills 5 = .ok (.iload_n 1, 1) := by decide +kernel
theorem dX7_spills_6 : decode cX7_spills 6 = .ok (.imul, 1) := by decide +kernel
theorem dX7_spills_7 : decode cX7_spills 7 = .ok (.iload_n 2, 1) := by decide +kernel
theorem dX7_spills_8 : decode cX7_spills 8 = .ok (.iadd, 1) := by decide +kernel
theorem dX7_spills_9 : decode cX7_spills 9 = .ok (.iaload, 1) := by decide +kernel
theorem dX7_spills_10 : decode cX7_spills 10 = .ok (.aload_n 0, 1) := by decide +kernel
theorem dX7_spills_11 : decode cX7_spills 11 = .ok (.getfield 7, 3) := by decide +kernel
theorem dX7_spills_14 : decode cX7_spills 14 = .ok (.sipush 229, 3) := by decide +kernel
theorem dX7_spills_17 : decode cX7_spills 17 = .ok (.iaload, 1) := by decide +kernel
theorem dX7_spills_18 : decode cX7_spills 18 = .ok (.isub, 1) := by decide +kernel
theorem dX7_spills_19 : decode cX7_spills 19 = .ok (.istore_n 3, 1) := by decide +kernel
theorem dX7_spills_20 : decode cX7_spills 20 = .ok (.aload_n 0, 1) := by decide +kernel
theorem dX7_spills_21 : decode cX7_spills 21 = .ok (.getfield 7, 3) := by decide +kernel
theorem dX7_spills_24 : decode cX7_spills 24 = .ok (.iconst 3, 1) := by decide +kernel
theorem dX7_spills_25 : decode cX7_spills 25 = .ok (.iload_n 1, 1) := by decide +kernel
theorem dX7_spills_26 : decode cX7_spills 26 = .ok (.imul, 1) := by decide +kernel
theorem dX7_spills_27 : decode cX7_spills 27 = .ok (.iload_n 2, 1) := by decide +kernel
theorem dX7_spills_28 : decode cX7_spills 28 = .ok (.iadd, 1) := by decide +kernel
theorem dX7_spills_29 : decode cX7_spills 29 = .ok (.dup2, 1) := by decide +kernel
theorem dX7_spills_30 : decode cX7_spills 30 = .ok (.iaload, 1) := by decide +kernel
theorem dX7_spills_31 : decode cX7_spills 31 = .ok (.iload_n 3, 1) := by decide +kernel
theorem dX7_spills_32 : decode cX7_spills 32 = .ok (.ifCond .le 7, 3) := by decide +kernel
theorem dX7_spills_35 : decode cX7_spills 35 = .ok (.iload_n 3, 1) := by decide +kernel
theorem dX7_spills_36 : decode cX7_spills 36 = .ok (.goto 4, 3) := by decide +kernel
theorem dX7_spills_39 : decode cX7_spills 39 = .ok (.iconst 0, 1) := by decide +kernel
theorem dX7_spills_40 : decode cX7_spills 40 = .ok (.isub, 1) := by decide +kernel
theorem dX7_spills_41 : decode cX7_spills 41 = .ok (.iastore, 1) := by decide +kernel
theorem dX7_spills_42 : decode cX7_spills 42 = .ok (.aload_n 0, 1) := by decide +kernel
theorem dX7_spills_43 : decode cX7_spills 43 = .ok (.getfield 7, 3) := by decide +kernel
theorem dX7_spills_46 : decode cX7_spills 46 = .ok (.sipush 226, 3) := by decide +kernel
theorem dX7_spills_49 : decode cX7_spills 49 = .ok (.dup2, 1) := by decide +kernel
theorem dX7_spills_50 : decode cX7_spills 50 = .ok (.iaload, 1) := by decide +kernel
theorem dX7_spills_51 : decode cX7_spills 51 = .ok (.iload_n 3, 1) := by decide +kernel
theorem dX7_spills_52 : decode cX7_spills 52 = .ok (.ifCond .le 7, 3) := by decide +kernel
theorem dX7_spills_55 : decode cX7_spills 55 = .ok (.iload_n 3, 1) := by decide +kernel
theorem dX7_spills_56 : decode cX7_spills 56 = .ok (.goto 4, 3) := by decide +kernel
theorem dX7_spills_59 : decode cX7_spills 59 = .ok (.iconst 0, 1) := by decide +kernel
theorem dX7_spills_60 : decode cX7_spills 60 = .ok (.iadd, 1) := by decide +kernel
theorem dX7_spills_61 : decode cX7_spills 61 = .ok (.iastore, 1) := by decide +kernel
theorem dX7_spills_62 : decode cX7_spills 62 = .ok (.return_, 1) := by decide +kernel
theorem dX7_closes_0 : decode cX7_closes 0 = .ok (.aload_n 0, 1) := by decide +kernel
theorem dX7_closes_1 : decode cX7_closes 1 = .ok (.iload_n 1, 1) := by decide +kernel
theorem dX7_closes_2 : decode cX7_closes 2 = .ok (.iconst 5, 1) := by decide +kernel
theorem dX7_closes_3 : decode cX7_closes 3 = .ok (.iload_n 2, 1) := by decide +kernel
theorem dX7_closes_4 : decode cX7_closes 4 = .ok (.iadd, 1) := by decide +kernel
theorem dX7_closes_5 : decode cX7_closes 5 = .ok (.invokevirtual 90, 3) := by decide +kernel
theorem dX7_closes_8 : decode cX7_closes 8 = .ok (.istore_n 3, 1) := by decide +kernel
theorem dX7_closes_9 : decode cX7_closes 9 = .ok (.iload_n 3, 1) := by decide +kernel
theorem dX7_closes_10 : decode cX7_closes 10 = .ok (.ifCond .le 17, 3) := by decide +kernel
theorem dX7_closes_13 : decode cX7_closes 13 = .ok (.aload_n 0, 1) := by decide +kernel
theorem dX7_closes_14 : decode cX7_closes 14 = .ok (.iload_n 1, 1) := by decide +kernel
theorem dX7_closes_15 : decode cX7_closes 15 = .ok (.iconst 5, 1) := by decide +kernel
theorem dX7_closes_16 : decode cX7_closes 16 = .ok (.iload_n 2, 1) := by decide +kernel
theorem dX7_closes_17 : decode cX7_closes 17 = .ok (.iadd, 1) := by decide +kernel
theorem dX7_closes_18 : decode cX7_closes 18 = .ok (.iload_n 3, 1) := by decide +kernel
theorem dX7_closes_19 : decode cX7_closes 19 = .ok (.iconst 1, 1) := by decide +kernel
theorem dX7_closes_20 : decode cX7_closes 20 = .ok (.isub, 1) := by decide +kernel
theorem dX7_closes_21 : decode cX7_closes 21 = .ok (.invokevirtual 33, 3) := by decide +kernel
theorem dX7_closes_24 : decode cX7_closes 24 = .ok (.goto 81, 3) := by decide +kernel
theorem dX7_closes_27 : decode cX7_closes 27 = .ok (.iload_n 3, 1) := by decide +kernel
theorem dX7_closes_28 : decode cX7_closes 28 = .ok (.ifCond .ne 77, 3) := by decide +kernel
theorem dX7_closes_31 : decode cX7_closes 31 = .ok (.aload_n 0, 1) := by decide +kernel
theorem dX7_closes_32 : decode cX7_closes 32 = .ok (.iload_n 1, 1) := by decide +kernel
theorem dX7_closes_33 : decode cX7_closes 33 = .ok (.iconst 0, 1) := by decide +kernel
theorem dX7_closes_34 : decode cX7_closes 34 = .ok (.invokevirtual 90, 3) := by decide +kernel
theorem dX7_closes_37 : decode cX7_closes 37 = .ok (.aload_n 0, 1) := by decide +kernel
theorem dX7_closes_38 : decode cX7_closes 38 = .ok (.getfield 7, 3) := by decide +kernel
theorem dX7_closes_41 : decode cX7_closes 41 = .ok (.sipush 231, 3) := by decide +kernel
theorem dX7_closes_44 : decode cX7_closes 44 = .ok (.iaload, 1) := by decide +kernel
theorem dX7_closes_45 : decode cX7_closes 45 = .ok (.if_icmp .le 7, 3) := by decide +kernel
theorem dX7_closes_48 : decode cX7_closes 48 = .ok (.iconst 1, 1) := by decide +kernel
theorem dX7_closes_49 : decode cX7_closes 49 = .ok (.goto 4, 3) := by decide +kernel
theorem dX7_closes_52 : decode cX7_closes 52 = .ok (.iconst 0, 1) := by decide +kernel
theorem dX7_closes_53 : decode cX7_closes 53 = .ok (.istore 4, 2) := by decide +kernel
theorem dX7_closes_55 : decode cX7_closes 55 = .ok (.aload_n 0, 1) := by decide +kernel
theorem dX7_closes_56 : decode cX7_closes 56 = .ok (.iload_n 1, 1) := by decide +kernel
theorem dX7_closes_57 : decode cX7_closes 57 = .ok (.iconst 2, 1) := by decide +kernel
theorem dX7_closes_58 : decode cX7_closes 58 = .ok (.iload_n 2, 1) := by decide +kernel
theorem dX7_closes_59 : decode cX7_closes 59 = .ok (.iadd, 1) := by decide +kernel
theorem dX7_closes_60 : decode cX7_closes 60 = .ok (.iload 4, 2) := by decide +kernel
theorem dX7_closes_62 : decode cX7_closes 62 = .ok (.ifCond .eq 7, 3) := by decide +kernel
theorem dX7_closes_65 : decode cX7_closes 65 = .ok (.iconst 1, 1) := by decide +kernel
theorem dX7_closes_66 : decode cX7_closes 66 = .ok (.goto 4, 3) := by decide +kernel
theorem dX7_closes_69 : decode cX7_closes 69 = .ok (.iconst 0, 1) := by decide +kernel
theorem dX7_closes_70 : decode cX7_closes 70 = .ok (.invokevirtual 33, 3) := by decide +kernel
theorem dX7_closes_73 : decode cX7_closes 73 = .ok (.aload_n 0, 1) := by decide +kernel
theorem dX7_closes_74 : decode cX7_closes 74 = .ok (.iload_n 1, 1) := by decide +kernel
theorem dX7_closes_75 : decode cX7_closes 75 = .ok (.iconst 5, 1) := by decide +kernel
theorem dX7_closes_76 : decode cX7_closes 76 = .ok (.iload_n 2, 1) := by decide +kernel
theorem dX7_closes_77 : decode cX7_closes 77 = .ok (.iadd, 1) := by decide +kernel
theorem dX7_closes_78 : decode cX7_closes 78 = .ok (.sipush (-1001), 3) := by decide +kernel
theorem dX7_closes_81 : decode cX7_closes 81 = .ok (.invokevirtual 33, 3) := by decide +kernel
theorem dX7_closes_84 : decode cX7_closes 84 = .ok (.aload_n 0, 1) := by decide +kernel
theorem dX7_closes_85 : decode cX7_closes 85 = .ok (.getfield 7, 3) := by decide +kernel
theorem dX7_closes_88 : decode cX7_closes 88 = .ok (.sipush 224, 3) := by decide +kernel
theorem dX7_closes_91 : decode cX7_closes 91 = .ok (.dup2, 1) := by decide +kernel
theorem dX7_closes_92 : decode cX7_closes 92 = .ok (.iaload, 1) := by decide +kernel
theorem dX7_closes_93 : decode cX7_closes 93 = .ok (.iload 4, 2) := by decide +kernel
theorem dX7_closes_95 : decode cX7_closes 95 = .ok (.ifCond .eq 7, 3) := by decide +kernel
theorem dX7_closes_98 : decode cX7_closes 98 = .ok (.iconst 1, 1) := by decide +kernel
theorem dX7_closes_99 : decode cX7_closes 99 = .ok (.goto 4, 3) := by decide +kernel
theorem dX7_closes_102 : decode cX7_closes 102 = .ok (.iconst 0, 1) := by decide +kernel
theorem dX7_closes_103 : decode cX7_closes 103 = .ok (.iadd, 1) := by decide +kernel
theorem dX7_closes_104 : decode cX7_closes 104 = .ok (.iastore, 1) := by decide +kernel
theorem dX7_closes_105 : decode cX7_closes 105 = .ok (.return_, 1) := by decide +kernel
theorem dX7_second_0 : decode cX7_second 0 = .ok (.aload_n 0, 1) := by decide +kernel
theorem dX7_second_1 : decode cX7_second 1 = .ok (.getfield 7, 3) := by decide +kernel
theorem dX7_second_4 : decode cX7_second 4 = .ok (.sipush 220, 3) := by decide +kernel
theorem dX7_second_7 : decode cX7_second 7 = .ok (.dup2, 1) := by decide +kernel
theorem dX7_second_8 : decode cX7_second 8 = .ok (.iaload, 1) := by decide +kernel
theorem dX7_second_9 : decode cX7_second 9 = .ok (.aload_n 0, 1) := by decide +kernel
theorem dX7_second_10 : decode cX7_second 10 = .ok (.getfield 7, 3) := by decide +kernel
theorem dX7_second_13 : decode cX7_second 13 = .ok (.sipush 221, 3) := by decide +kernel
theorem dX7_second_16 : decode cX7_second 16 = .ok (.iaload, 1) := by decide +kernel
theorem dX7_second_17 : decode cX7_second 17 = .ok (.aload_n 0, 1) := by decide +kernel
theorem dX7_second_18 : decode cX7_second 18 = .ok (.getfield 7, 3) := by decide +kernel
theorem dX7_second_21 : decode cX7_second 21 = .ok (.sipush 220, 3) := by decide +kernel
theorem dX7_second_24 : decode cX7_second 24 = .ok (.iaload, 1) := by decide +kernel
theorem dX7_second_25 : decode cX7_second 25 = .ok (.if_icmp .le 7, 3) := by decide +kernel
theorem dX7_second_28 : decode cX7_second 28 = .ok (.iconst 1, 1) := by decide +kernel
theorem dX7_second_29 : decode cX7_second 29 = .ok (.goto 27, 3) := by decide +kernel
theorem dX7_second_32 : decode cX7_second 32 = .ok (.aload_n 0, 1) := by decide +kernel
theorem dX7_second_33 : decode cX7_second 33 = .ok (.getfield 7, 3) := by decide +kernel
theorem dX7_second_36 : decode cX7_second 36 = .ok (.sipush 221, 3) := by decide +kernel
theorem dX7_second_39 : decode cX7_second 39 = .ok (.iaload, 1) := by decide +kernel
theorem dX7_second_40 : decode cX7_second 40 = .ok (.aload_n 0, 1) := by decide +kernel
theorem dX7_second_41 : decode cX7_second 41 = .ok (.getfield 7, 3) := by decide +kernel
theorem dX7_second_44 : decode cX7_second 44 = .ok (.sipush 220, 3) := by decide +kernel
theorem dX7_second_47 : decode cX7_second 47 = .ok (.iaload, 1) := by decide +kernel
theorem dX7_second_48 : decode cX7_second 48 = .ok (.if_icmp .ge 7, 3) := by decide +kernel
theorem dX7_second_51 : decode cX7_second 51 = .ok (.iconst (-1), 1) := by decide +kernel
theorem dX7_second_52 : decode cX7_second 52 = .ok (.goto 4, 3) := by decide +kernel
theorem dX7_second_55 : decode cX7_second 55 = .ok (.iconst 0, 1) := by decide +kernel
theorem dX7_second_56 : decode cX7_second 56 = .ok (.iadd, 1) := by decide +kernel
theorem dX7_second_57 : decode cX7_second 57 = .ok (.iastore, 1) := by decide +kernel
theorem dX7_second_58 : decode cX7_second 58 = .ok (.aload_n 0, 1) := by decide +kernel
theorem dX7_second_59 : decode cX7_second 59 = .ok (.getfield 7, 3) := by decide +kernel
theorem dX7_second_62 : decode cX7_second 62 = .ok (.sipush 219, 3) := by decide +kernel
theorem dX7_second_65 : decode cX7_second 65 = .ok (.bipush 99, 2) := by decide +kernel
theorem dX7_second_67 : decode cX7_second 67 = .ok (.aload_n 0, 1) := by decide +kernel
theorem dX7_second_68 : decode cX7_second 68 = .ok (.getfield 7, 3) := by decide +kernel
theorem dX7_second_71 : decode cX7_second 71 = .ok (.sipush 219, 3) := by decide +kernel
theorem dX7_second_74 : decode cX7_second 74 = .ok (.iaload, 1) := by decide +kernel
theorem dX7_second_75 : decode cX7_second 75 = .ok (.aload_n 0, 1) := by decide +kernel
theorem dX7_second_76 : decode cX7_second 76 = .ok (.getfield 7, 3) := by decide +kernel
theorem dX7_second_79 : decode cX7_second 79 = .ok (.sipush 220, 3) := by decide +kernel
theorem dX7_second_82 : decode cX7_second 82 = .ok (.iaload, 1) := by decide +kernel
theorem dX7_second_83 : decode cX7_second 83 = .ok (.iadd, 1) := by decide +kernel
theorem dX7_second_84 : decode cX7_second 84 = .ok (.invokestatic 102, 3) := by decide +kernel
theorem dX7_second_87 : decode cX7_second 87 = .ok (.iastore, 1) := by decide +kernel
theorem dX7_second_88 : decode cX7_second 88 = .ok (.aload_n 0, 1) := by decide +kernel
theorem dX7_second_89 : decode cX7_second 89 = .ok (.invokevirtual 108, 3) := by decide +kernel
theorem dX7_second_92 : decode cX7_second 92 = .ok (.iconst 0, 1) := by decide +kernel
theorem dX7_second_93 : decode cX7_second 93 = .ok (.istore_n 1, 1) := by decide +kernel
theorem dX7_second_94 : decode cX7_second 94 = .ok (.iload_n 1, 1) := by decide +kernel
theorem dX7_second_95 : decode cX7_second 95 = .ok (.iconst 3, 1) := by decide +kernel
theorem dX7_second_96 : decode cX7_second 96 = .ok (.aload_n 0, 1) := by decide +kernel
theorem dX7_second_97 : decode cX7_second 97 = .ok (.getfield 7, 3) := by decide +kernel
theorem dX7_second_100 : decode cX7_second 100 = .ok (.sipush 218, 3) := by decide +kernel
theorem dX7_second_103 : decode cX7_second 103 = .ok (.iaload, 1) := by decide +kernel
theorem dX7_second_104 : decode cX7_second 104 = .ok (.imul, 1) := by decide +kernel
theorem dX7_second_105 : decode cX7_second 105 = .ok (.if_icmp .ge 19, 3) := by decide +kernel
theorem dX7_second_108 : decode cX7_second 108 = .ok (.aload_n 0, 1) := by decide +kernel
theorem dX7_second_109 : decode cX7_second 109 = .ok (.iload_n 1, 1) := by decide +kernel
theorem dX7_second_110 : decode cX7_second 110 = .ok (.iconst 3, 1) := by decide +kernel
theorem dX7_second_111 : decode cX7_second 111 = .ok (.idiv, 1) := by decide +kernel
theorem dX7_second_112 : decode cX7_second 112 = .ok (.iload_n 1, 1) := by decide +kernel
theorem dX7_second_113 : decode cX7_second 113 = .ok (.iconst 3, 1) := by decide +kernel
theorem dX7_second_114 : decode cX7_second 114 = .ok (.irem, 1) := by decide +kernel
theorem dX7_second_115 : decode cX7_second 115 = .ok (.invokevirtual 111, 3) := by decide +kernel
theorem dX7_second_118 : decode cX7_second 118 = .ok (.iinc 1 1, 3) := by decide +kernel
theorem dX7_second_121 : decode cX7_second 121 = .ok (.goto (-27), 3) := by decide +kernel
theorem dX7_second_124 : decode cX7_second 124 = .ok (.iconst 0, 1) := by decide +kernel
theorem dX7_second_125 : decode cX7_second 125 = .ok (.istore_n 1, 1) := by decide +kernel
theorem dX7_second_126 : decode cX7_second 126 = .ok (.iload_n 1, 1) := by decide +kernel
theorem dX7_second_127 : decode cX7_second 127 = .ok (.bipush 117, 2) := by decide +kernel
theorem dX7_second_129 : decode cX7_second 129 = .ok (.if_icmp .ge 19, 3) := by decide +kernel
theorem dX7_second_132 : decode cX7_second 132 = .ok (.aload_n 0, 1) := by decide +kernel
theorem dX7_second_133 : decode cX7_second 133 = .ok (.iload_n 1, 1) := by decide +kernel
theorem dX7_second_134 : decode cX7_second 134 = .ok (.iconst 3, 1) := by decide +kernel
theorem dX7_second_135 : decode cX7_second 135 = .ok (.idiv, 1) := by decide +kernel
theorem dX7_second_136 : decode cX7_second 136 = .ok (.iload_n 1, 1) := by decide +kernel
theorem dX7_second_137 : decode cX7_second 137 = .ok (.iconst 3, 1) := by decide +kernel
theorem dX7_second_138 : decode cX7_second 138 = .ok (.irem, 1) := by decide +kernel
theorem dX7_second_139 : decode cX7_second 139 = .ok (.invokevirtual 115, 3) := by decide +kernel
theorem dX7_second_142 : decode cX7_second 142 = .ok (.iinc 1 1, 3) := by decide +kernel
theorem dX7_second_145 : decode cX7_second 145 = .ok (.goto (-19), 3) := by decide +kernel
theorem dX7_second_148 : decode cX7_second 148 = .ok (.iconst 0, 1) := by decide +kernel
theorem dX7_second_149 : decode cX7_second 149 = .ok (.istore_n 1, 1) := by decide +kernel
theorem dX7_second_150 : decode cX7_second 150 = .ok (.iload_n 1, 1) := by decide +kernel
theorem dX7_second_151 : decode cX7_second 151 = .ok (.bipush 40, 2) := by decide +kernel
theorem dX7_second_153 : decode cX7_second 153 = .ok (.if_icmp .ge 21, 3) := by decide +kernel
theorem dX7_second_156 : decode cX7_second 156 = .ok (.aload_n 0, 1) := by decide +kernel
theorem dX7_second_157 : decode cX7_second 157 = .ok (.iload_n 1, 1) := by decide +kernel
theorem dX7_second_158 : decode cX7_second 158 = .ok (.iconst 0, 1) := by decide +kernel
theorem dX7_second_159 : decode cX7_second 159 = .ok (.invokevirtual 118, 3) := by decide +kernel
theorem dX7_second_162 : decode cX7_second 162 = .ok (.aload_n 0, 1) := by decide +kernel
theorem dX7_second_163 : decode cX7_second 163 = .ok (.iload_n 1, 1) := by decide +kernel
theorem dX7_second_164 : decode cX7_second 164 = .ok (.iconst 2, 1) := by decide +kernel
theorem dX7_second_165 : decode cX7_second 165 = .ok (.invokevirtual 118, 3) := by decide +kernel
theorem dX7_second_168 : decode cX7_second 168 = .ok (.iinc 1 1, 3) := by decide +kernel
theorem dX7_second_171 : decode cX7_second 171 = .ok (.goto (-21), 3) := by decide +kernel
theorem dX7_second_174 : decode cX7_second 174 = .ok (.iconst 0, 1) := by decide +kernel
theorem dX7_second_175 : decode cX7_second 175 = .ok (.istore_n 1, 1) := by decide +kernel
theorem dX7_second_176 : decode cX7_second 176 = .ok (.iload_n 1, 1) := by decide +kernel
theorem dX7_second_177 : decode cX7_second 177 = .ok (.iconst 3, 1) := by decide +kernel
theorem dX7_second_178 : decode cX7_second 178 = .ok (.aload_n 0, 1) := by decide +kernel
theorem dX7_second_179 : decode cX7_second 179 = .ok (.getfield 7, 3) := by decide +kernel
theorem dX7_second_182 : decode cX7_second 182 = .ok (.sipush 218, 3) := by decide +kernel
theorem dX7_second_185 : decode cX7_second 185 = .ok (.iaload, 1) := by decide +kernel
theorem dX7_second_186 : decode cX7_second 186 = .ok (.imul, 1) := by decide +kernel
theorem dX7_second_187 : decode cX7_second 187 = .ok (.if_icmp .ge 19, 3) := by decide +kernel
theorem dX7_second_190 : decode cX7_second 190 = .ok (.aload_n 0, 1) := by decide +kernel
theorem dX7_second_191 : decode cX7_second 191 = .ok (.iload_n 1, 1) := by decide +kernel
theorem dX7_second_192 : decode cX7_second 192 = .ok (.iconst 3, 1) := by decide +kernel
theorem dX7_second_193 : decode cX7_second 193 = .ok (.idiv, 1) := by decide +kernel
theorem dX7_second_194 : decode cX7_second 194 = .ok (.iload_n 1, 1) := by decide +kernel
theorem dX7_second_195 : decode cX7_second 195 = .ok (.iconst 3, 1) := by decide +kernel
theorem dX7_second_196 : decode cX7_second 196 = .ok (.irem, 1) := by decide +kernel
theorem dX7_second_197 : decode cX7_second 197 = .ok (.invokevirtual 121, 3) := by decide +kernel
theorem dX7_second_200 : decode cX7_second 200 = .ok (.iinc 1 1, 3) := by decide +kernel
theorem dX7_second_203 : decode cX7_second 203 = .ok (.goto (-27), 3) := by decide +kernel
theorem dX7_second_206 : decode cX7_second 206 = .ok (.aload_n 0, 1) := by decide +kernel
theorem dX7_second_207 : decode cX7_second 207 = .ok (.getfield 7, 3) := by decide +kernel
theorem dX7_second_210 : decode cX7_second 210 = .ok (.sipush 222, 3) := by decide +kernel
theorem dX7_second_213 : decode cX7_second 213 = .ok (.dup2, 1) := by decide +kernel
theorem dX7_second_214 : decode cX7_second 214 = .ok (.iaload, 1) := by decide +kernel
theorem dX7_second_215 : decode cX7_second 215 = .ok (.iconst 1, 1) := by decide +kernel
theorem dX7_second_216 : decode cX7_second 216 = .ok (.iadd, 1) := by decide +kernel
theorem dX7_second_217 : decode cX7_second 217 = .ok (.iastore, 1) := by decide +kernel
theorem dX7_second_218 : decode cX7_second 218 = .ok (.return_, 1) := by decide +kernel
theorem dX7_set_0 : decode cX7_set 0 = .ok (.iload_n 1, 1) := by decide +kernel
theorem dX7_set_1 : decode cX7_set 1 = .ok (.ifCond .ne 8, 3) := by decide +kernel
theorem dX7_set_4 : decode cX7_set 4 = .ok (.bipush 20, 2) := by decide +kernel
theorem dX7_set_6 : decode cX7_set 6 = .ok (.goto 31, 3) := by decide +kernel
theorem dX7_set_9 : decode cX7_set 9 = .ok (.iload_n 1, 1) := by decide +kernel
theorem dX7_set_10 : decode cX7_set 10 = .ok (.iconst 1, 1) := by decide +kernel
theorem dX7_set_11 : decode cX7_set 11 = .ok (.if_icmp .eq 8, 3) := by decide +kernel
theorem dX7_set_14 : decode cX7_set 14 = .ok (.iload_n 1, 1) := by decide +kernel
theorem dX7_set_15 : decode cX7_set 15 = .ok (.iconst 4, 1) := by decide +kernel
theorem dX7_set_16 : decode cX7_set 16 = .ok (.if_icmp .ne 8, 3) := by decide +kernel
theorem dX7_set_19 : decode cX7_set 19 = .ok (.bipush 60, 2) := by decide +kernel
theorem dX7_set_21 : decode cX7_set 21 = .ok (.goto 16, 3) := by decide +kernel
theorem dX7_set_24 : decode cX7_set 24 = .ok (.iload_n 1, 1) := by decide +kernel
theorem dX7_set_25 : decode cX7_set 25 = .ok (.iconst 2, 1) := by decide +kernel
theorem dX7_set_26 : decode cX7_set 26 = .ok (.if_icmp .ne 8, 3) := by decide +kernel
theorem dX7_set_29 : decode cX7_set 29 = .ok (.bipush 9, 2) := by decide +kernel
theorem dX7_set_31 : decode cX7_set 31 = .ok (.goto 6, 3) := by decide +kernel
theorem dX7_set_34 : decode cX7_set 34 = .ok (.sipush 200, 3) := by decide +kernel
theorem dX7_set_37 : decode cX7_set 37 = .ok (.istore_n 3, 1) := by decide +kernel
theorem dX7_set_38 : decode cX7_set 38 = .ok (.iload_n 1, 1) := by decide +kernel
theorem dX7_set_39 : decode cX7_set 39 = .ok (.iconst 0, 1) := by decide +kernel
theorem dX7_set_40 : decode cX7_set 40 = .ok (.iconst 4, 1) := by decide +kernel
theorem dX7_set_41 : decode cX7_set 41 = .ok (.invokestatic 29, 3) := by decide +kernel
theorem dX7_set_44 : decode cX7_set 44 = .ok (.ifCond .eq 21, 3) := by decide +kernel
theorem dX7_set_47 : decode cX7_set 47 = .ok (.iload_n 2, 1) := by decide +kernel
theorem dX7_set_48 : decode cX7_set 48 = .ok (.iload_n 1, 1) := by decide +kernel
theorem dX7_set_49 : decode cX7_set 49 = .ok (.iconst 2, 1) := by decide +kernel
theorem dX7_set_50 : decode cX7_set 50 = .ok (.if_icmp .ge 7, 3) := by decide +kernel
theorem dX7_set_53 : decode cX7_set 53 = .ok (.iconst 1, 1) := by decide +kernel
theorem dX7_set_54 : decode cX7_set 54 = .ok (.goto 4, 3) := by decide +kernel
theorem dX7_set_57 : decode cX7_set 57 = .ok (.iconst 0, 1) := by decide +kernel
theorem dX7_set_58 : decode cX7_set 58 = .ok (.iload_n 3, 1) := by decide +kernel
theorem dX7_set_59 : decode cX7_set 59 = .ok (.invokestatic 29, 3) := by decide +kernel
theorem dX7_set_62 : decode cX7_set 62 = .ok (.ifCond .ne 7, 3) := by decide +kernel
theorem dX7_set_65 : decode cX7_set 65 = .ok (.sipush (-1002), 3) := by decide +kernel
theorem dX7_set_68 : decode cX7_set 68 = .ok (.ireturn, 1) := by decide +kernel
theorem dX7_set_69 : decode cX7_set 69 = .ok (.aload_n 0, 1) := by decide +kernel
theorem dX7_set_70 : decode cX7_set 70 = .ok (.invokevirtual 124, 3) := by decide +kernel
theorem dX7_set_73 : decode cX7_set 73 = .ok (.aload_n 0, 1) := by decide +kernel
theorem dX7_set_74 : decode cX7_set 74 = .ok (.getfield 7, 3) := by decide +kernel
theorem dX7_set_77 : decode cX7_set 77 = .ok (.sipush 228, 3) := by decide +kernel
theorem dX7_set_80 : decode cX7_set 80 = .ok (.iload_n 1, 1) := by decide +kernel
theorem dX7_set_81 : decode cX7_set 81 = .ok (.iadd, 1) := by decide +kernel
theorem dX7_set_82 : decode cX7_set 82 = .ok (.iaload, 1) := by decide +kernel
theorem dX7_set_83 : decode cX7_set 83 = .ok (.istore 4, 2) := by decide +kernel
theorem dX7_set_85 : decode cX7_set 85 = .ok (.aload_n 0, 1) := by decide +kernel
theorem dX7_set_86 : decode cX7_set 86 = .ok (.getfield 7, 3) := by decide +kernel
theorem dX7_set_89 : decode cX7_set 89 = .ok (.sipush 228, 3) := by decide +kernel
theorem dX7_set_92 : decode cX7_set 92 = .ok (.iload_n 1, 1) := by decide +kernel
theorem dX7_set_93 : decode cX7_set 93 = .ok (.iadd, 1) := by decide +kernel
theorem dX7_set_94 : decode cX7_set 94 = .ok (.iload_n 2, 1) := by decide +kernel
theorem dX7_set_95 : decode cX7_set 95 = .ok (.iastore, 1) := by decide +kernel
theorem dX7_set_96 : decode cX7_set 96 = .ok (.iload 4, 2) := by decide +kernel
theorem dX7_set_98 : decode cX7_set 98 = .ok (.ireturn, 1) := by decide +kernel
theorem dX7_inWagons_0 : decode cX7_inWagons 0 = .ok (.iconst 0, 1) := by decide +kernel
theorem dX7_inWagons_1 : decode cX7_inWagons 1 = .ok (.istore_n 1, 1) := by decide +kernel
theorem dX7_inWagons_2 : decode cX7_inWagons 2 = .ok (.iconst 0, 1) := by decide +kernel
theorem dX7_inWagons_3 : decode cX7_inWagons 3 = .ok (.istore_n 2, 1) := by decide +kernel
theorem dX7_inWagons_4 : decode cX7_inWagons 4 = .ok (.iload_n 2, 1) := by decide +kernel
theorem dX7_inWagons_5 : decode cX7_inWagons 5 = .ok (.aload_n 0, 1) := by decide +kernel
theorem dX7_inWagons_6 : decode cX7_inWagons 6 = .ok (.getfield 7, 3) := by decide +kernel
theorem dX7_inWagons_9 : decode cX7_inWagons 9 = .ok (.sipush 218, 3) := by decide +kernel
theorem dX7_inWagons_12 : decode cX7_inWagons 12 = .ok (.iaload, 1) := by decide +kernel
theorem dX7_inWagons_13 : decode cX7_inWagons 13 = .ok (.if_icmp .ge 18, 3) := by decide +kernel
theorem dX7_inWagons_16 : decode cX7_inWagons 16 = .ok (.iload_n 1, 1) := by decide +kernel
theorem dX7_inWagons_17 : decode cX7_inWagons 17 = .ok (.aload_n 0, 1) := by decide +kernel
theorem dX7_inWagons_18 : decode cX7_inWagons 18 = .ok (.iload_n 2, 1) := by decide +kernel
theorem dX7_inWagons_19 : decode cX7_inWagons 19 = .ok (.iconst 0, 1) := by decide +kernel
theorem dX7_inWagons_20 : decode cX7_inWagons 20 = .ok (.invokevirtual 90, 3) := by decide +kernel
theorem dX7_inWagons_23 : decode cX7_inWagons 23 = .ok (.iadd, 1) := by decide +kernel
theorem dX7_inWagons_24 : decode cX7_inWagons 24 = .ok (.istore_n 1, 1) := by decide +kernel
theorem dX7_inWagons_25 : decode cX7_inWagons 25 = .ok (.iinc 2 1, 3) := by decide +kernel
theorem dX7_inWagons_28 : decode cX7_inWagons 28 = .ok (.goto (-24), 3) := by decide +kernel
theorem dX7_inWagons_31 : decode cX7_inWagons 31 = .ok (.iload_n 1, 1) := by decide +kernel
theorem dX7_inWagons_32 : decode cX7_inWagons 32 = .ok (.ireturn, 1) := by decide +kernel
theorem dX7_setTrain_0 : decode cX7_setTrain 0 = .ok (.iload_n 1, 1) := by decide +kernel
theorem dX7_setTrain_1 : decode cX7_setTrain 1 = .ok (.iconst 1, 1) := by decide +kernel
theorem dX7_setTrain_2 : decode cX7_setTrain 2 = .ok (.bipush 6, 2) := by decide +kernel
theorem dX7_setTrain_4 : decode cX7_setTrain 4 = .ok (.invokestatic 29, 3) := by decide +kernel
theorem dX7_setTrain_7 : decode cX7_setTrain 7 = .ok (.ifCond .ne 7, 3) := by decide +kernel
theorem dX7_setTrain_10 : decode cX7_setTrain 10 = .ok (.sipush (-1002), 3) := by decide +kernel
theorem dX7_setTrain_13 : decode cX7_setTrain 13 = .ok (.ireturn, 1) := by decide +kernel
theorem dX7_setTrain_14 : decode cX7_setTrain 14 = .ok (.aload_n 0, 1) := by decide +kernel
theorem dX7_setTrain_15 : decode cX7_setTrain 15 = .ok (.invokevirtual 124, 3) := by decide +kernel
theorem dX7_setTrain_18 : decode cX7_setTrain 18 = .ok (.aload_n 0, 1) := by decide +kernel
theorem dX7_setTrain_19 : decode cX7_setTrain 19 = .ok (.invokevirtual 127, 3) := by decide +kernel
theorem dX7_setTrain_22 : decode cX7_setTrain 22 = .ok (.istore_n 2, 1) := by decide +kernel
theorem dX7_setTrain_23 : decode cX7_setTrain 23 = .ok (.aload_n 0, 1) := by decide +kernel
theorem dX7_setTrain_24 : decode cX7_setTrain 24 = .ok (.getfield 7, 3) := by decide +kernel
theorem dX7_setTrain_27 : decode cX7_setTrain 27 = .ok (.sipush 227, 3) := by decide +kernel
theorem dX7_setTrain_30 : decode cX7_setTrain 30 = .ok (.dup2, 1) := by decide +kernel
theorem dX7_setTrain_31 : decode cX7_setTrain 31 = .ok (.iaload, 1) := by decide +kernel
theorem dX7_setTrain_32 : decode cX7_setTrain 32 = .ok (.iload_n 2, 1) := by decide +kernel
theorem dX7_setTrain_33 : decode cX7_setTrain 33 = .ok (.iadd, 1) := by decide +kernel
theorem dX7_setTrain_34 : decode cX7_setTrain 34 = .ok (.iastore, 1) := by decide +kernel
theorem dX7_setTrain_35 : decode cX7_setTrain 35 = .ok (.aload_n 0, 1) := by decide +kernel
theorem dX7_setTrain_36 : decode cX7_setTrain 36 = .ok (.iload_n 1, 1) := by decide +kernel
theorem dX7_setTrain_37 : decode cX7_setTrain 37 = .ok (.invokevirtual 25, 3) := by decide +kernel
theorem dX7_setTrain_40 : decode cX7_setTrain 40 = .ok (.iload_n 2, 1) := by decide +kernel
theorem dX7_setTrain_41 : decode cX7_setTrain 41 = .ok (.ireturn, 1) := by decide +kernel
theorem dX7_load_0 : decode cX7_load 0 = .ok (.aload_n 0, 1) := by decide +kernel
theorem dX7_load_1 : decode cX7_load 1 = .ok (.iload_n 1, 1) := by decide +kernel
theorem dX7_load_2 : decode cX7_load 2 = .ok (.invokevirtual 86, 3) := by decide +kernel
theorem dX7_load_5 : decode cX7_load 5 = .ok (.ifCond .eq 14, 3) := by decide +kernel
theorem dX7_load_8 : decode cX7_load 8 = .ok (.iload_n 2, 1) := by decide +kernel
theorem dX7_load_9 : decode cX7_load 9 = .ok (.iconst 1, 1) := by decide +kernel
theorem dX7_load_10 : decode cX7_load 10 = .ok (.sipush 200, 3) := by decide +kernel
theorem dX7_load_13 : decode cX7_load 13 = .ok (.invokestatic 29, 3) := by decide +kernel
theorem dX7_load_16 : decode cX7_load 16 = .ok (.ifCond .ne 7, 3) := by decide +kernel
theorem dX7_load_19 : decode cX7_load 19 = .ok (.sipush (-1002), 3) := by decide +kernel
theorem dX7_load_22 : decode cX7_load 22 = .ok (.ireturn, 1) := by decide +kernel
theorem dX7_load_23 : decode cX7_load 23 = .ok (.aload_n 0, 1) := by decide +kernel
theorem dX7_load_24 : decode cX7_load 24 = .ok (.getfield 7, 3) := by decide +kernel
theorem dX7_load_27 : decode cX7_load 27 = .ok (.sipush 220, 3) := by decide +kernel
theorem dX7_load_30 : decode cX7_load 30 = .ok (.iaload, 1) := by decide +kernel
theorem dX7_load_31 : decode cX7_load 31 = .ok (.ifCond .eq 7, 3) := by decide +kernel
theorem dX7_load_34 : decode cX7_load 34 = .ok (.sipush (-1003), 3) := by decide +kernel
theorem dX7_load_37 : decode cX7_load 37 = .ok (.ireturn, 1) := by decide +kernel
theorem dX7_load_38 : decode cX7_load 38 = .ok (.aload_n 0, 1) := by decide +kernel
theorem dX7_load_39 : decode cX7_load 39 = .ok (.iload_n 1, 1) := by decide +kernel
theorem dX7_load_40 : decode cX7_load 40 = .ok (.iconst 0, 1) := by decide +kernel
theorem dX7_load_41 : decode cX7_load 41 = .ok (.invokevirtual 90, 3) := by decide +kernel
theorem dX7_load_44 : decode cX7_load 44 = .ok (.iload_n 2, 1) := by decide +kernel
theorem dX7_load_45 : decode cX7_load 45 = .ok (.iadd, 1) := by decide +kernel
theorem dX7_load_46 : decode cX7_load 46 = .ok (.sipush 200, 3) := by decide +kernel
theorem dX7_load_49 : decode cX7_load 49 = .ok (.if_icmp .le 7, 3) := by decide +kernel
theorem dX7_load_52 : decode cX7_load 52 = .ok (.sipush (-1004), 3) := by decide +kernel
theorem dX7_load_55 : decode cX7_load 55 = .ok (.ireturn, 1) := by decide +kernel
theorem dX7_load_56 : decode cX7_load 56 = .ok (.aload_n 0, 1) := by decide +kernel
theorem dX7_load_57 : decode cX7_load 57 = .ok (.invokevirtual 124, 3) := by decide +kernel
theorem dX7_load_60 : decode cX7_load 60 = .ok (.aload_n 0, 1) := by decide +kernel
theorem dX7_load_61 : decode cX7_load 61 = .ok (.iload_n 1, 1) := by decide +kernel
theorem dX7_load_62 : decode cX7_load 62 = .ok (.iconst 0, 1) := by decide +kernel
theorem dX7_load_63 : decode cX7_load 63 = .ok (.aload_n 0, 1) := by decide +kernel
theorem dX7_load_64 : decode cX7_load 64 = .ok (.iload_n 1, 1) := by decide +kernel
theorem dX7_load_65 : decode cX7_load 65 = .ok (.iconst 0, 1) := by decide +kernel
theorem dX7_load_66 : decode cX7_load 66 = .ok (.invokevirtual 90, 3) := by decide +kernel
theorem dX7_load_69 : decode cX7_load 69 = .ok (.iload_n 2, 1) := by decide +kernel
theorem dX7_load_70 : decode cX7_load 70 = .ok (.iadd, 1) := by decide +kernel
theorem dX7_load_71 : decode cX7_load 71 = .ok (.invokevirtual 33, 3) := by decide +kernel
theorem dX7_load_74 : decode cX7_load 74 = .ok (.aload_n 0, 1) := by decide +kernel
theorem dX7_load_75 : decode cX7_load 75 = .ok (.getfield 7, 3) := by decide +kernel
theorem dX7_load_78 : decode cX7_load 78 = .ok (.sipush 225, 3) := by decide +kernel
theorem dX7_load_81 : decode cX7_load 81 = .ok (.dup2, 1) := by decide +kernel
theorem dX7_load_82 : decode cX7_load 82 = .ok (.iaload, 1) := by decide +kernel
theorem dX7_load_83 : decode cX7_load 83 = .ok (.iload_n 2, 1) := by decide +kernel
theorem dX7_load_84 : decode cX7_load 84 = .ok (.iadd, 1) := by decide +kernel
theorem dX7_load_85 : decode cX7_load 85 = .ok (.iastore, 1) := by decide +kernel
theorem dX7_load_86 : decode cX7_load 86 = .ok (.aload_n 0, 1) := by decide +kernel
theorem dX7_load_87 : decode cX7_load 87 = .ok (.iload_n 1, 1) := by decide +kernel
theorem dX7_load_88 : decode cX7_load 88 = .ok (.iconst 0, 1) := by decide +kernel
theorem dX7_load_89 : decode cX7_load 89 = .ok (.invokevirtual 90, 3) := by decide +kernel
theorem dX7_load_92 : decode cX7_load 92 = .ok (.ireturn, 1) := by decide +kernel
theorem dX7_door_0 : decode cX7_door 0 = .ok (.aload_n 0, 1) := by decide +kernel
theorem dX7_door_1 : decode cX7_door 1 = .ok (.iload_n 1, 1) := by decide +kernel
theorem dX7_door_2 : decode cX7_door 2 = .ok (.invokevirtual 86, 3) := by decide +kernel
theorem dX7_door_5 : decode cX7_door 5 = .ok (.ifCond .eq 19, 3) := by decide +kernel
theorem dX7_door_8 : decode cX7_door 8 = .ok (.iload_n 2, 1) := by decide +kernel
theorem dX7_door_9 : decode cX7_door 9 = .ok (.invokestatic 130, 3) := by decide +kernel
theorem dX7_door_12 : decode cX7_door 12 = .ok (.ifCond .eq 12, 3) := by decide +kernel
theorem dX7_door_15 : decode cX7_door 15 = .ok (.iload_n 3, 1) := by decide +kernel
theorem dX7_door_16 : decode cX7_door 16 = .ok (.iconst 0, 1) := by decide +kernel
theorem dX7_door_17 : decode cX7_door 17 = .ok (.iconst 3, 1) := by decide +kernel
theorem dX7_door_18 : decode cX7_door 18 = .ok (.invokestatic 29, 3) := by decide +kernel
theorem dX7_door_21 : decode cX7_door 21 = .ok (.ifCond .ne 7, 3) := by decide +kernel
theorem dX7_door_24 : decode cX7_door 24 = .ok (.sipush (-1002), 3) := by decide +kernel
theorem dX7_door_27 : decode cX7_door 27 = .ok (.ireturn, 1) := by decide +kernel
theorem dX7_door_28 : decode cX7_door 28 = .ok (.aload_n 0, 1) := by decide +kernel
theorem dX7_door_29 : decode cX7_door 29 = .ok (.invokevirtual 124, 3) := by decide +kernel
theorem dX7_door_32 : decode cX7_door 32 = .ok (.aload_n 0, 1) := by decide +kernel
theorem dX7_door_33 : decode cX7_door 33 = .ok (.iload_n 1, 1) := by decide +kernel
theorem dX7_door_34 : decode cX7_door 34 = .ok (.iconst 2, 1) := by decide +kernel
theorem dX7_door_35 : decode cX7_door 35 = .ok (.iload_n 2, 1) := by decide +kernel
theorem dX7_door_36 : decode cX7_door 36 = .ok (.iadd, 1) := by decide +kernel
theorem dX7_door_37 : decode cX7_door 37 = .ok (.invokevirtual 90, 3) := by decide +kernel
theorem dX7_door_40 : decode cX7_door 40 = .ok (.istore 4, 2) := by decide +kernel
theorem dX7_door_42 : decode cX7_door 42 = .ok (.aload_n 0, 1) := by decide +kernel
theorem dX7_door_43 : decode cX7_door 43 = .ok (.iload_n 1, 1) := by decide +kernel
theorem dX7_door_44 : decode cX7_door 44 = .ok (.iload_n 2, 1) := by decide +kernel
theorem dX7_door_45 : decode cX7_door 45 = .ok (.iload_n 3, 1) := by decide +kernel
theorem dX7_door_46 : decode cX7_door 46 = .ok (.invokevirtual 96, 3) := by decide +kernel
theorem dX7_door_49 : decode cX7_door 49 = .ok (.iload 4, 2) := by decide +kernel
theorem dX7_door_51 : decode cX7_door 51 = .ok (.ireturn, 1) := by decide +kernel
theorem dX7_wish_0 : decode cX7_wish 0 = .ok (.iload_n 1, 1) := by decide +kernel
theorem dX7_wish_1 : decode cX7_wish 1 = .ok (.iconst 0, 1) := by decide +kernel
theorem dX7_wish_2 : decode cX7_wish 2 = .ok (.iconst 3, 1) := by decide +kernel
theorem dX7_wish_3 : decode cX7_wish 3 = .ok (.invokestatic 29, 3) := by decide +kernel
theorem dX7_wish_6 : decode cX7_wish 6 = .ok (.ifCond .ne 7, 3) := by decide +kernel
theorem dX7_wish_9 : decode cX7_wish 9 = .ok (.sipush (-1002), 3) := by decide +kernel
theorem dX7_wish_12 : decode cX7_wish 12 = .ok (.ireturn, 1) := by decide +kernel
theorem dX7_wish_13 : decode cX7_wish 13 = .ok (.aload_n 0, 1) := by decide +kernel
theorem dX7_wish_14 : decode cX7_wish 14 = .ok (.invokevirtual 124, 3) := by decide +kernel
theorem dX7_wish_17 : decode cX7_wish 17 = .ok (.aload_n 0, 1) := by decide +kernel
theorem dX7_wish_18 : decode cX7_wish 18 = .ok (.getfield 7, 3) := by decide +kernel
theorem dX7_wish_21 : decode cX7_wish 21 = .ok (.sipush 221, 3) := by decide +kernel
theorem dX7_wish_24 : decode cX7_wish 24 = .ok (.iaload, 1) := by decide +kernel
theorem dX7_wish_25 : decode cX7_wish 25 = .ok (.istore_n 2, 1) := by decide +kernel
theorem dX7_wish_26 : decode cX7_wish 26 = .ok (.aload_n 0, 1) := by decide +kernel
theorem dX7_wish_27 : decode cX7_wish 27 = .ok (.getfield 7, 3) := by decide +kernel
theorem dX7_wish_30 : decode cX7_wish 30 = .ok (.sipush 221, 3) := by decide +kernel
theorem dX7_wish_33 : decode cX7_wish 33 = .ok (.iload_n 1, 1) := by decide +kernel
theorem dX7_wish_34 : decode cX7_wish 34 = .ok (.iastore, 1) := by decide +kernel
theorem dX7_wish_35 : decode cX7_wish 35 = .ok (.iload_n 2, 1) := by decide +kernel
theorem dX7_wish_36 : decode cX7_wish 36 = .ok (.ireturn, 1) := by decide +kernel
theorem dX7_order_0 : decode cX7_order 0 = .ok (.aload_n 0, 1) := by decide +kernel
theorem dX7_order_1 : decode cX7_order 1 = .ok (.invokevirtual 84, 3) := by decide +kernel
theorem dX7_order_4 : decode cX7_order 4 = .ok (.aload_n 0, 1) := by decide +kernel
theorem dX7_order_5 : decode cX7_order 5 = .ok (.getfield 51, 3) := by decide +kernel
theorem dX7_order_8 : decode cX7_order 8 = .ok (.sipush (-1001), 3) := by decide +kernel
theorem dX7_order_11 : decode cX7_order 11 = .ok (.if_icmp .eq 7, 3) := by decide +kernel
theorem dX7_order_14 : decode cX7_order 14 = .ok (.sipush (-1003), 3) := by decide +kernel
theorem dX7_order_17 : decode cX7_order 17 = .ok (.ireturn, 1) := by decide +kernel
theorem dX7_order_18 : decode cX7_order 18 = .ok (.aload_n 0, 1) := by decide +kernel
theorem dX7_order_19 : decode cX7_order 19 = .ok (.getfield 7, 3) := by decide +kernel
theorem dX7_order_22 : decode cX7_order 22 = .ok (.sipush 223, 3) := by decide +kernel
theorem dX7_order_25 : decode cX7_order 25 = .ok (.iaload, 1) := by decide +kernel
theorem dX7_order_26 : decode cX7_order 26 = .ok (.aload_n 0, 1) := by decide +kernel
theorem dX7_order_27 : decode cX7_order 27 = .ok (.getfield 68, 3) := by decide +kernel
theorem dX7_order_30 : decode cX7_order 30 = .ok (.iadd, 1) := by decide +kernel
theorem dX7_order_31 : decode cX7_order 31 = .ok (.bipush 10, 2) := by decide +kernel
theorem dX7_order_33 : decode cX7_order 33 = .ok (.if_icmp .le 7, 3) := by decide +kernel
theorem dX7_order_36 : decode cX7_order 36 = .ok (.sipush (-1004), 3) := by decide +kernel
theorem dX7_order_39 : decode cX7_order 39 = .ok (.ireturn, 1) := by decide +kernel
theorem dX7_order_40 : decode cX7_order 40 = .ok (.aload_n 0, 1) := by decide +kernel
theorem dX7_order_41 : decode cX7_order 41 = .ok (.invokevirtual 124, 3) := by decide +kernel
theorem dX7_order_44 : decode cX7_order 44 = .ok (.iconst 0, 1) := by decide +kernel
theorem dX7_order_45 : decode cX7_order 45 = .ok (.istore_n 1, 1) := by decide +kernel
theorem dX7_order_46 : decode cX7_order 46 = .ok (.iload_n 1, 1) := by decide +kernel
theorem dX7_order_47 : decode cX7_order 47 = .ok (.iconst 5, 1) := by decide +kernel
theorem dX7_order_48 : decode cX7_order 48 = .ok (.aload_n 0, 1) := by decide +kernel
theorem dX7_order_49 : decode cX7_order 49 = .ok (.getfield 68, 3) := by decide +kernel
theorem dX7_order_52 : decode cX7_order 52 = .ok (.imul, 1) := by decide +kernel
theorem dX7_order_53 : decode cX7_order 53 = .ok (.if_icmp .ge 36, 3) := by decide +kernel
theorem dX7_order_56 : decode cX7_order 56 = .ok (.aload_n 0, 1) := by decide +kernel
theorem dX7_order_57 : decode cX7_order 57 = .ok (.getfield 7, 3) := by decide +kernel
theorem dX7_order_60 : decode cX7_order 60 = .ok (.sipush 168, 3) := by decide +kernel
theorem dX7_order_63 : decode cX7_order 63 = .ok (.iconst 5, 1) := by decide +kernel
theorem dX7_order_64 : decode cX7_order 64 = .ok (.aload_n 0, 1) := by decide +kernel
theorem dX7_order_65 : decode cX7_order 65 = .ok (.getfield 7, 3) := by decide +kernel
theorem dX7_order_68 : decode cX7_order 68 = .ok (.sipush 223, 3) := by decide +kernel
theorem dX7_order_71 : decode cX7_order 71 = .ok (.iaload, 1) := by decide +kernel
theorem dX7_order_72 : decode cX7_order 72 = .ok (.imul, 1) := by decide +kernel
theorem dX7_order_73 : decode cX7_order 73 = .ok (.iadd, 1) := by decide +kernel
theorem dX7_order_74 : decode cX7_order 74 = .ok (.iload_n 1, 1) := by decide +kernel
theorem dX7_order_75 : decode cX7_order 75 = .ok (.iadd, 1) := by decide +kernel
theorem dX7_order_76 : decode cX7_order 76 = .ok (.aload_n 0, 1) := by decide +kernel
theorem dX7_order_77 : decode cX7_order 77 = .ok (.getfield 22, 3) := by decide +kernel
theorem dX7_order_80 : decode cX7_order 80 = .ok (.iload_n 1, 1) := by decide +kernel
theorem dX7_order_81 : decode cX7_order 81 = .ok (.iaload, 1) := by decide +kernel
theorem dX7_order_82 : decode cX7_order 82 = .ok (.iastore, 1) := by decide +kernel
theorem dX7_order_83 : decode cX7_order 83 = .ok (.iinc 1 1, 3) := by decide +kernel
theorem dX7_order_86 : decode cX7_order 86 = .ok (.goto (-40), 3) := by decide +kernel
theorem dX7_order_89 : decode cX7_order 89 = .ok (.aload_n 0, 1) := by decide +kernel
theorem dX7_order_90 : decode cX7_order 90 = .ok (.getfield 7, 3) := by decide +kernel
theorem dX7_order_93 : decode cX7_order 93 = .ok (.sipush 223, 3) := by decide +kernel
theorem dX7_order_96 : decode cX7_order 96 = .ok (.dup2, 1) := by decide +kernel
theorem dX7_order_97 : decode cX7_order 97 = .ok (.iaload, 1) := by decide +kernel
theorem dX7_order_98 : decode cX7_order 98 = .ok (.aload_n 0, 1) := by decide +kernel
theorem dX7_order_99 : decode cX7_order 99 = .ok (.getfield 68, 3) := by decide +kernel
theorem dX7_order_102 : decode cX7_order 102 = .ok (.iadd, 1) := by decide +kernel
theorem dX7_order_103 : decode cX7_order 103 = .ok (.iastore, 1) := by decide +kernel
theorem dX7_order_104 : decode cX7_order 104 = .ok (.aload_n 0, 1) := by decide +kernel
theorem dX7_order_105 : decode cX7_order 105 = .ok (.getfield 68, 3) := by decide +kernel
theorem dX7_order_108 : decode cX7_order 108 = .ok (.ireturn, 1) := by decide +kernel
theorem dX7_cancel_0 : decode cX7_cancel 0 = .ok (.iload_n 1, 1) := by decide +kernel
theorem dX7_cancel_1 : decode cX7_cancel 1 = .ok (.iconst 0, 1) := by decide +kernel
theorem dX7_cancel_2 : decode cX7_cancel 2 = .ok (.aload_n 0, 1) := by decide +kernel
theorem dX7_cancel_3 : decode cX7_cancel 3 = .ok (.getfield 7, 3) := by decide +kernel
theorem dX7_cancel_6 : decode cX7_cancel 6 = .ok (.sipush 223, 3) := by decide +kernel
theorem dX7_cancel_9 : decode cX7_cancel 9 = .ok (.iaload, 1) := by decide +kernel
theorem dX7_cancel_10 : decode cX7_cancel 10 = .ok (.iconst 1, 1) := by decide +kernel
theorem dX7_cancel_11 : decode cX7_cancel 11 = .ok (.isub, 1) := by decide +kernel
theorem dX7_cancel_12 : decode cX7_cancel 12 = .ok (.invokestatic 29, 3) := by decide +kernel
theorem dX7_cancel_15 : decode cX7_cancel 15 = .ok (.ifCond .ne 7, 3) := by decide +kernel
theorem dX7_cancel_18 : decode cX7_cancel 18 = .ok (.sipush (-1002), 3) := by decide +kernel
theorem dX7_cancel_21 : decode cX7_cancel 21 = .ok (.ireturn, 1) := by decide +kernel
theorem dX7_cancel_22 : decode cX7_cancel 22 = .ok (.aload_n 0, 1) := by decide +kernel
theorem dX7_cancel_23 : decode cX7_cancel 23 = .ok (.invokevirtual 124, 3) := by decide +kernel
theorem dX7_cancel_26 : decode cX7_cancel 26 = .ok (.aload_n 0, 1) := by decide +kernel
theorem dX7_cancel_27 : decode cX7_cancel 27 = .ok (.iload_n 1, 1) := by decide +kernel
theorem dX7_cancel_28 : decode cX7_cancel 28 = .ok (.invokevirtual 99, 3) := by decide +kernel
theorem dX7_cancel_31 : decode cX7_cancel 31 = .ok (.aload_n 0, 1) := by decide +kernel
theorem dX7_cancel_32 : decode cX7_cancel 32 = .ok (.getfield 7, 3) := by decide +kernel
theorem dX7_cancel_35 : decode cX7_cancel 35 = .ok (.sipush 223, 3) := by decide +kernel
theorem dX7_cancel_38 : decode cX7_cancel 38 = .ok (.iaload, 1) := by decide +kernel
theorem dX7_cancel_39 : decode cX7_cancel 39 = .ok (.ireturn, 1) := by decide +kernel
theorem dX7_pass_0 : decode cX7_pass 0 = .ok (.iload_n 1, 1) := by decide +kernel
theorem dX7_pass_1 : decode cX7_pass 1 = .ok (.iconst 1, 1) := by decide +kernel
theorem dX7_pass_2 : decode cX7_pass 2 = .ok (.sipush 200, 3) := by decide +kernel
theorem dX7_pass_5 : decode cX7_pass 5 = .ok (.invokestatic 29, 3) := by decide +kernel
theorem dX7_pass_8 : decode cX7_pass 8 = .ok (.ifCond .ne 7, 3) := by decide +kernel
theorem dX7_pass_11 : decode cX7_pass 11 = .ok (.sipush (-1002), 3) := by decide +kernel
theorem dX7_pass_14 : decode cX7_pass 14 = .ok (.ireturn, 1) := by decide +kernel
theorem dX7_pass_15 : decode cX7_pass 15 = .ok (.aload_n 0, 1) := by decide +kernel
theorem dX7_pass_16 : decode cX7_pass 16 = .ok (.getfield 7, 3) := by decide +kernel
theorem dX7_pass_19 : decode cX7_pass 19 = .ok (.sipush 222, 3) := by decide +kernel
theorem dX7_pass_22 : decode cX7_pass 22 = .ok (.iaload, 1) := by decide +kernel
theorem dX7_pass_23 : decode cX7_pass 23 = .ok (.iload_n 1, 1) := by decide +kernel
theorem dX7_pass_24 : decode cX7_pass 24 = .ok (.iadd, 1) := by decide +kernel
theorem dX7_pass_25 : decode cX7_pass 25 = .ok (.sipush 9999, 3) := by decide +kernel
theorem dX7_pass_28 : decode cX7_pass 28 = .ok (.if_icmp .le 7, 3) := by decide +kernel
theorem dX7_pass_31 : decode cX7_pass 31 = .ok (.sipush (-1004), 3) := by decide +kernel
theorem dX7_pass_34 : decode cX7_pass 34 = .ok (.ireturn, 1) := by decide +kernel
theorem dX7_pass_35 : decode cX7_pass 35 = .ok (.aload_n 0, 1) := by decide +kernel
theorem dX7_pass_36 : decode cX7_pass 36 = .ok (.invokevirtual 124, 3) := by decide +kernel
theorem dX7_pass_39 : decode cX7_pass 39 = .ok (.iconst 0, 1) := by decide +kernel
theorem dX7_pass_40 : decode cX7_pass 40 = .ok (.istore_n 2, 1) := by decide +kernel
theorem dX7_pass_41 : decode cX7_pass 41 = .ok (.iload_n 2, 1) := by decide +kernel
theorem dX7_pass_42 : decode cX7_pass 42 = .ok (.iload_n 1, 1) := by decide +kernel
theorem dX7_pass_43 : decode cX7_pass 43 = .ok (.if_icmp .ge 13, 3) := by decide +kernel
theorem dX7_pass_46 : decode cX7_pass 46 = .ok (.aload_n 0, 1) := by decide +kernel
theorem dX7_pass_47 : decode cX7_pass 47 = .ok (.invokevirtual 133, 3) := by decide +kernel
theorem dX7_pass_50 : decode cX7_pass 50 = .ok (.iinc 2 1, 3) := by decide +kernel
theorem dX7_pass_53 : decode cX7_pass 53 = .ok (.goto (-12), 3) := by decide +kernel
theorem dX7_pass_56 : decode cX7_pass 56 = .ok (.aload_n 0, 1) := by decide +kernel
theorem dX7_pass_57 : decode cX7_pass 57 = .ok (.getfield 7, 3) := by decide +kernel
theorem dX7_pass_60 : decode cX7_pass 60 = .ok (.sipush 219, 3) := by decide +kernel
theorem dX7_pass_63 : decode cX7_pass 63 = .ok (.iaload, 1) := by decide +kernel
theorem dX7_pass_64 : decode cX7_pass 64 = .ok (.ireturn, 1) := by decide +kernel
theorem dX7_scrape_0 : decode cX7_scrape 0 = .ok (.iload_n 1, 1) := by decide +kernel
theorem dX7_scrape_1 : decode cX7_scrape 1 = .ok (.invokestatic 105, 3) := by decide +kernel
theorem dX7_scrape_4 : decode cX7_scrape 4 = .ok (.ifCond .eq 20, 3) := by decide +kernel
theorem dX7_scrape_7 : decode cX7_scrape 7 = .ok (.iload_n 2, 1) := by decide +kernel
theorem dX7_scrape_8 : decode cX7_scrape 8 = .ok (.invokestatic 130, 3) := by decide +kernel
theorem dX7_scrape_11 : decode cX7_scrape 11 = .ok (.ifCond .eq 13, 3) := by decide +kernel
theorem dX7_scrape_14 : decode cX7_scrape 14 = .ok (.iload_n 3, 1) := by decide +kernel
theorem dX7_scrape_15 : decode cX7_scrape 15 = .ok (.iconst 1, 1) := by decide +kernel
theorem dX7_scrape_16 : decode cX7_scrape 16 = .ok (.bipush 60, 2) := by decide +kernel
theorem dX7_scrape_18 : decode cX7_scrape 18 = .ok (.invokestatic 29, 3) := by decide +kernel
theorem dX7_scrape_21 : decode cX7_scrape 21 = .ok (.ifCond .ne 7, 3) := by decide +kernel
theorem dX7_scrape_24 : decode cX7_scrape 24 = .ok (.sipush (-1002), 3) := by decide +kernel
theorem dX7_scrape_27 : decode cX7_scrape 27 = .ok (.ireturn, 1) := by decide +kernel
theorem dX7_scrape_28 : decode cX7_scrape 28 = .ok (.aload_n 0, 1) := by decide +kernel
theorem dX7_scrape_29 : decode cX7_scrape 29 = .ok (.invokevirtual 124, 3) := by decide +kernel
theorem dX7_scrape_32 : decode cX7_scrape 32 = .ok (.iload_n 3, 1) := by decide +kernel
theorem dX7_scrape_33 : decode cX7_scrape 33 = .ok (.aload_n 0, 1) := by decide +kernel
theorem dX7_scrape_34 : decode cX7_scrape 34 = .ok (.getfield 7, 3) := by decide +kernel
theorem dX7_scrape_37 : decode cX7_scrape 37 = .ok (.iconst 3, 1) := by decide +kernel
theorem dX7_scrape_38 : decode cX7_scrape 38 = .ok (.iload_n 1, 1) := by decide +kernel
theorem dX7_scrape_39 : decode cX7_scrape 39 = .ok (.imul, 1) := by decide +kernel
theorem dX7_scrape_40 : decode cX7_scrape 40 = .ok (.iload_n 2, 1) := by decide +kernel
theorem dX7_scrape_41 : decode cX7_scrape 41 = .ok (.iadd, 1) := by decide +kernel
theorem dX7_scrape_42 : decode cX7_scrape 42 = .ok (.iaload, 1) := by decide +kernel
theorem dX7_scrape_43 : decode cX7_scrape 43 = .ok (.invokestatic 102, 3) := by decide +kernel
theorem dX7_scrape_46 : decode cX7_scrape 46 = .ok (.istore 4, 2) := by decide +kernel
theorem dX7_scrape_48 : decode cX7_scrape 48 = .ok (.aload_n 0, 1) := by decide +kernel
theorem dX7_scrape_49 : decode cX7_scrape 49 = .ok (.getfield 7, 3) := by decide +kernel
theorem dX7_scrape_52 : decode cX7_scrape 52 = .ok (.iconst 3, 1) := by decide +kernel
theorem dX7_scrape_53 : decode cX7_scrape 53 = .ok (.iload_n 1, 1) := by decide +kernel
theorem dX7_scrape_54 : decode cX7_scrape 54 = .ok (.imul, 1) := by decide +kernel
theorem dX7_scrape_55 : decode cX7_scrape 55 = .ok (.iload_n 2, 1) := by decide +kernel
theorem dX7_scrape_56 : decode cX7_scrape 56 = .ok (.iadd, 1) := by decide +kernel
theorem dX7_scrape_57 : decode cX7_scrape 57 = .ok (.dup2, 1) := by decide +kernel
theorem dX7_scrape_58 : decode cX7_scrape 58 = .ok (.iaload, 1) := by decide +kernel
theorem dX7_scrape_59 : decode cX7_scrape 59 = .ok (.iload 4, 2) := by decide +kernel
theorem dX7_scrape_61 : decode cX7_scrape 61 = .ok (.isub, 1) := by decide +kernel
theorem dX7_scrape_62 : decode cX7_scrape 62 = .ok (.iastore, 1) := by decide +kernel
theorem dX7_scrape_63 : decode cX7_scrape 63 = .ok (.aload_n 0, 1) := by decide +kernel
theorem dX7_scrape_64 : decode cX7_scrape 64 = .ok (.getfield 7, 3) := by decide +kernel
theorem dX7_scrape_67 : decode cX7_scrape 67 = .ok (.sipush 227, 3) := by decide +kernel
theorem dX7_scrape_70 : decode cX7_scrape 70 = .ok (.dup2, 1) := by decide +kernel
theorem dX7_scrape_71 : decode cX7_scrape 71 = .ok (.iaload, 1) := by decide +kernel
theorem dX7_scrape_72 : decode cX7_scrape 72 = .ok (.iload 4, 2) := by decide +kernel
theorem dX7_scrape_74 : decode cX7_scrape 74 = .ok (.iadd, 1) := by decide +kernel
theorem dX7_scrape_75 : decode cX7_scrape 75 = .ok (.iastore, 1) := by decide +kernel
theorem dX7_scrape_76 : decode cX7_scrape 76 = .ok (.iload 4, 2) := by decide +kernel
theorem dX7_scrape_78 : decode cX7_scrape 78 = .ok (.ireturn, 1) := by decide +kernel
theorem dX7_wagon_0 : decode cX7_wagon 0 = .ok (.aload_n 0, 1) := by decide +kernel
theorem dX7_wagon_1 : decode cX7_wagon 1 = .ok (.iload_n 1, 1) := by decide +kernel
theorem dX7_wagon_2 : decode cX7_wagon 2 = .ok (.invokevirtual 86, 3) := by decide +kernel
theorem dX7_wagon_5 : decode cX7_wagon 5 = .ok (.ifCond .ne 7, 3) := by decide +kernel
theorem dX7_wagon_8 : decode cX7_wagon 8 = .ok (.sipush (-1002), 3) := by decide +kernel
theorem dX7_wagon_11 : decode cX7_wagon 11 = .ok (.ireturn, 1) := by decide +kernel
theorem dX7_wagon_12 : decode cX7_wagon 12 = .ok (.iload_n 2, 1) := by decide +kernel
theorem dX7_wagon_13 : decode cX7_wagon 13 = .ok (.tableswitch 125 0 4 #[35, 42, 55, 76, 118], 35) := by decide +kernel
theorem dX7_wagon_48 : decode cX7_wagon 48 = .ok (.aload_n 0, 1) := by decide +kernel
theorem dX7_wagon_49 : decode cX7_wagon 49 = .ok (.iload_n 1, 1) := by decide +kernel
theorem dX7_wagon_50 : decode cX7_wagon 50 = .ok (.iconst 0, 1) := by decide +kernel
theorem dX7_wagon_51 : decode cX7_wagon 51 = .ok (.invokevirtual 90, 3) := by decide +kernel
theorem dX7_wagon_54 : decode cX7_wagon 54 = .ok (.ireturn, 1) := by decide +kernel
theorem dX7_wagon_55 : decode cX7_wagon 55 = .ok (.aload_n 0, 1) := by decide +kernel
theorem dX7_wagon_56 : decode cX7_wagon 56 = .ok (.getfield 7, 3) := by decide +kernel
theorem dX7_wagon_59 : decode cX7_wagon 59 = .ok (.sipush 219, 3) := by decide +kernel
theorem dX7_wagon_62 : decode cX7_wagon 62 = .ok (.iaload, 1) := by decide +kernel
theorem dX7_wagon_63 : decode cX7_wagon 63 = .ok (.iconst 4, 1) := by decide +kernel
theorem dX7_wagon_64 : decode cX7_wagon 64 = .ok (.iload_n 1, 1) := by decide +kernel
theorem dX7_wagon_65 : decode cX7_wagon 65 = .ok (.imul, 1) := by decide +kernel
theorem dX7_wagon_66 : decode cX7_wagon 66 = .ok (.isub, 1) := by decide +kernel
theorem dX7_wagon_67 : decode cX7_wagon 67 = .ok (.ireturn, 1) := by decide +kernel
theorem dX7_wagon_68 : decode cX7_wagon 68 = .ok (.aload_n 0, 1) := by decide +kernel
theorem dX7_wagon_69 : decode cX7_wagon 69 = .ok (.iload_n 1, 1) := by decide +kernel
theorem dX7_wagon_70 : decode cX7_wagon 70 = .ok (.iconst 2, 1) := by decide +kernel
theorem dX7_wagon_71 : decode cX7_wagon 71 = .ok (.invokevirtual 90, 3) := by decide +kernel
theorem dX7_wagon_74 : decode cX7_wagon 74 = .ok (.aload_n 0, 1) := by decide +kernel
theorem dX7_wagon_75 : decode cX7_wagon 75 = .ok (.iload_n 1, 1) := by decide +kernel
theorem dX7_wagon_76 : decode cX7_wagon 76 = .ok (.iconst 3, 1) := by decide +kernel
theorem dX7_wagon_77 : decode cX7_wagon 77 = .ok (.invokevirtual 90, 3) := by decide +kernel
theorem dX7_wagon_80 : decode cX7_wagon 80 = .ok (.iadd, 1) := by decide +kernel
theorem dX7_wagon_81 : decode cX7_wagon 81 = .ok (.aload_n 0, 1) := by decide +kernel
theorem dX7_wagon_82 : decode cX7_wagon 82 = .ok (.iload_n 1, 1) := by decide +kernel
theorem dX7_wagon_83 : decode cX7_wagon 83 = .ok (.iconst 4, 1) := by decide +kernel
theorem dX7_wagon_84 : decode cX7_wagon 84 = .ok (.invokevirtual 90, 3) := by decide +kernel
theorem dX7_wagon_87 : decode cX7_wagon 87 = .ok (.iadd, 1) := by decide +kernel
theorem dX7_wagon_88 : decode cX7_wagon 88 = .ok (.ireturn, 1) := by decide +kernel
theorem dX7_wagon_89 : decode cX7_wagon 89 = .ok (.iconst 0, 1) := by decide +kernel
theorem dX7_wagon_90 : decode cX7_wagon 90 = .ok (.istore_n 3, 1) := by decide +kernel
theorem dX7_wagon_91 : decode cX7_wagon 91 = .ok (.iconst 0, 1) := by decide +kernel
theorem dX7_wagon_92 : decode cX7_wagon 92 = .ok (.istore 4, 2) := by decide +kernel
theorem dX7_wagon_94 : decode cX7_wagon 94 = .ok (.iload 4, 2) := by decide +kernel
theorem dX7_wagon_96 : decode cX7_wagon 96 = .ok (.iconst 3, 1) := by decide +kernel
theorem dX7_wagon_97 : decode cX7_wagon 97 = .ok (.if_icmp .ge 32, 3) := by decide +kernel
theorem dX7_wagon_100 : decode cX7_wagon 100 = .ok (.iload_n 3, 1) := by decide +kernel
theorem dX7_wagon_101 : decode cX7_wagon 101 = .ok (.aload_n 0, 1) := by decide +kernel
theorem dX7_wagon_102 : decode cX7_wagon 102 = .ok (.iload_n 1, 1) := by decide +kernel
theorem dX7_wagon_103 : decode cX7_wagon 103 = .ok (.iconst 5, 1) := by decide +kernel
theorem dX7_wagon_104 : decode cX7_wagon 104 = .ok (.iload 4, 2) := by decide +kernel
theorem dX7_wagon_106 : decode cX7_wagon 106 = .ok (.iadd, 1) := by decide +kernel
theorem dX7_wagon_107 : decode cX7_wagon 107 = .ok (.invokevirtual 90, 3) := by decide +kernel
theorem dX7_wagon_110 : decode cX7_wagon 110 = .ok (.sipush (-1001), 3) := by decide +kernel
theorem dX7_wagon_113 : decode cX7_wagon 113 = .ok (.if_icmp .ne 7, 3) := by decide +kernel
theorem dX7_wagon_116 : decode cX7_wagon 116 = .ok (.iconst 0, 1) := by decide +kernel
theorem dX7_wagon_117 : decode cX7_wagon 117 = .ok (.goto 4, 3) := by decide +kernel
theorem dX7_wagon_120 : decode cX7_wagon 120 = .ok (.iconst 1, 1) := by decide +kernel
theorem dX7_wagon_121 : decode cX7_wagon 121 = .ok (.iadd, 1) := by decide +kernel
theorem dX7_wagon_122 : decode cX7_wagon 122 = .ok (.istore_n 3, 1) := by decide +kernel
theorem dX7_wagon_123 : decode cX7_wagon 123 = .ok (.iinc 4 1, 3) := by decide +kernel
theorem dX7_wagon_126 : decode cX7_wagon 126 = .ok (.goto (-32), 3) := by decide +kernel
theorem dX7_wagon_129 : decode cX7_wagon 129 = .ok (.iload_n 3, 1) := by decide +kernel
theorem dX7_wagon_130 : decode cX7_wagon 130 = .ok (.ireturn, 1) := by decide +kernel
theorem dX7_wagon_131 : decode cX7_wagon 131 = .ok (.aload_n 0, 1) := by decide +kernel
theorem dX7_wagon_132 : decode cX7_wagon 132 = .ok (.iload_n 1, 1) := by decide +kernel
theorem dX7_wagon_133 : decode cX7_wagon 133 = .ok (.iconst 1, 1) := by decide +kernel
theorem dX7_wagon_134 : decode cX7_wagon 134 = .ok (.invokevirtual 90, 3) := by decide +kernel
theorem dX7_wagon_137 : decode cX7_wagon 137 = .ok (.ireturn, 1) := by decide +kernel
theorem dX7_wagon_138 : decode cX7_wagon 138 = .ok (.sipush (-1002), 3) := by decide +kernel
theorem dX7_wagon_141 : decode cX7_wagon 141 = .ok (.ireturn, 1) := by decide +kernel
theorem dX7_doorOf_0 : decode cX7_doorOf 0 = .ok (.aload_n 0, 1) := by decide +kernel
theorem dX7_doorOf_1 : decode cX7_doorOf 1 = .ok (.iload_n 1, 1) := by decide +kernel
theorem dX7_doorOf_2 : decode cX7_doorOf 2 = .ok (.invokevirtual 86, 3) := by decide +kernel
theorem dX7_doorOf_5 : decode cX7_doorOf 5 = .ok (.ifCond .eq 19, 3) := by decide +kernel
theorem dX7_doorOf_8 : decode cX7_doorOf 8 = .ok (.iload_n 2, 1) := by decide +kernel
theorem dX7_doorOf_9 : decode cX7_doorOf 9 = .ok (.invokestatic 130, 3) := by decide +kernel
theorem dX7_doorOf_12 : decode cX7_doorOf 12 = .ok (.ifCond .eq 12, 3) := by decide +kernel
theorem dX7_doorOf_15 : decode cX7_doorOf 15 = .ok (.iload_n 3, 1) := by decide +kernel
theorem dX7_doorOf_16 : decode cX7_doorOf 16 = .ok (.iconst 0, 1) := by decide +kernel
theorem dX7_doorOf_17 : decode cX7_doorOf 17 = .ok (.iconst 1, 1) := by decide +kernel
theorem dX7_doorOf_18 : decode cX7_doorOf 18 = .ok (.invokestatic 29, 3) := by decide +kernel
theorem dX7_doorOf_21 : decode cX7_doorOf 21 = .ok (.ifCond .ne 7, 3) := by decide +kernel
theorem dX7_doorOf_24 : decode cX7_doorOf 24 = .ok (.sipush (-1002), 3) := by decide +kernel
theorem dX7_doorOf_27 : decode cX7_doorOf 27 = .ok (.ireturn, 1) := by decide +kernel
theorem dX7_doorOf_28 : decode cX7_doorOf 28 = .ok (.aload_n 0, 1) := by decide +kernel
theorem dX7_doorOf_29 : decode cX7_doorOf 29 = .ok (.iload_n 1, 1) := by decide +kernel
theorem dX7_doorOf_30 : decode cX7_doorOf 30 = .ok (.iload_n 3, 1) := by decide +kernel
theorem dX7_doorOf_31 : decode cX7_doorOf 31 = .ok (.ifCond .ne 7, 3) := by decide +kernel
theorem dX7_doorOf_34 : decode cX7_doorOf 34 = .ok (.iconst 2, 1) := by decide +kernel
theorem dX7_doorOf_35 : decode cX7_doorOf 35 = .ok (.goto 4, 3) := by decide +kernel
theorem dX7_doorOf_38 : decode cX7_doorOf 38 = .ok (.iconst 5, 1) := by decide +kernel
theorem dX7_doorOf_39 : decode cX7_doorOf 39 = .ok (.iload_n 2, 1) := by decide +kernel
theorem dX7_doorOf_40 : decode cX7_doorOf 40 = .ok (.iadd, 1) := by decide +kernel
theorem dX7_doorOf_41 : decode cX7_doorOf 41 = .ok (.invokevirtual 90, 3) := by decide +kernel
theorem dX7_doorOf_44 : decode cX7_doorOf 44 = .ok (.ireturn, 1) := by decide +kernel
theorem dX7_height_0 : decode cX7_height 0 = .ok (.iload_n 1, 1) := by decide +kernel
theorem dX7_height_1 : decode cX7_height 1 = .ok (.invokestatic 105, 3) := by decide +kernel
theorem dX7_height_4 : decode cX7_height 4 = .ok (.ifCond .eq 23, 3) := by decide +kernel
theorem dX7_height_7 : decode cX7_height 7 = .ok (.iload_n 2, 1) := by decide +kernel
theorem dX7_height_8 : decode cX7_height 8 = .ok (.invokestatic 130, 3) := by decide +kernel
theorem dX7_height_11 : decode cX7_height 11 = .ok (.ifCond .eq 16, 3) := by decide +kernel
theorem dX7_height_14 : decode cX7_height 14 = .ok (.aload_n 0, 1) := by decide +kernel
theorem dX7_height_15 : decode cX7_height 15 = .ok (.getfield 7, 3) := by decide +kernel
theorem dX7_height_18 : decode cX7_height 18 = .ok (.iconst 3, 1) := by decide +kernel
theorem dX7_height_19 : decode cX7_height 19 = .ok (.iload_n 1, 1) := by decide +kernel
theorem dX7_height_20 : decode cX7_height 20 = .ok (.imul, 1) := by decide +kernel
theorem dX7_height_21 : decode cX7_height 21 = .ok (.iload_n 2, 1) := by decide +kernel
theorem dX7_height_22 : decode cX7_height 22 = .ok (.iadd, 1) := by decide +kernel
theorem dX7_height_23 : decode cX7_height 23 = .ok (.iaload, 1) := by decide +kernel
theorem dX7_height_24 : decode cX7_height 24 = .ok (.goto 6, 3) := by decide +kernel
theorem dX7_height_27 : decode cX7_height 27 = .ok (.sipush (-1002), 3) := by decide +kernel
theorem dX7_height_30 : decode cX7_height 30 = .ok (.ireturn, 1) := by decide +kernel
theorem dX7_sum_0 : decode cX7_sum 0 = .ok (.iconst 0, 1) := by decide +kernel
theorem dX7_sum_1 : decode cX7_sum 1 = .ok (.istore_n 2, 1) := by decide +kernel
theorem dX7_sum_2 : decode cX7_sum 2 = .ok (.iconst 0, 1) := by decide +kernel
theorem dX7_sum_3 : decode cX7_sum 3 = .ok (.istore_n 3, 1) := by decide +kernel
theorem dX7_sum_4 : decode cX7_sum 4 = .ok (.iload_n 3, 1) := by decide +kernel
theorem dX7_sum_5 : decode cX7_sum 5 = .ok (.bipush 40, 2) := by decide +kernel
theorem dX7_sum_7 : decode cX7_sum 7 = .ok (.if_icmp .ge 22, 3) := by decide +kernel
theorem dX7_sum_10 : decode cX7_sum 10 = .ok (.iload_n 2, 1) := by decide +kernel
theorem dX7_sum_11 : decode cX7_sum 11 = .ok (.aload_n 0, 1) := by decide +kernel
theorem dX7_sum_12 : decode cX7_sum 12 = .ok (.getfield 7, 3) := by decide +kernel
theorem dX7_sum_15 : decode cX7_sum 15 = .ok (.iconst 3, 1) := by decide +kernel
theorem dX7_sum_16 : decode cX7_sum 16 = .ok (.iload_n 3, 1) := by decide +kernel
theorem dX7_sum_17 : decode cX7_sum 17 = .ok (.imul, 1) := by decide +kernel
theorem dX7_sum_18 : decode cX7_sum 18 = .ok (.iload_n 1, 1) := by decide +kernel
theorem dX7_sum_19 : decode cX7_sum 19 = .ok (.iadd, 1) := by decide +kernel
theorem dX7_sum_20 : decode cX7_sum 20 = .ok (.iaload, 1) := by decide +kernel
theorem dX7_sum_21 : decode cX7_sum 21 = .ok (.iadd, 1) := by decide +kernel
theorem dX7_sum_22 : decode cX7_sum 22 = .ok (.istore_n 2, 1) := by decide +kernel
theorem dX7_sum_23 : decode cX7_sum 23 = .ok (.iinc 3 1, 3) := by decide +kernel
theorem dX7_sum_26 : decode cX7_sum 26 = .ok (.goto (-22), 3) := by decide +kernel
theorem dX7_sum_29 : decode cX7_sum 29 = .ok (.iload_n 2, 1) := by decide +kernel
theorem dX7_sum_30 : decode cX7_sum 30 = .ok (.ireturn, 1) := by decide +kernel
theorem dX7_highest_0 : decode cX7_highest 0 = .ok (.iconst 0, 1) := by decide +kernel
theorem dX7_highest_1 : decode cX7_highest 1 = .ok (.istore_n 2, 1) := by decide +kernel
theorem dX7_highest_2 : decode cX7_highest 2 = .ok (.iconst 1, 1) := by decide +kernel
theorem dX7_highest_3 : decode cX7_highest 3 = .ok (.istore_n 3, 1) := by decide +kernel
theorem dX7_highest_4 : decode cX7_highest 4 = .ok (.iload_n 3, 1) := by decide +kernel
theorem dX7_highest_5 : decode cX7_highest 5 = .ok (.bipush 40, 2) := by decide +kernel
theorem dX7_highest_7 : decode cX7_highest 7 = .ok (.if_icmp .ge 38, 3) := by decide +kernel
theorem dX7_highest_10 : decode cX7_highest 10 = .ok (.aload_n 0, 1) := by decide +kernel
theorem dX7_highest_11 : decode cX7_highest 11 = .ok (.getfield 7, 3) := by decide +kernel
theorem dX7_highest_14 : decode cX7_highest 14 = .ok (.iconst 3, 1) := by decide +kernel
theorem dX7_highest_15 : decode cX7_highest 15 = .ok (.iload_n 3, 1) := by decide +kernel
theorem dX7_highest_16 : decode cX7_highest 16 = .ok (.imul, 1) := by decide +kernel
theorem dX7_highest_17 : decode cX7_highest 17 = .ok (.iload_n 1, 1) := by decide +kernel
theorem dX7_highest_18 : decode cX7_highest 18 = .ok (.iadd, 1) := by decide +kernel
theorem dX7_highest_19 : decode cX7_highest 19 = .ok (.iaload, 1) := by decide +kernel
theorem dX7_highest_20 : decode cX7_highest 20 = .ok (.aload_n 0, 1) := by decide +kernel
theorem dX7_highest_21 : decode cX7_highest 21 = .ok (.getfield 7, 3) := by decide +kernel
theorem dX7_highest_24 : decode cX7_highest 24 = .ok (.iconst 3, 1) := by decide +kernel
theorem dX7_highest_25 : decode cX7_highest 25 = .ok (.iload_n 2, 1) := by decide +kernel
theorem dX7_highest_26 : decode cX7_highest 26 = .ok (.imul, 1) := by decide +kernel
theorem dX7_highest_27 : decode cX7_highest 27 = .ok (.iload_n 1, 1) := by decide +kernel
theorem dX7_highest_28 : decode cX7_highest 28 = .ok (.iadd, 1) := by decide +kernel
theorem dX7_highest_29 : decode cX7_highest 29 = .ok (.iaload, 1) := by decide +kernel
theorem dX7_highest_30 : decode cX7_highest 30 = .ok (.if_icmp .le 7, 3) := by decide +kernel
theorem dX7_highest_33 : decode cX7_highest 33 = .ok (.iload_n 3, 1) := by decide +kernel
theorem dX7_highest_34 : decode cX7_highest 34 = .ok (.goto 4, 3) := by decide +kernel
theorem dX7_highest_37 : decode cX7_highest 37 = .ok (.iload_n 2, 1) := by decide +kernel
theorem dX7_highest_38 : decode cX7_highest 38 = .ok (.istore_n 2, 1) := by decide +kernel
theorem dX7_highest_39 : decode cX7_highest 39 = .ok (.iinc 3 1, 3) := by decide +kernel
theorem dX7_highest_42 : decode cX7_highest 42 = .ok (.goto (-38), 3) := by decide +kernel
theorem dX7_highest_45 : decode cX7_highest 45 = .ok (.iload_n 2, 1) := by decide +kernel
theorem dX7_highest_46 : decode cX7_highest 46 = .ok (.ireturn, 1) := by decide +kernel
theorem dX7_row_0 : decode cX7_row 0 = .ok (.iconst 0, 1) := by decide +kernel
theorem dX7_row_1 : decode cX7_row 1 = .ok (.istore_n 3, 1) := by decide +kernel
theorem dX7_row_2 : decode cX7_row 2 = .ok (.iconst 0, 1) := by decide +kernel
theorem dX7_row_3 : decode cX7_row 3 = .ok (.istore 4, 2) := by decide +kernel
theorem dX7_row_5 : decode cX7_row 5 = .ok (.iconst 0, 1) := by decide +kernel
theorem dX7_row_6 : decode cX7_row 6 = .ok (.istore 5, 2) := by decide +kernel
theorem dX7_row_8 : decode cX7_row 8 = .ok (.iconst 0, 1) := by decide +kernel
theorem dX7_row_9 : decode cX7_row 9 = .ok (.istore 6, 2) := by decide +kernel
theorem dX7_row_11 : decode cX7_row 11 = .ok (.iload 6, 2) := by decide +kernel
theorem dX7_row_13 : decode cX7_row 13 = .ok (.bipush 40, 2) := by decide +kernel
theorem dX7_row_15 : decode cX7_row 15 = .ok (.if_icmp .ge 82, 3) := by decide +kernel
theorem dX7_row_18 : decode cX7_row 18 = .ok (.aload_n 0, 1) := by decide +kernel
theorem dX7_row_19 : decode cX7_row 19 = .ok (.getfield 7, 3) := by decide +kernel
theorem dX7_row_22 : decode cX7_row 22 = .ok (.iconst 3, 1) := by decide +kernel
theorem dX7_row_23 : decode cX7_row 23 = .ok (.iload 6, 2) := by decide +kernel
theorem dX7_row_25 : decode cX7_row 25 = .ok (.imul, 1) := by decide +kernel
theorem dX7_row_26 : decode cX7_row 26 = .ok (.iload_n 1, 1) := by decide +kernel
theorem dX7_row_27 : decode cX7_row 27 = .ok (.iadd, 1) := by decide +kernel
theorem dX7_row_28 : decode cX7_row 28 = .ok (.iaload, 1) := by decide +kernel
theorem dX7_row_29 : decode cX7_row 29 = .ok (.aload_n 0, 1) := by decide +kernel
theorem dX7_row_30 : decode cX7_row 30 = .ok (.getfield 7, 3) := by decide +kernel
theorem dX7_row_33 : decode cX7_row 33 = .ok (.sipush 232, 3) := by decide +kernel
theorem dX7_row_36 : decode cX7_row 36 = .ok (.iaload, 1) := by decide +kernel
theorem dX7_row_37 : decode cX7_row 37 = .ok (.if_icmp .lt 7, 3) := by decide +kernel
theorem dX7_row_40 : decode cX7_row 40 = .ok (.iconst 1, 1) := by decide +kernel
theorem dX7_row_41 : decode cX7_row 41 = .ok (.goto 4, 3) := by decide +kernel
theorem dX7_row_44 : decode cX7_row 44 = .ok (.iconst 0, 1) := by decide +kernel
theorem dX7_row_45 : decode cX7_row 45 = .ok (.istore 7, 2) := by decide +kernel
theorem dX7_row_47 : decode cX7_row 47 = .ok (.iload_n 3, 1) := by decide +kernel
theorem dX7_row_48 : decode cX7_row 48 = .ok (.iload 7, 2) := by decide +kernel
theorem dX7_row_50 : decode cX7_row 50 = .ok (.ifCond .eq 7, 3) := by decide +kernel
theorem dX7_row_53 : decode cX7_row 53 = .ok (.iconst 1, 1) := by decide +kernel
theorem dX7_row_54 : decode cX7_row 54 = .ok (.goto 4, 3) := by decide +kernel
theorem dX7_row_57 : decode cX7_row 57 = .ok (.iconst 0, 1) := by decide +kernel
theorem dX7_row_58 : decode cX7_row 58 = .ok (.iadd, 1) := by decide +kernel
theorem dX7_row_59 : decode cX7_row 59 = .ok (.istore_n 3, 1) := by decide +kernel
theorem dX7_row_60 : decode cX7_row 60 = .ok (.iload 7, 2) := by decide +kernel
theorem dX7_row_62 : decode cX7_row 62 = .ok (.ifCond .eq 10, 3) := by decide +kernel
theorem dX7_row_65 : decode cX7_row 65 = .ok (.iload 4, 2) := by decide +kernel
theorem dX7_row_67 : decode cX7_row 67 = .ok (.iconst 1, 1) := by decide +kernel
theorem dX7_row_68 : decode cX7_row 68 = .ok (.iadd, 1) := by decide +kernel
theorem dX7_row_69 : decode cX7_row 69 = .ok (.goto 4, 3) := by decide +kernel
theorem dX7_row_72 : decode cX7_row 72 = .ok (.iconst 0, 1) := by decide +kernel
theorem dX7_row_73 : decode cX7_row 73 = .ok (.istore 4, 2) := by decide +kernel
theorem dX7_row_75 : decode cX7_row 75 = .ok (.iload 4, 2) := by decide +kernel
theorem dX7_row_77 : decode cX7_row 77 = .ok (.iload 5, 2) := by decide +kernel
theorem dX7_row_79 : decode cX7_row 79 = .ok (.if_icmp .le 8, 3) := by decide +kernel
theorem dX7_row_82 : decode cX7_row 82 = .ok (.iload 4, 2) := by decide +kernel
theorem dX7_row_84 : decode cX7_row 84 = .ok (.goto 5, 3) := by decide +kernel
theorem dX7_row_87 : decode cX7_row 87 = .ok (.iload 5, 2) := by decide +kernel
theorem dX7_row_89 : decode cX7_row 89 = .ok (.istore 5, 2) := by decide +kernel
theorem dX7_row_91 : decode cX7_row 91 = .ok (.iinc 6 1, 3) := by decide +kernel
theorem dX7_row_94 : decode cX7_row 94 = .ok (.goto (-83), 3) := by decide +kernel
theorem dX7_row_97 : decode cX7_row 97 = .ok (.iload_n 2, 1) := by decide +kernel
theorem dX7_row_98 : decode cX7_row 98 = .ok (.ifCond .eq 8, 3) := by decide +kernel
theorem dX7_row_101 : decode cX7_row 101 = .ok (.iload 5, 2) := by decide +kernel
theorem dX7_row_103 : decode cX7_row 103 = .ok (.goto 4, 3) := by decide +kernel
theorem dX7_row_106 : decode cX7_row 106 = .ok (.iload_n 3, 1) := by decide +kernel
theorem dX7_row_107 : decode cX7_row 107 = .ok (.ireturn, 1) := by decide +kernel
theorem dX7_steepest_0 : decode cX7_steepest 0 = .ok (.iconst 0, 1) := by decide +kernel
theorem dX7_steepest_1 : decode cX7_steepest 1 = .ok (.istore_n 2, 1) := by decide +kernel
theorem dX7_steepest_2 : decode cX7_steepest 2 = .ok (.iconst 0, 1) := by decide +kernel
theorem dX7_steepest_3 : decode cX7_steepest 3 = .ok (.istore_n 3, 1) := by decide +kernel
theorem dX7_steepest_4 : decode cX7_steepest 4 = .ok (.iload_n 3, 1) := by decide +kernel
theorem dX7_steepest_5 : decode cX7_steepest 5 = .ok (.iconst 1, 1) := by decide +kernel
theorem dX7_steepest_6 : decode cX7_steepest 6 = .ok (.iadd, 1) := by decide +kernel
theorem dX7_steepest_7 : decode cX7_steepest 7 = .ok (.bipush 40, 2) := by decide +kernel
theorem dX7_steepest_9 : decode cX7_steepest 9 = .ok (.if_icmp .ge 62, 3) := by decide +kernel
theorem dX7_steepest_12 : decode cX7_steepest 12 = .ok (.aload_n 0, 1) := by decide +kernel
theorem dX7_steepest_13 : decode cX7_steepest 13 = .ok (.getfield 7, 3) := by decide +kernel
theorem dX7_steepest_16 : decode cX7_steepest 16 = .ok (.iconst 3, 1) := by decide +kernel
theorem dX7_steepest_17 : decode cX7_steepest 17 = .ok (.iload_n 3, 1) := by decide +kernel
theorem dX7_steepest_18 : decode cX7_steepest 18 = .ok (.imul, 1) := by decide +kernel
theorem dX7_steepest_19 : decode cX7_steepest 19 = .ok (.iload_n 1, 1) := by decide +kernel
theorem dX7_steepest_20 : decode cX7_steepest 20 = .ok (.iadd, 1) := by decide +kernel
theorem dX7_steepest_21 : decode cX7_steepest 21 = .ok (.iaload, 1) := by decide +kernel
theorem dX7_steepest_22 : decode cX7_steepest 22 = .ok (.aload_n 0, 1) := by decide +kernel
theorem dX7_steepest_23 : decode cX7_steepest 23 = .ok (.getfield 7, 3) := by decide +kernel
theorem dX7_steepest_26 : decode cX7_steepest 26 = .ok (.iconst 3, 1) := by decide +kernel
theorem dX7_steepest_27 : decode cX7_steepest 27 = .ok (.iload_n 3, 1) := by decide +kernel
theorem dX7_steepest_28 : decode cX7_steepest 28 = .ok (.imul, 1) := by decide +kernel
theorem dX7_steepest_29 : decode cX7_steepest 29 = .ok (.iconst 3, 1) := by decide +kernel
theorem dX7_steepest_30 : decode cX7_steepest 30 = .ok (.iadd, 1) := by decide +kernel
theorem dX7_steepest_31 : decode cX7_steepest 31 = .ok (.iload_n 1, 1) := by decide +kernel
theorem dX7_steepest_32 : decode cX7_steepest 32 = .ok (.iadd, 1) := by decide +kernel
theorem dX7_steepest_33 : decode cX7_steepest 33 = .ok (.iaload, 1) := by decide +kernel
theorem dX7_steepest_34 : decode cX7_steepest 34 = .ok (.isub, 1) := by decide +kernel
theorem dX7_steepest_35 : decode cX7_steepest 35 = .ok (.istore 4, 2) := by decide +kernel
theorem dX7_steepest_37 : decode cX7_steepest 37 = .ok (.iload 4, 2) := by decide +kernel
theorem dX7_steepest_39 : decode cX7_steepest 39 = .ok (.ifCond .ge 9, 3) := by decide +kernel
theorem dX7_steepest_42 : decode cX7_steepest 42 = .ok (.iload 4, 2) := by decide +kernel
theorem dX7_steepest_44 : decode cX7_steepest 44 = .ok (.ineg, 1) := by decide +kernel
theorem dX7_steepest_45 : decode cX7_steepest 45 = .ok (.goto 5, 3) := by decide +kernel
theorem dX7_steepest_48 : decode cX7_steepest 48 = .ok (.iload 4, 2) := by decide +kernel
theorem dX7_steepest_50 : decode cX7_steepest 50 = .ok (.istore 4, 2) := by decide +kernel
theorem dX7_steepest_52 : decode cX7_steepest 52 = .ok (.iload 4, 2) := by decide +kernel
theorem dX7_steepest_54 : decode cX7_steepest 54 = .ok (.iload_n 2, 1) := by decide +kernel
theorem dX7_steepest_55 : decode cX7_steepest 55 = .ok (.if_icmp .le 8, 3) := by decide +kernel
theorem dX7_steepest_58 : decode cX7_steepest 58 = .ok (.iload 4, 2) := by decide +kernel
theorem dX7_steepest_60 : decode cX7_steepest 60 = .ok (.goto 4, 3) := by decide +kernel
theorem dX7_steepest_63 : decode cX7_steepest 63 = .ok (.iload_n 2, 1) := by decide +kernel
theorem dX7_steepest_64 : decode cX7_steepest 64 = .ok (.istore_n 2, 1) := by decide +kernel
theorem dX7_steepest_65 : decode cX7_steepest 65 = .ok (.iinc 3 1, 3) := by decide +kernel
theorem dX7_steepest_68 : decode cX7_steepest 68 = .ok (.goto (-64), 3) := by decide +kernel
theorem dX7_steepest_71 : decode cX7_steepest 71 = .ok (.iload_n 2, 1) := by decide +kernel
theorem dX7_steepest_72 : decode cX7_steepest 72 = .ok (.ireturn, 1) := by decide +kernel
theorem dX7_profile_0 : decode cX7_profile 0 = .ok (.iload_n 1, 1) := by decide +kernel
theorem dX7_profile_1 : decode cX7_profile 1 = .ok (.invokestatic 130, 3) := by decide +kernel
theorem dX7_profile_4 : decode cX7_profile 4 = .ok (.ifCond .ne 7, 3) := by decide +kernel
theorem dX7_profile_7 : decode cX7_profile 7 = .ok (.sipush (-1002), 3) := by decide +kernel
theorem dX7_profile_10 : decode cX7_profile 10 = .ok (.ireturn, 1) := by decide +kernel
theorem dX7_profile_11 : decode cX7_profile 11 = .ok (.iload_n 2, 1) := by decide +kernel
theorem dX7_profile_12 : decode cX7_profile 12 = .ok (.tableswitch 87 0 5 #[40, 46, 61, 67, 74, 81], 40) := by decide +kernel
theorem dX7_profile_52 : decode cX7_profile 52 = .ok (.aload_n 0, 1) := by decide +kernel
theorem dX7_profile_53 : decode cX7_profile 53 = .ok (.iload_n 1, 1) := by decide +kernel
theorem dX7_profile_54 : decode cX7_profile 54 = .ok (.invokevirtual 136, 3) := by decide +kernel
theorem dX7_profile_57 : decode cX7_profile 57 = .ok (.ireturn, 1) := by decide +kernel
theorem dX7_profile_58 : decode cX7_profile 58 = .ok (.aload_n 0, 1) := by decide +kernel
theorem dX7_profile_59 : decode cX7_profile 59 = .ok (.getfield 7, 3) := by decide +kernel
theorem dX7_profile_62 : decode cX7_profile 62 = .ok (.iconst 3, 1) := by decide +kernel
theorem dX7_profile_63 : decode cX7_profile 63 = .ok (.aload_n 0, 1) := by decide +kernel
theorem dX7_profile_64 : decode cX7_profile 64 = .ok (.iload_n 1, 1) := by decide +kernel
theorem dX7_profile_65 : decode cX7_profile 65 = .ok (.invokevirtual 140, 3) := by decide +kernel
theorem dX7_profile_68 : decode cX7_profile 68 = .ok (.imul, 1) := by decide +kernel
theorem dX7_profile_69 : decode cX7_profile 69 = .ok (.iload_n 1, 1) := by decide +kernel
theorem dX7_profile_70 : decode cX7_profile 70 = .ok (.iadd, 1) := by decide +kernel
theorem dX7_profile_71 : decode cX7_profile 71 = .ok (.iaload, 1) := by decide +kernel
theorem dX7_profile_72 : decode cX7_profile 72 = .ok (.ireturn, 1) := by decide +kernel
theorem dX7_profile_73 : decode cX7_profile 73 = .ok (.aload_n 0, 1) := by decide +kernel
theorem dX7_profile_74 : decode cX7_profile 74 = .ok (.iload_n 1, 1) := by decide +kernel
theorem dX7_profile_75 : decode cX7_profile 75 = .ok (.invokevirtual 140, 3) := by decide +kernel
theorem dX7_profile_78 : decode cX7_profile 78 = .ok (.ireturn, 1) := by decide +kernel
theorem dX7_profile_79 : decode cX7_profile 79 = .ok (.aload_n 0, 1) := by decide +kernel
theorem dX7_profile_80 : decode cX7_profile 80 = .ok (.iload_n 1, 1) := by decide +kernel
theorem dX7_profile_81 : decode cX7_profile 81 = .ok (.iconst 0, 1) := by decide +kernel
theorem dX7_profile_82 : decode cX7_profile 82 = .ok (.invokevirtual 143, 3) := by decide +kernel
theorem dX7_profile_85 : decode cX7_profile 85 = .ok (.ireturn, 1) := by decide +kernel
theorem dX7_profile_86 : decode cX7_profile 86 = .ok (.aload_n 0, 1) := by decide +kernel
theorem dX7_profile_87 : decode cX7_profile 87 = .ok (.iload_n 1, 1) := by decide +kernel
theorem dX7_profile_88 : decode cX7_profile 88 = .ok (.iconst 1, 1) := by decide +kernel
theorem dX7_profile_89 : decode cX7_profile 89 = .ok (.invokevirtual 143, 3) := by decide +kernel
theorem dX7_profile_92 : decode cX7_profile 92 = .ok (.ireturn, 1) := by decide +kernel
theorem dX7_profile_93 : decode cX7_profile 93 = .ok (.aload_n 0, 1) := by decide +kernel
theorem dX7_profile_94 : decode cX7_profile 94 = .ok (.iload_n 1, 1) := by decide +kernel
theorem dX7_profile_95 : decode cX7_profile 95 = .ok (.invokevirtual 147, 3) := by decide +kernel
theorem dX7_profile_98 : decode cX7_profile 98 = .ok (.ireturn, 1) := by decide +kernel
theorem dX7_profile_99 : decode cX7_profile 99 = .ok (.sipush (-1002), 3) := by decide +kernel
theorem dX7_profile_102 : decode cX7_profile 102 = .ok (.ireturn, 1) := by decide +kernel
theorem dX7_lackingIn_0 : decode cX7_lackingIn 0 = .ok (.iconst 0, 1) := by decide +kernel
theorem dX7_lackingIn_1 : decode cX7_lackingIn 1 = .ok (.istore_n 2, 1) := by decide +kernel
theorem dX7_lackingIn_2 : decode cX7_lackingIn 2 = .ok (.iconst 0, 1) := by decide +kernel
theorem dX7_lackingIn_3 : decode cX7_lackingIn 3 = .ok (.istore_n 3, 1) := by decide +kernel
theorem dX7_lackingIn_4 : decode cX7_lackingIn 4 = .ok (.iload_n 3, 1) := by decide +kernel
theorem dX7_lackingIn_5 : decode cX7_lackingIn 5 = .ok (.iconst 3, 1) := by decide +kernel
theorem dX7_lackingIn_6 : decode cX7_lackingIn 6 = .ok (.if_icmp .ge 56, 3) := by decide +kernel
theorem dX7_lackingIn_9 : decode cX7_lackingIn 9 = .ok (.iload_n 2, 1) := by decide +kernel
theorem dX7_lackingIn_10 : decode cX7_lackingIn 10 = .ok (.aload_n 0, 1) := by decide +kernel
theorem dX7_lackingIn_11 : decode cX7_lackingIn 11 = .ok (.getfield 7, 3) := by decide +kernel
theorem dX7_lackingIn_14 : decode cX7_lackingIn 14 = .ok (.iconst 3, 1) := by decide +kernel
theorem dX7_lackingIn_15 : decode cX7_lackingIn 15 = .ok (.iload_n 1, 1) := by decide +kernel
theorem dX7_lackingIn_16 : decode cX7_lackingIn 16 = .ok (.imul, 1) := by decide +kernel
theorem dX7_lackingIn_17 : decode cX7_lackingIn 17 = .ok (.iload_n 3, 1) := by decide +kernel
theorem dX7_lackingIn_18 : decode cX7_lackingIn 18 = .ok (.iadd, 1) := by decide +kernel
theorem dX7_lackingIn_19 : decode cX7_lackingIn 19 = .ok (.iaload, 1) := by decide +kernel
theorem dX7_lackingIn_20 : decode cX7_lackingIn 20 = .ok (.aload_n 0, 1) := by decide +kernel
theorem dX7_lackingIn_21 : decode cX7_lackingIn 21 = .ok (.getfield 7, 3) := by decide +kernel
theorem dX7_lackingIn_24 : decode cX7_lackingIn 24 = .ok (.sipush 232, 3) := by decide +kernel
theorem dX7_lackingIn_27 : decode cX7_lackingIn 27 = .ok (.iaload, 1) := by decide +kernel
theorem dX7_lackingIn_28 : decode cX7_lackingIn 28 = .ok (.if_icmp .ge 25, 3) := by decide +kernel
theorem dX7_lackingIn_31 : decode cX7_lackingIn 31 = .ok (.aload_n 0, 1) := by decide +kernel
theorem dX7_lackingIn_32 : decode cX7_lackingIn 32 = .ok (.getfield 7, 3) := by decide +kernel
theorem dX7_lackingIn_35 : decode cX7_lackingIn 35 = .ok (.sipush 232, 3) := by decide +kernel
theorem dX7_lackingIn_38 : decode cX7_lackingIn 38 = .ok (.iaload, 1) := by decide +kernel
theorem dX7_lackingIn_39 : decode cX7_lackingIn 39 = .ok (.aload_n 0, 1) := by decide +kernel
theorem dX7_lackingIn_40 : decode cX7_lackingIn 40 = .ok (.getfield 7, 3) := by decide +kernel
theorem dX7_lackingIn_43 : decode cX7_lackingIn 43 = .ok (.iconst 3, 1) := by decide +kernel
theorem dX7_lackingIn_44 : decode cX7_lackingIn 44 = .ok (.iload_n 1, 1) := by decide +kernel
theorem dX7_lackingIn_45 : decode cX7_lackingIn 45 = .ok (.imul, 1) := by decide +kernel
theorem dX7_lackingIn_46 : decode cX7_lackingIn 46 = .ok (.iload_n 3, 1) := by decide +kernel
theorem dX7_lackingIn_47 : decode cX7_lackingIn 47 = .ok (.iadd, 1) := by decide +kernel
theorem dX7_lackingIn_48 : decode cX7_lackingIn 48 = .ok (.iaload, 1) := by decide +kernel
theorem dX7_lackingIn_49 : decode cX7_lackingIn 49 = .ok (.isub, 1) := by decide +kernel
theorem dX7_lackingIn_50 : decode cX7_lackingIn 50 = .ok (.goto 4, 3) := by decide +kernel
theorem dX7_lackingIn_53 : decode cX7_lackingIn 53 = .ok (.iconst 0, 1) := by decide +kernel
theorem dX7_lackingIn_54 : decode cX7_lackingIn 54 = .ok (.iadd, 1) := by decide +kernel
theorem dX7_lackingIn_55 : decode cX7_lackingIn 55 = .ok (.istore_n 2, 1) := by decide +kernel
theorem dX7_lackingIn_56 : decode cX7_lackingIn 56 = .ok (.iinc 3 1, 3) := by decide +kernel
theorem dX7_lackingIn_59 : decode cX7_lackingIn 59 = .ok (.goto (-55), 3) := by decide +kernel
theorem dX7_lackingIn_62 : decode cX7_lackingIn 62 = .ok (.iload_n 2, 1) := by decide +kernel
theorem dX7_lackingIn_63 : decode cX7_lackingIn 63 = .ok (.ireturn, 1) := by decide +kernel
theorem dX7_lacking_0 : decode cX7_lacking 0 = .ok (.iload_n 1, 1) := by decide +kernel
theorem dX7_lacking_1 : decode cX7_lacking 1 = .ok (.iconst (-1), 1) := by decide +kernel
theorem dX7_lacking_2 : decode cX7_lacking 2 = .ok (.if_icmp .ge 7, 3) := by decide +kernel
theorem dX7_lacking_5 : decode cX7_lacking 5 = .ok (.sipush (-1002), 3) := by decide +kernel
end
section
theorem dX7_lacking_8 : decode cX7_lacking 8 = .ok (.ireturn, 1) := by decide +kernel
theorem dX7_lacking_9 : decode cX7_lacking 9 = .ok (.iconst 0, 1) := by decide +kernel
theorem dX7_lacking_10 : decode cX7_lacking 10 = .ok (.istore_n 2, 1) := by decide +kernel
theorem dX7_lacking_11 : decode cX7_lacking 11 = .ok (.iconst 0, 1) := by decide +kernel
theorem dX7_lacking_12 : decode cX7_lacking 12 = .ok (.istore_n 3, 1) := by decide +kernel
theorem dX7_lacking_13 : decode cX7_lacking 13 = .ok (.iconst 0, 1) := by decide +kernel
theorem dX7_lacking_14 : decode cX7_lacking 14 = .ok (.istore 4, 2) := by decide +kernel
theorem dX7_lacking_16 : decode cX7_lacking 16 = .ok (.iload 4, 2) := by decide +kernel
theorem dX7_lacking_18 : decode cX7_lacking 18 = .ok (.bipush 40, 2) := by decide +kernel
theorem dX7_lacking_20 : decode cX7_lacking 20 = .ok (.if_icmp .ge 38, 3) := by decide +kernel
theorem dX7_lacking_23 : decode cX7_lacking 23 = .ok (.aload_n 0, 1) := by decide +kernel
theorem dX7_lacking_24 : decode cX7_lacking 24 = .ok (.iload 4, 2) := by decide +kernel
theorem dX7_lacking_26 : decode cX7_lacking 26 = .ok (.invokevirtual 150, 3) := by decide +kernel
theorem dX7_lacking_29 : decode cX7_lacking 29 = .ok (.ifCond .le 23, 3) := by decide +kernel
theorem dX7_lacking_32 : decode cX7_lacking 32 = .ok (.iload_n 3, 1) := by decide +kernel
theorem dX7_lacking_33 : decode cX7_lacking 33 = .ok (.iload_n 1, 1) := by decide +kernel
theorem dX7_lacking_34 : decode cX7_lacking 34 = .ok (.if_icmp .ne 6, 3) := by decide +kernel
theorem dX7_lacking_37 : decode cX7_lacking 37 = .ok (.iload 4, 2) := by decide +kernel
theorem dX7_lacking_39 : decode cX7_lacking 39 = .ok (.ireturn, 1) := by decide +kernel
theorem dX7_lacking_40 : decode cX7_lacking 40 = .ok (.iinc 3 1, 3) := by decide +kernel
theorem dX7_lacking_43 : decode cX7_lacking 43 = .ok (.iload_n 2, 1) := by decide +kernel
theorem dX7_lacking_44 : decode cX7_lacking 44 = .ok (.aload_n 0, 1) := by decide +kernel
theorem dX7_lacking_45 : decode cX7_lacking 45 = .ok (.iload 4, 2) := by decide +kernel
theorem dX7_lacking_47 : decode cX7_lacking 47 = .ok (.invokevirtual 150, 3) := by decide +kernel
theorem dX7_lacking_50 : decode cX7_lacking 50 = .ok (.iadd, 1) := by decide +kernel
theorem dX7_lacking_51 : decode cX7_lacking 51 = .ok (.istore_n 2, 1) := by decide +kernel
theorem dX7_lacking_52 : decode cX7_lacking 52 = .ok (.iinc 4 1, 3) := by decide +kernel
theorem dX7_lacking_55 : decode cX7_lacking 55 = .ok (.goto (-39), 3) := by decide +kernel
theorem dX7_lacking_58 : decode cX7_lacking 58 = .ok (.iload_n 1, 1) := by decide +kernel
theorem dX7_lacking_59 : decode cX7_lacking 59 = .ok (.iconst (-1), 1) := by decide +kernel
theorem dX7_lacking_60 : decode cX7_lacking 60 = .ok (.if_icmp .ne 7, 3) := by decide +kernel
theorem dX7_lacking_63 : decode cX7_lacking 63 = .ok (.iload_n 2, 1) := by decide +kernel
theorem dX7_lacking_64 : decode cX7_lacking 64 = .ok (.goto 6, 3) := by decide +kernel
theorem dX7_lacking_67 : decode cX7_lacking 67 = .ok (.sipush (-1001), 3) := by decide +kernel
theorem dX7_lacking_70 : decode cX7_lacking 70 = .ok (.ireturn, 1) := by decide +kernel
theorem dX7_ordered_0 : decode cX7_ordered 0 = .ok (.iload_n 1, 1) := by decide +kernel
theorem dX7_ordered_1 : decode cX7_ordered 1 = .ok (.ifCond .lt 12, 3) := by decide +kernel
theorem dX7_ordered_4 : decode cX7_ordered 4 = .ok (.iload_n 2, 1) := by decide +kernel
theorem dX7_ordered_5 : decode cX7_ordered 5 = .ok (.iconst 0, 1) := by decide +kernel
theorem dX7_ordered_6 : decode cX7_ordered 6 = .ok (.iconst 4, 1) := by decide +kernel
theorem dX7_ordered_7 : decode cX7_ordered 7 = .ok (.invokestatic 29, 3) := by decide +kernel
theorem dX7_ordered_10 : decode cX7_ordered 10 = .ok (.ifCond .ne 7, 3) := by decide +kernel
theorem dX7_ordered_13 : decode cX7_ordered 13 = .ok (.sipush (-1002), 3) := by decide +kernel
theorem dX7_ordered_16 : decode cX7_ordered 16 = .ok (.ireturn, 1) := by decide +kernel
theorem dX7_ordered_17 : decode cX7_ordered 17 = .ok (.iload_n 1, 1) := by decide +kernel
theorem dX7_ordered_18 : decode cX7_ordered 18 = .ok (.aload_n 0, 1) := by decide +kernel
theorem dX7_ordered_19 : decode cX7_ordered 19 = .ok (.getfield 7, 3) := by decide +kernel
theorem dX7_ordered_22 : decode cX7_ordered 22 = .ok (.sipush 223, 3) := by decide +kernel
theorem dX7_ordered_25 : decode cX7_ordered 25 = .ok (.iaload, 1) := by decide +kernel
theorem dX7_ordered_26 : decode cX7_ordered 26 = .ok (.if_icmp .ge 20, 3) := by decide +kernel
theorem dX7_ordered_29 : decode cX7_ordered 29 = .ok (.aload_n 0, 1) := by decide +kernel
theorem dX7_ordered_30 : decode cX7_ordered 30 = .ok (.getfield 7, 3) := by decide +kernel
theorem dX7_ordered_33 : decode cX7_ordered 33 = .ok (.sipush 168, 3) := by decide +kernel
theorem dX7_ordered_36 : decode cX7_ordered 36 = .ok (.iconst 5, 1) := by decide +kernel
theorem dX7_ordered_37 : decode cX7_ordered 37 = .ok (.iload_n 1, 1) := by decide +kernel
theorem dX7_ordered_38 : decode cX7_ordered 38 = .ok (.imul, 1) := by decide +kernel
theorem dX7_ordered_39 : decode cX7_ordered 39 = .ok (.iadd, 1) := by decide +kernel
theorem dX7_ordered_40 : decode cX7_ordered 40 = .ok (.iload_n 2, 1) := by decide +kernel
theorem dX7_ordered_41 : decode cX7_ordered 41 = .ok (.iadd, 1) := by decide +kernel
theorem dX7_ordered_42 : decode cX7_ordered 42 = .ok (.iaload, 1) := by decide +kernel
theorem dX7_ordered_43 : decode cX7_ordered 43 = .ok (.goto 6, 3) := by decide +kernel
theorem dX7_ordered_46 : decode cX7_ordered 46 = .ok (.sipush (-1001), 3) := by decide +kernel
theorem dX7_ordered_49 : decode cX7_ordered 49 = .ok (.ireturn, 1) := by decide +kernel
theorem dX7_onTrack_0 : decode cX7_onTrack 0 = .ok (.aload_n 0, 1) := by decide +kernel
theorem dX7_onTrack_1 : decode cX7_onTrack 1 = .ok (.iconst 0, 1) := by decide +kernel
theorem dX7_onTrack_2 : decode cX7_onTrack 2 = .ok (.invokevirtual 136, 3) := by decide +kernel
theorem dX7_onTrack_5 : decode cX7_onTrack 5 = .ok (.aload_n 0, 1) := by decide +kernel
theorem dX7_onTrack_6 : decode cX7_onTrack 6 = .ok (.iconst 1, 1) := by decide +kernel
theorem dX7_onTrack_7 : decode cX7_onTrack 7 = .ok (.invokevirtual 136, 3) := by decide +kernel
theorem dX7_onTrack_10 : decode cX7_onTrack 10 = .ok (.iadd, 1) := by decide +kernel
theorem dX7_onTrack_11 : decode cX7_onTrack 11 = .ok (.aload_n 0, 1) := by decide +kernel
theorem dX7_onTrack_12 : decode cX7_onTrack 12 = .ok (.iconst 2, 1) := by decide +kernel
theorem dX7_onTrack_13 : decode cX7_onTrack 13 = .ok (.invokevirtual 136, 3) := by decide +kernel
theorem dX7_onTrack_16 : decode cX7_onTrack 16 = .ok (.iadd, 1) := by decide +kernel
theorem dX7_onTrack_17 : decode cX7_onTrack 17 = .ok (.ireturn, 1) := by decide +kernel
theorem dX7_part_0 : decode cX7_part 0 = .ok (.iload_n 1, 1) := by decide +kernel
theorem dX7_part_1 : decode cX7_part 1 = .ok (.tableswitch 82 0 5 #[39, 48, 53, 58, 67, 76], 39) := by decide +kernel
theorem dX7_part_40 : decode cX7_part 40 = .ok (.aload_n 0, 1) := by decide +kernel
theorem dX7_part_41 : decode cX7_part 41 = .ok (.getfield 7, 3) := by decide +kernel
theorem dX7_part_44 : decode cX7_part 44 = .ok (.sipush 219, 3) := by decide +kernel
theorem dX7_part_47 : decode cX7_part 47 = .ok (.iaload, 1) := by decide +kernel
theorem dX7_part_48 : decode cX7_part 48 = .ok (.ireturn, 1) := by decide +kernel
theorem dX7_part_49 : decode cX7_part 49 = .ok (.aload_n 0, 1) := by decide +kernel
theorem dX7_part_50 : decode cX7_part 50 = .ok (.invokevirtual 127, 3) := by decide +kernel
theorem dX7_part_53 : decode cX7_part 53 = .ok (.ireturn, 1) := by decide +kernel
theorem dX7_part_54 : decode cX7_part 54 = .ok (.aload_n 0, 1) := by decide +kernel
theorem dX7_part_55 : decode cX7_part 55 = .ok (.invokevirtual 153, 3) := by decide +kernel
theorem dX7_part_58 : decode cX7_part 58 = .ok (.ireturn, 1) := by decide +kernel
theorem dX7_part_59 : decode cX7_part 59 = .ok (.aload_n 0, 1) := by decide +kernel
theorem dX7_part_60 : decode cX7_part 60 = .ok (.getfield 7, 3) := by decide +kernel
theorem dX7_part_63 : decode cX7_part 63 = .ok (.sipush 226, 3) := by decide +kernel
theorem dX7_part_66 : decode cX7_part 66 = .ok (.iaload, 1) := by decide +kernel
theorem dX7_part_67 : decode cX7_part 67 = .ok (.ireturn, 1) := by decide +kernel
theorem dX7_part_68 : decode cX7_part 68 = .ok (.aload_n 0, 1) := by decide +kernel
theorem dX7_part_69 : decode cX7_part 69 = .ok (.getfield 7, 3) := by decide +kernel
theorem dX7_part_72 : decode cX7_part 72 = .ok (.sipush 224, 3) := by decide +kernel
theorem dX7_part_75 : decode cX7_part 75 = .ok (.iaload, 1) := by decide +kernel
theorem dX7_part_76 : decode cX7_part 76 = .ok (.ireturn, 1) := by decide +kernel
theorem dX7_part_77 : decode cX7_part 77 = .ok (.aload_n 0, 1) := by decide +kernel
theorem dX7_part_78 : decode cX7_part 78 = .ok (.iconst (-1), 1) := by decide +kernel
theorem dX7_part_79 : decode cX7_part 79 = .ok (.invokevirtual 156, 3) := by decide +kernel
theorem dX7_part_82 : decode cX7_part 82 = .ok (.ireturn, 1) := by decide +kernel
theorem dX7_part_83 : decode cX7_part 83 = .ok (.aload_n 0, 1) := by decide +kernel
theorem dX7_part_84 : decode cX7_part 84 = .ok (.getfield 7, 3) := by decide +kernel
theorem dX7_part_87 : decode cX7_part 87 = .ok (.sipush 223, 3) := by decide +kernel
theorem dX7_part_90 : decode cX7_part 90 = .ok (.iaload, 1) := by decide +kernel
theorem dX7_part_91 : decode cX7_part 91 = .ok (.ireturn, 1) := by decide +kernel
theorem dX7_foretell_0 : decode cX7_foretell 0 = .ok (.iload_n 1, 1) := by decide +kernel
theorem dX7_foretell_1 : decode cX7_foretell 1 = .ok (.iconst 1, 1) := by decide +kernel
theorem dX7_foretell_2 : decode cX7_foretell 2 = .ok (.sipush 200, 3) := by decide +kernel
theorem dX7_foretell_5 : decode cX7_foretell 5 = .ok (.invokestatic 29, 3) := by decide +kernel
theorem dX7_foretell_8 : decode cX7_foretell 8 = .ok (.ifCond .eq 13, 3) := by decide +kernel
theorem dX7_foretell_11 : decode cX7_foretell 11 = .ok (.iload_n 2, 1) := by decide +kernel
theorem dX7_foretell_12 : decode cX7_foretell 12 = .ok (.iconst 0, 1) := by decide +kernel
theorem dX7_foretell_13 : decode cX7_foretell 13 = .ok (.bipush 6, 2) := by decide +kernel
theorem dX7_foretell_15 : decode cX7_foretell 15 = .ok (.invokestatic 29, 3) := by decide +kernel
theorem dX7_foretell_18 : decode cX7_foretell 18 = .ok (.ifCond .ne 7, 3) := by decide +kernel
theorem dX7_foretell_21 : decode cX7_foretell 21 = .ok (.sipush (-1002), 3) := by decide +kernel
theorem dX7_foretell_24 : decode cX7_foretell 24 = .ok (.ireturn, 1) := by decide +kernel
theorem dX7_foretell_25 : decode cX7_foretell 25 = .ok (.aload_n 0, 1) := by decide +kernel
theorem dX7_foretell_26 : decode cX7_foretell 26 = .ok (.invokevirtual 159, 3) := by decide +kernel
theorem dX7_foretell_29 : decode cX7_foretell 29 = .ok (.iconst 0, 1) := by decide +kernel
theorem dX7_foretell_30 : decode cX7_foretell 30 = .ok (.istore_n 3, 1) := by decide +kernel
theorem dX7_foretell_31 : decode cX7_foretell 31 = .ok (.iload_n 3, 1) := by decide +kernel
theorem dX7_foretell_32 : decode cX7_foretell 32 = .ok (.iload_n 1, 1) := by decide +kernel
theorem dX7_foretell_33 : decode cX7_foretell 33 = .ok (.if_icmp .ge 13, 3) := by decide +kernel
theorem dX7_foretell_36 : decode cX7_foretell 36 = .ok (.aload_n 0, 1) := by decide +kernel
theorem dX7_foretell_37 : decode cX7_foretell 37 = .ok (.invokevirtual 133, 3) := by decide +kernel
theorem dX7_foretell_40 : decode cX7_foretell 40 = .ok (.iinc 3 1, 3) := by decide +kernel
theorem dX7_foretell_43 : decode cX7_foretell 43 = .ok (.goto (-12), 3) := by decide +kernel
theorem dX7_foretell_46 : decode cX7_foretell 46 = .ok (.aload_n 0, 1) := by decide +kernel
theorem dX7_foretell_47 : decode cX7_foretell 47 = .ok (.iload_n 2, 1) := by decide +kernel
theorem dX7_foretell_48 : decode cX7_foretell 48 = .ok (.invokevirtual 162, 3) := by decide +kernel
theorem dX7_foretell_51 : decode cX7_foretell 51 = .ok (.istore_n 3, 1) := by decide +kernel
theorem dX7_foretell_52 : decode cX7_foretell 52 = .ok (.aload_n 0, 1) := by decide +kernel
theorem dX7_foretell_53 : decode cX7_foretell 53 = .ok (.invokevirtual 165, 3) := by decide +kernel
theorem dX7_foretell_56 : decode cX7_foretell 56 = .ok (.iload_n 3, 1) := by decide +kernel
theorem dX7_foretell_57 : decode cX7_foretell 57 = .ok (.ireturn, 1) := by decide +kernel
theorem dX7_emptyAfter_0 : decode cX7_emptyAfter 0 = .ok (.aload_n 0, 1) := by decide +kernel
theorem dX7_emptyAfter_1 : decode cX7_emptyAfter 1 = .ok (.invokevirtual 159, 3) := by decide +kernel
theorem dX7_emptyAfter_4 : decode cX7_emptyAfter 4 = .ok (.iconst 0, 1) := by decide +kernel
theorem dX7_emptyAfter_5 : decode cX7_emptyAfter 5 = .ok (.istore_n 1, 1) := by decide +kernel
theorem dX7_emptyAfter_6 : decode cX7_emptyAfter 6 = .ok (.iload_n 1, 1) := by decide +kernel
theorem dX7_emptyAfter_7 : decode cX7_emptyAfter 7 = .ok (.sipush 400, 3) := by decide +kernel
theorem dX7_emptyAfter_10 : decode cX7_emptyAfter 10 = .ok (.if_icmp .ge 20, 3) := by decide +kernel
theorem dX7_emptyAfter_13 : decode cX7_emptyAfter 13 = .ok (.aload_n 0, 1) := by decide +kernel
theorem dX7_emptyAfter_14 : decode cX7_emptyAfter 14 = .ok (.invokevirtual 127, 3) := by decide +kernel
theorem dX7_emptyAfter_17 : decode cX7_emptyAfter 17 = .ok (.ifCond .le 13, 3) := by decide +kernel
theorem dX7_emptyAfter_20 : decode cX7_emptyAfter 20 = .ok (.aload_n 0, 1) := by decide +kernel
theorem dX7_emptyAfter_21 : decode cX7_emptyAfter 21 = .ok (.invokevirtual 133, 3) := by decide +kernel
theorem dX7_emptyAfter_24 : decode cX7_emptyAfter 24 = .ok (.iinc 1 1, 3) := by decide +kernel
theorem dX7_emptyAfter_27 : decode cX7_emptyAfter 27 = .ok (.goto (-21), 3) := by decide +kernel
theorem dX7_emptyAfter_30 : decode cX7_emptyAfter 30 = .ok (.aload_n 0, 1) := by decide +kernel
theorem dX7_emptyAfter_31 : decode cX7_emptyAfter 31 = .ok (.invokevirtual 127, 3) := by decide +kernel
theorem dX7_emptyAfter_34 : decode cX7_emptyAfter 34 = .ok (.ifCond .ne 7, 3) := by decide +kernel
theorem dX7_emptyAfter_37 : decode cX7_emptyAfter 37 = .ok (.iconst 1, 1) := by decide +kernel
theorem dX7_emptyAfter_38 : decode cX7_emptyAfter 38 = .ok (.goto 4, 3) := by decide +kernel
theorem dX7_emptyAfter_41 : decode cX7_emptyAfter 41 = .ok (.iconst 0, 1) := by decide +kernel
theorem dX7_emptyAfter_42 : decode cX7_emptyAfter 42 = .ok (.istore_n 2, 1) := by decide +kernel
theorem dX7_emptyAfter_43 : decode cX7_emptyAfter 43 = .ok (.aload_n 0, 1) := by decide +kernel
theorem dX7_emptyAfter_44 : decode cX7_emptyAfter 44 = .ok (.invokevirtual 165, 3) := by decide +kernel
theorem dX7_emptyAfter_47 : decode cX7_emptyAfter 47 = .ok (.iload_n 2, 1) := by decide +kernel
theorem dX7_emptyAfter_48 : decode cX7_emptyAfter 48 = .ok (.ifCond .eq 7, 3) := by decide +kernel
theorem dX7_emptyAfter_51 : decode cX7_emptyAfter 51 = .ok (.iload_n 1, 1) := by decide +kernel
theorem dX7_emptyAfter_52 : decode cX7_emptyAfter 52 = .ok (.goto 6, 3) := by decide +kernel
theorem dX7_emptyAfter_55 : decode cX7_emptyAfter 55 = .ok (.sipush (-1001), 3) := by decide +kernel
theorem dX7_emptyAfter_58 : decode cX7_emptyAfter 58 = .ok (.ireturn, 1) := by decide +kernel
theorem dX7_count_0 : decode cX7_count 0 = .ok (.iload_n 1, 1) := by decide +kernel
theorem dX7_count_1 : decode cX7_count 1 = .ok (.tableswitch 154 0 18 #[91, 91, 91, 91, 91, 91, 91, 91, 102, 107, 112, 121, 130, 135, 140, 140, 140, 140, 140], 91) := by decide +kernel
theorem dX7_count_92 : decode cX7_count 92 = .ok (.aload_n 0, 1) := by decide +kernel
theorem dX7_count_93 : decode cX7_count 93 = .ok (.getfield 7, 3) := by decide +kernel
theorem dX7_count_96 : decode cX7_count 96 = .ok (.sipush 218, 3) := by decide +kernel
theorem dX7_count_99 : decode cX7_count 99 = .ok (.iload_n 1, 1) := by decide +kernel
theorem dX7_count_100 : decode cX7_count 100 = .ok (.iadd, 1) := by decide +kernel
theorem dX7_count_101 : decode cX7_count 101 = .ok (.iaload, 1) := by decide +kernel
theorem dX7_count_102 : decode cX7_count 102 = .ok (.ireturn, 1) := by decide +kernel
theorem dX7_count_103 : decode cX7_count 103 = .ok (.aload_n 0, 1) := by decide +kernel
theorem dX7_count_104 : decode cX7_count 104 = .ok (.invokevirtual 127, 3) := by decide +kernel
theorem dX7_count_107 : decode cX7_count 107 = .ok (.ireturn, 1) := by decide +kernel
theorem dX7_count_108 : decode cX7_count 108 = .ok (.aload_n 0, 1) := by decide +kernel
theorem dX7_count_109 : decode cX7_count 109 = .ok (.invokevirtual 153, 3) := by decide +kernel
theorem dX7_count_112 : decode cX7_count 112 = .ok (.ireturn, 1) := by decide +kernel
theorem dX7_count_113 : decode cX7_count 113 = .ok (.aload_n 0, 1) := by decide +kernel
theorem dX7_count_114 : decode cX7_count 114 = .ok (.getfield 7, 3) := by decide +kernel
theorem dX7_count_117 : decode cX7_count 117 = .ok (.sipush 226, 3) := by decide +kernel
theorem dX7_count_120 : decode cX7_count 120 = .ok (.iaload, 1) := by decide +kernel
theorem dX7_count_121 : decode cX7_count 121 = .ok (.ireturn, 1) := by decide +kernel
theorem dX7_count_122 : decode cX7_count 122 = .ok (.aload_n 0, 1) := by decide +kernel
theorem dX7_count_123 : decode cX7_count 123 = .ok (.getfield 7, 3) := by decide +kernel
theorem dX7_count_126 : decode cX7_count 126 = .ok (.sipush 227, 3) := by decide +kernel
theorem dX7_count_129 : decode cX7_count 129 = .ok (.iaload, 1) := by decide +kernel
theorem dX7_count_130 : decode cX7_count 130 = .ok (.ireturn, 1) := by decide +kernel
theorem dX7_count_131 : decode cX7_count 131 = .ok (.aload_n 0, 1) := by decide +kernel
theorem dX7_count_132 : decode cX7_count 132 = .ok (.getfield 37, 3) := by decide +kernel
theorem dX7_count_135 : decode cX7_count 135 = .ok (.ireturn, 1) := by decide +kernel
theorem dX7_count_136 : decode cX7_count 136 = .ok (.aload_n 0, 1) := by decide +kernel
theorem dX7_count_137 : decode cX7_count 137 = .ok (.getfield 41, 3) := by decide +kernel
theorem dX7_count_140 : decode cX7_count 140 = .ok (.ireturn, 1) := by decide +kernel
theorem dX7_count_141 : decode cX7_count 141 = .ok (.aload_n 0, 1) := by decide +kernel
theorem dX7_count_142 : decode cX7_count 142 = .ok (.getfield 7, 3) := by decide +kernel
theorem dX7_count_145 : decode cX7_count 145 = .ok (.sipush 228, 3) := by decide +kernel
theorem dX7_count_148 : decode cX7_count 148 = .ok (.iload_n 1, 1) := by decide +kernel
theorem dX7_count_149 : decode cX7_count 149 = .ok (.iadd, 1) := by decide +kernel
theorem dX7_count_150 : decode cX7_count 150 = .ok (.bipush 14, 2) := by decide +kernel
theorem dX7_count_152 : decode cX7_count 152 = .ok (.isub, 1) := by decide +kernel
theorem dX7_count_153 : decode cX7_count 153 = .ok (.iaload, 1) := by decide +kernel
theorem dX7_count_154 : decode cX7_count 154 = .ok (.ireturn, 1) := by decide +kernel
theorem dX7_count_155 : decode cX7_count 155 = .ok (.sipush (-1002), 3) := by decide +kernel
theorem dX7_count_158 : decode cX7_count 158 = .ok (.ireturn, 1) := by decide +kernel
theorem dX7_mixes_0 : decode cX7_mixes 0 = .ok (.aload_n 0, 1) := by decide +kernel
theorem dX7_mixes_1 : decode cX7_mixes 1 = .ok (.ldc2_w 168, 3) := by decide +kernel
theorem dX7_mixes_4 : decode cX7_mixes 4 = .ok (.aload_n 0, 1) := by decide +kernel
theorem dX7_mixes_5 : decode cX7_mixes 5 = .ok (.getfield 170, 3) := by decide +kernel
theorem dX7_mixes_8 : decode cX7_mixes 8 = .ok (.lmul, 1) := by decide +kernel
theorem dX7_mixes_9 : decode cX7_mixes 9 = .ok (.iload_n 1, 1) := by decide +kernel
theorem dX7_mixes_10 : decode cX7_mixes 10 = .ok (.i2l, 1) := by decide +kernel
theorem dX7_mixes_11 : decode cX7_mixes 11 = .ok (.ladd, 1) := by decide +kernel
theorem dX7_mixes_12 : decode cX7_mixes 12 = .ok (.putfield 170, 3) := by decide +kernel
theorem dX7_mixes_15 : decode cX7_mixes 15 = .ok (.return_, 1) := by decide +kernel
theorem dX7_mixesWagon_0 : decode cX7_mixesWagon 0 = .ok (.iconst 0, 1) := by decide +kernel
theorem dX7_mixesWagon_1 : decode cX7_mixesWagon 1 = .ok (.istore_n 2, 1) := by decide +kernel
theorem dX7_mixesWagon_2 : decode cX7_mixesWagon 2 = .ok (.iload_n 2, 1) := by decide +kernel
theorem dX7_mixesWagon_3 : decode cX7_mixesWagon 3 = .ok (.iconst 5, 1) := by decide +kernel
theorem dX7_mixesWagon_4 : decode cX7_mixesWagon 4 = .ok (.if_icmp .ge 19, 3) := by decide +kernel
theorem dX7_mixesWagon_7 : decode cX7_mixesWagon 7 = .ok (.aload_n 0, 1) := by decide +kernel
theorem dX7_mixesWagon_8 : decode cX7_mixesWagon 8 = .ok (.aload_n 0, 1) := by decide +kernel
theorem dX7_mixesWagon_9 : decode cX7_mixesWagon 9 = .ok (.iload_n 1, 1) := by decide +kernel
theorem dX7_mixesWagon_10 : decode cX7_mixesWagon 10 = .ok (.iload_n 2, 1) := by decide +kernel
theorem dX7_mixesWagon_11 : decode cX7_mixesWagon 11 = .ok (.invokevirtual 174, 3) := by decide +kernel
theorem dX7_mixesWagon_14 : decode cX7_mixesWagon 14 = .ok (.invokevirtual 177, 3) := by decide +kernel
theorem dX7_mixesWagon_17 : decode cX7_mixesWagon 17 = .ok (.iinc 2 1, 3) := by decide +kernel
theorem dX7_mixesWagon_20 : decode cX7_mixesWagon 20 = .ok (.goto (-18), 3) := by decide +kernel
theorem dX7_mixesWagon_23 : decode cX7_mixesWagon 23 = .ok (.iconst 0, 1) := by decide +kernel
theorem dX7_mixesWagon_24 : decode cX7_mixesWagon 24 = .ok (.istore_n 2, 1) := by decide +kernel
theorem dX7_mixesWagon_25 : decode cX7_mixesWagon 25 = .ok (.iload_n 2, 1) := by decide +kernel
theorem dX7_mixesWagon_26 : decode cX7_mixesWagon 26 = .ok (.bipush 6, 2) := by decide +kernel
theorem dX7_mixesWagon_28 : decode cX7_mixesWagon 28 = .ok (.if_icmp .ge 24, 3) := by decide +kernel
theorem dX7_mixesWagon_31 : decode cX7_mixesWagon 31 = .ok (.aload_n 0, 1) := by decide +kernel
theorem dX7_mixesWagon_32 : decode cX7_mixesWagon 32 = .ok (.aload_n 0, 1) := by decide +kernel
theorem dX7_mixesWagon_33 : decode cX7_mixesWagon 33 = .ok (.iload_n 1, 1) := by decide +kernel
theorem dX7_mixesWagon_34 : decode cX7_mixesWagon 34 = .ok (.iload_n 2, 1) := by decide +kernel
theorem dX7_mixesWagon_35 : decode cX7_mixesWagon 35 = .ok (.iconst 2, 1) := by decide +kernel
theorem dX7_mixesWagon_36 : decode cX7_mixesWagon 36 = .ok (.idiv, 1) := by decide +kernel
theorem dX7_mixesWagon_37 : decode cX7_mixesWagon 37 = .ok (.iload_n 2, 1) := by decide +kernel
theorem dX7_mixesWagon_38 : decode cX7_mixesWagon 38 = .ok (.iconst 2, 1) := by decide +kernel
theorem dX7_mixesWagon_39 : decode cX7_mixesWagon 39 = .ok (.irem, 1) := by decide +kernel
theorem dX7_mixesWagon_40 : decode cX7_mixesWagon 40 = .ok (.invokevirtual 180, 3) := by decide +kernel
theorem dX7_mixesWagon_43 : decode cX7_mixesWagon 43 = .ok (.invokevirtual 177, 3) := by decide +kernel
theorem dX7_mixesWagon_46 : decode cX7_mixesWagon 46 = .ok (.iinc 2 1, 3) := by decide +kernel
theorem dX7_mixesWagon_49 : decode cX7_mixesWagon 49 = .ok (.goto (-24), 3) := by decide +kernel
theorem dX7_mixesWagon_52 : decode cX7_mixesWagon 52 = .ok (.return_, 1) := by decide +kernel
theorem dX7_digest_0 : decode cX7_digest 0 = .ok (.aload_n 0, 1) := by decide +kernel
theorem dX7_digest_1 : decode cX7_digest 1 = .ok (.ldc2_w 184, 3) := by decide +kernel
theorem dX7_digest_4 : decode cX7_digest 4 = .ok (.putfield 170, 3) := by decide +kernel
theorem dX7_digest_7 : decode cX7_digest 7 = .ok (.iconst 0, 1) := by decide +kernel
theorem dX7_digest_8 : decode cX7_digest 8 = .ok (.istore_n 1, 1) := by decide +kernel
theorem dX7_digest_9 : decode cX7_digest 9 = .ok (.iload_n 1, 1) := by decide +kernel
theorem dX7_digest_10 : decode cX7_digest 10 = .ok (.bipush 19, 2) := by decide +kernel
theorem dX7_digest_12 : decode cX7_digest 12 = .ok (.if_icmp .ge 18, 3) := by decide +kernel
theorem dX7_digest_15 : decode cX7_digest 15 = .ok (.aload_n 0, 1) := by decide +kernel
theorem dX7_digest_16 : decode cX7_digest 16 = .ok (.aload_n 0, 1) := by decide +kernel
theorem dX7_digest_17 : decode cX7_digest 17 = .ok (.iload_n 1, 1) := by decide +kernel
theorem dX7_digest_18 : decode cX7_digest 18 = .ok (.invokevirtual 186, 3) := by decide +kernel
theorem dX7_digest_21 : decode cX7_digest 21 = .ok (.invokevirtual 177, 3) := by decide +kernel
theorem dX7_digest_24 : decode cX7_digest 24 = .ok (.iinc 1 1, 3) := by decide +kernel
theorem dX7_digest_27 : decode cX7_digest 27 = .ok (.goto (-18), 3) := by decide +kernel
theorem dX7_digest_30 : decode cX7_digest 30 = .ok (.iconst 0, 1) := by decide +kernel
theorem dX7_digest_31 : decode cX7_digest 31 = .ok (.istore_n 1, 1) := by decide +kernel
theorem dX7_digest_32 : decode cX7_digest 32 = .ok (.iload_n 1, 1) := by decide +kernel
theorem dX7_digest_33 : decode cX7_digest 33 = .ok (.aload_n 0, 1) := by decide +kernel
theorem dX7_digest_34 : decode cX7_digest 34 = .ok (.getfield 7, 3) := by decide +kernel
theorem dX7_digest_37 : decode cX7_digest 37 = .ok (.sipush 218, 3) := by decide +kernel
theorem dX7_digest_40 : decode cX7_digest 40 = .ok (.iaload, 1) := by decide +kernel
theorem dX7_digest_41 : decode cX7_digest 41 = .ok (.if_icmp .ge 14, 3) := by decide +kernel
theorem dX7_digest_44 : decode cX7_digest 44 = .ok (.aload_n 0, 1) := by decide +kernel
theorem dX7_digest_45 : decode cX7_digest 45 = .ok (.iload_n 1, 1) := by decide +kernel
theorem dX7_digest_46 : decode cX7_digest 46 = .ok (.invokevirtual 189, 3) := by decide +kernel
theorem dX7_digest_49 : decode cX7_digest 49 = .ok (.iinc 1 1, 3) := by decide +kernel
theorem dX7_digest_52 : decode cX7_digest 52 = .ok (.goto (-20), 3) := by decide +kernel
theorem dX7_digest_55 : decode cX7_digest 55 = .ok (.iconst 0, 1) := by decide +kernel
theorem dX7_digest_56 : decode cX7_digest 56 = .ok (.istore_n 1, 1) := by decide +kernel
theorem dX7_digest_57 : decode cX7_digest 57 = .ok (.iload_n 1, 1) := by decide +kernel
theorem dX7_digest_58 : decode cX7_digest 58 = .ok (.bipush 120, 2) := by decide +kernel
theorem dX7_digest_60 : decode cX7_digest 60 = .ok (.if_icmp .ge 19, 3) := by decide +kernel
theorem dX7_digest_63 : decode cX7_digest 63 = .ok (.aload_n 0, 1) := by decide +kernel
theorem dX7_digest_64 : decode cX7_digest 64 = .ok (.aload_n 0, 1) := by decide +kernel
theorem dX7_digest_65 : decode cX7_digest 65 = .ok (.getfield 7, 3) := by decide +kernel
theorem dX7_digest_68 : decode cX7_digest 68 = .ok (.iload_n 1, 1) := by decide +kernel
theorem dX7_digest_69 : decode cX7_digest 69 = .ok (.iaload, 1) := by decide +kernel
theorem dX7_digest_70 : decode cX7_digest 70 = .ok (.invokevirtual 177, 3) := by decide +kernel
theorem dX7_digest_73 : decode cX7_digest 73 = .ok (.iinc 1 1, 3) := by decide +kernel
theorem dX7_digest_76 : decode cX7_digest 76 = .ok (.goto (-19), 3) := by decide +kernel
theorem dX7_digest_79 : decode cX7_digest 79 = .ok (.iconst 0, 1) := by decide +kernel
theorem dX7_digest_80 : decode cX7_digest 80 = .ok (.istore_n 1, 1) := by decide +kernel
theorem dX7_digest_81 : decode cX7_digest 81 = .ok (.iload_n 1, 1) := by decide +kernel
theorem dX7_digest_82 : decode cX7_digest 82 = .ok (.bipush 18, 2) := by decide +kernel
theorem dX7_digest_84 : decode cX7_digest 84 = .ok (.if_icmp .ge 25, 3) := by decide +kernel
theorem dX7_digest_87 : decode cX7_digest 87 = .ok (.aload_n 0, 1) := by decide +kernel
theorem dX7_digest_88 : decode cX7_digest 88 = .ok (.aload_n 0, 1) := by decide +kernel
theorem dX7_digest_89 : decode cX7_digest 89 = .ok (.iload_n 1, 1) := by decide +kernel
theorem dX7_digest_90 : decode cX7_digest 90 = .ok (.bipush 6, 2) := by decide +kernel
theorem dX7_digest_92 : decode cX7_digest 92 = .ok (.idiv, 1) := by decide +kernel
theorem dX7_digest_93 : decode cX7_digest 93 = .ok (.iload_n 1, 1) := by decide +kernel
theorem dX7_digest_94 : decode cX7_digest 94 = .ok (.bipush 6, 2) := by decide +kernel
theorem dX7_digest_96 : decode cX7_digest 96 = .ok (.irem, 1) := by decide +kernel
theorem dX7_digest_97 : decode cX7_digest 97 = .ok (.invokevirtual 192, 3) := by decide +kernel
theorem dX7_digest_100 : decode cX7_digest 100 = .ok (.invokevirtual 177, 3) := by decide +kernel
theorem dX7_digest_103 : decode cX7_digest 103 = .ok (.iinc 1 1, 3) := by decide +kernel
theorem dX7_digest_106 : decode cX7_digest 106 = .ok (.goto (-25), 3) := by decide +kernel
theorem dX7_digest_109 : decode cX7_digest 109 = .ok (.aload_n 0, 1) := by decide +kernel
theorem dX7_digest_110 : decode cX7_digest 110 = .ok (.aload_n 0, 1) := by decide +kernel
theorem dX7_digest_111 : decode cX7_digest 111 = .ok (.iconst (-1), 1) := by decide +kernel
theorem dX7_digest_112 : decode cX7_digest 112 = .ok (.invokevirtual 156, 3) := by decide +kernel
theorem dX7_digest_115 : decode cX7_digest 115 = .ok (.invokevirtual 177, 3) := by decide +kernel
theorem dX7_digest_118 : decode cX7_digest 118 = .ok (.iconst 0, 1) := by decide +kernel
theorem dX7_digest_119 : decode cX7_digest 119 = .ok (.istore_n 1, 1) := by decide +kernel
theorem dX7_digest_120 : decode cX7_digest 120 = .ok (.iload_n 1, 1) := by decide +kernel
theorem dX7_digest_121 : decode cX7_digest 121 = .ok (.iconst 5, 1) := by decide +kernel
theorem dX7_digest_122 : decode cX7_digest 122 = .ok (.aload_n 0, 1) := by decide +kernel
theorem dX7_digest_123 : decode cX7_digest 123 = .ok (.getfield 7, 3) := by decide +kernel
theorem dX7_digest_126 : decode cX7_digest 126 = .ok (.sipush 223, 3) := by decide +kernel
theorem dX7_digest_129 : decode cX7_digest 129 = .ok (.iaload, 1) := by decide +kernel
theorem dX7_digest_130 : decode cX7_digest 130 = .ok (.imul, 1) := by decide +kernel
theorem dX7_digest_131 : decode cX7_digest 131 = .ok (.if_icmp .ge 23, 3) := by decide +kernel
theorem dX7_digest_134 : decode cX7_digest 134 = .ok (.aload_n 0, 1) := by decide +kernel
theorem dX7_digest_135 : decode cX7_digest 135 = .ok (.aload_n 0, 1) := by decide +kernel
theorem dX7_digest_136 : decode cX7_digest 136 = .ok (.getfield 7, 3) := by decide +kernel
theorem dX7_digest_139 : decode cX7_digest 139 = .ok (.sipush 168, 3) := by decide +kernel
theorem dX7_digest_142 : decode cX7_digest 142 = .ok (.iload_n 1, 1) := by decide +kernel
theorem dX7_digest_143 : decode cX7_digest 143 = .ok (.iadd, 1) := by decide +kernel
theorem dX7_digest_144 : decode cX7_digest 144 = .ok (.iaload, 1) := by decide +kernel
theorem dX7_digest_145 : decode cX7_digest 145 = .ok (.invokevirtual 177, 3) := by decide +kernel
theorem dX7_digest_148 : decode cX7_digest 148 = .ok (.iinc 1 1, 3) := by decide +kernel
theorem dX7_digest_151 : decode cX7_digest 151 = .ok (.goto (-31), 3) := by decide +kernel
theorem dX7_digest_154 : decode cX7_digest 154 = .ok (.iconst 0, 1) := by decide +kernel
theorem dX7_digest_155 : decode cX7_digest 155 = .ok (.istore_n 1, 1) := by decide +kernel
theorem dX7_digest_156 : decode cX7_digest 156 = .ok (.iload_n 1, 1) := by decide +kernel
theorem dX7_digest_157 : decode cX7_digest 157 = .ok (.bipush 7, 2) := by decide +kernel
theorem dX7_digest_159 : decode cX7_digest 159 = .ok (.if_icmp .ge 20, 3) := by decide +kernel
theorem dX7_digest_162 : decode cX7_digest 162 = .ok (.aload_n 0, 1) := by decide +kernel
theorem dX7_digest_163 : decode cX7_digest 163 = .ok (.aload_n 0, 1) := by decide +kernel
theorem dX7_digest_164 : decode cX7_digest 164 = .ok (.bipush 20, 2) := by decide +kernel
theorem dX7_digest_166 : decode cX7_digest 166 = .ok (.iload_n 1, 1) := by decide +kernel
theorem dX7_digest_167 : decode cX7_digest 167 = .ok (.invokevirtual 195, 3) := by decide +kernel
theorem dX7_digest_170 : decode cX7_digest 170 = .ok (.invokevirtual 177, 3) := by decide +kernel
theorem dX7_digest_173 : decode cX7_digest 173 = .ok (.iinc 1 1, 3) := by decide +kernel
theorem dX7_digest_176 : decode cX7_digest 176 = .ok (.goto (-20), 3) := by decide +kernel
theorem dX7_digest_179 : decode cX7_digest 179 = .ok (.aload_n 0, 1) := by decide +kernel
theorem dX7_digest_180 : decode cX7_digest 180 = .ok (.aload_n 0, 1) := by decide +kernel
theorem dX7_digest_181 : decode cX7_digest 181 = .ok (.invokevirtual 198, 3) := by decide +kernel
theorem dX7_digest_184 : decode cX7_digest 184 = .ok (.invokevirtual 177, 3) := by decide +kernel
theorem dX7_digest_187 : decode cX7_digest 187 = .ok (.iconst 0, 1) := by decide +kernel
theorem dX7_digest_188 : decode cX7_digest 188 = .ok (.istore_n 1, 1) := by decide +kernel
theorem dX7_digest_189 : decode cX7_digest 189 = .ok (.iload_n 1, 1) := by decide +kernel
theorem dX7_digest_190 : decode cX7_digest 190 = .ok (.aload_n 0, 1) := by decide +kernel
theorem dX7_digest_191 : decode cX7_digest 191 = .ok (.getfield 41, 3) := by decide +kernel
theorem dX7_digest_194 : decode cX7_digest 194 = .ok (.if_icmp .ge 19, 3) := by decide +kernel
theorem dX7_digest_197 : decode cX7_digest 197 = .ok (.aload_n 0, 1) := by decide +kernel
theorem dX7_digest_198 : decode cX7_digest 198 = .ok (.aload_n 0, 1) := by decide +kernel
theorem dX7_digest_199 : decode cX7_digest 199 = .ok (.getfield 19, 3) := by decide +kernel
theorem dX7_digest_202 : decode cX7_digest 202 = .ok (.iload_n 1, 1) := by decide +kernel
theorem dX7_digest_203 : decode cX7_digest 203 = .ok (.iaload, 1) := by decide +kernel
theorem dX7_digest_204 : decode cX7_digest 204 = .ok (.invokevirtual 177, 3) := by decide +kernel
theorem dX7_digest_207 : decode cX7_digest 207 = .ok (.iinc 1 1, 3) := by decide +kernel
theorem dX7_digest_210 : decode cX7_digest 210 = .ok (.goto (-21), 3) := by decide +kernel
theorem dX7_digest_213 : decode cX7_digest 213 = .ok (.aload_n 0, 1) := by decide +kernel
theorem dX7_digest_214 : decode cX7_digest 214 = .ok (.getfield 170, 3) := by decide +kernel
theorem dX7_digest_217 : decode cX7_digest 217 = .ok (.lreturn, 1) := by decide +kernel
theorem dJ11_isValidCodePoint_9a6ad_0 : decode cJ11_isValidCodePoint_9a6ad 0 = .ok (.iload_n 0, 1) := by decide +kernel
theorem dJ11_isValidCodePoint_9a6ad_1 : decode cJ11_isValidCodePoint_9a6ad 1 = .ok (.bipush 16, 2) := by decide +kernel
theorem dJ11_isValidCodePoint_9a6ad_3 : decode cJ11_isValidCodePoint_9a6ad 3 = .ok (.iushr, 1) := by decide +kernel
theorem dJ11_isValidCodePoint_9a6ad_4 : decode cJ11_isValidCodePoint_9a6ad 4 = .ok (.istore_n 1, 1) := by decide +kernel
theorem dJ11_isValidCodePoint_9a6ad_5 : decode cJ11_isValidCodePoint_9a6ad 5 = .ok (.iload_n 1, 1) := by decide +kernel
theorem dJ11_isValidCodePoint_9a6ad_6 : decode cJ11_isValidCodePoint_9a6ad 6 = .ok (.bipush 17, 2) := by decide +kernel
theorem dJ11_isValidCodePoint_9a6ad_8 : decode cJ11_isValidCodePoint_9a6ad 8 = .ok (.if_icmp .ge 7, 3) := by decide +kernel
theorem dJ11_isValidCodePoint_9a6ad_11 : decode cJ11_isValidCodePoint_9a6ad 11 = .ok (.iconst 1, 1) := by decide +kernel
theorem dJ11_isValidCodePoint_9a6ad_12 : decode cJ11_isValidCodePoint_9a6ad 12 = .ok (.goto 4, 3) := by decide +kernel
theorem dJ11_isValidCodePoint_9a6ad_15 : decode cJ11_isValidCodePoint_9a6ad 15 = .ok (.iconst 0, 1) := by decide +kernel
theorem dJ11_isValidCodePoint_9a6ad_16 : decode cJ11_isValidCodePoint_9a6ad 16 = .ok (.ireturn, 1) := by decide +kernel
theorem dJ11_highSurrogate_5068e_0 : decode cJ11_highSurrogate_5068e 0 = .ok (.iload_n 0, 1) := by decide +kernel
theorem dJ11_highSurrogate_5068e_1 : decode cJ11_highSurrogate_5068e 1 = .ok (.bipush 10, 2) := by decide +kernel
theorem dJ11_highSurrogate_5068e_3 : decode cJ11_highSurrogate_5068e 3 = .ok (.iushr, 1) := by decide +kernel
theorem dJ11_highSurrogate_5068e_4 : decode cJ11_highSurrogate_5068e 4 = .ok (.ldc 110, 2) := by decide +kernel
theorem dJ11_highSurrogate_5068e_6 : decode cJ11_highSurrogate_5068e 6 = .ok (.iadd, 1) := by decide +kernel
theorem dJ11_highSurrogate_5068e_7 : decode cJ11_highSurrogate_5068e 7 = .ok (.i2c, 1) := by decide +kernel
theorem dJ11_highSurrogate_5068e_8 : decode cJ11_highSurrogate_5068e 8 = .ok (.ireturn, 1) := by decide +kernel
theorem dJ11_lowSurrogate_5068e_0 : decode cJ11_lowSurrogate_5068e 0 = .ok (.iload_n 0, 1) := by decide +kernel
theorem dJ11_lowSurrogate_5068e_1 : decode cJ11_lowSurrogate_5068e 1 = .ok (.sipush 1023, 3) := by decide +kernel
theorem dJ11_lowSurrogate_5068e_4 : decode cJ11_lowSurrogate_5068e 4 = .ok (.iand, 1) := by decide +kernel
theorem dJ11_lowSurrogate_5068e_5 : decode cJ11_lowSurrogate_5068e 5 = .ok (.ldc 76, 2) := by decide +kernel
theorem dJ11_lowSurrogate_5068e_7 : decode cJ11_lowSurrogate_5068e 7 = .ok (.iadd, 1) := by decide +kernel
theorem dJ11_lowSurrogate_5068e_8 : decode cJ11_lowSurrogate_5068e 8 = .ok (.i2c, 1) := by decide +kernel
theorem dJ11_lowSurrogate_5068e_9 : decode cJ11_lowSurrogate_5068e 9 = .ok (.ireturn, 1) := by decide +kernel
theorem dJ9_floorMod_7cf53_0 : decode cJ9_floorMod_7cf53 0 = .ok (.iload_n 0, 1) := by decide +kernel
theorem dJ9_floorMod_7cf53_1 : decode cJ9_floorMod_7cf53 1 = .ok (.iload_n 1, 1) := by decide +kernel
theorem dJ9_floorMod_7cf53_2 : decode cJ9_floorMod_7cf53 2 = .ok (.irem, 1) := by decide +kernel
theorem dJ9_floorMod_7cf53_3 : decode cJ9_floorMod_7cf53 3 = .ok (.istore_n 2, 1) := by decide +kernel
theorem dJ9_floorMod_7cf53_4 : decode cJ9_floorMod_7cf53 4 = .ok (.iload_n 0, 1) := by decide +kernel
theorem dJ9_floorMod_7cf53_5 : decode cJ9_floorMod_7cf53 5 = .ok (.iload_n 1, 1) := by decide +kernel
theorem dJ9_floorMod_7cf53_6 : decode cJ9_floorMod_7cf53 6 = .ok (.ixor, 1) := by decide +kernel
theorem dJ9_floorMod_7cf53_7 : decode cJ9_floorMod_7cf53 7 = .ok (.ifCond .ge 11, 3) := by decide +kernel
theorem dJ9_floorMod_7cf53_10 : decode cJ9_floorMod_7cf53 10 = .ok (.iload_n 2, 1) := by decide +kernel
theorem dJ9_floorMod_7cf53_11 : decode cJ9_floorMod_7cf53 11 = .ok (.ifCond .eq 7, 3) := by decide +kernel
theorem dJ9_floorMod_7cf53_14 : decode cJ9_floorMod_7cf53 14 = .ok (.iload_n 2, 1) := by decide +kernel
theorem dJ9_floorMod_7cf53_15 : decode cJ9_floorMod_7cf53 15 = .ok (.iload_n 1, 1) := by decide +kernel
theorem dJ9_floorMod_7cf53_16 : decode cJ9_floorMod_7cf53 16 = .ok (.iadd, 1) := by decide +kernel
theorem dJ9_floorMod_7cf53_17 : decode cJ9_floorMod_7cf53 17 = .ok (.ireturn, 1) := by decide +kernel
theorem dJ9_floorMod_7cf53_18 : decode cJ9_floorMod_7cf53 18 = .ok (.iload_n 2, 1) := by decide +kernel
theorem dJ9_floorMod_7cf53_19 : decode cJ9_floorMod_7cf53 19 = .ok (.ireturn, 1) := by decide +kernel
theorem dJ9_abs_0f7a4_0 : decode cJ9_abs_0f7a4 0 = .ok (.iload_n 0, 1) := by decide +kernel
theorem dJ9_abs_0f7a4_1 : decode cJ9_abs_0f7a4 1 = .ok (.ifCond .ge 8, 3) := by decide +kernel
theorem dJ9_abs_0f7a4_4 : decode cJ9_abs_0f7a4 4 = .ok (.iload_n 0, 1) := by decide +kernel
theorem dJ9_abs_0f7a4_5 : decode cJ9_abs_0f7a4 5 = .ok (.ineg, 1) := by decide +kernel
theorem dJ9_abs_0f7a4_6 : decode cJ9_abs_0f7a4 6 = .ok (.goto 4, 3) := by decide +kernel
theorem dJ9_abs_0f7a4_9 : decode cJ9_abs_0f7a4 9 = .ok (.iload_n 0, 1) := by decide +kernel
theorem dJ9_abs_0f7a4_10 : decode cJ9_abs_0f7a4 10 = .ok (.ireturn, 1) := by decide +kernel
theorem dJ9_max_7cf53_0 : decode cJ9_max_7cf53 0 = .ok (.iload_n 0, 1) := by decide +kernel
theorem dJ9_max_7cf53_1 : decode cJ9_max_7cf53 1 = .ok (.iload_n 1, 1) := by decide +kernel
theorem dJ9_max_7cf53_2 : decode cJ9_max_7cf53 2 = .ok (.if_icmp .lt 7, 3) := by decide +kernel
theorem dJ9_max_7cf53_5 : decode cJ9_max_7cf53 5 = .ok (.iload_n 0, 1) := by decide +kernel
theorem dJ9_max_7cf53_6 : decode cJ9_max_7cf53 6 = .ok (.goto 4, 3) := by decide +kernel
theorem dJ9_max_7cf53_9 : decode cJ9_max_7cf53 9 = .ok (.iload_n 1, 1) := by decide +kernel
theorem dJ9_max_7cf53_10 : decode cJ9_max_7cf53 10 = .ok (.ireturn, 1) := by decide +kernel
theorem dJ9_min_7cf53_0 : decode cJ9_min_7cf53 0 = .ok (.iload_n 0, 1) := by decide +kernel
theorem dJ9_min_7cf53_1 : decode cJ9_min_7cf53 1 = .ok (.iload_n 1, 1) := by decide +kernel
theorem dJ9_min_7cf53_2 : decode cJ9_min_7cf53 2 = .ok (.if_icmp .gt 7, 3) := by decide +kernel
theorem dJ9_min_7cf53_5 : decode cJ9_min_7cf53 5 = .ok (.iload_n 0, 1) := by decide +kernel
theorem dJ9_min_7cf53_6 : decode cJ9_min_7cf53 6 = .ok (.goto 4, 3) := by decide +kernel
theorem dJ9_min_7cf53_9 : decode cJ9_min_7cf53 9 = .ok (.iload_n 1, 1) := by decide +kernel
theorem dJ9_min_7cf53_10 : decode cJ9_min_7cf53 10 = .ok (.ireturn, 1) := by decide +kernel
theorem dJ0_length_8abf5_0 : decode cJ0_length_8abf5 0 = .ok (.aload_n 0, 1) := by decide +kernel
theorem dJ0_length_8abf5_1 : decode cJ0_length_8abf5 1 = .ok (.getfield 9, 3) := by decide +kernel
theorem dJ0_length_8abf5_4 : decode cJ0_length_8abf5 4 = .ok (.arraylength, 1) := by decide +kernel
theorem dJ0_length_8abf5_5 : decode cJ0_length_8abf5 5 = .ok (.aload_n 0, 1) := by decide +kernel
theorem dJ0_length_8abf5_6 : decode cJ0_length_8abf5 6 = .ok (.invokevirtual 335, 3) := by decide +kernel
theorem dJ0_length_8abf5_9 : decode cJ0_length_8abf5 9 = .ok (.ishr, 1) := by decide +kernel
theorem dJ0_length_8abf5_10 : decode cJ0_length_8abf5 10 = .ok (.ireturn, 1) := by decide +kernel
theorem dJ0_indexOf_0f7a4_0 : decode cJ0_indexOf_0f7a4 0 = .ok (.aload_n 0, 1) := by decide +kernel
theorem dJ0_indexOf_0f7a4_1 : decode cJ0_indexOf_0f7a4 1 = .ok (.iload_n 1, 1) := by decide +kernel
theorem dJ0_indexOf_0f7a4_2 : decode cJ0_indexOf_0f7a4 2 = .ok (.iconst 0, 1) := by decide +kernel
theorem dJ0_indexOf_0f7a4_3 : decode cJ0_indexOf_0f7a4 3 = .ok (.invokevirtual 633, 3) := by decide +kernel
theorem dJ0_indexOf_0f7a4_6 : decode cJ0_indexOf_0f7a4 6 = .ok (.ireturn, 1) := by decide +kernel
theorem dJ0_indexOf_7cf53_0 : decode cJ0_indexOf_7cf53 0 = .ok (.aload_n 0, 1) := by decide +kernel
theorem dJ0_indexOf_7cf53_1 : decode cJ0_indexOf_7cf53 1 = .ok (.invokevirtual 492, 3) := by decide +kernel
theorem dJ0_indexOf_7cf53_4 : decode cJ0_indexOf_7cf53 4 = .ok (.ifCond .eq 19, 3) := by decide +kernel
theorem dJ0_indexOf_7cf53_7 : decode cJ0_indexOf_7cf53 7 = .ok (.aload_n 0, 1) := by decide +kernel
theorem dJ0_indexOf_7cf53_8 : decode cJ0_indexOf_7cf53 8 = .ok (.getfield 9, 3) := by decide +kernel
theorem dJ0_indexOf_7cf53_11 : decode cJ0_indexOf_7cf53 11 = .ok (.iload_n 1, 1) := by decide +kernel
theorem dJ0_indexOf_7cf53_12 : decode cJ0_indexOf_7cf53 12 = .ok (.iload_n 2, 1) := by decide +kernel
theorem dJ0_indexOf_7cf53_13 : decode cJ0_indexOf_7cf53 13 = .ok (.aload_n 0, 1) := by decide +kernel
theorem dJ0_indexOf_7cf53_14 : decode cJ0_indexOf_7cf53 14 = .ok (.invokevirtual 505, 3) := by decide +kernel
theorem dJ0_indexOf_7cf53_17 : decode cJ0_indexOf_7cf53 17 = .ok (.invokestatic 637, 3) := by decide +kernel
theorem dJ0_indexOf_7cf53_20 : decode cJ0_indexOf_7cf53 20 = .ok (.goto 16, 3) := by decide +kernel
theorem dJ0_indexOf_7cf53_23 : decode cJ0_indexOf_7cf53 23 = .ok (.aload_n 0, 1) := by decide +kernel
theorem dJ0_indexOf_7cf53_24 : decode cJ0_indexOf_7cf53 24 = .ok (.getfield 9, 3) := by decide +kernel
theorem dJ0_indexOf_7cf53_27 : decode cJ0_indexOf_7cf53 27 = .ok (.iload_n 1, 1) := by decide +kernel
theorem dJ0_indexOf_7cf53_28 : decode cJ0_indexOf_7cf53 28 = .ok (.iload_n 2, 1) := by decide +kernel
theorem dJ0_indexOf_7cf53_29 : decode cJ0_indexOf_7cf53 29 = .ok (.aload_n 0, 1) := by decide +kernel
theorem dJ0_indexOf_7cf53_30 : decode cJ0_indexOf_7cf53 30 = .ok (.invokevirtual 505, 3) := by decide +kernel
theorem dJ0_indexOf_7cf53_33 : decode cJ0_indexOf_7cf53 33 = .ok (.invokestatic 640, 3) := by decide +kernel
theorem dJ0_indexOf_7cf53_36 : decode cJ0_indexOf_7cf53 36 = .ok (.ireturn, 1) := by decide +kernel
theorem dJ0_coder_7d493_0 : decode cJ0_coder_7d493 0 = .ok (.getstatic 38, 3) := by decide +kernel
theorem dJ0_coder_7d493_3 : decode cJ0_coder_7d493 3 = .ok (.ifCond .eq 10, 3) := by decide +kernel
theorem dJ0_coder_7d493_6 : decode cJ0_coder_7d493 6 = .ok (.aload_n 0, 1) := by decide +kernel
theorem dJ0_coder_7d493_7 : decode cJ0_coder_7d493 7 = .ok (.getfield 15, 3) := by decide +kernel
theorem dJ0_coder_7d493_10 : decode cJ0_coder_7d493 10 = .ok (.goto 4, 3) := by decide +kernel
theorem dJ0_coder_7d493_13 : decode cJ0_coder_7d493 13 = .ok (.iconst 1, 1) := by decide +kernel
theorem dJ0_coder_7d493_14 : decode cJ0_coder_7d493 14 = .ok (.ireturn, 1) := by decide +kernel
theorem dJ0_isLatin1_aae02_0 : decode cJ0_isLatin1_aae02 0 = .ok (.getstatic 38, 3) := by decide +kernel
theorem dJ0_isLatin1_aae02_3 : decode cJ0_isLatin1_aae02 3 = .ok (.ifCond .eq 14, 3) := by decide +kernel
theorem dJ0_isLatin1_aae02_6 : decode cJ0_isLatin1_aae02 6 = .ok (.aload_n 0, 1) := by decide +kernel
theorem dJ0_isLatin1_aae02_7 : decode cJ0_isLatin1_aae02 7 = .ok (.getfield 15, 3) := by decide +kernel
theorem dJ0_isLatin1_aae02_10 : decode cJ0_isLatin1_aae02 10 = .ok (.ifCond .ne 7, 3) := by decide +kernel
theorem dJ0_isLatin1_aae02_13 : decode cJ0_isLatin1_aae02 13 = .ok (.iconst 1, 1) := by decide +kernel
theorem dJ0_isLatin1_aae02_14 : decode cJ0_isLatin1_aae02 14 = .ok (.goto 4, 3) := by decide +kernel
theorem dJ0_isLatin1_aae02_17 : decode cJ0_isLatin1_aae02 17 = .ok (.iconst 0, 1) := by decide +kernel
theorem dJ0_isLatin1_aae02_18 : decode cJ0_isLatin1_aae02 18 = .ok (.ireturn, 1) := by decide +kernel
theorem dJ0_checkBoundsBeginEnd_23922_0 : decode cJ0_checkBoundsBeginEnd_23922 0 = .ok (.iload_n 0, 1) := by decide +kernel
theorem dJ0_checkBoundsBeginEnd_23922_1 : decode cJ0_checkBoundsBeginEnd_23922 1 = .ok (.iload_n 1, 1) := by decide +kernel
theorem dJ0_checkBoundsBeginEnd_23922_2 : decode cJ0_checkBoundsBeginEnd_23922 2 = .ok (.iload_n 2, 1) := by decide +kernel
theorem dJ0_checkBoundsBeginEnd_23922_3 : decode cJ0_checkBoundsBeginEnd_23922 3 = .ok (.getstatic 1053, 3) := by decide +kernel
theorem dJ0_checkBoundsBeginEnd_23922_6 : decode cJ0_checkBoundsBeginEnd_23922 6 = .ok (.invokestatic 1062, 3) := by decide +kernel
theorem dJ0_checkBoundsBeginEnd_23922_9 : decode cJ0_checkBoundsBeginEnd_23922 9 = .ok (.pop, 1) := by decide +kernel
theorem dJ0_checkBoundsBeginEnd_23922_10 : decode cJ0_checkBoundsBeginEnd_23922 10 = .ok (.return_, 1) := by decide +kernel
theorem dJ1_canEncode_9a6ad_0 : decode cJ1_canEncode_9a6ad 0 = .ok (.iload_n 0, 1) := by decide +kernel
theorem dJ1_canEncode_9a6ad_1 : decode cJ1_canEncode_9a6ad 1 = .ok (.ifCond .lt 14, 3) := by decide +kernel
theorem dJ1_canEncode_9a6ad_4 : decode cJ1_canEncode_9a6ad 4 = .ok (.iload_n 0, 1) := by decide +kernel
theorem dJ1_canEncode_9a6ad_5 : decode cJ1_canEncode_9a6ad 5 = .ok (.sipush 255, 3) := by decide +kernel
theorem dJ1_canEncode_9a6ad_8 : decode cJ1_canEncode_9a6ad 8 = .ok (.if_icmp .gt 7, 3) := by decide +kernel
theorem dJ1_canEncode_9a6ad_11 : decode cJ1_canEncode_9a6ad 11 = .ok (.iconst 1, 1) := by decide +kernel
theorem dJ1_canEncode_9a6ad_12 : decode cJ1_canEncode_9a6ad 12 = .ok (.goto 4, 3) := by decide +kernel
theorem dJ1_canEncode_9a6ad_15 : decode cJ1_canEncode_9a6ad 15 = .ok (.iconst 0, 1) := by decide +kernel
theorem dJ1_canEncode_9a6ad_16 : decode cJ1_canEncode_9a6ad 16 = .ok (.ireturn, 1) := by decide +kernel
theorem dJ1_indexOf_4cfef_0 : decode cJ1_indexOf_4cfef 0 = .ok (.iload_n 1, 1) := by decide +kernel
theorem dJ1_indexOf_4cfef_1 : decode cJ1_indexOf_4cfef 1 = .ok (.invokestatic 88, 3) := by decide +kernel
theorem dJ1_indexOf_4cfef_4 : decode cJ1_indexOf_4cfef 4 = .ok (.ifCond .ne 5, 3) := by decide +kernel
theorem dJ1_indexOf_4cfef_7 : decode cJ1_indexOf_4cfef 7 = .ok (.iconst (-1), 1) := by decide +kernel
theorem dJ1_indexOf_4cfef_8 : decode cJ1_indexOf_4cfef 8 = .ok (.ireturn, 1) := by decide +kernel
theorem dJ1_indexOf_4cfef_9 : decode cJ1_indexOf_4cfef 9 = .ok (.iload_n 2, 1) := by decide +kernel
theorem dJ1_indexOf_4cfef_10 : decode cJ1_indexOf_4cfef 10 = .ok (.iconst 0, 1) := by decide +kernel
theorem dJ1_indexOf_4cfef_11 : decode cJ1_indexOf_4cfef 11 = .ok (.invokestatic 92, 3) := by decide +kernel
theorem dJ1_indexOf_4cfef_14 : decode cJ1_indexOf_4cfef 14 = .ok (.istore_n 2, 1) := by decide +kernel
theorem dJ1_indexOf_4cfef_15 : decode cJ1_indexOf_4cfef 15 = .ok (.iload_n 3, 1) := by decide +kernel
theorem dJ1_indexOf_4cfef_16 : decode cJ1_indexOf_4cfef 16 = .ok (.aload_n 0, 1) := by decide +kernel
theorem dJ1_indexOf_4cfef_17 : decode cJ1_indexOf_4cfef 17 = .ok (.arraylength, 1) := by decide +kernel
theorem dJ1_indexOf_4cfef_18 : decode cJ1_indexOf_4cfef 18 = .ok (.invokestatic 38, 3) := by decide +kernel
theorem dJ1_indexOf_4cfef_21 : decode cJ1_indexOf_4cfef 21 = .ok (.istore_n 3, 1) := by decide +kernel
theorem dJ1_indexOf_4cfef_22 : decode cJ1_indexOf_4cfef 22 = .ok (.iload_n 2, 1) := by decide +kernel
theorem dJ1_indexOf_4cfef_23 : decode cJ1_indexOf_4cfef 23 = .ok (.iload_n 3, 1) := by decide +kernel
theorem dJ1_indexOf_4cfef_24 : decode cJ1_indexOf_4cfef 24 = .ok (.if_icmp .lt 5, 3) := by decide +kernel
theorem dJ1_indexOf_4cfef_27 : decode cJ1_indexOf_4cfef 27 = .ok (.iconst (-1), 1) := by decide +kernel
theorem dJ1_indexOf_4cfef_28 : decode cJ1_indexOf_4cfef 28 = .ok (.ireturn, 1) := by decide +kernel
theorem dJ1_indexOf_4cfef_29 : decode cJ1_indexOf_4cfef 29 = .ok (.aload_n 0, 1) := by decide +kernel
theorem dJ1_indexOf_4cfef_30 : decode cJ1_indexOf_4cfef 30 = .ok (.iload_n 1, 1) := by decide +kernel
theorem dJ1_indexOf_4cfef_31 : decode cJ1_indexOf_4cfef 31 = .ok (.iload_n 2, 1) := by decide +kernel
theorem dJ1_indexOf_4cfef_32 : decode cJ1_indexOf_4cfef 32 = .ok (.iload_n 3, 1) := by decide +kernel
theorem dJ1_indexOf_4cfef_33 : decode cJ1_indexOf_4cfef 33 = .ok (.invokestatic 95, 3) := by decide +kernel
theorem dJ1_indexOf_4cfef_36 : decode cJ1_indexOf_4cfef 36 = .ok (.ireturn, 1) := by decide +kernel
theorem dJ1_indexOfChar_4cfef_0 : decode cJ1_indexOfChar_4cfef 0 = .ok (.iload_n 1, 1) := by decide +kernel
theorem dJ1_indexOfChar_4cfef_1 : decode cJ1_indexOfChar_4cfef 1 = .ok (.i2b, 1) := by decide +kernel
theorem dJ1_indexOfChar_4cfef_2 : decode cJ1_indexOfChar_4cfef 2 = .ok (.istore 4, 2) := by decide +kernel
theorem dJ1_indexOfChar_4cfef_4 : decode cJ1_indexOfChar_4cfef 4 = .ok (.iload_n 2, 1) := by decide +kernel
theorem dJ1_indexOfChar_4cfef_5 : decode cJ1_indexOfChar_4cfef 5 = .ok (.istore 5, 2) := by decide +kernel
theorem dJ1_indexOfChar_4cfef_7 : decode cJ1_indexOfChar_4cfef 7 = .ok (.iload 5, 2) := by decide +kernel
theorem dJ1_indexOfChar_4cfef_9 : decode cJ1_indexOfChar_4cfef 9 = .ok (.iload_n 3, 1) := by decide +kernel
theorem dJ1_indexOfChar_4cfef_10 : decode cJ1_indexOfChar_4cfef 10 = .ok (.if_icmp .ge 21, 3) := by decide +kernel
theorem dJ1_indexOfChar_4cfef_13 : decode cJ1_indexOfChar_4cfef 13 = .ok (.aload_n 0, 1) := by decide +kernel
theorem dJ1_indexOfChar_4cfef_14 : decode cJ1_indexOfChar_4cfef 14 = .ok (.iload 5, 2) := by decide +kernel
theorem dJ1_indexOfChar_4cfef_16 : decode cJ1_indexOfChar_4cfef 16 = .ok (.baload, 1) := by decide +kernel
theorem dJ1_indexOfChar_4cfef_17 : decode cJ1_indexOfChar_4cfef 17 = .ok (.iload 4, 2) := by decide +kernel
theorem dJ1_indexOfChar_4cfef_19 : decode cJ1_indexOfChar_4cfef 19 = .ok (.if_icmp .ne 6, 3) := by decide +kernel
theorem dJ1_indexOfChar_4cfef_22 : decode cJ1_indexOfChar_4cfef 22 = .ok (.iload 5, 2) := by decide +kernel
theorem dJ1_indexOfChar_4cfef_24 : decode cJ1_indexOfChar_4cfef 24 = .ok (.ireturn, 1) := by decide +kernel
theorem dJ1_indexOfChar_4cfef_25 : decode cJ1_indexOfChar_4cfef 25 = .ok (.iinc 5 1, 3) := by decide +kernel
theorem dJ1_indexOfChar_4cfef_28 : decode cJ1_indexOfChar_4cfef 28 = .ok (.goto (-21), 3) := by decide +kernel
theorem dJ1_indexOfChar_4cfef_31 : decode cJ1_indexOfChar_4cfef 31 = .ok (.iconst (-1), 1) := by decide +kernel
theorem dJ1_indexOfChar_4cfef_32 : decode cJ1_indexOfChar_4cfef 32 = .ok (.ireturn, 1) := by decide +kernel
theorem dJ2_getChar_3b067_0 : decode cJ2_getChar_3b067 0 = .ok (.getstatic 44, 3) := by decide +kernel
theorem dJ2_getChar_3b067_3 : decode cJ2_getChar_3b067 3 = .ok (.ifCond .ne 25, 3) := by decide +kernel
theorem dJ2_getChar_3b067_6 : decode cJ2_getChar_3b067 6 = .ok (.iload_n 1, 1) := by decide +kernel
theorem dJ2_getChar_3b067_7 : decode cJ2_getChar_3b067 7 = .ok (.ifCond .lt 11, 3) := by decide +kernel
theorem dJ2_getChar_3b067_10 : decode cJ2_getChar_3b067 10 = .ok (.iload_n 1, 1) := by decide +kernel
theorem dJ2_getChar_3b067_11 : decode cJ2_getChar_3b067 11 = .ok (.aload_n 0, 1) := by decide +kernel
theorem dJ2_getChar_3b067_12 : decode cJ2_getChar_3b067 12 = .ok (.invokestatic 48, 3) := by decide +kernel
theorem dJ2_getChar_3b067_15 : decode cJ2_getChar_3b067 15 = .ok (.if_icmp .lt 13, 3) := by decide +kernel
theorem dJ2_getChar_3b067_18 : decode cJ2_getChar_3b067 18 = .ok (.new 52, 3) := by decide +kernel
theorem dJ2_getChar_3b067_21 : decode cJ2_getChar_3b067 21 = .ok (.dup, 1) := by decide +kernel
theorem dJ2_getChar_3b067_22 : decode cJ2_getChar_3b067 22 = .ok (.ldc 54, 2) := by decide +kernel
theorem dJ2_getChar_3b067_24 : decode cJ2_getChar_3b067 24 = .ok (.invokespecial 56, 3) := by decide +kernel
theorem dJ2_getChar_3b067_27 : decode cJ2_getChar_3b067 27 = .ok (.athrow, 1) := by decide +kernel
theorem dJ2_getChar_3b067_28 : decode cJ2_getChar_3b067 28 = .ok (.iload_n 1, 1) := by decide +kernel
theorem dJ2_getChar_3b067_29 : decode cJ2_getChar_3b067 29 = .ok (.iconst 1, 1) := by decide +kernel
theorem dJ2_getChar_3b067_30 : decode cJ2_getChar_3b067 30 = .ok (.ishl, 1) := by decide +kernel
theorem dJ2_getChar_3b067_31 : decode cJ2_getChar_3b067 31 = .ok (.istore_n 1, 1) := by decide +kernel
theorem dJ2_getChar_3b067_32 : decode cJ2_getChar_3b067 32 = .ok (.aload_n 0, 1) := by decide +kernel
theorem dJ2_getChar_3b067_33 : decode cJ2_getChar_3b067 33 = .ok (.iload_n 1, 1) := by decide +kernel
theorem dJ2_getChar_3b067_34 : decode cJ2_getChar_3b067 34 = .ok (.iinc 1 1, 3) := by decide +kernel
theorem dJ2_getChar_3b067_37 : decode cJ2_getChar_3b067 37 = .ok (.baload, 1) := by decide +kernel
theorem dJ2_getChar_3b067_38 : decode cJ2_getChar_3b067 38 = .ok (.sipush 255, 3) := by decide +kernel
theorem dJ2_getChar_3b067_41 : decode cJ2_getChar_3b067 41 = .ok (.iand, 1) := by decide +kernel
theorem dJ2_getChar_3b067_42 : decode cJ2_getChar_3b067 42 = .ok (.getstatic 59, 3) := by decide +kernel
theorem dJ2_getChar_3b067_45 : decode cJ2_getChar_3b067 45 = .ok (.ishl, 1) := by decide +kernel
theorem dJ2_getChar_3b067_46 : decode cJ2_getChar_3b067 46 = .ok (.aload_n 0, 1) := by decide +kernel
theorem dJ2_getChar_3b067_47 : decode cJ2_getChar_3b067 47 = .ok (.iload_n 1, 1) := by decide +kernel
theorem dJ2_getChar_3b067_48 : decode cJ2_getChar_3b067 48 = .ok (.baload, 1) := by decide +kernel
theorem dJ2_getChar_3b067_49 : decode cJ2_getChar_3b067 49 = .ok (.sipush 255, 3) := by decide +kernel
theorem dJ2_getChar_3b067_52 : decode cJ2_getChar_3b067 52 = .ok (.iand, 1) := by decide +kernel
theorem dJ2_getChar_3b067_53 : decode cJ2_getChar_3b067 53 = .ok (.getstatic 63, 3) := by decide +kernel
theorem dJ2_getChar_3b067_56 : decode cJ2_getChar_3b067 56 = .ok (.ishl, 1) := by decide +kernel
theorem dJ2_getChar_3b067_57 : decode cJ2_getChar_3b067 57 = .ok (.ior, 1) := by decide +kernel
theorem dJ2_getChar_3b067_58 : decode cJ2_getChar_3b067 58 = .ok (.i2c, 1) := by decide +kernel
theorem dJ2_getChar_3b067_59 : decode cJ2_getChar_3b067 59 = .ok (.ireturn, 1) := by decide +kernel
theorem dJ2_length_9d52b_0 : decode cJ2_length_9d52b 0 = .ok (.aload_n 0, 1) := by decide +kernel
theorem dJ2_length_9d52b_1 : decode cJ2_length_9d52b 1 = .ok (.arraylength, 1) := by decide +kernel
theorem dJ2_length_9d52b_2 : decode cJ2_length_9d52b 2 = .ok (.iconst 1, 1) := by decide +kernel
theorem dJ2_length_9d52b_3 : decode cJ2_length_9d52b 3 = .ok (.ishr, 1) := by decide +kernel
theorem dJ2_length_9d52b_4 : decode cJ2_length_9d52b 4 = .ok (.ireturn, 1) := by decide +kernel
theorem dJ2_indexOf_4cfef_0 : decode cJ2_indexOf_4cfef 0 = .ok (.iload_n 2, 1) := by decide +kernel
theorem dJ2_indexOf_4cfef_1 : decode cJ2_indexOf_4cfef 1 = .ok (.iconst 0, 1) := by decide +kernel
theorem dJ2_indexOf_4cfef_2 : decode cJ2_indexOf_4cfef 2 = .ok (.invokestatic 224, 3) := by decide +kernel
theorem dJ2_indexOf_4cfef_5 : decode cJ2_indexOf_4cfef 5 = .ok (.istore_n 2, 1) := by decide +kernel
theorem dJ2_indexOf_4cfef_6 : decode cJ2_indexOf_4cfef 6 = .ok (.iload_n 3, 1) := by decide +kernel
theorem dJ2_indexOf_4cfef_7 : decode cJ2_indexOf_4cfef 7 = .ok (.aload_n 0, 1) := by decide +kernel
theorem dJ2_indexOf_4cfef_8 : decode cJ2_indexOf_4cfef 8 = .ok (.arraylength, 1) := by decide +kernel
theorem dJ2_indexOf_4cfef_9 : decode cJ2_indexOf_4cfef 9 = .ok (.iconst 1, 1) := by decide +kernel
theorem dJ2_indexOf_4cfef_10 : decode cJ2_indexOf_4cfef 10 = .ok (.ishr, 1) := by decide +kernel
theorem dJ2_indexOf_4cfef_11 : decode cJ2_indexOf_4cfef 11 = .ok (.invokestatic 183, 3) := by decide +kernel
theorem dJ2_indexOf_4cfef_14 : decode cJ2_indexOf_4cfef 14 = .ok (.istore_n 3, 1) := by decide +kernel
theorem dJ2_indexOf_4cfef_15 : decode cJ2_indexOf_4cfef 15 = .ok (.iload_n 2, 1) := by decide +kernel
theorem dJ2_indexOf_4cfef_16 : decode cJ2_indexOf_4cfef 16 = .ok (.iload_n 3, 1) := by decide +kernel
theorem dJ2_indexOf_4cfef_17 : decode cJ2_indexOf_4cfef 17 = .ok (.if_icmp .lt 5, 3) := by decide +kernel
theorem dJ2_indexOf_4cfef_20 : decode cJ2_indexOf_4cfef 20 = .ok (.iconst (-1), 1) := by decide +kernel
theorem dJ2_indexOf_4cfef_21 : decode cJ2_indexOf_4cfef 21 = .ok (.ireturn, 1) := by decide +kernel
theorem dJ2_indexOf_4cfef_22 : decode cJ2_indexOf_4cfef 22 = .ok (.iload_n 1, 1) := by decide +kernel
theorem dJ2_indexOf_4cfef_23 : decode cJ2_indexOf_4cfef 23 = .ok (.ldc 227, 2) := by decide +kernel
theorem dJ2_indexOf_4cfef_25 : decode cJ2_indexOf_4cfef 25 = .ok (.if_icmp .ge 11, 3) := by decide +kernel
theorem dJ2_indexOf_4cfef_28 : decode cJ2_indexOf_4cfef 28 = .ok (.aload_n 0, 1) := by decide +kernel
theorem dJ2_indexOf_4cfef_29 : decode cJ2_indexOf_4cfef 29 = .ok (.iload_n 1, 1) := by decide +kernel
theorem dJ2_indexOf_4cfef_30 : decode cJ2_indexOf_4cfef 30 = .ok (.iload_n 2, 1) := by decide +kernel
theorem dJ2_indexOf_4cfef_31 : decode cJ2_indexOf_4cfef 31 = .ok (.iload_n 3, 1) := by decide +kernel
theorem dJ2_indexOf_4cfef_32 : decode cJ2_indexOf_4cfef 32 = .ok (.invokestatic 228, 3) := by decide +kernel
theorem dJ2_indexOf_4cfef_35 : decode cJ2_indexOf_4cfef 35 = .ok (.ireturn, 1) := by decide +kernel
theorem dJ2_indexOf_4cfef_36 : decode cJ2_indexOf_4cfef 36 = .ok (.aload_n 0, 1) := by decide +kernel
theorem dJ2_indexOf_4cfef_37 : decode cJ2_indexOf_4cfef 37 = .ok (.iload_n 1, 1) := by decide +kernel
theorem dJ2_indexOf_4cfef_38 : decode cJ2_indexOf_4cfef 38 = .ok (.iload_n 2, 1) := by decide +kernel
theorem dJ2_indexOf_4cfef_39 : decode cJ2_indexOf_4cfef 39 = .ok (.iload_n 3, 1) := by decide +kernel
theorem dJ2_indexOf_4cfef_40 : decode cJ2_indexOf_4cfef 40 = .ok (.invokestatic 232, 3) := by decide +kernel
theorem dJ2_indexOf_4cfef_43 : decode cJ2_indexOf_4cfef 43 = .ok (.ireturn, 1) := by decide +kernel
theorem dJ2_indexOfChar_4cfef_0 : decode cJ2_indexOfChar_4cfef 0 = .ok (.iload_n 2, 1) := by decide +kernel
theorem dJ2_indexOfChar_4cfef_1 : decode cJ2_indexOfChar_4cfef 1 = .ok (.iload_n 3, 1) := by decide +kernel
theorem dJ2_indexOfChar_4cfef_2 : decode cJ2_indexOfChar_4cfef 2 = .ok (.aload_n 0, 1) := by decide +kernel
theorem dJ2_indexOfChar_4cfef_3 : decode cJ2_indexOfChar_4cfef 3 = .ok (.invokestatic 96, 3) := by decide +kernel
theorem dJ2_indexOfChar_4cfef_6 : decode cJ2_indexOfChar_4cfef 6 = .ok (.aload_n 0, 1) := by decide +kernel
theorem dJ2_indexOfChar_4cfef_7 : decode cJ2_indexOfChar_4cfef 7 = .ok (.iload_n 1, 1) := by decide +kernel
theorem dJ2_indexOfChar_4cfef_8 : decode cJ2_indexOfChar_4cfef 8 = .ok (.iload_n 2, 1) := by decide +kernel
theorem dJ2_indexOfChar_4cfef_9 : decode cJ2_indexOfChar_4cfef 9 = .ok (.iload_n 3, 1) := by decide +kernel
theorem dJ2_indexOfChar_4cfef_10 : decode cJ2_indexOfChar_4cfef 10 = .ok (.invokestatic 244, 3) := by decide +kernel
theorem dJ2_indexOfChar_4cfef_13 : decode cJ2_indexOfChar_4cfef 13 = .ok (.ireturn, 1) := by decide +kernel
theorem dJ2_indexOfCharUnsafe_4cfef_0 : decode cJ2_indexOfCharUnsafe_4cfef 0 = .ok (.iload_n 2, 1) := by decide +kernel
theorem dJ2_indexOfCharUnsafe_4cfef_1 : decode cJ2_indexOfCharUnsafe_4cfef 1 = .ok (.istore 4, 2) := by decide +kernel
theorem dJ2_indexOfCharUnsafe_4cfef_3 : decode cJ2_indexOfCharUnsafe_4cfef 3 = .ok (.iload 4, 2) := by decide +kernel
theorem dJ2_indexOfCharUnsafe_4cfef_5 : decode cJ2_indexOfCharUnsafe_4cfef 5 = .ok (.iload_n 3, 1) := by decide +kernel
theorem dJ2_indexOfCharUnsafe_4cfef_6 : decode cJ2_indexOfCharUnsafe_4cfef 6 = .ok (.if_icmp .ge 22, 3) := by decide +kernel
theorem dJ2_indexOfCharUnsafe_4cfef_9 : decode cJ2_indexOfCharUnsafe_4cfef 9 = .ok (.aload_n 0, 1) := by decide +kernel
theorem dJ2_indexOfCharUnsafe_4cfef_10 : decode cJ2_indexOfCharUnsafe_4cfef 10 = .ok (.iload 4, 2) := by decide +kernel
theorem dJ2_indexOfCharUnsafe_4cfef_12 : decode cJ2_indexOfCharUnsafe_4cfef 12 = .ok (.invokestatic 71, 3) := by decide +kernel
theorem dJ2_indexOfCharUnsafe_4cfef_15 : decode cJ2_indexOfCharUnsafe_4cfef 15 = .ok (.iload_n 1, 1) := by decide +kernel
theorem dJ2_indexOfCharUnsafe_4cfef_16 : decode cJ2_indexOfCharUnsafe_4cfef 16 = .ok (.if_icmp .ne 6, 3) := by decide +kernel
theorem dJ2_indexOfCharUnsafe_4cfef_19 : decode cJ2_indexOfCharUnsafe_4cfef 19 = .ok (.iload 4, 2) := by decide +kernel
theorem dJ2_indexOfCharUnsafe_4cfef_21 : decode cJ2_indexOfCharUnsafe_4cfef 21 = .ok (.ireturn, 1) := by decide +kernel
theorem dJ2_indexOfCharUnsafe_4cfef_22 : decode cJ2_indexOfCharUnsafe_4cfef 22 = .ok (.iinc 4 1, 3) := by decide +kernel
theorem dJ2_indexOfCharUnsafe_4cfef_25 : decode cJ2_indexOfCharUnsafe_4cfef 25 = .ok (.goto (-22), 3) := by decide +kernel
theorem dJ2_indexOfCharUnsafe_4cfef_28 : decode cJ2_indexOfCharUnsafe_4cfef 28 = .ok (.iconst (-1), 1) := by decide +kernel
theorem dJ2_indexOfCharUnsafe_4cfef_29 : decode cJ2_indexOfCharUnsafe_4cfef 29 = .ok (.ireturn, 1) := by decide +kernel
theorem dJ2_indexOfSupplementary_4cfef_0 : decode cJ2_indexOfSupplementary_4cfef 0 = .ok (.iload_n 1, 1) := by decide +kernel
theorem dJ2_indexOfSupplementary_4cfef_1 : decode cJ2_indexOfSupplementary_4cfef 1 = .ok (.invokestatic 164, 3) := by decide +kernel
theorem dJ2_indexOfSupplementary_4cfef_4 : decode cJ2_indexOfSupplementary_4cfef 4 = .ok (.ifCond .eq 65, 3) := by decide +kernel
theorem dJ2_indexOfSupplementary_4cfef_7 : decode cJ2_indexOfSupplementary_4cfef 7 = .ok (.iload_n 1, 1) := by decide +kernel
theorem dJ2_indexOfSupplementary_4cfef_8 : decode cJ2_indexOfSupplementary_4cfef 8 = .ok (.invokestatic 157, 3) := by decide +kernel
theorem dJ2_indexOfSupplementary_4cfef_11 : decode cJ2_indexOfSupplementary_4cfef 11 = .ok (.istore 4, 2) := by decide +kernel
theorem dJ2_indexOfSupplementary_4cfef_13 : decode cJ2_indexOfSupplementary_4cfef 13 = .ok (.iload_n 1, 1) := by decide +kernel
theorem dJ2_indexOfSupplementary_4cfef_14 : decode cJ2_indexOfSupplementary_4cfef 14 = .ok (.invokestatic 161, 3) := by decide +kernel
theorem dJ2_indexOfSupplementary_4cfef_17 : decode cJ2_indexOfSupplementary_4cfef 17 = .ok (.istore 5, 2) := by decide +kernel
theorem dJ2_indexOfSupplementary_4cfef_19 : decode cJ2_indexOfSupplementary_4cfef 19 = .ok (.iload_n 2, 1) := by decide +kernel
theorem dJ2_indexOfSupplementary_4cfef_20 : decode cJ2_indexOfSupplementary_4cfef 20 = .ok (.iload_n 3, 1) := by decide +kernel
theorem dJ2_indexOfSupplementary_4cfef_21 : decode cJ2_indexOfSupplementary_4cfef 21 = .ok (.aload_n 0, 1) := by decide +kernel
theorem dJ2_indexOfSupplementary_4cfef_22 : decode cJ2_indexOfSupplementary_4cfef 22 = .ok (.invokestatic 96, 3) := by decide +kernel
theorem dJ2_indexOfSupplementary_4cfef_25 : decode cJ2_indexOfSupplementary_4cfef 25 = .ok (.iload_n 2, 1) := by decide +kernel
theorem dJ2_indexOfSupplementary_4cfef_26 : decode cJ2_indexOfSupplementary_4cfef 26 = .ok (.istore 6, 2) := by decide +kernel
theorem dJ2_indexOfSupplementary_4cfef_28 : decode cJ2_indexOfSupplementary_4cfef 28 = .ok (.iload 6, 2) := by decide +kernel
theorem dJ2_indexOfSupplementary_4cfef_30 : decode cJ2_indexOfSupplementary_4cfef 30 = .ok (.iload_n 3, 1) := by decide +kernel
theorem dJ2_indexOfSupplementary_4cfef_31 : decode cJ2_indexOfSupplementary_4cfef 31 = .ok (.iconst 1, 1) := by decide +kernel
theorem dJ2_indexOfSupplementary_4cfef_32 : decode cJ2_indexOfSupplementary_4cfef 32 = .ok (.isub, 1) := by decide +kernel
theorem dJ2_indexOfSupplementary_4cfef_33 : decode cJ2_indexOfSupplementary_4cfef 33 = .ok (.if_icmp .ge 36, 3) := by decide +kernel
theorem dJ2_indexOfSupplementary_4cfef_36 : decode cJ2_indexOfSupplementary_4cfef 36 = .ok (.aload_n 0, 1) := by decide +kernel
theorem dJ2_indexOfSupplementary_4cfef_37 : decode cJ2_indexOfSupplementary_4cfef 37 = .ok (.iload 6, 2) := by decide +kernel
theorem dJ2_indexOfSupplementary_4cfef_39 : decode cJ2_indexOfSupplementary_4cfef 39 = .ok (.invokestatic 71, 3) := by decide +kernel
theorem dJ2_indexOfSupplementary_4cfef_42 : decode cJ2_indexOfSupplementary_4cfef 42 = .ok (.iload 4, 2) := by decide +kernel
theorem dJ2_indexOfSupplementary_4cfef_44 : decode cJ2_indexOfSupplementary_4cfef 44 = .ok (.if_icmp .ne 19, 3) := by decide +kernel
theorem dJ2_indexOfSupplementary_4cfef_47 : decode cJ2_indexOfSupplementary_4cfef 47 = .ok (.aload_n 0, 1) := by decide +kernel
theorem dJ2_indexOfSupplementary_4cfef_48 : decode cJ2_indexOfSupplementary_4cfef 48 = .ok (.iload 6, 2) := by decide +kernel
theorem dJ2_indexOfSupplementary_4cfef_50 : decode cJ2_indexOfSupplementary_4cfef 50 = .ok (.iconst 1, 1) := by decide +kernel
theorem dJ2_indexOfSupplementary_4cfef_51 : decode cJ2_indexOfSupplementary_4cfef 51 = .ok (.iadd, 1) := by decide +kernel
theorem dJ2_indexOfSupplementary_4cfef_52 : decode cJ2_indexOfSupplementary_4cfef 52 = .ok (.invokestatic 71, 3) := by decide +kernel
theorem dJ2_indexOfSupplementary_4cfef_55 : decode cJ2_indexOfSupplementary_4cfef 55 = .ok (.iload 5, 2) := by decide +kernel
theorem dJ2_indexOfSupplementary_4cfef_57 : decode cJ2_indexOfSupplementary_4cfef 57 = .ok (.if_icmp .ne 6, 3) := by decide +kernel
theorem dJ2_indexOfSupplementary_4cfef_60 : decode cJ2_indexOfSupplementary_4cfef 60 = .ok (.iload 6, 2) := by decide +kernel
theorem dJ2_indexOfSupplementary_4cfef_62 : decode cJ2_indexOfSupplementary_4cfef 62 = .ok (.ireturn, 1) := by decide +kernel
theorem dJ2_indexOfSupplementary_4cfef_63 : decode cJ2_indexOfSupplementary_4cfef 63 = .ok (.iinc 6 1, 3) := by decide +kernel
theorem dJ2_indexOfSupplementary_4cfef_66 : decode cJ2_indexOfSupplementary_4cfef 66 = .ok (.goto (-38), 3) := by decide +kernel
theorem dJ2_indexOfSupplementary_4cfef_69 : decode cJ2_indexOfSupplementary_4cfef 69 = .ok (.iconst (-1), 1) := by decide +kernel
theorem dJ2_indexOfSupplementary_4cfef_70 : decode cJ2_indexOfSupplementary_4cfef 70 = .ok (.ireturn, 1) := by decide +kernel
theorem dJ2_checkBoundsBeginEnd_d044e_0 : decode cJ2_checkBoundsBeginEnd_d044e 0 = .ok (.iload_n 0, 1) := by decide +kernel
theorem dJ2_checkBoundsBeginEnd_d044e_1 : decode cJ2_checkBoundsBeginEnd_d044e 1 = .ok (.iload_n 1, 1) := by decide +kernel
theorem dJ2_checkBoundsBeginEnd_d044e_2 : decode cJ2_checkBoundsBeginEnd_d044e 2 = .ok (.aload_n 2, 1) := by decide +kernel
theorem dJ2_checkBoundsBeginEnd_d044e_3 : decode cJ2_checkBoundsBeginEnd_d044e 3 = .ok (.invokestatic 48, 3) := by decide +kernel
theorem dJ2_checkBoundsBeginEnd_d044e_6 : decode cJ2_checkBoundsBeginEnd_d044e 6 = .ok (.invokestatic 241, 3) := by decide +kernel
theorem dJ2_checkBoundsBeginEnd_d044e_9 : decode cJ2_checkBoundsBeginEnd_d044e 9 = .ok (.return_, 1) := by decide +kernel
theorem dJxa1e45_init_da8c8_0 : decode cJxa1e45_init_da8c8 0 = .ok (.aload_n 0, 1) := by decide +kernel
theorem dJxa1e45_init_da8c8_1 : decode cJxa1e45_init_da8c8 1 = .ok (.invokespecial 1, 3) := by decide +kernel
theorem dJxa1e45_init_da8c8_4 : decode cJxa1e45_init_da8c8 4 = .ok (.return_, 1) := by decide +kernel
theorem dJxc12de_init_da8c8_0 : decode cJxc12de_init_da8c8 0 = .ok (.aload_n 0, 1) := by decide +kernel
theorem dJxc12de_init_da8c8_1 : decode cJxc12de_init_da8c8 1 = .ok (.invokespecial 1, 3) := by decide +kernel
theorem dJxc12de_init_da8c8_4 : decode cJxc12de_init_da8c8 4 = .ok (.aload_n 0, 1) := by decide +kernel
theorem dJxc12de_init_da8c8_5 : decode cJxc12de_init_da8c8 5 = .ok (.iconst 0, 1) := by decide +kernel
theorem dJxc12de_init_da8c8_6 : decode cJxc12de_init_da8c8 6 = .ok (.putfield 7, 3) := by decide +kernel
theorem dJxc12de_init_da8c8_9 : decode cJxc12de_init_da8c8 9 = .ok (.return_, 1) := by decide +kernel
theorem dJx4a65c_init_da8c8_0 : decode cJx4a65c_init_da8c8 0 = .ok (.aload_n 0, 1) := by decide +kernel
theorem dJx4a65c_init_da8c8_1 : decode cJx4a65c_init_da8c8 1 = .ok (.invokespecial 1, 3) := by decide +kernel
theorem dJx4a65c_init_da8c8_4 : decode cJx4a65c_init_da8c8 4 = .ok (.aload_n 0, 1) := by decide +kernel
theorem dJx4a65c_init_da8c8_5 : decode cJx4a65c_init_da8c8 5 = .ok (.getstatic 39, 3) := by decide +kernel
theorem dJx4a65c_init_da8c8_8 : decode cJx4a65c_init_da8c8 8 = .ok (.putfield 9, 3) := by decide +kernel
theorem dJx4a65c_init_da8c8_11 : decode cJx4a65c_init_da8c8 11 = .ok (.return_, 1) := by decide +kernel
theorem dJx4a65c_grow_92f84_0 : decode cJx4a65c_grow_92f84 0 = .ok (.aload_n 0, 1) := by decide +kernel
theorem dJx4a65c_grow_92f84_1 : decode cJx4a65c_grow_92f84 1 = .ok (.getfield 9, 3) := by decide +kernel
theorem dJx4a65c_grow_92f84_4 : decode cJx4a65c_grow_92f84 4 = .ok (.arraylength, 1) := by decide +kernel
theorem dJx4a65c_grow_92f84_5 : decode cJx4a65c_grow_92f84 5 = .ok (.istore_n 2, 1) := by decide +kernel
theorem dJx4a65c_grow_92f84_6 : decode cJx4a65c_grow_92f84 6 = .ok (.iload_n 2, 1) := by decide +kernel
theorem dJx4a65c_grow_92f84_7 : decode cJx4a65c_grow_92f84 7 = .ok (.ifCond .gt 13, 3) := by decide +kernel
theorem dJx4a65c_grow_92f84_10 : decode cJx4a65c_grow_92f84 10 = .ok (.aload_n 0, 1) := by decide +kernel
theorem dJx4a65c_grow_92f84_11 : decode cJx4a65c_grow_92f84 11 = .ok (.getfield 9, 3) := by decide +kernel
theorem dJx4a65c_grow_92f84_14 : decode cJx4a65c_grow_92f84 14 = .ok (.getstatic 39, 3) := by decide +kernel
theorem dJx4a65c_grow_92f84_17 : decode cJx4a65c_grow_92f84 17 = .ok (.if_acmp .eq 28, 3) := by decide +kernel
theorem dJx4a65c_grow_92f84_20 : decode cJx4a65c_grow_92f84 20 = .ok (.iload_n 2, 1) := by decide +kernel
theorem dJx4a65c_grow_92f84_21 : decode cJx4a65c_grow_92f84 21 = .ok (.iload_n 1, 1) := by decide +kernel
theorem dJx4a65c_grow_92f84_22 : decode cJx4a65c_grow_92f84 22 = .ok (.iload_n 2, 1) := by decide +kernel
theorem dJx4a65c_grow_92f84_23 : decode cJx4a65c_grow_92f84 23 = .ok (.isub, 1) := by decide +kernel
theorem dJx4a65c_grow_92f84_24 : decode cJx4a65c_grow_92f84 24 = .ok (.iload_n 2, 1) := by decide +kernel
theorem dJx4a65c_grow_92f84_25 : decode cJx4a65c_grow_92f84 25 = .ok (.iconst 1, 1) := by decide +kernel
theorem dJx4a65c_grow_92f84_26 : decode cJx4a65c_grow_92f84 26 = .ok (.ishr, 1) := by decide +kernel
theorem dJx4a65c_grow_92f84_27 : decode cJx4a65c_grow_92f84 27 = .ok (.invokestatic 73, 3) := by decide +kernel
theorem dJx4a65c_grow_92f84_30 : decode cJx4a65c_grow_92f84 30 = .ok (.istore_n 3, 1) := by decide +kernel
theorem dJx4a65c_grow_92f84_31 : decode cJx4a65c_grow_92f84 31 = .ok (.aload_n 0, 1) := by decide +kernel
theorem dJx4a65c_grow_92f84_32 : decode cJx4a65c_grow_92f84 32 = .ok (.aload_n 0, 1) := by decide +kernel
theorem dJx4a65c_grow_92f84_33 : decode cJx4a65c_grow_92f84 33 = .ok (.getfield 9, 3) := by decide +kernel
theorem dJx4a65c_grow_92f84_36 : decode cJx4a65c_grow_92f84 36 = .ok (.iload_n 3, 1) := by decide +kernel
theorem dJx4a65c_grow_92f84_37 : decode cJx4a65c_grow_92f84 37 = .ok (.invokestatic 66, 3) := by decide +kernel
theorem dJx4a65c_grow_92f84_40 : decode cJx4a65c_grow_92f84 40 = .ok (.dup_x1, 1) := by decide +kernel
theorem dJx4a65c_grow_92f84_41 : decode cJx4a65c_grow_92f84 41 = .ok (.putfield 9, 3) := by decide +kernel
theorem dJx4a65c_grow_92f84_44 : decode cJx4a65c_grow_92f84 44 = .ok (.areturn, 1) := by decide +kernel
theorem dJx4a65c_grow_92f84_45 : decode cJx4a65c_grow_92f84 45 = .ok (.aload_n 0, 1) := by decide +kernel
theorem dJx4a65c_grow_92f84_46 : decode cJx4a65c_grow_92f84 46 = .ok (.bipush 10, 2) := by decide +kernel
theorem dJx4a65c_grow_92f84_48 : decode cJx4a65c_grow_92f84 48 = .ok (.iload_n 1, 1) := by decide +kernel
theorem dJx4a65c_grow_92f84_49 : decode cJx4a65c_grow_92f84 49 = .ok (.invokestatic 79, 3) := by decide +kernel
theorem dJx4a65c_grow_92f84_52 : decode cJx4a65c_grow_92f84 52 = .ok (.anewarray 7, 3) := by decide +kernel
theorem dJx4a65c_grow_92f84_55 : decode cJx4a65c_grow_92f84 55 = .ok (.dup_x1, 1) := by decide +kernel
theorem dJx4a65c_grow_92f84_56 : decode cJx4a65c_grow_92f84 56 = .ok (.putfield 9, 3) := by decide +kernel
theorem dJx4a65c_grow_92f84_59 : decode cJx4a65c_grow_92f84 59 = .ok (.areturn, 1) := by decide +kernel
theorem dJx4a65c_grow_d5877_0 : decode cJx4a65c_grow_d5877 0 = .ok (.aload_n 0, 1) := by decide +kernel
theorem dJx4a65c_grow_d5877_1 : decode cJx4a65c_grow_d5877 1 = .ok (.aload_n 0, 1) := by decide +kernel
theorem dJx4a65c_grow_d5877_2 : decode cJx4a65c_grow_d5877 2 = .ok (.getfield 48, 3) := by decide +kernel
theorem dJx4a65c_grow_d5877_5 : decode cJx4a65c_grow_d5877 5 = .ok (.iconst 1, 1) := by decide +kernel
theorem dJx4a65c_grow_d5877_6 : decode cJx4a65c_grow_d5877 6 = .ok (.iadd, 1) := by decide +kernel
theorem dJx4a65c_grow_d5877_7 : decode cJx4a65c_grow_d5877 7 = .ok (.invokevirtual 69, 3) := by decide +kernel
theorem dJx4a65c_grow_d5877_10 : decode cJx4a65c_grow_d5877 10 = .ok (.areturn, 1) := by decide +kernel
theorem dJx4a65c_size_8abf5_0 : decode cJx4a65c_size_8abf5 0 = .ok (.aload_n 0, 1) := by decide +kernel
theorem dJx4a65c_size_8abf5_1 : decode cJx4a65c_size_8abf5 1 = .ok (.getfield 48, 3) := by decide +kernel
theorem dJx4a65c_size_8abf5_4 : decode cJx4a65c_size_8abf5 4 = .ok (.ireturn, 1) := by decide +kernel
theorem dJx4a65c_elementData_915e3_0 : decode cJx4a65c_elementData_915e3 0 = .ok (.aload_n 0, 1) := by decide +kernel
theorem dJx4a65c_elementData_915e3_1 : decode cJx4a65c_elementData_915e3 1 = .ok (.getfield 9, 3) := by decide +kernel
theorem dJx4a65c_elementData_915e3_4 : decode cJx4a65c_elementData_915e3 4 = .ok (.iload_n 1, 1) := by decide +kernel
theorem dJx4a65c_elementData_915e3_5 : decode cJx4a65c_elementData_915e3 5 = .ok (.aaload, 1) := by decide +kernel
theorem dJx4a65c_elementData_915e3_6 : decode cJx4a65c_elementData_915e3 6 = .ok (.areturn, 1) := by decide +kernel
theorem dJx4a65c_get_915e3_0 : decode cJx4a65c_get_915e3 0 = .ok (.iload_n 1, 1) := by decide +kernel
theorem dJx4a65c_get_915e3_1 : decode cJx4a65c_get_915e3 1 = .ok (.aload_n 0, 1) := by decide +kernel
theorem dJx4a65c_get_915e3_2 : decode cJx4a65c_get_915e3 2 = .ok (.getfield 48, 3) := by decide +kernel
theorem dJx4a65c_get_915e3_5 : decode cJx4a65c_get_915e3 5 = .ok (.invokestatic 118, 3) := by decide +kernel
theorem dJx4a65c_get_915e3_8 : decode cJx4a65c_get_915e3 8 = .ok (.pop, 1) := by decide +kernel
theorem dJx4a65c_get_915e3_9 : decode cJx4a65c_get_915e3 9 = .ok (.aload_n 0, 1) := by decide +kernel
theorem dJx4a65c_get_915e3_10 : decode cJx4a65c_get_915e3 10 = .ok (.iload_n 1, 1) := by decide +kernel
theorem dJx4a65c_get_915e3_11 : decode cJx4a65c_get_915e3 11 = .ok (.invokevirtual 123, 3) := by decide +kernel
theorem dJx4a65c_get_915e3_14 : decode cJx4a65c_get_915e3 14 = .ok (.areturn, 1) := by decide +kernel
theorem dJx4a65c_set_bcc79_0 : decode cJx4a65c_set_bcc79 0 = .ok (.iload_n 1, 1) := by decide +kernel
theorem dJx4a65c_set_bcc79_1 : decode cJx4a65c_set_bcc79 1 = .ok (.aload_n 0, 1) := by decide +kernel
theorem dJx4a65c_set_bcc79_2 : decode cJx4a65c_set_bcc79 2 = .ok (.getfield 48, 3) := by decide +kernel
theorem dJx4a65c_set_bcc79_5 : decode cJx4a65c_set_bcc79 5 = .ok (.invokestatic 118, 3) := by decide +kernel
theorem dJx4a65c_set_bcc79_8 : decode cJx4a65c_set_bcc79 8 = .ok (.pop, 1) := by decide +kernel
theorem dJx4a65c_set_bcc79_9 : decode cJx4a65c_set_bcc79 9 = .ok (.aload_n 0, 1) := by decide +kernel
theorem dJx4a65c_set_bcc79_10 : decode cJx4a65c_set_bcc79 10 = .ok (.iload_n 1, 1) := by decide +kernel
theorem dJx4a65c_set_bcc79_11 : decode cJx4a65c_set_bcc79 11 = .ok (.invokevirtual 123, 3) := by decide +kernel
theorem dJx4a65c_set_bcc79_14 : decode cJx4a65c_set_bcc79 14 = .ok (.astore_n 3, 1) := by decide +kernel
theorem dJx4a65c_set_bcc79_15 : decode cJx4a65c_set_bcc79 15 = .ok (.aload_n 0, 1) := by decide +kernel
theorem dJx4a65c_set_bcc79_16 : decode cJx4a65c_set_bcc79 16 = .ok (.getfield 9, 3) := by decide +kernel
theorem dJx4a65c_set_bcc79_19 : decode cJx4a65c_set_bcc79 19 = .ok (.iload_n 1, 1) := by decide +kernel
theorem dJx4a65c_set_bcc79_20 : decode cJx4a65c_set_bcc79 20 = .ok (.aload_n 2, 1) := by decide +kernel
theorem dJx4a65c_set_bcc79_21 : decode cJx4a65c_set_bcc79 21 = .ok (.aastore, 1) := by decide +kernel
theorem dJx4a65c_set_bcc79_22 : decode cJx4a65c_set_bcc79 22 = .ok (.aload_n 3, 1) := by decide +kernel
theorem dJx4a65c_set_bcc79_23 : decode cJx4a65c_set_bcc79 23 = .ok (.areturn, 1) := by decide +kernel
theorem dJx4a65c_add_72be8_0 : decode cJx4a65c_add_72be8 0 = .ok (.iload_n 3, 1) := by decide +kernel
theorem dJx4a65c_add_72be8_1 : decode cJx4a65c_add_72be8 1 = .ok (.aload_n 2, 1) := by decide +kernel
theorem dJx4a65c_add_72be8_2 : decode cJx4a65c_add_72be8 2 = .ok (.arraylength, 1) := by decide +kernel
theorem dJx4a65c_add_72be8_3 : decode cJx4a65c_add_72be8 3 = .ok (.if_icmp .ne 8, 3) := by decide +kernel
theorem dJx4a65c_add_72be8_6 : decode cJx4a65c_add_72be8 6 = .ok (.aload_n 0, 1) := by decide +kernel
theorem dJx4a65c_add_72be8_7 : decode cJx4a65c_add_72be8 7 = .ok (.invokevirtual 129, 3) := by decide +kernel
theorem dJx4a65c_add_72be8_10 : decode cJx4a65c_add_72be8 10 = .ok (.astore_n 2, 1) := by decide +kernel
theorem dJx4a65c_add_72be8_11 : decode cJx4a65c_add_72be8 11 = .ok (.aload_n 2, 1) := by decide +kernel
theorem dJx4a65c_add_72be8_12 : decode cJx4a65c_add_72be8 12 = .ok (.iload_n 3, 1) := by decide +kernel
theorem dJx4a65c_add_72be8_13 : decode cJx4a65c_add_72be8 13 = .ok (.aload_n 1, 1) := by decide +kernel
theorem dJx4a65c_add_72be8_14 : decode cJx4a65c_add_72be8 14 = .ok (.aastore, 1) := by decide +kernel
theorem dJx4a65c_add_72be8_15 : decode cJx4a65c_add_72be8 15 = .ok (.aload_n 0, 1) := by decide +kernel
theorem dJx4a65c_add_72be8_16 : decode cJx4a65c_add_72be8 16 = .ok (.iload_n 3, 1) := by decide +kernel
theorem dJx4a65c_add_72be8_17 : decode cJx4a65c_add_72be8 17 = .ok (.iconst 1, 1) := by decide +kernel
theorem dJx4a65c_add_72be8_18 : decode cJx4a65c_add_72be8 18 = .ok (.iadd, 1) := by decide +kernel
theorem dJx4a65c_add_72be8_19 : decode cJx4a65c_add_72be8 19 = .ok (.putfield 48, 3) := by decide +kernel
theorem dJx4a65c_add_72be8_22 : decode cJx4a65c_add_72be8 22 = .ok (.return_, 1) := by decide +kernel
theorem dJx4a65c_add_9ea2d_0 : decode cJx4a65c_add_9ea2d 0 = .ok (.aload_n 0, 1) := by decide +kernel
theorem dJx4a65c_add_9ea2d_1 : decode cJx4a65c_add_9ea2d 1 = .ok (.dup, 1) := by decide +kernel
theorem dJx4a65c_add_9ea2d_2 : decode cJx4a65c_add_9ea2d 2 = .ok (.getfield 63, 3) := by decide +kernel
theorem dJx4a65c_add_9ea2d_5 : decode cJx4a65c_add_9ea2d 5 = .ok (.iconst 1, 1) := by decide +kernel
theorem dJx4a65c_add_9ea2d_6 : decode cJx4a65c_add_9ea2d 6 = .ok (.iadd, 1) := by decide +kernel
theorem dJx4a65c_add_9ea2d_7 : decode cJx4a65c_add_9ea2d 7 = .ok (.putfield 63, 3) := by decide +kernel
theorem dJx4a65c_add_9ea2d_10 : decode cJx4a65c_add_9ea2d 10 = .ok (.aload_n 0, 1) := by decide +kernel
theorem dJx4a65c_add_9ea2d_11 : decode cJx4a65c_add_9ea2d 11 = .ok (.aload_n 1, 1) := by decide +kernel
theorem dJx4a65c_add_9ea2d_12 : decode cJx4a65c_add_9ea2d 12 = .ok (.aload_n 0, 1) := by decide +kernel
theorem dJx4a65c_add_9ea2d_13 : decode cJx4a65c_add_9ea2d 13 = .ok (.getfield 9, 3) := by decide +kernel
theorem dJx4a65c_add_9ea2d_16 : decode cJx4a65c_add_9ea2d 16 = .ok (.aload_n 0, 1) := by decide +kernel
theorem dJx4a65c_add_9ea2d_17 : decode cJx4a65c_add_9ea2d 17 = .ok (.getfield 48, 3) := by decide +kernel
theorem dJx4a65c_add_9ea2d_20 : decode cJx4a65c_add_9ea2d 20 = .ok (.invokevirtual 131, 3) := by decide +kernel
theorem dJx4a65c_add_9ea2d_23 : decode cJx4a65c_add_9ea2d 23 = .ok (.iconst 1, 1) := by decide +kernel
theorem dJx4a65c_add_9ea2d_24 : decode cJx4a65c_add_9ea2d 24 = .ok (.ireturn, 1) := by decide +kernel
theorem dJx4a65c_remove_915e3_0 : decode cJx4a65c_remove_915e3 0 = .ok (.iload_n 1, 1) := by decide +kernel
theorem dJx4a65c_remove_915e3_1 : decode cJx4a65c_remove_915e3 1 = .ok (.aload_n 0, 1) := by decide +kernel
theorem dJx4a65c_remove_915e3_2 : decode cJx4a65c_remove_915e3 2 = .ok (.getfield 48, 3) := by decide +kernel
theorem dJx4a65c_remove_915e3_5 : decode cJx4a65c_remove_915e3 5 = .ok (.invokestatic 118, 3) := by decide +kernel
theorem dJx4a65c_remove_915e3_8 : decode cJx4a65c_remove_915e3 8 = .ok (.pop, 1) := by decide +kernel
theorem dJx4a65c_remove_915e3_9 : decode cJx4a65c_remove_915e3 9 = .ok (.aload_n 0, 1) := by decide +kernel
theorem dJx4a65c_remove_915e3_10 : decode cJx4a65c_remove_915e3 10 = .ok (.getfield 9, 3) := by decide +kernel
theorem dJx4a65c_remove_915e3_13 : decode cJx4a65c_remove_915e3 13 = .ok (.astore_n 2, 1) := by decide +kernel
theorem dJx4a65c_remove_915e3_14 : decode cJx4a65c_remove_915e3 14 = .ok (.aload_n 2, 1) := by decide +kernel
theorem dJx4a65c_remove_915e3_15 : decode cJx4a65c_remove_915e3 15 = .ok (.iload_n 1, 1) := by decide +kernel
theorem dJx4a65c_remove_915e3_16 : decode cJx4a65c_remove_915e3 16 = .ok (.aaload, 1) := by decide +kernel
theorem dJx4a65c_remove_915e3_17 : decode cJx4a65c_remove_915e3 17 = .ok (.astore_n 3, 1) := by decide +kernel
theorem dJx4a65c_remove_915e3_18 : decode cJx4a65c_remove_915e3 18 = .ok (.aload_n 0, 1) := by decide +kernel
theorem dJx4a65c_remove_915e3_19 : decode cJx4a65c_remove_915e3 19 = .ok (.aload_n 2, 1) := by decide +kernel
theorem dJx4a65c_remove_915e3_20 : decode cJx4a65c_remove_915e3 20 = .ok (.iload_n 1, 1) := by decide +kernel
theorem dJx4a65c_remove_915e3_21 : decode cJx4a65c_remove_915e3 21 = .ok (.invokevirtual 144, 3) := by decide +kernel
theorem dJx4a65c_remove_915e3_24 : decode cJx4a65c_remove_915e3 24 = .ok (.aload_n 3, 1) := by decide +kernel
theorem dJx4a65c_remove_915e3_25 : decode cJx4a65c_remove_915e3 25 = .ok (.areturn, 1) := by decide +kernel
theorem dJx4a65c_fastRemove_b59b0_0 : decode cJx4a65c_fastRemove_b59b0 0 = .ok (.aload_n 0, 1) := by decide +kernel
theorem dJx4a65c_fastRemove_b59b0_1 : decode cJx4a65c_fastRemove_b59b0 1 = .ok (.dup, 1) := by decide +kernel
theorem dJx4a65c_fastRemove_b59b0_2 : decode cJx4a65c_fastRemove_b59b0 2 = .ok (.getfield 63, 3) := by decide +kernel
theorem dJx4a65c_fastRemove_b59b0_5 : decode cJx4a65c_fastRemove_b59b0 5 = .ok (.iconst 1, 1) := by decide +kernel
theorem dJx4a65c_fastRemove_b59b0_6 : decode cJx4a65c_fastRemove_b59b0 6 = .ok (.iadd, 1) := by decide +kernel
theorem dJx4a65c_fastRemove_b59b0_7 : decode cJx4a65c_fastRemove_b59b0 7 = .ok (.putfield 63, 3) := by decide +kernel
theorem dJx4a65c_fastRemove_b59b0_10 : decode cJx4a65c_fastRemove_b59b0 10 = .ok (.aload_n 0, 1) := by decide +kernel
theorem dJx4a65c_fastRemove_b59b0_11 : decode cJx4a65c_fastRemove_b59b0 11 = .ok (.getfield 48, 3) := by decide +kernel
theorem dJx4a65c_fastRemove_b59b0_14 : decode cJx4a65c_fastRemove_b59b0 14 = .ok (.iconst 1, 1) := by decide +kernel
theorem dJx4a65c_fastRemove_b59b0_15 : decode cJx4a65c_fastRemove_b59b0 15 = .ok (.isub, 1) := by decide +kernel
theorem dJx4a65c_fastRemove_b59b0_16 : decode cJx4a65c_fastRemove_b59b0 16 = .ok (.dup, 1) := by decide +kernel
theorem dJx4a65c_fastRemove_b59b0_17 : decode cJx4a65c_fastRemove_b59b0 17 = .ok (.istore_n 3, 1) := by decide +kernel
theorem dJx4a65c_fastRemove_b59b0_18 : decode cJx4a65c_fastRemove_b59b0 18 = .ok (.iload_n 2, 1) := by decide +kernel
theorem dJx4a65c_fastRemove_b59b0_19 : decode cJx4a65c_fastRemove_b59b0 19 = .ok (.if_icmp .le 15, 3) := by decide +kernel
theorem dJx4a65c_fastRemove_b59b0_22 : decode cJx4a65c_fastRemove_b59b0 22 = .ok (.aload_n 1, 1) := by decide +kernel
theorem dJx4a65c_fastRemove_b59b0_23 : decode cJx4a65c_fastRemove_b59b0 23 = .ok (.iload_n 2, 1) := by decide +kernel
theorem dJx4a65c_fastRemove_b59b0_24 : decode cJx4a65c_fastRemove_b59b0 24 = .ok (.iconst 1, 1) := by decide +kernel
theorem dJx4a65c_fastRemove_b59b0_25 : decode cJx4a65c_fastRemove_b59b0 25 = .ok (.iadd, 1) := by decide +kernel
theorem dJx4a65c_fastRemove_b59b0_26 : decode cJx4a65c_fastRemove_b59b0 26 = .ok (.aload_n 1, 1) := by decide +kernel
theorem dJx4a65c_fastRemove_b59b0_27 : decode cJx4a65c_fastRemove_b59b0 27 = .ok (.iload_n 2, 1) := by decide +kernel
theorem dJx4a65c_fastRemove_b59b0_28 : decode cJx4a65c_fastRemove_b59b0 28 = .ok (.iload_n 3, 1) := by decide +kernel
theorem dJx4a65c_fastRemove_b59b0_29 : decode cJx4a65c_fastRemove_b59b0 29 = .ok (.iload_n 2, 1) := by decide +kernel
theorem dJx4a65c_fastRemove_b59b0_30 : decode cJx4a65c_fastRemove_b59b0 30 = .ok (.isub, 1) := by decide +kernel
theorem dJx4a65c_fastRemove_b59b0_31 : decode cJx4a65c_fastRemove_b59b0 31 = .ok (.invokestatic 112, 3) := by decide +kernel
theorem dJx4a65c_fastRemove_b59b0_34 : decode cJx4a65c_fastRemove_b59b0 34 = .ok (.aload_n 1, 1) := by decide +kernel
theorem dJx4a65c_fastRemove_b59b0_35 : decode cJx4a65c_fastRemove_b59b0 35 = .ok (.aload_n 0, 1) := by decide +kernel
theorem dJx4a65c_fastRemove_b59b0_36 : decode cJx4a65c_fastRemove_b59b0 36 = .ok (.iload_n 3, 1) := by decide +kernel
theorem dJx4a65c_fastRemove_b59b0_37 : decode cJx4a65c_fastRemove_b59b0 37 = .ok (.dup_x1, 1) := by decide +kernel
theorem dJx4a65c_fastRemove_b59b0_38 : decode cJx4a65c_fastRemove_b59b0 38 = .ok (.putfield 48, 3) := by decide +kernel
theorem dJx4a65c_fastRemove_b59b0_41 : decode cJx4a65c_fastRemove_b59b0 41 = .ok (.aconst_null, 1) := by decide +kernel
theorem dJx4a65c_fastRemove_b59b0_42 : decode cJx4a65c_fastRemove_b59b0 42 = .ok (.aastore, 1) := by decide +kernel
theorem dJx4a65c_fastRemove_b59b0_43 : decode cJx4a65c_fastRemove_b59b0 43 = .ok (.return_, 1) := by decide +kernel
theorem dJx4a65c_clear_da8c8_0 : decode cJx4a65c_clear_da8c8 0 = .ok (.aload_n 0, 1) := by decide +kernel
theorem dJx4a65c_clear_da8c8_1 : decode cJx4a65c_clear_da8c8 1 = .ok (.dup, 1) := by decide +kernel
theorem dJx4a65c_clear_da8c8_2 : decode cJx4a65c_clear_da8c8 2 = .ok (.getfield 63, 3) := by decide +kernel
theorem dJx4a65c_clear_da8c8_5 : decode cJx4a65c_clear_da8c8 5 = .ok (.iconst 1, 1) := by decide +kernel
theorem dJx4a65c_clear_da8c8_6 : decode cJx4a65c_clear_da8c8 6 = .ok (.iadd, 1) := by decide +kernel
theorem dJx4a65c_clear_da8c8_7 : decode cJx4a65c_clear_da8c8 7 = .ok (.putfield 63, 3) := by decide +kernel
theorem dJx4a65c_clear_da8c8_10 : decode cJx4a65c_clear_da8c8 10 = .ok (.aload_n 0, 1) := by decide +kernel
theorem dJx4a65c_clear_da8c8_11 : decode cJx4a65c_clear_da8c8 11 = .ok (.getfield 9, 3) := by decide +kernel
theorem dJx4a65c_clear_da8c8_14 : decode cJx4a65c_clear_da8c8 14 = .ok (.astore_n 1, 1) := by decide +kernel
theorem dJx4a65c_clear_da8c8_15 : decode cJx4a65c_clear_da8c8 15 = .ok (.aload_n 0, 1) := by decide +kernel
theorem dJx4a65c_clear_da8c8_16 : decode cJx4a65c_clear_da8c8 16 = .ok (.getfield 48, 3) := by decide +kernel
theorem dJx4a65c_clear_da8c8_19 : decode cJx4a65c_clear_da8c8 19 = .ok (.istore_n 2, 1) := by decide +kernel
theorem dJx4a65c_clear_da8c8_20 : decode cJx4a65c_clear_da8c8 20 = .ok (.aload_n 0, 1) := by decide +kernel
theorem dJx4a65c_clear_da8c8_21 : decode cJx4a65c_clear_da8c8 21 = .ok (.iconst 0, 1) := by decide +kernel
theorem dJx4a65c_clear_da8c8_22 : decode cJx4a65c_clear_da8c8 22 = .ok (.dup_x1, 1) := by decide +kernel
theorem dJx4a65c_clear_da8c8_23 : decode cJx4a65c_clear_da8c8 23 = .ok (.putfield 48, 3) := by decide +kernel
theorem dJx4a65c_clear_da8c8_26 : decode cJx4a65c_clear_da8c8 26 = .ok (.istore_n 3, 1) := by decide +kernel
theorem dJx4a65c_clear_da8c8_27 : decode cJx4a65c_clear_da8c8 27 = .ok (.iload_n 3, 1) := by decide +kernel
theorem dJx4a65c_clear_da8c8_28 : decode cJx4a65c_clear_da8c8 28 = .ok (.iload_n 2, 1) := by decide +kernel
theorem dJx4a65c_clear_da8c8_29 : decode cJx4a65c_clear_da8c8 29 = .ok (.if_icmp .ge 13, 3) := by decide +kernel
theorem dJx4a65c_clear_da8c8_32 : decode cJx4a65c_clear_da8c8 32 = .ok (.aload_n 1, 1) := by decide +kernel
theorem dJx4a65c_clear_da8c8_33 : decode cJx4a65c_clear_da8c8 33 = .ok (.iload_n 3, 1) := by decide +kernel
theorem dJx4a65c_clear_da8c8_34 : decode cJx4a65c_clear_da8c8 34 = .ok (.aconst_null, 1) := by decide +kernel
theorem dJx4a65c_clear_da8c8_35 : decode cJx4a65c_clear_da8c8 35 = .ok (.aastore, 1) := by decide +kernel
theorem dJx4a65c_clear_da8c8_36 : decode cJx4a65c_clear_da8c8 36 = .ok (.iinc 3 1, 3) := by decide +kernel
theorem dJx4a65c_clear_da8c8_39 : decode cJx4a65c_clear_da8c8 39 = .ok (.goto (-12), 3) := by decide +kernel
theorem dJx4a65c_clear_da8c8_42 : decode cJx4a65c_clear_da8c8 42 = .ok (.return_, 1) := by decide +kernel
theorem dJ7_fill_53178_0 : decode cJ7_fill_53178 0 = .ok (.iconst 0, 1) := by decide +kernel
theorem dJ7_fill_53178_1 : decode cJ7_fill_53178 1 = .ok (.istore_n 2, 1) := by decide +kernel
theorem dJ7_fill_53178_2 : decode cJ7_fill_53178 2 = .ok (.aload_n 0, 1) := by decide +kernel
theorem dJ7_fill_53178_3 : decode cJ7_fill_53178 3 = .ok (.arraylength, 1) := by decide +kernel
theorem dJ7_fill_53178_4 : decode cJ7_fill_53178 4 = .ok (.istore_n 3, 1) := by decide +kernel
theorem dJ7_fill_53178_5 : decode cJ7_fill_53178 5 = .ok (.iload_n 2, 1) := by decide +kernel
theorem dJ7_fill_53178_6 : decode cJ7_fill_53178 6 = .ok (.iload_n 3, 1) := by decide +kernel
theorem dJ7_fill_53178_7 : decode cJ7_fill_53178 7 = .ok (.if_icmp .ge 13, 3) := by decide +kernel
theorem dJ7_fill_53178_10 : decode cJ7_fill_53178 10 = .ok (.aload_n 0, 1) := by decide +kernel
theorem dJ7_fill_53178_11 : decode cJ7_fill_53178 11 = .ok (.iload_n 2, 1) := by decide +kernel
theorem dJ7_fill_53178_12 : decode cJ7_fill_53178 12 = .ok (.iload_n 1, 1) := by decide +kernel
theorem dJ7_fill_53178_13 : decode cJ7_fill_53178 13 = .ok (.iastore, 1) := by decide +kernel
theorem dJ7_fill_53178_14 : decode cJ7_fill_53178 14 = .ok (.iinc 2 1, 3) := by decide +kernel
theorem dJ7_fill_53178_17 : decode cJ7_fill_53178 17 = .ok (.goto (-12), 3) := by decide +kernel
theorem dJ7_fill_53178_20 : decode cJ7_fill_53178 20 = .ok (.return_, 1) := by decide +kernel
theorem dJ7_copyOf_1904c_0 : decode cJ7_copyOf_1904c 0 = .ok (.aload_n 0, 1) := by decide +kernel
theorem dJ7_copyOf_1904c_1 : decode cJ7_copyOf_1904c 1 = .ok (.iload_n 1, 1) := by decide +kernel
theorem dJ7_copyOf_1904c_2 : decode cJ7_copyOf_1904c 2 = .ok (.aload_n 0, 1) := by decide +kernel
theorem dJ7_copyOf_1904c_3 : decode cJ7_copyOf_1904c 3 = .ok (.invokevirtual 86, 3) := by decide +kernel
theorem dJ7_copyOf_1904c_6 : decode cJ7_copyOf_1904c 6 = .ok (.invokestatic 300, 3) := by decide +kernel
theorem dJ7_copyOf_1904c_9 : decode cJ7_copyOf_1904c 9 = .ok (.areturn, 1) := by decide +kernel
theorem dJ7_copyOf_6403c_0 : decode cJ7_copyOf_6403c 0 = .ok (.aload_n 2, 1) := by decide +kernel
theorem dJ7_copyOf_6403c_1 : decode cJ7_copyOf_6403c 1 = .ok (.ldc 110, 2) := by decide +kernel
theorem dJ7_copyOf_6403c_3 : decode cJ7_copyOf_6403c 3 = .ok (.if_acmp .ne 10, 3) := by decide +kernel
theorem dJ7_copyOf_6403c_6 : decode cJ7_copyOf_6403c 6 = .ok (.iload_n 1, 1) := by decide +kernel
theorem dJ7_copyOf_6403c_7 : decode cJ7_copyOf_6403c 7 = .ok (.anewarray 2, 3) := by decide +kernel
theorem dJ7_copyOf_6403c_10 : decode cJ7_copyOf_6403c 10 = .ok (.goto 14, 3) := by decide +kernel
theorem dJ7_copyOf_6403c_13 : decode cJ7_copyOf_6403c 13 = .ok (.aload_n 2, 1) := by decide +kernel
theorem dJ7_copyOf_6403c_14 : decode cJ7_copyOf_6403c 14 = .ok (.invokevirtual 90, 3) := by decide +kernel
theorem dJ7_copyOf_6403c_17 : decode cJ7_copyOf_6403c 17 = .ok (.iload_n 1, 1) := by decide +kernel
theorem dJ7_copyOf_6403c_18 : decode cJ7_copyOf_6403c 18 = .ok (.invokestatic 95, 3) := by decide +kernel
theorem dJ7_copyOf_6403c_21 : decode cJ7_copyOf_6403c 21 = .ok (.checkcast 110, 3) := by decide +kernel
theorem dJ7_copyOf_6403c_24 : decode cJ7_copyOf_6403c 24 = .ok (.astore_n 3, 1) := by decide +kernel
theorem dJ7_copyOf_6403c_25 : decode cJ7_copyOf_6403c 25 = .ok (.aload_n 0, 1) := by decide +kernel
theorem dJ7_copyOf_6403c_26 : decode cJ7_copyOf_6403c 26 = .ok (.iconst 0, 1) := by decide +kernel
theorem dJ7_copyOf_6403c_27 : decode cJ7_copyOf_6403c 27 = .ok (.aload_n 3, 1) := by decide +kernel
theorem dJ7_copyOf_6403c_28 : decode cJ7_copyOf_6403c 28 = .ok (.iconst 0, 1) := by decide +kernel
theorem dJ7_copyOf_6403c_29 : decode cJ7_copyOf_6403c 29 = .ok (.aload_n 0, 1) := by decide +kernel
theorem dJ7_copyOf_6403c_30 : decode cJ7_copyOf_6403c 30 = .ok (.arraylength, 1) := by decide +kernel
theorem dJ7_copyOf_6403c_31 : decode cJ7_copyOf_6403c 31 = .ok (.iload_n 1, 1) := by decide +kernel
theorem dJ7_copyOf_6403c_32 : decode cJ7_copyOf_6403c 32 = .ok (.invokestatic 304, 3) := by decide +kernel
theorem dJ7_copyOf_6403c_35 : decode cJ7_copyOf_6403c 35 = .ok (.invokestatic 150, 3) := by decide +kernel
theorem dJ7_copyOf_6403c_38 : decode cJ7_copyOf_6403c 38 = .ok (.aload_n 3, 1) := by decide +kernel
theorem dJ7_copyOf_6403c_39 : decode cJ7_copyOf_6403c 39 = .ok (.areturn, 1) := by decide +kernel
theorem dJ15_checkIndex_7cf53_0 : decode cJ15_checkIndex_7cf53 0 = .ok (.iload_n 0, 1) := by decide +kernel
theorem dJ15_checkIndex_7cf53_1 : decode cJ15_checkIndex_7cf53 1 = .ok (.iload_n 1, 1) := by decide +kernel
theorem dJ15_checkIndex_7cf53_2 : decode cJ15_checkIndex_7cf53 2 = .ok (.aconst_null, 1) := by decide +kernel
theorem dJ15_checkIndex_7cf53_3 : decode cJ15_checkIndex_7cf53 3 = .ok (.invokestatic 105, 3) := by decide +kernel
theorem dJ15_checkIndex_7cf53_6 : decode cJ15_checkIndex_7cf53 6 = .ok (.ireturn, 1) := by decide +kernel
theorem dJ8_newLength_cabcc_0 : decode cJ8_newLength_cabcc 0 = .ok (.iload_n 0, 1) := by decide +kernel
theorem dJ8_newLength_cabcc_1 : decode cJ8_newLength_cabcc 1 = .ok (.iload_n 1, 1) := by decide +kernel
theorem dJ8_newLength_cabcc_2 : decode cJ8_newLength_cabcc 2 = .ok (.iload_n 2, 1) := by decide +kernel
theorem dJ8_newLength_cabcc_3 : decode cJ8_newLength_cabcc 3 = .ok (.invokestatic 194, 3) := by decide +kernel
theorem dJ8_newLength_cabcc_6 : decode cJ8_newLength_cabcc 6 = .ok (.iadd, 1) := by decide +kernel
theorem dJ8_newLength_cabcc_7 : decode cJ8_newLength_cabcc 7 = .ok (.istore_n 3, 1) := by decide +kernel
theorem dJ8_newLength_cabcc_8 : decode cJ8_newLength_cabcc 8 = .ok (.iconst 0, 1) := by decide +kernel
theorem dJ8_newLength_cabcc_9 : decode cJ8_newLength_cabcc 9 = .ok (.iload_n 3, 1) := by decide +kernel
theorem dJ8_newLength_cabcc_10 : decode cJ8_newLength_cabcc 10 = .ok (.if_icmp .ge 11, 3) := by decide +kernel
theorem dJ8_newLength_cabcc_13 : decode cJ8_newLength_cabcc 13 = .ok (.iload_n 3, 1) := by decide +kernel
theorem dJ8_newLength_cabcc_14 : decode cJ8_newLength_cabcc 14 = .ok (.ldc 200, 2) := by decide +kernel
theorem dJ8_newLength_cabcc_16 : decode cJ8_newLength_cabcc 16 = .ok (.if_icmp .gt 5, 3) := by decide +kernel
theorem dJ8_newLength_cabcc_19 : decode cJ8_newLength_cabcc 19 = .ok (.iload_n 3, 1) := by decide +kernel
theorem dJ8_newLength_cabcc_20 : decode cJ8_newLength_cabcc 20 = .ok (.ireturn, 1) := by decide +kernel
theorem dJ8_newLength_cabcc_21 : decode cJ8_newLength_cabcc 21 = .ok (.iload_n 0, 1) := by decide +kernel
theorem dJ8_newLength_cabcc_22 : decode cJ8_newLength_cabcc 22 = .ok (.iload_n 1, 1) := by decide +kernel
theorem dJ8_newLength_cabcc_23 : decode cJ8_newLength_cabcc 23 = .ok (.invokestatic 201, 3) := by decide +kernel
theorem dJ8_newLength_cabcc_26 : decode cJ8_newLength_cabcc 26 = .ok (.ireturn, 1) := by decide +kernel
theorem dJ8_hugeLength_7cf53_0 : decode cJ8_hugeLength_7cf53 0 = .ok (.iload_n 0, 1) := by decide +kernel
theorem dJ8_hugeLength_7cf53_1 : decode cJ8_hugeLength_7cf53 1 = .ok (.iload_n 1, 1) := by decide +kernel
theorem dJ8_hugeLength_7cf53_2 : decode cJ8_hugeLength_7cf53 2 = .ok (.iadd, 1) := by decide +kernel
theorem dJ8_hugeLength_7cf53_3 : decode cJ8_hugeLength_7cf53 3 = .ok (.istore_n 2, 1) := by decide +kernel
theorem dJ8_hugeLength_7cf53_4 : decode cJ8_hugeLength_7cf53 4 = .ok (.iload_n 2, 1) := by decide +kernel
theorem dJ8_hugeLength_7cf53_5 : decode cJ8_hugeLength_7cf53 5 = .ok (.ifCond .ge 44, 3) := by decide +kernel
theorem dJ8_hugeLength_7cf53_8 : decode cJ8_hugeLength_7cf53 8 = .ok (.new 204, 3) := by decide +kernel
theorem dJ8_hugeLength_7cf53_11 : decode cJ8_hugeLength_7cf53 11 = .ok (.dup, 1) := by decide +kernel
theorem dJ8_hugeLength_7cf53_12 : decode cJ8_hugeLength_7cf53 12 = .ok (.new 89, 3) := by decide +kernel
theorem dJ8_hugeLength_7cf53_15 : decode cJ8_hugeLength_7cf53 15 = .ok (.dup, 1) := by decide +kernel
theorem dJ8_hugeLength_7cf53_16 : decode cJ8_hugeLength_7cf53 16 = .ok (.invokespecial 91, 3) := by decide +kernel
theorem dJ8_hugeLength_7cf53_19 : decode cJ8_hugeLength_7cf53 19 = .ok (.ldc 206, 2) := by decide +kernel
theorem dJ8_hugeLength_7cf53_21 : decode cJ8_hugeLength_7cf53 21 = .ok (.invokevirtual 94, 3) := by decide +kernel
theorem dJ8_hugeLength_7cf53_24 : decode cJ8_hugeLength_7cf53 24 = .ok (.iload_n 0, 1) := by decide +kernel
theorem dJ8_hugeLength_7cf53_25 : decode cJ8_hugeLength_7cf53 25 = .ok (.invokevirtual 98, 3) := by decide +kernel
theorem dJ8_hugeLength_7cf53_28 : decode cJ8_hugeLength_7cf53 28 = .ok (.ldc 208, 2) := by decide +kernel
theorem dJ8_hugeLength_7cf53_30 : decode cJ8_hugeLength_7cf53 30 = .ok (.invokevirtual 94, 3) := by decide +kernel
theorem dJ8_hugeLength_7cf53_33 : decode cJ8_hugeLength_7cf53 33 = .ok (.iload_n 1, 1) := by decide +kernel
theorem dJ8_hugeLength_7cf53_34 : decode cJ8_hugeLength_7cf53 34 = .ok (.invokevirtual 98, 3) := by decide +kernel
theorem dJ8_hugeLength_7cf53_37 : decode cJ8_hugeLength_7cf53 37 = .ok (.ldc 210, 2) := by decide +kernel
theorem dJ8_hugeLength_7cf53_39 : decode cJ8_hugeLength_7cf53 39 = .ok (.invokevirtual 94, 3) := by decide +kernel
theorem dJ8_hugeLength_7cf53_42 : decode cJ8_hugeLength_7cf53 42 = .ok (.invokevirtual 101, 3) := by decide +kernel
theorem dJ8_hugeLength_7cf53_45 : decode cJ8_hugeLength_7cf53 45 = .ok (.invokespecial 212, 3) := by decide +kernel
theorem dJ8_hugeLength_7cf53_48 : decode cJ8_hugeLength_7cf53 48 = .ok (.athrow, 1) := by decide +kernel
theorem dJ8_hugeLength_7cf53_49 : decode cJ8_hugeLength_7cf53 49 = .ok (.iload_n 2, 1) := by decide +kernel
theorem dJ8_hugeLength_7cf53_50 : decode cJ8_hugeLength_7cf53 50 = .ok (.ldc 200, 2) := by decide +kernel
theorem dJ8_hugeLength_7cf53_52 : decode cJ8_hugeLength_7cf53 52 = .ok (.if_icmp .gt 6, 3) := by decide +kernel
theorem dJ8_hugeLength_7cf53_55 : decode cJ8_hugeLength_7cf53 55 = .ok (.ldc 200, 2) := by decide +kernel
theorem dJ8_hugeLength_7cf53_57 : decode cJ8_hugeLength_7cf53 57 = .ok (.ireturn, 1) := by decide +kernel
theorem dJ8_hugeLength_7cf53_58 : decode cJ8_hugeLength_7cf53 58 = .ok (.iload_n 2, 1) := by decide +kernel
theorem dJ8_hugeLength_7cf53_59 : decode cJ8_hugeLength_7cf53 59 = .ok (.ireturn, 1) := by decide +kernel
theorem dJ3_checkIndex_8e157_0 : decode cJ3_checkIndex_8e157 0 = .ok (.iload_n 0, 1) := by decide +kernel
theorem dJ3_checkIndex_8e157_1 : decode cJ3_checkIndex_8e157 1 = .ok (.ifCond .lt 8, 3) := by decide +kernel
theorem dJ3_checkIndex_8e157_4 : decode cJ3_checkIndex_8e157 4 = .ok (.iload_n 0, 1) := by decide +kernel
theorem dJ3_checkIndex_8e157_5 : decode cJ3_checkIndex_8e157 5 = .ok (.iload_n 1, 1) := by decide +kernel
theorem dJ3_checkIndex_8e157_6 : decode cJ3_checkIndex_8e157 6 = .ok (.if_icmp .lt 10, 3) := by decide +kernel
theorem dJ3_checkIndex_8e157_9 : decode cJ3_checkIndex_8e157 9 = .ok (.aload_n 2, 1) := by decide +kernel
theorem dJ3_checkIndex_8e157_10 : decode cJ3_checkIndex_8e157 10 = .ok (.iload_n 0, 1) := by decide +kernel
theorem dJ3_checkIndex_8e157_11 : decode cJ3_checkIndex_8e157 11 = .ok (.iload_n 1, 1) := by decide +kernel
theorem dJ3_checkIndex_8e157_12 : decode cJ3_checkIndex_8e157 12 = .ok (.invokestatic 95, 3) := by decide +kernel
theorem dJ3_checkIndex_8e157_15 : decode cJ3_checkIndex_8e157 15 = .ok (.athrow, 1) := by decide +kernel
theorem dJ3_checkIndex_8e157_16 : decode cJ3_checkIndex_8e157 16 = .ok (.iload_n 0, 1) := by decide +kernel
theorem dJ3_checkIndex_8e157_17 : decode cJ3_checkIndex_8e157 17 = .ok (.ireturn, 1) := by decide +kernel
theorem dJ3_checkFromToIndex_8c36e_0 : decode cJ3_checkFromToIndex_8c36e 0 = .ok (.iload_n 0, 1) := by decide +kernel
theorem dJ3_checkFromToIndex_8c36e_1 : decode cJ3_checkFromToIndex_8c36e 1 = .ok (.ifCond .lt 13, 3) := by decide +kernel
theorem dJ3_checkFromToIndex_8c36e_4 : decode cJ3_checkFromToIndex_8c36e 4 = .ok (.iload_n 0, 1) := by decide +kernel
theorem dJ3_checkFromToIndex_8c36e_5 : decode cJ3_checkFromToIndex_8c36e 5 = .ok (.iload_n 1, 1) := by decide +kernel
theorem dJ3_checkFromToIndex_8c36e_6 : decode cJ3_checkFromToIndex_8c36e 6 = .ok (.if_icmp .gt 8, 3) := by decide +kernel
theorem dJ3_checkFromToIndex_8c36e_9 : decode cJ3_checkFromToIndex_8c36e 9 = .ok (.iload_n 1, 1) := by decide +kernel
theorem dJ3_checkFromToIndex_8c36e_10 : decode cJ3_checkFromToIndex_8c36e 10 = .ok (.iload_n 2, 1) := by decide +kernel
theorem dJ3_checkFromToIndex_8c36e_11 : decode cJ3_checkFromToIndex_8c36e 11 = .ok (.if_icmp .le 11, 3) := by decide +kernel
theorem dJ3_checkFromToIndex_8c36e_14 : decode cJ3_checkFromToIndex_8c36e 14 = .ok (.aload_n 3, 1) := by decide +kernel
theorem dJ3_checkFromToIndex_8c36e_15 : decode cJ3_checkFromToIndex_8c36e 15 = .ok (.iload_n 0, 1) := by decide +kernel
theorem dJ3_checkFromToIndex_8c36e_16 : decode cJ3_checkFromToIndex_8c36e 16 = .ok (.iload_n 1, 1) := by decide +kernel
theorem dJ3_checkFromToIndex_8c36e_17 : decode cJ3_checkFromToIndex_8c36e 17 = .ok (.iload_n 2, 1) := by decide +kernel
theorem dJ3_checkFromToIndex_8c36e_18 : decode cJ3_checkFromToIndex_8c36e 18 = .ok (.invokestatic 99, 3) := by decide +kernel
theorem dJ3_checkFromToIndex_8c36e_21 : decode cJ3_checkFromToIndex_8c36e 21 = .ok (.athrow, 1) := by decide +kernel
theorem dJ3_checkFromToIndex_8c36e_22 : decode cJ3_checkFromToIndex_8c36e 22 = .ok (.iload_n 0, 1) := by decide +kernel
theorem dJ3_checkFromToIndex_8c36e_23 : decode cJ3_checkFromToIndex_8c36e 23 = .ok (.ireturn, 1) := by decide +kernel
theorem dL_law_0 : decode cL_law 0 = .ok (.new 7, 3) := by decide +kernel
theorem dL_law_3 : decode cL_law 3 = .ok (.dup, 1) := by decide +kernel
theorem dL_law_4 : decode cL_law 4 = .ok (.invokespecial 9, 3) := by decide +kernel
theorem dL_law_7 : decode cL_law 7 = .ok (.astore_n 1, 1) := by decide +kernel
theorem dL_law_8 : decode cL_law 8 = .ok (.new 10, 3) := by decide +kernel
theorem dL_law_11 : decode cL_law 11 = .ok (.dup, 1) := by decide +kernel
theorem dL_law_12 : decode cL_law 12 = .ok (.invokespecial 12, 3) := by decide +kernel
theorem dL_law_15 : decode cL_law 15 = .ok (.astore_n 2, 1) := by decide +kernel
theorem dL_law_16 : decode cL_law 16 = .ok (.iconst 0, 1) := by decide +kernel
theorem dL_law_17 : decode cL_law 17 = .ok (.istore_n 3, 1) := by decide +kernel
theorem dL_law_18 : decode cL_law 18 = .ok (.iload_n 3, 1) := by decide +kernel
theorem dL_law_19 : decode cL_law 19 = .ok (.aload_n 0, 1) := by decide +kernel
theorem dL_law_20 : decode cL_law 20 = .ok (.arraylength, 1) := by decide +kernel
theorem dL_law_21 : decode cL_law 21 = .ok (.iconst 4, 1) := by decide +kernel
theorem dL_law_22 : decode cL_law 22 = .ok (.isub, 1) := by decide +kernel
theorem dL_law_23 : decode cL_law 23 = .ok (.if_icmp .gt 723, 3) := by decide +kernel
theorem dL_law_26 : decode cL_law 26 = .ok (.aload_n 0, 1) := by decide +kernel
theorem dL_law_27 : decode cL_law 27 = .ok (.iload_n 3, 1) := by decide +kernel
theorem dL_law_28 : decode cL_law 28 = .ok (.iaload, 1) := by decide +kernel
theorem dL_law_29 : decode cL_law 29 = .ok (.bipush 31, 2) := by decide +kernel
theorem dL_law_31 : decode cL_law 31 = .ok (.iand, 1) := by decide +kernel
theorem dL_law_32 : decode cL_law 32 = .ok (.tableswitch 708 0 22 #[108, 131, 144, 157, 190, 213, 246, 289, 312, 325, 348, 371, 414, 427, 460, 503, 536, 569, 592, 625, 658, 671, 694], 108) := by decide +kernel
theorem dL_law_140 : decode cL_law 140 = .ok (.aload_n 1, 1) := by decide +kernel
theorem dL_law_141 : decode cL_law 141 = .ok (.aload_n 0, 1) := by decide +kernel
theorem dL_law_142 : decode cL_law 142 = .ok (.iload_n 3, 1) := by decide +kernel
theorem dL_law_143 : decode cL_law 143 = .ok (.iconst 1, 1) := by decide +kernel
theorem dL_law_144 : decode cL_law 144 = .ok (.iadd, 1) := by decide +kernel
theorem dL_law_145 : decode cL_law 145 = .ok (.iaload, 1) := by decide +kernel
theorem dL_law_146 : decode cL_law 146 = .ok (.invokevirtual 13, 3) := by decide +kernel
theorem dL_law_149 : decode cL_law 149 = .ok (.aload_n 2, 1) := by decide +kernel
theorem dL_law_150 : decode cL_law 150 = .ok (.aload_n 0, 1) := by decide +kernel
theorem dL_law_151 : decode cL_law 151 = .ok (.iload_n 3, 1) := by decide +kernel
theorem dL_law_152 : decode cL_law 152 = .ok (.iconst 1, 1) := by decide +kernel
theorem dL_law_153 : decode cL_law 153 = .ok (.iadd, 1) := by decide +kernel
theorem dL_law_154 : decode cL_law 154 = .ok (.iaload, 1) := by decide +kernel
theorem dL_law_155 : decode cL_law 155 = .ok (.invokevirtual 17, 3) := by decide +kernel
theorem dL_law_158 : decode cL_law 158 = .ok (.if_icmp .eq 582, 3) := by decide +kernel
theorem dL_law_161 : decode cL_law 161 = .ok (.iconst 0, 1) := by decide +kernel
theorem dL_law_162 : decode cL_law 162 = .ok (.ireturn, 1) := by decide +kernel
theorem dL_law_163 : decode cL_law 163 = .ok (.aload_n 1, 1) := by decide +kernel
theorem dL_law_164 : decode cL_law 164 = .ok (.invokevirtual 18, 3) := by decide +kernel
theorem dL_law_167 : decode cL_law 167 = .ok (.aload_n 2, 1) := by decide +kernel
theorem dL_law_168 : decode cL_law 168 = .ok (.invokevirtual 22, 3) := by decide +kernel
theorem dL_law_171 : decode cL_law 171 = .ok (.if_icmp .eq 569, 3) := by decide +kernel
theorem dL_law_174 : decode cL_law 174 = .ok (.iconst 0, 1) := by decide +kernel
theorem dL_law_175 : decode cL_law 175 = .ok (.ireturn, 1) := by decide +kernel
theorem dL_law_176 : decode cL_law 176 = .ok (.aload_n 1, 1) := by decide +kernel
theorem dL_law_177 : decode cL_law 177 = .ok (.invokevirtual 23, 3) := by decide +kernel
theorem dL_law_180 : decode cL_law 180 = .ok (.aload_n 2, 1) := by decide +kernel
theorem dL_law_181 : decode cL_law 181 = .ok (.invokevirtual 26, 3) := by decide +kernel
theorem dL_law_184 : decode cL_law 184 = .ok (.if_icmp .eq 556, 3) := by decide +kernel
theorem dL_law_187 : decode cL_law 187 = .ok (.iconst 0, 1) := by decide +kernel
theorem dL_law_188 : decode cL_law 188 = .ok (.ireturn, 1) := by decide +kernel
theorem dL_law_189 : decode cL_law 189 = .ok (.aload_n 1, 1) := by decide +kernel
theorem dL_law_190 : decode cL_law 190 = .ok (.aload_n 0, 1) := by decide +kernel
theorem dL_law_191 : decode cL_law 191 = .ok (.iload_n 3, 1) := by decide +kernel
theorem dL_law_192 : decode cL_law 192 = .ok (.iconst 1, 1) := by decide +kernel
theorem dL_law_193 : decode cL_law 193 = .ok (.iadd, 1) := by decide +kernel
theorem dL_law_194 : decode cL_law 194 = .ok (.iaload, 1) := by decide +kernel
theorem dL_law_195 : decode cL_law 195 = .ok (.aload_n 0, 1) := by decide +kernel
theorem dL_law_196 : decode cL_law 196 = .ok (.iload_n 3, 1) := by decide +kernel
theorem dL_law_197 : decode cL_law 197 = .ok (.iconst 2, 1) := by decide +kernel
theorem dL_law_198 : decode cL_law 198 = .ok (.iadd, 1) := by decide +kernel
theorem dL_law_199 : decode cL_law 199 = .ok (.iaload, 1) := by decide +kernel
theorem dL_law_200 : decode cL_law 200 = .ok (.invokevirtual 27, 3) := by decide +kernel
theorem dL_law_203 : decode cL_law 203 = .ok (.aload_n 2, 1) := by decide +kernel
theorem dL_law_204 : decode cL_law 204 = .ok (.aload_n 0, 1) := by decide +kernel
theorem dL_law_205 : decode cL_law 205 = .ok (.iload_n 3, 1) := by decide +kernel
theorem dL_law_206 : decode cL_law 206 = .ok (.iconst 1, 1) := by decide +kernel
theorem dL_law_207 : decode cL_law 207 = .ok (.iadd, 1) := by decide +kernel
theorem dL_law_208 : decode cL_law 208 = .ok (.iaload, 1) := by decide +kernel
theorem dL_law_209 : decode cL_law 209 = .ok (.aload_n 0, 1) := by decide +kernel
theorem dL_law_210 : decode cL_law 210 = .ok (.iload_n 3, 1) := by decide +kernel
theorem dL_law_211 : decode cL_law 211 = .ok (.iconst 2, 1) := by decide +kernel
theorem dL_law_212 : decode cL_law 212 = .ok (.iadd, 1) := by decide +kernel
theorem dL_law_213 : decode cL_law 213 = .ok (.iaload, 1) := by decide +kernel
theorem dL_law_214 : decode cL_law 214 = .ok (.invokevirtual 31, 3) := by decide +kernel
theorem dL_law_217 : decode cL_law 217 = .ok (.if_icmp .eq 523, 3) := by decide +kernel
theorem dL_law_220 : decode cL_law 220 = .ok (.iconst 0, 1) := by decide +kernel
theorem dL_law_221 : decode cL_law 221 = .ok (.ireturn, 1) := by decide +kernel
theorem dL_law_222 : decode cL_law 222 = .ok (.aload_n 1, 1) := by decide +kernel
theorem dL_law_223 : decode cL_law 223 = .ok (.aload_n 0, 1) := by decide +kernel
theorem dL_law_224 : decode cL_law 224 = .ok (.iload_n 3, 1) := by decide +kernel
theorem dL_law_225 : decode cL_law 225 = .ok (.iconst 1, 1) := by decide +kernel
theorem dL_law_226 : decode cL_law 226 = .ok (.iadd, 1) := by decide +kernel
theorem dL_law_227 : decode cL_law 227 = .ok (.iaload, 1) := by decide +kernel
theorem dL_law_228 : decode cL_law 228 = .ok (.invokevirtual 32, 3) := by decide +kernel
theorem dL_law_231 : decode cL_law 231 = .ok (.aload_n 2, 1) := by decide +kernel
theorem dL_law_232 : decode cL_law 232 = .ok (.aload_n 0, 1) := by decide +kernel
theorem dL_law_233 : decode cL_law 233 = .ok (.iload_n 3, 1) := by decide +kernel
theorem dL_law_234 : decode cL_law 234 = .ok (.iconst 1, 1) := by decide +kernel
theorem dL_law_235 : decode cL_law 235 = .ok (.iadd, 1) := by decide +kernel
theorem dL_law_236 : decode cL_law 236 = .ok (.iaload, 1) := by decide +kernel
theorem dL_law_237 : decode cL_law 237 = .ok (.invokevirtual 35, 3) := by decide +kernel
theorem dL_law_240 : decode cL_law 240 = .ok (.if_icmp .eq 500, 3) := by decide +kernel
theorem dL_law_243 : decode cL_law 243 = .ok (.iconst 0, 1) := by decide +kernel
theorem dL_law_244 : decode cL_law 244 = .ok (.ireturn, 1) := by decide +kernel
theorem dL_law_245 : decode cL_law 245 = .ok (.aload_n 1, 1) := by decide +kernel
theorem dL_law_246 : decode cL_law 246 = .ok (.aload_n 0, 1) := by decide +kernel
theorem dL_law_247 : decode cL_law 247 = .ok (.iload_n 3, 1) := by decide +kernel
theorem dL_law_248 : decode cL_law 248 = .ok (.iconst 1, 1) := by decide +kernel
theorem dL_law_249 : decode cL_law 249 = .ok (.iadd, 1) := by decide +kernel
theorem dL_law_250 : decode cL_law 250 = .ok (.iaload, 1) := by decide +kernel
theorem dL_law_251 : decode cL_law 251 = .ok (.aload_n 0, 1) := by decide +kernel
theorem dL_law_252 : decode cL_law 252 = .ok (.iload_n 3, 1) := by decide +kernel
theorem dL_law_253 : decode cL_law 253 = .ok (.iconst 2, 1) := by decide +kernel
theorem dL_law_254 : decode cL_law 254 = .ok (.iadd, 1) := by decide +kernel
theorem dL_law_255 : decode cL_law 255 = .ok (.iaload, 1) := by decide +kernel
theorem dL_law_256 : decode cL_law 256 = .ok (.invokevirtual 36, 3) := by decide +kernel
theorem dL_law_259 : decode cL_law 259 = .ok (.aload_n 2, 1) := by decide +kernel
theorem dL_law_260 : decode cL_law 260 = .ok (.aload_n 0, 1) := by decide +kernel
theorem dL_law_261 : decode cL_law 261 = .ok (.iload_n 3, 1) := by decide +kernel
theorem dL_law_262 : decode cL_law 262 = .ok (.iconst 1, 1) := by decide +kernel
theorem dL_law_263 : decode cL_law 263 = .ok (.iadd, 1) := by decide +kernel
theorem dL_law_264 : decode cL_law 264 = .ok (.iaload, 1) := by decide +kernel
theorem dL_law_265 : decode cL_law 265 = .ok (.aload_n 0, 1) := by decide +kernel
theorem dL_law_266 : decode cL_law 266 = .ok (.iload_n 3, 1) := by decide +kernel
theorem dL_law_267 : decode cL_law 267 = .ok (.iconst 2, 1) := by decide +kernel
theorem dL_law_268 : decode cL_law 268 = .ok (.iadd, 1) := by decide +kernel
theorem dL_law_269 : decode cL_law 269 = .ok (.iaload, 1) := by decide +kernel
theorem dL_law_270 : decode cL_law 270 = .ok (.invokevirtual 39, 3) := by decide +kernel
theorem dL_law_273 : decode cL_law 273 = .ok (.if_icmp .eq 467, 3) := by decide +kernel
theorem dL_law_276 : decode cL_law 276 = .ok (.iconst 0, 1) := by decide +kernel
theorem dL_law_277 : decode cL_law 277 = .ok (.ireturn, 1) := by decide +kernel
theorem dL_law_278 : decode cL_law 278 = .ok (.aload_n 1, 1) := by decide +kernel
theorem dL_law_279 : decode cL_law 279 = .ok (.aload_n 0, 1) := by decide +kernel
theorem dL_law_280 : decode cL_law 280 = .ok (.iload_n 3, 1) := by decide +kernel
theorem dL_law_281 : decode cL_law 281 = .ok (.iconst 1, 1) := by decide +kernel
theorem dL_law_282 : decode cL_law 282 = .ok (.iadd, 1) := by decide +kernel
theorem dL_law_283 : decode cL_law 283 = .ok (.iaload, 1) := by decide +kernel
theorem dL_law_284 : decode cL_law 284 = .ok (.aload_n 0, 1) := by decide +kernel
theorem dL_law_285 : decode cL_law 285 = .ok (.iload_n 3, 1) := by decide +kernel
theorem dL_law_286 : decode cL_law 286 = .ok (.iconst 2, 1) := by decide +kernel
theorem dL_law_287 : decode cL_law 287 = .ok (.iadd, 1) := by decide +kernel
theorem dL_law_288 : decode cL_law 288 = .ok (.iaload, 1) := by decide +kernel
theorem dL_law_289 : decode cL_law 289 = .ok (.aload_n 0, 1) := by decide +kernel
theorem dL_law_290 : decode cL_law 290 = .ok (.iload_n 3, 1) := by decide +kernel
theorem dL_law_291 : decode cL_law 291 = .ok (.iconst 3, 1) := by decide +kernel
theorem dL_law_292 : decode cL_law 292 = .ok (.iadd, 1) := by decide +kernel
theorem dL_law_293 : decode cL_law 293 = .ok (.iaload, 1) := by decide +kernel
theorem dL_law_294 : decode cL_law 294 = .ok (.invokevirtual 40, 3) := by decide +kernel
theorem dL_law_297 : decode cL_law 297 = .ok (.aload_n 2, 1) := by decide +kernel
theorem dL_law_298 : decode cL_law 298 = .ok (.aload_n 0, 1) := by decide +kernel
theorem dL_law_299 : decode cL_law 299 = .ok (.iload_n 3, 1) := by decide +kernel
theorem dL_law_300 : decode cL_law 300 = .ok (.iconst 1, 1) := by decide +kernel
theorem dL_law_301 : decode cL_law 301 = .ok (.iadd, 1) := by decide +kernel
theorem dL_law_302 : decode cL_law 302 = .ok (.iaload, 1) := by decide +kernel
theorem dL_law_303 : decode cL_law 303 = .ok (.aload_n 0, 1) := by decide +kernel
theorem dL_law_304 : decode cL_law 304 = .ok (.iload_n 3, 1) := by decide +kernel
theorem dL_law_305 : decode cL_law 305 = .ok (.iconst 2, 1) := by decide +kernel
theorem dL_law_306 : decode cL_law 306 = .ok (.iadd, 1) := by decide +kernel
theorem dL_law_307 : decode cL_law 307 = .ok (.iaload, 1) := by decide +kernel
theorem dL_law_308 : decode cL_law 308 = .ok (.aload_n 0, 1) := by decide +kernel
theorem dL_law_309 : decode cL_law 309 = .ok (.iload_n 3, 1) := by decide +kernel
theorem dL_law_310 : decode cL_law 310 = .ok (.iconst 3, 1) := by decide +kernel
theorem dL_law_311 : decode cL_law 311 = .ok (.iadd, 1) := by decide +kernel
theorem dL_law_312 : decode cL_law 312 = .ok (.iaload, 1) := by decide +kernel
theorem dL_law_313 : decode cL_law 313 = .ok (.invokevirtual 44, 3) := by decide +kernel
theorem dL_law_316 : decode cL_law 316 = .ok (.if_icmp .eq 424, 3) := by decide +kernel
theorem dL_law_319 : decode cL_law 319 = .ok (.iconst 0, 1) := by decide +kernel
theorem dL_law_320 : decode cL_law 320 = .ok (.ireturn, 1) := by decide +kernel
theorem dL_law_321 : decode cL_law 321 = .ok (.aload_n 1, 1) := by decide +kernel
theorem dL_law_322 : decode cL_law 322 = .ok (.aload_n 0, 1) := by decide +kernel
theorem dL_law_323 : decode cL_law 323 = .ok (.iload_n 3, 1) := by decide +kernel
theorem dL_law_324 : decode cL_law 324 = .ok (.iconst 1, 1) := by decide +kernel
theorem dL_law_325 : decode cL_law 325 = .ok (.iadd, 1) := by decide +kernel
theorem dL_law_326 : decode cL_law 326 = .ok (.iaload, 1) := by decide +kernel
theorem dL_law_327 : decode cL_law 327 = .ok (.invokevirtual 45, 3) := by decide +kernel
theorem dL_law_330 : decode cL_law 330 = .ok (.aload_n 2, 1) := by decide +kernel
theorem dL_law_331 : decode cL_law 331 = .ok (.aload_n 0, 1) := by decide +kernel
theorem dL_law_332 : decode cL_law 332 = .ok (.iload_n 3, 1) := by decide +kernel
theorem dL_law_333 : decode cL_law 333 = .ok (.iconst 1, 1) := by decide +kernel
theorem dL_law_334 : decode cL_law 334 = .ok (.iadd, 1) := by decide +kernel
theorem dL_law_335 : decode cL_law 335 = .ok (.iaload, 1) := by decide +kernel
theorem dL_law_336 : decode cL_law 336 = .ok (.invokevirtual 48, 3) := by decide +kernel
theorem dL_law_339 : decode cL_law 339 = .ok (.if_icmp .eq 401, 3) := by decide +kernel
theorem dL_law_342 : decode cL_law 342 = .ok (.iconst 0, 1) := by decide +kernel
theorem dL_law_343 : decode cL_law 343 = .ok (.ireturn, 1) := by decide +kernel
theorem dL_law_344 : decode cL_law 344 = .ok (.aload_n 1, 1) := by decide +kernel
theorem dL_law_345 : decode cL_law 345 = .ok (.invokevirtual 49, 3) := by decide +kernel
theorem dL_law_348 : decode cL_law 348 = .ok (.aload_n 2, 1) := by decide +kernel
theorem dL_law_349 : decode cL_law 349 = .ok (.invokevirtual 52, 3) := by decide +kernel
theorem dL_law_352 : decode cL_law 352 = .ok (.if_icmp .eq 388, 3) := by decide +kernel
theorem dL_law_355 : decode cL_law 355 = .ok (.iconst 0, 1) := by decide +kernel
theorem dL_law_356 : decode cL_law 356 = .ok (.ireturn, 1) := by decide +kernel
theorem dL_law_357 : decode cL_law 357 = .ok (.aload_n 1, 1) := by decide +kernel
theorem dL_law_358 : decode cL_law 358 = .ok (.aload_n 0, 1) := by decide +kernel
theorem dL_law_359 : decode cL_law 359 = .ok (.iload_n 3, 1) := by decide +kernel
theorem dL_law_360 : decode cL_law 360 = .ok (.iconst 1, 1) := by decide +kernel
theorem dL_law_361 : decode cL_law 361 = .ok (.iadd, 1) := by decide +kernel
theorem dL_law_362 : decode cL_law 362 = .ok (.iaload, 1) := by decide +kernel
theorem dL_law_363 : decode cL_law 363 = .ok (.invokevirtual 53, 3) := by decide +kernel
theorem dL_law_366 : decode cL_law 366 = .ok (.aload_n 2, 1) := by decide +kernel
theorem dL_law_367 : decode cL_law 367 = .ok (.aload_n 0, 1) := by decide +kernel
theorem dL_law_368 : decode cL_law 368 = .ok (.iload_n 3, 1) := by decide +kernel
theorem dL_law_369 : decode cL_law 369 = .ok (.iconst 1, 1) := by decide +kernel
theorem dL_law_370 : decode cL_law 370 = .ok (.iadd, 1) := by decide +kernel
theorem dL_law_371 : decode cL_law 371 = .ok (.iaload, 1) := by decide +kernel
theorem dL_law_372 : decode cL_law 372 = .ok (.invokevirtual 56, 3) := by decide +kernel
theorem dL_law_375 : decode cL_law 375 = .ok (.if_icmp .eq 365, 3) := by decide +kernel
theorem dL_law_378 : decode cL_law 378 = .ok (.iconst 0, 1) := by decide +kernel
theorem dL_law_379 : decode cL_law 379 = .ok (.ireturn, 1) := by decide +kernel
theorem dL_law_380 : decode cL_law 380 = .ok (.aload_n 1, 1) := by decide +kernel
theorem dL_law_381 : decode cL_law 381 = .ok (.aload_n 0, 1) := by decide +kernel
theorem dL_law_382 : decode cL_law 382 = .ok (.iload_n 3, 1) := by decide +kernel
theorem dL_law_383 : decode cL_law 383 = .ok (.iconst 1, 1) := by decide +kernel
theorem dL_law_384 : decode cL_law 384 = .ok (.iadd, 1) := by decide +kernel
theorem dL_law_385 : decode cL_law 385 = .ok (.iaload, 1) := by decide +kernel
theorem dL_law_386 : decode cL_law 386 = .ok (.invokevirtual 57, 3) := by decide +kernel
theorem dL_law_389 : decode cL_law 389 = .ok (.aload_n 2, 1) := by decide +kernel
theorem dL_law_390 : decode cL_law 390 = .ok (.aload_n 0, 1) := by decide +kernel
theorem dL_law_391 : decode cL_law 391 = .ok (.iload_n 3, 1) := by decide +kernel
theorem dL_law_392 : decode cL_law 392 = .ok (.iconst 1, 1) := by decide +kernel
theorem dL_law_393 : decode cL_law 393 = .ok (.iadd, 1) := by decide +kernel
theorem dL_law_394 : decode cL_law 394 = .ok (.iaload, 1) := by decide +kernel
theorem dL_law_395 : decode cL_law 395 = .ok (.invokevirtual 60, 3) := by decide +kernel
theorem dL_law_398 : decode cL_law 398 = .ok (.if_icmp .eq 342, 3) := by decide +kernel
theorem dL_law_401 : decode cL_law 401 = .ok (.iconst 0, 1) := by decide +kernel
theorem dL_law_402 : decode cL_law 402 = .ok (.ireturn, 1) := by decide +kernel
theorem dL_law_403 : decode cL_law 403 = .ok (.aload_n 1, 1) := by decide +kernel
theorem dL_law_404 : decode cL_law 404 = .ok (.aload_n 0, 1) := by decide +kernel
theorem dL_law_405 : decode cL_law 405 = .ok (.iload_n 3, 1) := by decide +kernel
theorem dL_law_406 : decode cL_law 406 = .ok (.iconst 1, 1) := by decide +kernel
theorem dL_law_407 : decode cL_law 407 = .ok (.iadd, 1) := by decide +kernel
theorem dL_law_408 : decode cL_law 408 = .ok (.iaload, 1) := by decide +kernel
theorem dL_law_409 : decode cL_law 409 = .ok (.aload_n 0, 1) := by decide +kernel
theorem dL_law_410 : decode cL_law 410 = .ok (.iload_n 3, 1) := by decide +kernel
theorem dL_law_411 : decode cL_law 411 = .ok (.iconst 2, 1) := by decide +kernel
theorem dL_law_412 : decode cL_law 412 = .ok (.iadd, 1) := by decide +kernel
theorem dL_law_413 : decode cL_law 413 = .ok (.iaload, 1) := by decide +kernel
theorem dL_law_414 : decode cL_law 414 = .ok (.aload_n 0, 1) := by decide +kernel
theorem dL_law_415 : decode cL_law 415 = .ok (.iload_n 3, 1) := by decide +kernel
theorem dL_law_416 : decode cL_law 416 = .ok (.iconst 3, 1) := by decide +kernel
theorem dL_law_417 : decode cL_law 417 = .ok (.iadd, 1) := by decide +kernel
theorem dL_law_418 : decode cL_law 418 = .ok (.iaload, 1) := by decide +kernel
theorem dL_law_419 : decode cL_law 419 = .ok (.invokevirtual 61, 3) := by decide +kernel
theorem dL_law_422 : decode cL_law 422 = .ok (.aload_n 2, 1) := by decide +kernel
theorem dL_law_423 : decode cL_law 423 = .ok (.aload_n 0, 1) := by decide +kernel
theorem dL_law_424 : decode cL_law 424 = .ok (.iload_n 3, 1) := by decide +kernel
theorem dL_law_425 : decode cL_law 425 = .ok (.iconst 1, 1) := by decide +kernel
theorem dL_law_426 : decode cL_law 426 = .ok (.iadd, 1) := by decide +kernel
theorem dL_law_427 : decode cL_law 427 = .ok (.iaload, 1) := by decide +kernel
theorem dL_law_428 : decode cL_law 428 = .ok (.aload_n 0, 1) := by decide +kernel
theorem dL_law_429 : decode cL_law 429 = .ok (.iload_n 3, 1) := by decide +kernel
theorem dL_law_430 : decode cL_law 430 = .ok (.iconst 2, 1) := by decide +kernel
theorem dL_law_431 : decode cL_law 431 = .ok (.iadd, 1) := by decide +kernel
theorem dL_law_432 : decode cL_law 432 = .ok (.iaload, 1) := by decide +kernel
theorem dL_law_433 : decode cL_law 433 = .ok (.aload_n 0, 1) := by decide +kernel
theorem dL_law_434 : decode cL_law 434 = .ok (.iload_n 3, 1) := by decide +kernel
theorem dL_law_435 : decode cL_law 435 = .ok (.iconst 3, 1) := by decide +kernel
theorem dL_law_436 : decode cL_law 436 = .ok (.iadd, 1) := by decide +kernel
theorem dL_law_437 : decode cL_law 437 = .ok (.iaload, 1) := by decide +kernel
theorem dL_law_438 : decode cL_law 438 = .ok (.invokevirtual 64, 3) := by decide +kernel
theorem dL_law_441 : decode cL_law 441 = .ok (.if_icmp .eq 299, 3) := by decide +kernel
theorem dL_law_444 : decode cL_law 444 = .ok (.iconst 0, 1) := by decide +kernel
theorem dL_law_445 : decode cL_law 445 = .ok (.ireturn, 1) := by decide +kernel
theorem dL_law_446 : decode cL_law 446 = .ok (.aload_n 1, 1) := by decide +kernel
theorem dL_law_447 : decode cL_law 447 = .ok (.invokevirtual 65, 3) := by decide +kernel
theorem dL_law_450 : decode cL_law 450 = .ok (.aload_n 2, 1) := by decide +kernel
theorem dL_law_451 : decode cL_law 451 = .ok (.invokevirtual 68, 3) := by decide +kernel
theorem dL_law_454 : decode cL_law 454 = .ok (.if_icmp .eq 286, 3) := by decide +kernel
theorem dL_law_457 : decode cL_law 457 = .ok (.iconst 0, 1) := by decide +kernel
theorem dL_law_458 : decode cL_law 458 = .ok (.ireturn, 1) := by decide +kernel
theorem dL_law_459 : decode cL_law 459 = .ok (.aload_n 1, 1) := by decide +kernel
theorem dL_law_460 : decode cL_law 460 = .ok (.aload_n 0, 1) := by decide +kernel
theorem dL_law_461 : decode cL_law 461 = .ok (.iload_n 3, 1) := by decide +kernel
theorem dL_law_462 : decode cL_law 462 = .ok (.iconst 1, 1) := by decide +kernel
theorem dL_law_463 : decode cL_law 463 = .ok (.iadd, 1) := by decide +kernel
theorem dL_law_464 : decode cL_law 464 = .ok (.iaload, 1) := by decide +kernel
theorem dL_law_465 : decode cL_law 465 = .ok (.aload_n 0, 1) := by decide +kernel
theorem dL_law_466 : decode cL_law 466 = .ok (.iload_n 3, 1) := by decide +kernel
theorem dL_law_467 : decode cL_law 467 = .ok (.iconst 2, 1) := by decide +kernel
theorem dL_law_468 : decode cL_law 468 = .ok (.iadd, 1) := by decide +kernel
theorem dL_law_469 : decode cL_law 469 = .ok (.iaload, 1) := by decide +kernel
theorem dL_law_470 : decode cL_law 470 = .ok (.invokevirtual 69, 3) := by decide +kernel
theorem dL_law_473 : decode cL_law 473 = .ok (.aload_n 2, 1) := by decide +kernel
theorem dL_law_474 : decode cL_law 474 = .ok (.aload_n 0, 1) := by decide +kernel
theorem dL_law_475 : decode cL_law 475 = .ok (.iload_n 3, 1) := by decide +kernel
theorem dL_law_476 : decode cL_law 476 = .ok (.iconst 1, 1) := by decide +kernel
theorem dL_law_477 : decode cL_law 477 = .ok (.iadd, 1) := by decide +kernel
theorem dL_law_478 : decode cL_law 478 = .ok (.iaload, 1) := by decide +kernel
theorem dL_law_479 : decode cL_law 479 = .ok (.aload_n 0, 1) := by decide +kernel
theorem dL_law_480 : decode cL_law 480 = .ok (.iload_n 3, 1) := by decide +kernel
theorem dL_law_481 : decode cL_law 481 = .ok (.iconst 2, 1) := by decide +kernel
theorem dL_law_482 : decode cL_law 482 = .ok (.iadd, 1) := by decide +kernel
theorem dL_law_483 : decode cL_law 483 = .ok (.iaload, 1) := by decide +kernel
theorem dL_law_484 : decode cL_law 484 = .ok (.invokevirtual 72, 3) := by decide +kernel
theorem dL_law_487 : decode cL_law 487 = .ok (.if_icmp .eq 253, 3) := by decide +kernel
theorem dL_law_490 : decode cL_law 490 = .ok (.iconst 0, 1) := by decide +kernel
theorem dL_law_491 : decode cL_law 491 = .ok (.ireturn, 1) := by decide +kernel
theorem dL_law_492 : decode cL_law 492 = .ok (.aload_n 1, 1) := by decide +kernel
theorem dL_law_493 : decode cL_law 493 = .ok (.aload_n 0, 1) := by decide +kernel
theorem dL_law_494 : decode cL_law 494 = .ok (.iload_n 3, 1) := by decide +kernel
theorem dL_law_495 : decode cL_law 495 = .ok (.iconst 1, 1) := by decide +kernel
theorem dL_law_496 : decode cL_law 496 = .ok (.iadd, 1) := by decide +kernel
theorem dL_law_497 : decode cL_law 497 = .ok (.iaload, 1) := by decide +kernel
theorem dL_law_498 : decode cL_law 498 = .ok (.aload_n 0, 1) := by decide +kernel
theorem dL_law_499 : decode cL_law 499 = .ok (.iload_n 3, 1) := by decide +kernel
theorem dL_law_500 : decode cL_law 500 = .ok (.iconst 2, 1) := by decide +kernel
theorem dL_law_501 : decode cL_law 501 = .ok (.iadd, 1) := by decide +kernel
theorem dL_law_502 : decode cL_law 502 = .ok (.iaload, 1) := by decide +kernel
theorem dL_law_503 : decode cL_law 503 = .ok (.aload_n 0, 1) := by decide +kernel
theorem dL_law_504 : decode cL_law 504 = .ok (.iload_n 3, 1) := by decide +kernel
theorem dL_law_505 : decode cL_law 505 = .ok (.iconst 3, 1) := by decide +kernel
theorem dL_law_506 : decode cL_law 506 = .ok (.iadd, 1) := by decide +kernel
theorem dL_law_507 : decode cL_law 507 = .ok (.iaload, 1) := by decide +kernel
theorem dL_law_508 : decode cL_law 508 = .ok (.invokevirtual 73, 3) := by decide +kernel
theorem dL_law_511 : decode cL_law 511 = .ok (.aload_n 2, 1) := by decide +kernel
theorem dL_law_512 : decode cL_law 512 = .ok (.aload_n 0, 1) := by decide +kernel
theorem dL_law_513 : decode cL_law 513 = .ok (.iload_n 3, 1) := by decide +kernel
theorem dL_law_514 : decode cL_law 514 = .ok (.iconst 1, 1) := by decide +kernel
theorem dL_law_515 : decode cL_law 515 = .ok (.iadd, 1) := by decide +kernel
theorem dL_law_516 : decode cL_law 516 = .ok (.iaload, 1) := by decide +kernel
theorem dL_law_517 : decode cL_law 517 = .ok (.aload_n 0, 1) := by decide +kernel
theorem dL_law_518 : decode cL_law 518 = .ok (.iload_n 3, 1) := by decide +kernel
theorem dL_law_519 : decode cL_law 519 = .ok (.iconst 2, 1) := by decide +kernel
theorem dL_law_520 : decode cL_law 520 = .ok (.iadd, 1) := by decide +kernel
theorem dL_law_521 : decode cL_law 521 = .ok (.iaload, 1) := by decide +kernel
theorem dL_law_522 : decode cL_law 522 = .ok (.aload_n 0, 1) := by decide +kernel
theorem dL_law_523 : decode cL_law 523 = .ok (.iload_n 3, 1) := by decide +kernel
theorem dL_law_524 : decode cL_law 524 = .ok (.iconst 3, 1) := by decide +kernel
theorem dL_law_525 : decode cL_law 525 = .ok (.iadd, 1) := by decide +kernel
theorem dL_law_526 : decode cL_law 526 = .ok (.iaload, 1) := by decide +kernel
theorem dL_law_527 : decode cL_law 527 = .ok (.invokevirtual 76, 3) := by decide +kernel
theorem dL_law_530 : decode cL_law 530 = .ok (.if_icmp .eq 210, 3) := by decide +kernel
theorem dL_law_533 : decode cL_law 533 = .ok (.iconst 0, 1) := by decide +kernel
theorem dL_law_534 : decode cL_law 534 = .ok (.ireturn, 1) := by decide +kernel
theorem dL_law_535 : decode cL_law 535 = .ok (.aload_n 1, 1) := by decide +kernel
theorem dL_law_536 : decode cL_law 536 = .ok (.aload_n 0, 1) := by decide +kernel
theorem dL_law_537 : decode cL_law 537 = .ok (.iload_n 3, 1) := by decide +kernel
theorem dL_law_538 : decode cL_law 538 = .ok (.iconst 1, 1) := by decide +kernel
theorem dL_law_539 : decode cL_law 539 = .ok (.iadd, 1) := by decide +kernel
theorem dL_law_540 : decode cL_law 540 = .ok (.iaload, 1) := by decide +kernel
theorem dL_law_541 : decode cL_law 541 = .ok (.aload_n 0, 1) := by decide +kernel
theorem dL_law_542 : decode cL_law 542 = .ok (.iload_n 3, 1) := by decide +kernel
theorem dL_law_543 : decode cL_law 543 = .ok (.iconst 2, 1) := by decide +kernel
theorem dL_law_544 : decode cL_law 544 = .ok (.iadd, 1) := by decide +kernel
theorem dL_law_545 : decode cL_law 545 = .ok (.iaload, 1) := by decide +kernel
theorem dL_law_546 : decode cL_law 546 = .ok (.invokevirtual 77, 3) := by decide +kernel
theorem dL_law_549 : decode cL_law 549 = .ok (.aload_n 2, 1) := by decide +kernel
theorem dL_law_550 : decode cL_law 550 = .ok (.aload_n 0, 1) := by decide +kernel
theorem dL_law_551 : decode cL_law 551 = .ok (.iload_n 3, 1) := by decide +kernel
theorem dL_law_552 : decode cL_law 552 = .ok (.iconst 1, 1) := by decide +kernel
theorem dL_law_553 : decode cL_law 553 = .ok (.iadd, 1) := by decide +kernel
theorem dL_law_554 : decode cL_law 554 = .ok (.iaload, 1) := by decide +kernel
theorem dL_law_555 : decode cL_law 555 = .ok (.aload_n 0, 1) := by decide +kernel
theorem dL_law_556 : decode cL_law 556 = .ok (.iload_n 3, 1) := by decide +kernel
theorem dL_law_557 : decode cL_law 557 = .ok (.iconst 2, 1) := by decide +kernel
theorem dL_law_558 : decode cL_law 558 = .ok (.iadd, 1) := by decide +kernel
theorem dL_law_559 : decode cL_law 559 = .ok (.iaload, 1) := by decide +kernel
theorem dL_law_560 : decode cL_law 560 = .ok (.invokevirtual 80, 3) := by decide +kernel
theorem dL_law_563 : decode cL_law 563 = .ok (.if_icmp .eq 177, 3) := by decide +kernel
theorem dL_law_566 : decode cL_law 566 = .ok (.iconst 0, 1) := by decide +kernel
theorem dL_law_567 : decode cL_law 567 = .ok (.ireturn, 1) := by decide +kernel
theorem dL_law_568 : decode cL_law 568 = .ok (.aload_n 1, 1) := by decide +kernel
theorem dL_law_569 : decode cL_law 569 = .ok (.aload_n 0, 1) := by decide +kernel
theorem dL_law_570 : decode cL_law 570 = .ok (.iload_n 3, 1) := by decide +kernel
theorem dL_law_571 : decode cL_law 571 = .ok (.iconst 1, 1) := by decide +kernel
theorem dL_law_572 : decode cL_law 572 = .ok (.iadd, 1) := by decide +kernel
theorem dL_law_573 : decode cL_law 573 = .ok (.iaload, 1) := by decide +kernel
theorem dL_law_574 : decode cL_law 574 = .ok (.aload_n 0, 1) := by decide +kernel
theorem dL_law_575 : decode cL_law 575 = .ok (.iload_n 3, 1) := by decide +kernel
theorem dL_law_576 : decode cL_law 576 = .ok (.iconst 2, 1) := by decide +kernel
theorem dL_law_577 : decode cL_law 577 = .ok (.iadd, 1) := by decide +kernel
theorem dL_law_578 : decode cL_law 578 = .ok (.iaload, 1) := by decide +kernel
theorem dL_law_579 : decode cL_law 579 = .ok (.invokevirtual 81, 3) := by decide +kernel
theorem dL_law_582 : decode cL_law 582 = .ok (.aload_n 2, 1) := by decide +kernel
theorem dL_law_583 : decode cL_law 583 = .ok (.aload_n 0, 1) := by decide +kernel
theorem dL_law_584 : decode cL_law 584 = .ok (.iload_n 3, 1) := by decide +kernel
theorem dL_law_585 : decode cL_law 585 = .ok (.iconst 1, 1) := by decide +kernel
theorem dL_law_586 : decode cL_law 586 = .ok (.iadd, 1) := by decide +kernel
theorem dL_law_587 : decode cL_law 587 = .ok (.iaload, 1) := by decide +kernel
theorem dL_law_588 : decode cL_law 588 = .ok (.aload_n 0, 1) := by decide +kernel
theorem dL_law_589 : decode cL_law 589 = .ok (.iload_n 3, 1) := by decide +kernel
theorem dL_law_590 : decode cL_law 590 = .ok (.iconst 2, 1) := by decide +kernel
theorem dL_law_591 : decode cL_law 591 = .ok (.iadd, 1) := by decide +kernel
theorem dL_law_592 : decode cL_law 592 = .ok (.iaload, 1) := by decide +kernel
theorem dL_law_593 : decode cL_law 593 = .ok (.invokevirtual 84, 3) := by decide +kernel
theorem dL_law_596 : decode cL_law 596 = .ok (.if_icmp .eq 144, 3) := by decide +kernel
theorem dL_law_599 : decode cL_law 599 = .ok (.iconst 0, 1) := by decide +kernel
theorem dL_law_600 : decode cL_law 600 = .ok (.ireturn, 1) := by decide +kernel
theorem dL_law_601 : decode cL_law 601 = .ok (.aload_n 1, 1) := by decide +kernel
theorem dL_law_602 : decode cL_law 602 = .ok (.aload_n 0, 1) := by decide +kernel
theorem dL_law_603 : decode cL_law 603 = .ok (.iload_n 3, 1) := by decide +kernel
theorem dL_law_604 : decode cL_law 604 = .ok (.iconst 1, 1) := by decide +kernel
theorem dL_law_605 : decode cL_law 605 = .ok (.iadd, 1) := by decide +kernel
theorem dL_law_606 : decode cL_law 606 = .ok (.iaload, 1) := by decide +kernel
theorem dL_law_607 : decode cL_law 607 = .ok (.invokevirtual 85, 3) := by decide +kernel
theorem dL_law_610 : decode cL_law 610 = .ok (.aload_n 2, 1) := by decide +kernel
theorem dL_law_611 : decode cL_law 611 = .ok (.aload_n 0, 1) := by decide +kernel
theorem dL_law_612 : decode cL_law 612 = .ok (.iload_n 3, 1) := by decide +kernel
theorem dL_law_613 : decode cL_law 613 = .ok (.iconst 1, 1) := by decide +kernel
theorem dL_law_614 : decode cL_law 614 = .ok (.iadd, 1) := by decide +kernel
theorem dL_law_615 : decode cL_law 615 = .ok (.iaload, 1) := by decide +kernel
theorem dL_law_616 : decode cL_law 616 = .ok (.invokevirtual 88, 3) := by decide +kernel
theorem dL_law_619 : decode cL_law 619 = .ok (.if_icmp .eq 121, 3) := by decide +kernel
theorem dL_law_622 : decode cL_law 622 = .ok (.iconst 0, 1) := by decide +kernel
theorem dL_law_623 : decode cL_law 623 = .ok (.ireturn, 1) := by decide +kernel
theorem dL_law_624 : decode cL_law 624 = .ok (.aload_n 1, 1) := by decide +kernel
theorem dL_law_625 : decode cL_law 625 = .ok (.aload_n 0, 1) := by decide +kernel
theorem dL_law_626 : decode cL_law 626 = .ok (.iload_n 3, 1) := by decide +kernel
theorem dL_law_627 : decode cL_law 627 = .ok (.iconst 1, 1) := by decide +kernel
theorem dL_law_628 : decode cL_law 628 = .ok (.iadd, 1) := by decide +kernel
theorem dL_law_629 : decode cL_law 629 = .ok (.iaload, 1) := by decide +kernel
theorem dL_law_630 : decode cL_law 630 = .ok (.aload_n 0, 1) := by decide +kernel
theorem dL_law_631 : decode cL_law 631 = .ok (.iload_n 3, 1) := by decide +kernel
theorem dL_law_632 : decode cL_law 632 = .ok (.iconst 2, 1) := by decide +kernel
theorem dL_law_633 : decode cL_law 633 = .ok (.iadd, 1) := by decide +kernel
theorem dL_law_634 : decode cL_law 634 = .ok (.iaload, 1) := by decide +kernel
theorem dL_law_635 : decode cL_law 635 = .ok (.invokevirtual 89, 3) := by decide +kernel
theorem dL_law_638 : decode cL_law 638 = .ok (.aload_n 2, 1) := by decide +kernel
theorem dL_law_639 : decode cL_law 639 = .ok (.aload_n 0, 1) := by decide +kernel
theorem dL_law_640 : decode cL_law 640 = .ok (.iload_n 3, 1) := by decide +kernel
theorem dL_law_641 : decode cL_law 641 = .ok (.iconst 1, 1) := by decide +kernel
theorem dL_law_642 : decode cL_law 642 = .ok (.iadd, 1) := by decide +kernel
theorem dL_law_643 : decode cL_law 643 = .ok (.iaload, 1) := by decide +kernel
theorem dL_law_644 : decode cL_law 644 = .ok (.aload_n 0, 1) := by decide +kernel
theorem dL_law_645 : decode cL_law 645 = .ok (.iload_n 3, 1) := by decide +kernel
theorem dL_law_646 : decode cL_law 646 = .ok (.iconst 2, 1) := by decide +kernel
theorem dL_law_647 : decode cL_law 647 = .ok (.iadd, 1) := by decide +kernel
theorem dL_law_648 : decode cL_law 648 = .ok (.iaload, 1) := by decide +kernel
theorem dL_law_649 : decode cL_law 649 = .ok (.invokevirtual 92, 3) := by decide +kernel
theorem dL_law_652 : decode cL_law 652 = .ok (.if_icmp .eq 88, 3) := by decide +kernel
theorem dL_law_655 : decode cL_law 655 = .ok (.iconst 0, 1) := by decide +kernel
theorem dL_law_656 : decode cL_law 656 = .ok (.ireturn, 1) := by decide +kernel
theorem dL_law_657 : decode cL_law 657 = .ok (.aload_n 1, 1) := by decide +kernel
theorem dL_law_658 : decode cL_law 658 = .ok (.aload_n 0, 1) := by decide +kernel
theorem dL_law_659 : decode cL_law 659 = .ok (.iload_n 3, 1) := by decide +kernel
theorem dL_law_660 : decode cL_law 660 = .ok (.iconst 1, 1) := by decide +kernel
theorem dL_law_661 : decode cL_law 661 = .ok (.iadd, 1) := by decide +kernel
theorem dL_law_662 : decode cL_law 662 = .ok (.iaload, 1) := by decide +kernel
theorem dL_law_663 : decode cL_law 663 = .ok (.aload_n 0, 1) := by decide +kernel
theorem dL_law_664 : decode cL_law 664 = .ok (.iload_n 3, 1) := by decide +kernel
theorem dL_law_665 : decode cL_law 665 = .ok (.iconst 2, 1) := by decide +kernel
theorem dL_law_666 : decode cL_law 666 = .ok (.iadd, 1) := by decide +kernel
theorem dL_law_667 : decode cL_law 667 = .ok (.iaload, 1) := by decide +kernel
theorem dL_law_668 : decode cL_law 668 = .ok (.invokevirtual 93, 3) := by decide +kernel
theorem dL_law_671 : decode cL_law 671 = .ok (.aload_n 2, 1) := by decide +kernel
theorem dL_law_672 : decode cL_law 672 = .ok (.aload_n 0, 1) := by decide +kernel
theorem dL_law_673 : decode cL_law 673 = .ok (.iload_n 3, 1) := by decide +kernel
theorem dL_law_674 : decode cL_law 674 = .ok (.iconst 1, 1) := by decide +kernel
theorem dL_law_675 : decode cL_law 675 = .ok (.iadd, 1) := by decide +kernel
theorem dL_law_676 : decode cL_law 676 = .ok (.iaload, 1) := by decide +kernel
theorem dL_law_677 : decode cL_law 677 = .ok (.aload_n 0, 1) := by decide +kernel
theorem dL_law_678 : decode cL_law 678 = .ok (.iload_n 3, 1) := by decide +kernel
theorem dL_law_679 : decode cL_law 679 = .ok (.iconst 2, 1) := by decide +kernel
theorem dL_law_680 : decode cL_law 680 = .ok (.iadd, 1) := by decide +kernel
theorem dL_law_681 : decode cL_law 681 = .ok (.iaload, 1) := by decide +kernel
theorem dL_law_682 : decode cL_law 682 = .ok (.invokevirtual 96, 3) := by decide +kernel
theorem dL_law_685 : decode cL_law 685 = .ok (.if_icmp .eq 55, 3) := by decide +kernel
theorem dL_law_688 : decode cL_law 688 = .ok (.iconst 0, 1) := by decide +kernel
theorem dL_law_689 : decode cL_law 689 = .ok (.ireturn, 1) := by decide +kernel
theorem dL_law_690 : decode cL_law 690 = .ok (.aload_n 1, 1) := by decide +kernel
theorem dL_law_691 : decode cL_law 691 = .ok (.invokevirtual 97, 3) := by decide +kernel
theorem dL_law_694 : decode cL_law 694 = .ok (.aload_n 2, 1) := by decide +kernel
theorem dL_law_695 : decode cL_law 695 = .ok (.invokevirtual 100, 3) := by decide +kernel
theorem dL_law_698 : decode cL_law 698 = .ok (.if_icmp .eq 42, 3) := by decide +kernel
theorem dL_law_701 : decode cL_law 701 = .ok (.iconst 0, 1) := by decide +kernel
theorem dL_law_702 : decode cL_law 702 = .ok (.ireturn, 1) := by decide +kernel
theorem dL_law_703 : decode cL_law 703 = .ok (.aload_n 1, 1) := by decide +kernel
theorem dL_law_704 : decode cL_law 704 = .ok (.aload_n 0, 1) := by decide +kernel
theorem dL_law_705 : decode cL_law 705 = .ok (.iload_n 3, 1) := by decide +kernel
theorem dL_law_706 : decode cL_law 706 = .ok (.iconst 1, 1) := by decide +kernel
theorem dL_law_707 : decode cL_law 707 = .ok (.iadd, 1) := by decide +kernel
theorem dL_law_708 : decode cL_law 708 = .ok (.iaload, 1) := by decide +kernel
theorem dL_law_709 : decode cL_law 709 = .ok (.invokevirtual 101, 3) := by decide +kernel
theorem dL_law_712 : decode cL_law 712 = .ok (.aload_n 2, 1) := by decide +kernel
theorem dL_law_713 : decode cL_law 713 = .ok (.aload_n 0, 1) := by decide +kernel
theorem dL_law_714 : decode cL_law 714 = .ok (.iload_n 3, 1) := by decide +kernel
theorem dL_law_715 : decode cL_law 715 = .ok (.iconst 1, 1) := by decide +kernel
theorem dL_law_716 : decode cL_law 716 = .ok (.iadd, 1) := by decide +kernel
theorem dL_law_717 : decode cL_law 717 = .ok (.iaload, 1) := by decide +kernel
theorem dL_law_718 : decode cL_law 718 = .ok (.invokevirtual 104, 3) := by decide +kernel
theorem dL_law_721 : decode cL_law 721 = .ok (.if_icmp .eq 19, 3) := by decide +kernel
theorem dL_law_724 : decode cL_law 724 = .ok (.iconst 0, 1) := by decide +kernel
theorem dL_law_725 : decode cL_law 725 = .ok (.ireturn, 1) := by decide +kernel
theorem dL_law_726 : decode cL_law 726 = .ok (.aload_n 1, 1) := by decide +kernel
theorem dL_law_727 : decode cL_law 727 = .ok (.invokevirtual 105, 3) := by decide +kernel
theorem dL_law_730 : decode cL_law 730 = .ok (.aload_n 2, 1) := by decide +kernel
theorem dL_law_731 : decode cL_law 731 = .ok (.invokevirtual 109, 3) := by decide +kernel
theorem dL_law_734 : decode cL_law 734 = .ok (.lcmp, 1) := by decide +kernel
theorem dL_law_735 : decode cL_law 735 = .ok (.ifCond .eq 5, 3) := by decide +kernel
theorem dL_law_738 : decode cL_law 738 = .ok (.iconst 0, 1) := by decide +kernel
theorem dL_law_739 : decode cL_law 739 = .ok (.ireturn, 1) := by decide +kernel
theorem dL_law_740 : decode cL_law 740 = .ok (.iinc 3 4, 3) := by decide +kernel
theorem dL_law_743 : decode cL_law 743 = .ok (.goto (-725), 3) := by decide +kernel
theorem dL_law_746 : decode cL_law 746 = .ok (.iconst 1, 1) := by decide +kernel
theorem dL_law_747 : decode cL_law 747 = .ok (.ireturn, 1) := by decide +kernel
end
section
def tb : List Cond := lw_tbl.filter goodWord
theorem tb_lw {w : Cond} (h : w ∈ tb) : w ∈ lw_tbl := (List.mem_filter.mp h).1
theorem tb_mem {w : Cond} (i : Nat) (h : lw_tbl[i]? = some w) (g : goodWord w = true) : w ∈ tb := List.mem_filter.mpr ⟨List.mem_of_getElem? h, g⟩
theorem tb_good {w : Cond} (h : w ∈ tb) : w ∈ tb ∧ ((w.onTables && w.keeps) = true ∨ ∃ ty, w = .arrayClass ty) := ⟨h, good_of_word (List.mem_filter.mp h).2⟩
theorem tb_cons {w : Cond} (h : w ∈ tb) : GoodIn tb (w :: tb) := fun x hx => (List.mem_cons.mp hx).elim (fun e => by rw [e]; exact tb_good h) tb_good
/-! the picture of a heap: what stands at each address, and how many cells there are -/
abbrev HP : Type := (Nat → Option va_E) × Nat
/-- the run's own constants: the first address of what the law makes; the tables' numbers; the numbers of the array kinds (0 int, 1 State, 2 Object); addresses of what stood there before -/
abbrev Gm : Type := Nat × va_G × (Nat → ClassId) × (Nat → Nat)
def Ag (γ : Gm) : Nat → Prop := fun q => γ.1 ≤ q
def hset (h : HP) (a : Nat) (e : va_E) : HP := (va_up h.1 a (some e), h.2)
def hnew (h : HP) (e : va_E) : HP := (va_up h.1 h.2 (some e), h.2 + 1)
def hOK (γ : Gm) (h : HP) (H : Heap) : Prop := H.size = h.2 ∧ γ.1 ≤ h.2 ∧ ∀ (a : Nat) (e : va_E), h.1 a = some e → va_at γ.2.1 vwCl (a, e) H ∧ γ.1 ≤ a
def tyl (γ : Gm) : List (ClassId × FieldType) := [(γ.2.2.1 0, .int), (γ.2.2.1 1, .object "BallastTrain$State"), (γ.2.2.1 2, .object "java/lang/Object")]
def lstS (j : Nat) : Int32 := [1, 1, 0, 0, 0].getD j 0
def mstS (j : Nat) : Int32 := [20, 60, 9, 200, 60].getD j 0
/-- what stood in the heap before, and stays -/
def Cst (γ : Gm) (U : State) (H : Heap) : Prop :=
  (va_Z "BallastTrain" "LEAST_SETTING" "[I" (.ref (γ.2.2.2 0)) (Ag γ) U H ∧ va_T .int (γ.2.2.2 0) 5 (fun j => .int (lstS j)) (Ag γ) U H) ∧
  (va_Z "BallastTrain" "MOST_SETTING" "[I" (.ref (γ.2.2.2 1)) (Ag γ) U H ∧ va_T .int (γ.2.2.2 1) 5 (fun j => .int (mstS j)) (Ag γ) U H) ∧
  (va_Z "java/util/ArrayList" "DEFAULTCAPACITY_EMPTY_ELEMENTDATA" "[Ljava/lang/Object;" (.ref (γ.2.2.2 2)) (Ag γ) U H ∧ va_T (.object "java/lang/Object") (γ.2.2.2 2) 0 (fun _ => .null) (Ag γ) U H) ∧
  va_Z "java/lang/String" "COMPACT_STRINGS" "Z" (.int 1) (Ag γ) U H ∧
  vk_S 4 [1, 3, 3, 1] [[64], [111, 99, 118], [108, 109, 114], [59]] (fun i => γ.2.2.2 (10 + i)) (fun i => γ.2.2.2 (20 + i)) (Ag γ) U H
theorem Cst.moved {γ : Gm} {u U : State} {H : Heap} (hvm : u.vm.Alike U.vm) (h : Cst γ u H) : Cst γ U H :=
  ⟨⟨va_Z.moved hvm h.1.1, va_T.moved hvm h.1.2⟩, ⟨va_Z.moved hvm h.2.1.1, va_T.moved hvm h.2.1.2⟩, ⟨va_Z.moved hvm h.2.2.1.1, va_T.moved hvm h.2.2.1.2⟩, va_Z.moved hvm h.2.2.2.1, vk_S.moved hvm h.2.2.2.2⟩
theorem Cst.kept {γ : Gm} {U : State} {H H1 : Heap} (h : Cst γ U H) (hq : ∀ a : Nat, a < H.size → ¬ Ag γ a → H1[a]? = H[a]?) : Cst γ U H1 :=
  ⟨⟨h.1.1.kept hq, h.1.2.kept hq⟩, ⟨h.2.1.1.kept hq, h.2.1.2.kept hq⟩, ⟨h.2.2.1.1.kept hq, h.2.2.1.2.kept hq⟩, h.2.2.2.1.kept hq, h.2.2.2.2.kept hq⟩
/-- what the tables say beside their words: constants of text, class objects, nest mates, arrays of references, casts -/
def yGC : MethodName := ⟨"java/lang/Object", "getClass", "()Ljava/lang/Class;"⟩
def nests : List (String × Nat × MethodName) := [("BallastTrain", 9, ⟨"BallastTrain$Text", "<init>", "()V"⟩), ("BallastTrain", 18, ⟨"BallastTrain$State", "<init>", "()V"⟩), ("BallastTrain$State", 17, ⟨"BallastTrain$Track", "<init>", "()V"⟩), ("BallastTrain$History", 24, ⟨"BallastTrain$State", "<init>", "()V"⟩), ("BallastTrain$Text", 85, ⟨"BallastTrain", "isWithin", "(III)Z"⟩), ("BallastTrain$State", 52, ⟨"BallastTrain", "copyRow", "([I[I)V"⟩), ("BallastTrain$Train", 43, ⟨"BallastTrain", "copyRow", "([I[I)V"⟩), ("BallastTrain$State", 66, ⟨"BallastTrain", "addAll", "(Ljava/util/ArrayList;Ljava/util/ArrayList;)V"⟩), ("BallastTrain$Train", 51, ⟨"BallastTrain", "sum", "([I)I"⟩), ("BallastTrain$Track", 19, ⟨"BallastTrain", "sum", "([I)I"⟩)]
def Wm (γ : Gm) (U : State) : Prop :=
  (vk_R "BallastTrain$Text" 41 "@" (γ.2.2.2 10) U ∧ vk_R "BallastTrain$Text" 51 "ocv" (γ.2.2.2 11) U ∧ vk_R "BallastTrain$Text" 57 "lmr" (γ.2.2.2 12) U ∧ vk_R "BallastTrain$Text" 59 ";" (γ.2.2.2 13) U) ∧
  (∀ q ∈ nests, va_Nw (.methodLinkNest q.1 q.2.1 q.2.2 "BallastTrain") U) ∧ va_AO "BallastTrain$State" U ∧ va_AO "java/lang/Object" U ∧ va_Mi "[Ljava/lang/Object;" (γ.2.2.2 3) U ∧ va_Dc U ∧ va_Nw (.castable "BallastTrain$Order" "java/lang/Object") U
theorem Wm.warm {γ : Gm} {s U : State} (hW : s.WarmedH U.vm) (h : Wm γ s) : Wm γ U :=
  ⟨⟨h.1.1.warm hW, h.1.2.1.warm hW, h.1.2.2.1.warm hW, h.1.2.2.2.warm hW⟩, fun q hq => va_Nw.warmM hW (h.2.1 q hq), h.2.2.1.moved hW.alike, h.2.2.2.1.moved hW.alike, h.2.2.2.2.1.moved hW.alike, h.2.2.2.2.2.1.moved hW.alike, va_Nw.warmC hW h.2.2.2.2.2.2⟩
theorem Wm.same {γ : Gm} {s U : State} (hv : U.vm = s.vm) (h : Wm γ s) : Wm γ U :=
  ⟨⟨h.1.1.same hv, h.1.2.1.same hv, h.1.2.2.1.same hv, h.1.2.2.2.same hv⟩, fun q hq => va_Nw.same rfl hv.symm (h.2.1 q hq), h.2.2.1.moved (hv ▸ Vm.Alike.refl _), h.2.2.2.1.moved (hv ▸ Vm.Alike.refl _), h.2.2.2.2.1.moved (hv ▸ Vm.Alike.refl _), h.2.2.2.2.2.1.moved (hv ▸ Vm.Alike.refl _), va_Nw.same rfl hv.symm h.2.2.2.2.2.2⟩
def EnvG (γ : Gm) (U : State) : Prop := va_K γ.2.1 vwCl (tyl γ) U ∧ γ.1 ≤ U.heap.size ∧ Cst γ U U.heap ∧ Wm γ U
theorem EnvG.at {γ : Gm} {s U : State} {H : Heap} {locs : List Loc} (h : EnvG γ s) (hS : va_S (Ag γ) s.heap H locs) (hU : U.heap = H) (hW : s.WarmedH U.vm) : EnvG γ U :=
  ⟨va_K.moved hW.alike h.1, by rw [hU]; exact Nat.le_trans h.2.1 hS.1, by rw [hU]; exact Cst.moved hW.alike (h.2.2.1.kept hS.2.1), h.2.2.2.warm hW⟩
theorem EnvG.blind {γ : Gm} (a : Array Value) (U : State) (g : JFrame) (mk : MethodId) (h : EnvG γ U) : EnvG γ (U.calling g mk a) :=
  ⟨va_K.moved (u := U) (U := U.calling g mk a) (Vm.Alike.refl U.vm) h.1, h.2.1, Cst.moved (u := U) (U := U.calling g mk a) (Vm.Alike.refl U.vm) h.2.2.1, Wm.same (s := U) (U := U.calling g mk a) rfl h.2.2.2⟩
/-! the local variables: a value at each place that is known -/
def lo (ls : Array Slot) (L : List (Option Value)) : Prop := ls.size = L.length ∧ lv_wf ls ∧ ∀ (i : Nat) (v : Value), L[i]? = some (some v) → ls[i]? = some (.val v)
def prs (L : List (Option Value)) : List (Nat × Value) := (List.range L.length).filterMap (fun i => (L.getD i none).map (fun v => (i, v)))
theorem prs_mem {L : List (Option Value)} {i : Nat} {v : Value} : (i, v) ∈ prs L ↔ L[i]? = some (some v) := by
  unfold prs
  rw [List.mem_filterMap]
  constructor
  · rintro ⟨a, ha, h⟩
    rw [List.getD_eq_getElem?_getD] at h
    cases hL : L[a]? with
    | none => rw [hL] at h; simp at h
    | some z =>
      rw [hL] at h
      cases z with
      | none => simp at h
      | some z => simp at h; obtain ⟨rfl, rfl⟩ := h; exact hL
  · intro h
    refine ⟨i, List.mem_range.mpr (List.getElem?_eq_some_iff.mp h).1, ?_⟩
    rw [List.getD_eq_getElem?_getD, h]; rfl
theorem lo_has {ls : Array Slot} {L : List (Option Value)} (h : lo ls L) : lv_has ls L.length (prs L) := ⟨h.1, h.2.1, fun q hq => h.2.2 q.1 q.2 (prs_mem.mp hq)⟩
theorem lo_len {ls : Array Slot} {L : List (Option Value)} (h : lo ls L) : L.length = ls.size := h.1.symm
/-- no long stands before the place -/
def lo_ok (L : List (Option Value)) (i : Nat) : Bool := match i with
  | 0 => true
  | k + 1 => match L[k]? with
    | some (some v) => v.category == 1
    | _ => true
theorem lo_ok_spec {L : List (Option Value)} {i k : Nat} {v : Value} (h : lo_ok L i = true) (hk : k + 1 = i) (hv : L[k]? = some (some v)) : (v.category == 2) = false := by
  subst hk
  simp only [lo_ok, hv] at h
  rw [beq_iff_eq] at h
  rw [h]; rfl
theorem lo_put1 {ls' : Array Slot} {L : List (Option Value)} {i : Nat} {v : Value} (hi : i < L.length) (hk : lo_ok L i = true) (h : lv_has ls' L.length ((i, v) :: (prs L).filter (fun q => !(q.1 == i) && !(q.1 + 1 == i && q.2.category == 2)))) : lo ls' (L.set i (some v)) := by
  refine ⟨by rw [List.length_set]; exact h.1, h.2.1, fun a x hx => ?_⟩
  by_cases ha : a = i
  · subst ha
    rw [List.getElem?_set_self hi] at hx
    cases hx
    exact h.2.2 _ List.mem_cons_self
  · rw [List.getElem?_set_ne (Ne.symm ha)] at hx
    refine h.2.2 (a, x) (List.mem_cons_of_mem _ (List.mem_filter.mpr ⟨prs_mem.mpr hx, ?_⟩))
    have h1 : (a == i) = false := beq_false_of_ne ha
    by_cases h2 : a + 1 = i
    · have h3 := lo_ok_spec hk h2 hx
      simp [h1, h3]
    · have h3 : (a + 1 == i) = false := beq_false_of_ne h2
      simp [h1, h3]
theorem lo_put2 {ls' : Array Slot} {L : List (Option Value)} {i : Nat} {v : Value} (hi : i < L.length) (hk : lo_ok L i = true) (h : lv_has ls' L.length ((i, v) :: (prs L).filter (fun q => !(q.1 == i) && (!(q.1 == i + 1) && !(q.1 + 1 == i && q.2.category == 2))))) : lo ls' ((L.set i (some v)).set (i + 1) none) := by
  refine ⟨by rw [List.length_set, List.length_set]; exact h.1, h.2.1, fun a x hx => ?_⟩
  by_cases hb : a = i + 1
  · subst hb
    by_cases hl : i + 1 < (L.set i (some v)).length
    · rw [List.getElem?_set_self hl] at hx; cases hx
    · rw [List.getElem?_eq_none (by rw [List.length_set]; omega)] at hx; cases hx
  · rw [List.getElem?_set_ne (Ne.symm hb)] at hx
    by_cases ha : a = i
    · subst ha
      rw [List.getElem?_set_self hi] at hx
      cases hx
      exact h.2.2 _ List.mem_cons_self
    · rw [List.getElem?_set_ne (Ne.symm ha)] at hx
      refine h.2.2 (a, x) (List.mem_cons_of_mem _ (List.mem_filter.mpr ⟨prs_mem.mpr hx, ?_⟩))
      have h1 : (a == i) = false := beq_false_of_ne ha
      have h4 : (a == i + 1) = false := beq_false_of_ne hb
      by_cases h2 : a + 1 = i
      · have h3 := lo_ok_spec hk h2 hx
        simp [h1, h3, h4]
      · have h3 : (a + 1 == i) = false := beq_false_of_ne h2
        simp [h1, h3, h4]
/-- what is known of the method that runs -/
def Cx (p : Program) (s : State) (m : MethodId) (args : Array Value) (meth : Method) (c : Code) (γ : Gm) (y : MethodName) (cc : ByteArray) (nL : Nat) (ret : Option FieldType) : Prop :=
  p.tables.exec = Jvm.exec ∧ c.code = cc ∧ c.maxLocals = nL ∧ s.vm.findClass y.cls = some m.cls ∧ (∀ w ∈ tb, w.before args s = true) ∧ meth.sig.returnType = ret ∧ meth.locks = false ∧ EnvG γ s ∧ (y.name = "<init>" → meth.name = "<init>")
/-- the machine, at pc with these locals and this stack over a heap of this picture, comes to a state with Q; k cells and j slots were made so far -/
def V (p : Program) (l : Launch) (e : Env) (R : Room) (s : State) (m : MethodId) (args : Array Value) (below : List Frame) (meth : Method) (c : Code) (γ : Gm) (Q : State → Prop) (h : HP) (k j pc : Nat) (L : List (Option Value)) (st : List Value) : Prop :=
  ∀ (H : Heap) (locs : List Loc) (ls : Array Slot), hOK γ h H → va_S (Ag γ) s.heap H locs → lo ls L → W p l e R s m args below meth c H locs k j Q (F0 m pc ls st)
theorem hOK_set {γ : Gm} {h : HP} {H H1 : Heap} {a : Nat} {e0 e : va_E} (hh : hOK γ h H) (ha : h.1 a = some e0) (z : H1.size = H.size) (oq : ∀ q : Nat, q ≠ a → H1[q]? = H[q]?) (hc : va_at γ.2.1 vwCl (a, e) H1) : hOK γ (hset h a e) H1 := by
  refine ⟨by rw [z]; exact hh.1, hh.2.1, fun b x hx => ?_⟩
  by_cases hb : b = a
  · subst hb
    have hx : some e = some x := by rw [← hx]; exact (va_up_self _ _ _).symm
    cases hx
    exact ⟨hc, (hh.2.2 _ _ ha).2⟩
  · have hx' : h.1 b = some x := by rw [← hx]; exact (va_up_ne _ _ hb).symm
    exact ⟨(hh.2.2 b x hx').1.kept (oq b hb), (hh.2.2 b x hx').2⟩
theorem hOK_new {γ : Gm} {h : HP} {H H1 : Heap} {e : va_E} (hh : hOK γ h H) (z : H1.size = H.size + 1) (oq : ∀ q : Nat, q < H.size → H1[q]? = H[q]?) (hc : va_at γ.2.1 vwCl (H.size, e) H1) : hOK γ (hnew h e) H1 := by
  refine ⟨by rw [z, hh.1]; rfl, Nat.le_succ_of_le hh.2.1, fun b x hx => ?_⟩
  by_cases hb : b = h.2
  · have hx1 : some e = some x := by rw [← hx, hb]; exact (va_up_self _ _ _).symm
    cases hx1
    rw [hb, ← hh.1]
    exact ⟨hc, by rw [hh.1]; exact hh.2.1⟩
  · have hx' : h.1 b = some x := by rw [← hx]; exact (va_up_ne _ _ hb).symm
    have hl := (hh.2.2 b x hx').1.lt
    exact ⟨(hh.2.2 b x hx').1.kept (oq b hl), (hh.2.2 b x hx').2⟩
theorem va_S.new {A : Nat → Prop} {H0 H H1 : Heap} {locs : List Loc} (hS : va_S A H0 H locs) (z : H.size ≤ H1.size) (oq : ∀ q : Nat, q < H.size → H1[q]? = H[q]?) : va_S A H0 H1 locs := ⟨Nat.le_trans hS.1 z, fun x h1 h2 => (oq x (Nat.lt_of_lt_of_le h1 hS.1)).trans (hS.2.1 x h1 h2), hS.2.2⟩
/-! static facts of fields, calls and makings: decided once for each entry of the pools -/
def FD (own : String) (index ci k : Nat) : Prop := ∃ (C ref : String) (T : u_T) (N : Nat), vwCl[ci]? = some (C, T, N) ∧ (∀ w ∈ u_ws C T N, w ∈ tb) ∧ k < N ∧ Cond.fieldLink own index ref (T k).2.1 (T k).2.2.1 ∈ tb ∧ (ref = (T k).1 ∨ Cond.sameField ref (T k).1 (T k).2.1 (T k).2.2.1 ∈ tb)
def FP (own : String) (index ci k : Nat) (fin : Bool) (ty : FieldType) : Prop := ∃ (C ref : String) (T : u_T) (N : Nat) (t0 : Nat → FieldType), vwCl[ci]? = some (C, T, N) ∧ (∀ w ∈ u_ws C T N, w ∈ tb) ∧ k < N ∧ Cond.fieldLink own index ref (T k).2.1 (T k).2.2.1 ∈ tb ∧ (ref = (T k).1 ∨ Cond.sameField ref (T k).1 (T k).2.1 (T k).2.2.1 ∈ tb) ∧ (∀ i, i < N → parseFieldDescriptor (T i).2.2.1 = some (t0 i)) ∧ (∀ a, a < N → ∀ b, b < N → a ≠ b → (T a).2.1 ≠ (T b).2.1) ∧ (T k).2.2.2 = fin ∧ (fin = true → (T k).1 = own) ∧ parseFieldDescriptor (T k).2.2.1 = some ty
def ND (own : String) (index ci n : Nat) (fs : List Value) : Prop := ∃ (C : String) (T : u_T) (t0 : Nat → FieldType), vwCl[ci]? = some (C, T, n) ∧ (∀ w ∈ u_ws C T n, w ∈ tb) ∧ (∀ i, i < n → parseFieldDescriptor (T i).2.2.1 = some (t0 i)) ∧ Cond.classLink own index C ∈ tb ∧ Cond.instantiable C n ∈ tb ∧ Cond.initialized C ∈ tb ∧ ∀ j, j < n → defaultValue (t0 j) = vp_V fs j
def MV (own : String) (index : Nat) (y : MethodName) (cc : ByteArray) (maxL : Nat) (ret : Option FieldType) (n : Nat) : Prop := (Cond.methodLink own index y ∈ tb ∧ Cond.instanceMethod y ∈ tb ∧ Cond.selects y.cls y y ∈ tb ∧ Cond.initialized y.cls ∈ tb ∧ Cond.code y cc maxL ret ∈ tb) ∧ y.cls ≠ "java/lang/invoke/MethodHandle" ∧ y.cls ≠ "java/lang/invoke/VarHandle" ∧ (parseMethodDescriptor y.desc).map (fun d => d.parameters.length) = some n
def MS (own : String) (index : Nat) (y : MethodName) (cc : ByteArray) (maxL : Nat) (ret : Option FieldType) (n : Nat) : Prop := (Cond.methodLink own index y ∈ tb ∧ Cond.static y ∈ tb ∧ Cond.initialized y.cls ∈ tb ∧ Cond.code y cc maxL ret ∈ tb) ∧ y.cls ≠ "java/lang/invoke/MethodHandle" ∧ y.cls ≠ "java/lang/invoke/VarHandle" ∧ (parseMethodDescriptor y.desc).map (fun d => d.parameters.length) = some n
def MI (own : String) (index : Nat) (y : MethodName) (cc : ByteArray) (maxL : Nat) (n : Nat) : Prop := (Cond.methodLink own index y ∈ tb ∧ Cond.instanceMethod y ∈ tb ∧ y.name = "<init>" ∧ Cond.initialized y.cls ∈ tb ∧ Cond.code y cc maxL none ∈ tb) ∧ y.cls ≠ "java/lang/invoke/MethodHandle" ∧ y.cls ≠ "java/lang/invoke/VarHandle" ∧ (parseMethodDescriptor y.desc).map (fun d => d.parameters.length) = some n
def MSN (own : String) (index : Nat) (y : MethodName) (cc : ByteArray) (maxL : Nat) (ret : Option FieldType) (n : Nat) : Prop := ((own, index, y) ∈ nests ∧ Cond.static y ∈ tb ∧ Cond.initialized y.cls ∈ tb ∧ Cond.code y cc maxL ret ∈ tb) ∧ y.cls ≠ "java/lang/invoke/MethodHandle" ∧ y.cls ≠ "java/lang/invoke/VarHandle" ∧ (parseMethodDescriptor y.desc).map (fun d => d.parameters.length) = some n
def MIN (own : String) (index : Nat) (y : MethodName) (cc : ByteArray) (maxL : Nat) (n : Nat) : Prop := ((own, index, y) ∈ nests ∧ Cond.instanceMethod y ∈ tb ∧ y.name = "<init>" ∧ Cond.initialized y.cls ∈ tb ∧ Cond.code y cc maxL none ∈ tb) ∧ y.cls ≠ "java/lang/invoke/MethodHandle" ∧ y.cls ≠ "java/lang/invoke/VarHandle" ∧ (parseMethodDescriptor y.desc).map (fun d => d.parameters.length) = some n

section VR
variable {p : Program} {l : Launch} {e : Env} {R : Room} {s : State} {m : MethodId} {args : Array Value} {below : List Frame} {meth : Method} {c : Code} {γ : Gm} {Q : State → Prop} {y : MethodName} {cc : ByteArray} {nL : Nat} {ret : Option FieldType} {h : HP} {k j pc : Nat} {L : List (Option Value)} {st : List Value}
theorem v_iconst (X : Cx p s m args meth c γ y cc nL ret) {n : Int} (d : decode cc pc = .ok (.iconst n, 1)) (kk : V p l e R s m args below meth c γ Q h k j (pc + 1) L (.int (Int32.ofInt n) :: st)) : V p l e R s m args below meth c γ Q h k j pc L (st) := fun H locs ls a b g => lv_iconst X.1 X.2.1 d rfl (kk H locs ls a b g)
theorem v_bipush (X : Cx p s m args meth c γ y cc nL ret) {n : Int} (d : decode cc pc = .ok (.bipush n, 2)) (kk : V p l e R s m args below meth c γ Q h k j (pc + 2) L (.int ((Int8.ofInt n).toInt32) :: st)) : V p l e R s m args below meth c γ Q h k j pc L (st) := fun H locs ls a b g => lv_bipush X.1 X.2.1 d rfl (kk H locs ls a b g)
theorem v_sipush (X : Cx p s m args meth c γ y cc nL ret) {n : Int} (d : decode cc pc = .ok (.sipush n, 3)) (kk : V p l e R s m args below meth c γ Q h k j (pc + 3) L (.int ((Int16.ofInt n).toInt32) :: st)) : V p l e R s m args below meth c γ Q h k j pc L (st) := fun H locs ls a b g => lv_sipush X.1 X.2.1 d rfl (kk H locs ls a b g)
theorem v_iload_n (X : Cx p s m args meth c γ y cc nL ret) {i : Fin 4} {x : Int32} (hl : L[(i : Nat)]? = some (some (.int x))) (d : decode cc pc = .ok (.iload_n i, 1)) (kk : V p l e R s m args below meth c γ Q h k j (pc + 1) L (.int x :: st)) : V p l e R s m args below meth c γ Q h k j pc L (st) := fun H locs ls a b g => lv_iload_n X.1 X.2.1 d rfl (g.2.2 _ _ hl) (kk H locs ls a b g)
theorem v_iload (X : Cx p s m args meth c γ y cc nL ret) {i : Nat} {x : Int32} (hl : L[i]? = some (some (.int x))) (d : decode cc pc = .ok (.iload i, 2)) (kk : V p l e R s m args below meth c γ Q h k j (pc + 2) L (.int x :: st)) : V p l e R s m args below meth c γ Q h k j pc L (st) := fun H locs ls a b g => lv_iload X.1 X.2.1 d (g.2.2 _ _ hl) (kk H locs ls a b g)
theorem v_lload_n (X : Cx p s m args meth c γ y cc nL ret) {i : Fin 4} {x : Int64} (hl : L[(i : Nat)]? = some (some (.long x))) (d : decode cc pc = .ok (.lload_n i, 1)) (kk : V p l e R s m args below meth c γ Q h k j (pc + 1) L (.long x :: st)) : V p l e R s m args below meth c γ Q h k j pc L (st) := fun H locs ls a b g => lv_lload_n X.1 X.2.1 d rfl (g.2.2 _ _ hl) (kk H locs ls a b g)
theorem v_aload_n (X : Cx p s m args meth c γ y cc nL ret) {i : Fin 4} {x : Nat} (hl : L[(i : Nat)]? = some (some (.ref x))) (d : decode cc pc = .ok (.aload_n i, 1)) (kk : V p l e R s m args below meth c γ Q h k j (pc + 1) L (.ref x :: st)) : V p l e R s m args below meth c γ Q h k j pc L (st) := fun H locs ls a b g => lv_aload_n X.1 X.2.1 d rfl (g.2.2 _ _ hl) (kk H locs ls a b g)
theorem v_aload (X : Cx p s m args meth c γ y cc nL ret) {i : Nat} {x : Nat} (hl : L[i]? = some (some (.ref x))) (d : decode cc pc = .ok (.aload i, 2)) (kk : V p l e R s m args below meth c γ Q h k j (pc + 2) L (.ref x :: st)) : V p l e R s m args below meth c γ Q h k j pc L (st) := fun H locs ls a b g => lv_aload X.1 X.2.1 d (g.2.2 _ _ hl) (kk H locs ls a b g)
theorem v_aconst_null (X : Cx p s m args meth c γ y cc nL ret)  (d : decode cc pc = .ok (.aconst_null, 1)) (kk : V p l e R s m args below meth c γ Q h k j (pc + 1) L (.null :: st)) : V p l e R s m args below meth c γ Q h k j pc L (st) := fun H locs ls a b g => lv_null X.1 X.2.1 d (kk H locs ls a b g)
theorem v_iadd (X : Cx p s m args meth c γ y cc nL ret) {x y : Int32} (d : decode cc pc = .ok (.iadd, 1)) (kk : V p l e R s m args below meth c γ Q h k j (pc + 1) L (.int (x + y) :: st)) : V p l e R s m args below meth c γ Q h k j pc L (.int y :: .int x :: st) := fun H locs ls a b g => lv_iadd X.1 X.2.1 d (kk H locs ls a b g)
theorem v_isub (X : Cx p s m args meth c γ y cc nL ret) {x y : Int32} (d : decode cc pc = .ok (.isub, 1)) (kk : V p l e R s m args below meth c γ Q h k j (pc + 1) L (.int (x - y) :: st)) : V p l e R s m args below meth c γ Q h k j pc L (.int y :: .int x :: st) := fun H locs ls a b g => lv_isub X.1 X.2.1 d (kk H locs ls a b g)
theorem v_imul (X : Cx p s m args meth c γ y cc nL ret) {x y : Int32} (d : decode cc pc = .ok (.imul, 1)) (kk : V p l e R s m args below meth c γ Q h k j (pc + 1) L (.int (x * y) :: st)) : V p l e R s m args below meth c γ Q h k j pc L (.int y :: .int x :: st) := fun H locs ls a b g => lv_imul X.1 X.2.1 d (kk H locs ls a b g)
theorem v_iand (X : Cx p s m args meth c γ y cc nL ret) {x y : Int32} (d : decode cc pc = .ok (.iand, 1)) (kk : V p l e R s m args below meth c γ Q h k j (pc + 1) L (.int (x &&& y) :: st)) : V p l e R s m args below meth c γ Q h k j pc L (.int y :: .int x :: st) := fun H locs ls a b g => lv_iand X.1 X.2.1 d (kk H locs ls a b g)
theorem v_ior (X : Cx p s m args meth c γ y cc nL ret) {x y : Int32} (d : decode cc pc = .ok (.ior, 1)) (kk : V p l e R s m args below meth c γ Q h k j (pc + 1) L (.int (x ||| y) :: st)) : V p l e R s m args below meth c γ Q h k j pc L (.int y :: .int x :: st) := fun H locs ls a b g => lv_ior X.1 X.2.1 d (kk H locs ls a b g)
theorem v_ixor (X : Cx p s m args meth c γ y cc nL ret) {x y : Int32} (d : decode cc pc = .ok (.ixor, 1)) (kk : V p l e R s m args below meth c γ Q h k j (pc + 1) L (.int (x ^^^ y) :: st)) : V p l e R s m args below meth c γ Q h k j pc L (.int y :: .int x :: st) := fun H locs ls a b g => lv_ixor X.1 X.2.1 d (kk H locs ls a b g)
theorem v_idiv (X : Cx p s m args meth c γ y cc nL ret) {x y : Int32} (hne : ¬ y = 0) (d : decode cc pc = .ok (.idiv, 1)) (kk : V p l e R s m args below meth c γ Q h k j (pc + 1) L (.int (x / y) :: st)) : V p l e R s m args below meth c γ Q h k j pc L (.int y :: .int x :: st) := fun H locs ls a b g => lv_idiv X.1 X.2.1 d hne (kk H locs ls a b g)
theorem v_irem (X : Cx p s m args meth c γ y cc nL ret) {x y : Int32} (hne : ¬ y = 0) (d : decode cc pc = .ok (.irem, 1)) (kk : V p l e R s m args below meth c γ Q h k j (pc + 1) L (.int (x - x / y * y) :: st)) : V p l e R s m args below meth c γ Q h k j pc L (.int y :: .int x :: st) := fun H locs ls a b g => lv_irem X.1 X.2.1 d hne (kk H locs ls a b g)
theorem v_ineg (X : Cx p s m args meth c γ y cc nL ret) {x : Int32} (d : decode cc pc = .ok (.ineg, 1)) (kk : V p l e R s m args below meth c γ Q h k j (pc + 1) L (.int (-x) :: st)) : V p l e R s m args below meth c γ Q h k j pc L (.int x :: st) := fun H locs ls a b g => lv_ineg X.1 X.2.1 d (kk H locs ls a b g)
theorem v_ishl (X : Cx p s m args meth c γ y cc nL ret) {x y : Int32} (d : decode cc pc = .ok (.ishl, 1)) (kk : V p l e R s m args below meth c γ Q h k j (pc + 1) L (.int (x <<< (y &&& 31)) :: st)) : V p l e R s m args below meth c γ Q h k j pc L (.int y :: .int x :: st) := fun H locs ls a b g => lv_ishl X.1 X.2.1 d (kk H locs ls a b g)
theorem v_ishr (X : Cx p s m args meth c γ y cc nL ret) {x y : Int32} (d : decode cc pc = .ok (.ishr, 1)) (kk : V p l e R s m args below meth c γ Q h k j (pc + 1) L (.int (x >>> (y &&& 31)) :: st)) : V p l e R s m args below meth c γ Q h k j pc L (.int y :: .int x :: st) := fun H locs ls a b g => lv_ishr X.1 X.2.1 d (kk H locs ls a b g)
theorem v_ladd (X : Cx p s m args meth c γ y cc nL ret) {x y : Int64} (d : decode cc pc = .ok (.ladd, 1)) (kk : V p l e R s m args below meth c γ Q h k j (pc + 1) L (.long (x + y) :: st)) : V p l e R s m args below meth c γ Q h k j pc L (.long y :: .long x :: st) := fun H locs ls a b g => lv_ladd X.1 X.2.1 d (kk H locs ls a b g)
theorem v_lmul (X : Cx p s m args meth c γ y cc nL ret) {x y : Int64} (d : decode cc pc = .ok (.lmul, 1)) (kk : V p l e R s m args below meth c γ Q h k j (pc + 1) L (.long (x * y) :: st)) : V p l e R s m args below meth c γ Q h k j pc L (.long y :: .long x :: st) := fun H locs ls a b g => lv_lmul X.1 X.2.1 d (kk H locs ls a b g)
theorem v_i2l (X : Cx p s m args meth c γ y cc nL ret) {x : Int32} (d : decode cc pc = .ok (.i2l, 1)) (kk : V p l e R s m args below meth c γ Q h k j (pc + 1) L (.long x.toInt64 :: st)) : V p l e R s m args below meth c γ Q h k j pc L (.int x :: st) := fun H locs ls a b g => lv_i2l X.1 X.2.1 d rfl (kk H locs ls a b g)
theorem v_i2b (X : Cx p s m args meth c γ y cc nL ret) {x : Int32} (d : decode cc pc = .ok (.i2b, 1)) (kk : V p l e R s m args below meth c γ Q h k j (pc + 1) L (.int x.toInt8.toInt32 :: st)) : V p l e R s m args below meth c γ Q h k j pc L (.int x :: st) := fun H locs ls a b g => lv_i2b X.1 X.2.1 d rfl (kk H locs ls a b g)
theorem v_i2c (X : Cx p s m args meth c γ y cc nL ret) {x : Int32} (d : decode cc pc = .ok (.i2c, 1)) (kk : V p l e R s m args below meth c γ Q h k j (pc + 1) L (.int (x.toUInt32 % 65536).toInt32 :: st)) : V p l e R s m args below meth c γ Q h k j pc L (.int x :: st) := fun H locs ls a b g => lv_i2c X.1 X.2.1 d rfl (kk H locs ls a b g)
theorem v_lcmp (X : Cx p s m args meth c γ y cc nL ret) {x y : Int64} (d : decode cc pc = .ok (.lcmp, 1)) (kk : V p l e R s m args below meth c γ Q h k j (pc + 1) L (.int (lg_cmp x y) :: st)) : V p l e R s m args below meth c γ Q h k j pc L (.long y :: .long x :: st) := fun H locs ls a b g => W.lcmp X.1 X.2.1 d (kk H locs ls a b g)
theorem v_dup (X : Cx p s m args meth c γ y cc nL ret) {v : Value} (h1 : v.category = 1) (d : decode cc pc = .ok (.dup, 1)) (kk : V p l e R s m args below meth c γ Q h k j (pc + 1) L (v :: v :: st)) : V p l e R s m args below meth c γ Q h k j pc L (v :: st) := fun H locs ls a b g => lv_dup X.1 X.2.1 d h1 (kk H locs ls a b g)
theorem v_pop (X : Cx p s m args meth c γ y cc nL ret) {v : Value} (h1 : v.category = 1) (d : decode cc pc = .ok (.pop, 1)) (kk : V p l e R s m args below meth c γ Q h k j (pc + 1) L (st)) : V p l e R s m args below meth c γ Q h k j pc L (v :: st) := fun H locs ls a b g => lv_pop X.1 X.2.1 d h1 (kk H locs ls a b g)
theorem v_dup_x1 (X : Cx p s m args meth c γ y cc nL ret) {v w : Value} (h1 : v.category = 1) (h2 : w.category = 1) (d : decode cc pc = .ok (.dup_x1, 1)) (kk : V p l e R s m args below meth c γ Q h k j (pc + 1) L (v :: w :: v :: st)) : V p l e R s m args below meth c γ Q h k j pc L (v :: w :: st) := fun H locs ls a b g => lv_dup_x1 X.1 X.2.1 d h1 h2 (kk H locs ls a b g)
theorem v_dup2 (X : Cx p s m args meth c γ y cc nL ret) {v w : Value} (h1 : v.category = 1) (h2 : w.category = 1) (d : decode cc pc = .ok (.dup2, 1)) (kk : V p l e R s m args below meth c γ Q h k j (pc + 1) L (v :: w :: v :: w :: st)) : V p l e R s m args below meth c γ Q h k j pc L (v :: w :: st) := fun H locs ls a b g => lv_dup2_11 X.1 X.2.1 d h1 h2 (kk H locs ls a b g)
theorem v_istore_n (X : Cx p s m args meth c γ y cc nL ret) {i : Fin 4} {x : Int32} (hi : (i : Nat) < L.length) (ho : lo_ok L (i : Nat) = true) (d : decode cc pc = .ok (.istore_n i, 1)) (kk : V p l e R s m args below meth c γ Q h k j (pc + 1) (L.set (i : Nat) (some (.int x))) st) : V p l e R s m args below meth c γ Q h k j pc L (.int x :: st) := fun H locs ls a b g => lv_istore_n X.1 X.2.1 d rfl (lo_has g) hi rfl (fun ls' g' => kk H locs ls' a b (lo_put1 hi ho g'))
theorem v_istore (X : Cx p s m args meth c γ y cc nL ret) {i : Nat} {x : Int32} (hi : i < L.length) (ho : lo_ok L i = true) (d : decode cc pc = .ok (.istore i, 2)) (kk : V p l e R s m args below meth c γ Q h k j (pc + 2) (L.set i (some (.int x))) st) : V p l e R s m args below meth c γ Q h k j pc L (.int x :: st) := fun H locs ls a b g => lv_istore X.1 X.2.1 d (lo_has g) hi rfl (fun ls' g' => kk H locs ls' a b (lo_put1 hi ho g'))
theorem v_astore_n (X : Cx p s m args meth c γ y cc nL ret) {i : Fin 4} {x : Nat} (hi : (i : Nat) < L.length) (ho : lo_ok L (i : Nat) = true) (d : decode cc pc = .ok (.astore_n i, 1)) (kk : V p l e R s m args below meth c γ Q h k j (pc + 1) (L.set (i : Nat) (some (.ref x))) st) : V p l e R s m args below meth c γ Q h k j pc L (.ref x :: st) := fun H locs ls a b g => lv_astore_n X.1 X.2.1 d rfl (lo_has g) hi rfl (fun ls' g' => kk H locs ls' a b (lo_put1 hi ho g'))
theorem v_astore (X : Cx p s m args meth c γ y cc nL ret) {i : Nat} {x : Nat} (hi : i < L.length) (ho : lo_ok L i = true) (d : decode cc pc = .ok (.astore i, 2)) (kk : V p l e R s m args below meth c γ Q h k j (pc + 2) (L.set i (some (.ref x))) st) : V p l e R s m args below meth c γ Q h k j pc L (.ref x :: st) := fun H locs ls a b g => lv_astore X.1 X.2.1 d (lo_has g) hi rfl (fun ls' g' => kk H locs ls' a b (lo_put1 hi ho g'))
theorem v_astoreN_n (X : Cx p s m args meth c γ y cc nL ret) {i : Fin 4} (hi : (i : Nat) < L.length) (ho : lo_ok L (i : Nat) = true) (d : decode cc pc = .ok (.astore_n i, 1)) (kk : V p l e R s m args below meth c γ Q h k j (pc + 1) (L.set (i : Nat) (some .null)) st) : V p l e R s m args below meth c γ Q h k j pc L (.null :: st) := fun H locs ls a b g => lv_astore_nN X.1 X.2.1 d rfl (lo_has g) hi rfl (fun ls' g' => kk H locs ls' a b (lo_put1 hi ho g'))
theorem v_lstore_n (X : Cx p s m args meth c γ y cc nL ret) {i : Fin 4} {x : Int64} (hi : (i : Nat) + 1 < L.length) (ho : lo_ok L (i : Nat) = true) (d : decode cc pc = .ok (.lstore_n i, 1)) (kk : V p l e R s m args below meth c γ Q h k j (pc + 1) ((L.set (i : Nat) (some (.long x))).set ((i : Nat) + 1) none) st) : V p l e R s m args below meth c γ Q h k j pc L (.long x :: st) := fun H locs ls a b g => lv_lstore_n X.1 X.2.1 d rfl (lo_has g) hi rfl (fun ls' g' => kk H locs ls' a b (lo_put2 (by omega) ho g'))
theorem v_iinc (X : Cx p s m args meth c γ y cc nL ret) {i : Nat} {n : Int} {x : Int32} (hx : L[i]? = some (some (.int x))) (ho : lo_ok L i = true) (d : decode cc pc = .ok (.iinc i n, 3)) (kk : V p l e R s m args below meth c γ Q h k j (pc + 3) (L.set i (some (.int (x + Int32.ofInt n)))) st) : V p l e R s m args below meth c γ Q h k j pc L st := by
  intro H locs ls a b g
  have hm : (i, Value.int x) ∈ prs L := prs_mem.mpr hx
  obtain ⟨q, hq⟩ := List.getElem?_of_mem hm
  have hi := (List.getElem?_eq_some_iff.mp hx).1
  exact lv_iinc X.1 X.2.1 d (lo_has g) hq rfl hi rfl (fun ls' g' => kk H locs ls' a b (lo_put1 hi ho g'))
theorem v_goto (X : Cx p s m args meth c γ y cc nL ret) {off : Int} {tgt : Nat} (d : decode cc pc = .ok (.goto off, 3)) (ht : (pc : Int) + off = (tgt : Int)) (kk : V p l e R s m args below meth c γ Q h k j tgt L st) : V p l e R s m args below meth c γ Q h k j pc L st := fun H locs ls a b g => lv_goto X.1 X.2.1 d ht (kk H locs ls a b g)
theorem v_if_eq (X : Cx p s m args meth c γ y cc nL ret) {x : Int32} {off : Int} {tgt : Nat} (d : decode cc pc = .ok (.ifCond .eq off, 3)) (ht : (pc : Int) + off = (tgt : Int)) (kt : x = 0 → V p l e R s m args below meth c γ Q h k j tgt L st) (kf : ¬ x = 0 → V p l e R s m args below meth c γ Q h k j (pc + 3) L st) : V p l e R s m args below meth c γ Q h k j pc L (.int x :: st) := fun H locs ls a b g => lv_if_eq X.1 X.2.1 d ht (fun q => kt q H locs ls a b g) (fun q => kf q H locs ls a b g)
theorem v_if_eq_t (X : Cx p s m args meth c γ y cc nL ret) {x : Int32} {off : Int} {tgt : Nat} (d : decode cc pc = .ok (.ifCond .eq off, 3)) (ht : (pc : Int) + off = (tgt : Int)) (q : x = 0) (kt : V p l e R s m args below meth c γ Q h k j tgt L st) : V p l e R s m args below meth c γ Q h k j pc L (.int x :: st) := v_if_eq X d ht (fun _ => kt) (fun z => absurd q z)
theorem v_if_eq_f (X : Cx p s m args meth c γ y cc nL ret) {x : Int32} {off : Int} {tgt : Nat} (d : decode cc pc = .ok (.ifCond .eq off, 3)) (ht : (pc : Int) + off = (tgt : Int)) (q : ¬ x = 0) (kf : V p l e R s m args below meth c γ Q h k j (pc + 3) L st) : V p l e R s m args below meth c γ Q h k j pc L (.int x :: st) := v_if_eq X d ht (fun z => absurd z q) (fun _ => kf)
theorem v_icmp_eq (X : Cx p s m args meth c γ y cc nL ret) {x y : Int32} {off : Int} {tgt : Nat} (d : decode cc pc = .ok (.if_icmp .eq off, 3)) (ht : (pc : Int) + off = (tgt : Int)) (kt : x = y → V p l e R s m args below meth c γ Q h k j tgt L st) (kf : ¬ x = y → V p l e R s m args below meth c γ Q h k j (pc + 3) L st) : V p l e R s m args below meth c γ Q h k j pc L (.int y :: .int x :: st) := fun H locs ls a b g => lv_icmp_eq X.1 X.2.1 d ht (fun q => kt q H locs ls a b g) (fun q => kf q H locs ls a b g)
theorem v_icmp_eq_t (X : Cx p s m args meth c γ y cc nL ret) {x y : Int32} {off : Int} {tgt : Nat} (d : decode cc pc = .ok (.if_icmp .eq off, 3)) (ht : (pc : Int) + off = (tgt : Int)) (q : x = y) (kt : V p l e R s m args below meth c γ Q h k j tgt L st) : V p l e R s m args below meth c γ Q h k j pc L (.int y :: .int x :: st) := v_icmp_eq X d ht (fun _ => kt) (fun z => absurd q z)
theorem v_icmp_eq_f (X : Cx p s m args meth c γ y cc nL ret) {x y : Int32} {off : Int} {tgt : Nat} (d : decode cc pc = .ok (.if_icmp .eq off, 3)) (ht : (pc : Int) + off = (tgt : Int)) (q : ¬ x = y) (kf : V p l e R s m args below meth c γ Q h k j (pc + 3) L st) : V p l e R s m args below meth c γ Q h k j pc L (.int y :: .int x :: st) := v_icmp_eq X d ht (fun z => absurd z q) (fun _ => kf)
theorem v_if_ne (X : Cx p s m args meth c γ y cc nL ret) {x : Int32} {off : Int} {tgt : Nat} (d : decode cc pc = .ok (.ifCond .ne off, 3)) (ht : (pc : Int) + off = (tgt : Int)) (kt : ¬ x = 0 → V p l e R s m args below meth c γ Q h k j tgt L st) (kf : x = 0 → V p l e R s m args below meth c γ Q h k j (pc + 3) L st) : V p l e R s m args below meth c γ Q h k j pc L (.int x :: st) := fun H locs ls a b g => lv_if_ne X.1 X.2.1 d ht (fun q => kt q H locs ls a b g) (fun q => kf q H locs ls a b g)
theorem v_if_ne_t (X : Cx p s m args meth c γ y cc nL ret) {x : Int32} {off : Int} {tgt : Nat} (d : decode cc pc = .ok (.ifCond .ne off, 3)) (ht : (pc : Int) + off = (tgt : Int)) (q : ¬ x = 0) (kt : V p l e R s m args below meth c γ Q h k j tgt L st) : V p l e R s m args below meth c γ Q h k j pc L (.int x :: st) := v_if_ne X d ht (fun _ => kt) (fun z => absurd z q)
theorem v_if_ne_f (X : Cx p s m args meth c γ y cc nL ret) {x : Int32} {off : Int} {tgt : Nat} (d : decode cc pc = .ok (.ifCond .ne off, 3)) (ht : (pc : Int) + off = (tgt : Int)) (q : x = 0) (kf : V p l e R s m args below meth c γ Q h k j (pc + 3) L st) : V p l e R s m args below meth c γ Q h k j pc L (.int x :: st) := v_if_ne X d ht (fun z => absurd q z) (fun _ => kf)
theorem v_icmp_ne (X : Cx p s m args meth c γ y cc nL ret) {x y : Int32} {off : Int} {tgt : Nat} (d : decode cc pc = .ok (.if_icmp .ne off, 3)) (ht : (pc : Int) + off = (tgt : Int)) (kt : ¬ x = y → V p l e R s m args below meth c γ Q h k j tgt L st) (kf : x = y → V p l e R s m args below meth c γ Q h k j (pc + 3) L st) : V p l e R s m args below meth c γ Q h k j pc L (.int y :: .int x :: st) := fun H locs ls a b g => lv_icmp_ne X.1 X.2.1 d ht (fun q => kt q H locs ls a b g) (fun q => kf q H locs ls a b g)
theorem v_icmp_ne_t (X : Cx p s m args meth c γ y cc nL ret) {x y : Int32} {off : Int} {tgt : Nat} (d : decode cc pc = .ok (.if_icmp .ne off, 3)) (ht : (pc : Int) + off = (tgt : Int)) (q : ¬ x = y) (kt : V p l e R s m args below meth c γ Q h k j tgt L st) : V p l e R s m args below meth c γ Q h k j pc L (.int y :: .int x :: st) := v_icmp_ne X d ht (fun _ => kt) (fun z => absurd z q)
theorem v_icmp_ne_f (X : Cx p s m args meth c γ y cc nL ret) {x y : Int32} {off : Int} {tgt : Nat} (d : decode cc pc = .ok (.if_icmp .ne off, 3)) (ht : (pc : Int) + off = (tgt : Int)) (q : x = y) (kf : V p l e R s m args below meth c γ Q h k j (pc + 3) L st) : V p l e R s m args below meth c γ Q h k j pc L (.int y :: .int x :: st) := v_icmp_ne X d ht (fun z => absurd q z) (fun _ => kf)
theorem v_if_lt (X : Cx p s m args meth c γ y cc nL ret) {x : Int32} {off : Int} {tgt : Nat} (d : decode cc pc = .ok (.ifCond .lt off, 3)) (ht : (pc : Int) + off = (tgt : Int)) (kt : x < 0 → V p l e R s m args below meth c γ Q h k j tgt L st) (kf : ¬ x < 0 → V p l e R s m args below meth c γ Q h k j (pc + 3) L st) : V p l e R s m args below meth c γ Q h k j pc L (.int x :: st) := fun H locs ls a b g => lv_if_lt X.1 X.2.1 d ht (fun q => kt q H locs ls a b g) (fun q => kf q H locs ls a b g)
theorem v_if_lt_t (X : Cx p s m args meth c γ y cc nL ret) {x : Int32} {off : Int} {tgt : Nat} (d : decode cc pc = .ok (.ifCond .lt off, 3)) (ht : (pc : Int) + off = (tgt : Int)) (q : x < 0) (kt : V p l e R s m args below meth c γ Q h k j tgt L st) : V p l e R s m args below meth c γ Q h k j pc L (.int x :: st) := v_if_lt X d ht (fun _ => kt) (fun z => absurd q z)
theorem v_if_lt_f (X : Cx p s m args meth c γ y cc nL ret) {x : Int32} {off : Int} {tgt : Nat} (d : decode cc pc = .ok (.ifCond .lt off, 3)) (ht : (pc : Int) + off = (tgt : Int)) (q : ¬ x < 0) (kf : V p l e R s m args below meth c γ Q h k j (pc + 3) L st) : V p l e R s m args below meth c γ Q h k j pc L (.int x :: st) := v_if_lt X d ht (fun z => absurd z q) (fun _ => kf)
theorem v_icmp_lt (X : Cx p s m args meth c γ y cc nL ret) {x y : Int32} {off : Int} {tgt : Nat} (d : decode cc pc = .ok (.if_icmp .lt off, 3)) (ht : (pc : Int) + off = (tgt : Int)) (kt : x < y → V p l e R s m args below meth c γ Q h k j tgt L st) (kf : ¬ x < y → V p l e R s m args below meth c γ Q h k j (pc + 3) L st) : V p l e R s m args below meth c γ Q h k j pc L (.int y :: .int x :: st) := fun H locs ls a b g => lv_icmp_lt X.1 X.2.1 d ht (fun q => kt q H locs ls a b g) (fun q => kf q H locs ls a b g)
theorem v_icmp_lt_t (X : Cx p s m args meth c γ y cc nL ret) {x y : Int32} {off : Int} {tgt : Nat} (d : decode cc pc = .ok (.if_icmp .lt off, 3)) (ht : (pc : Int) + off = (tgt : Int)) (q : x < y) (kt : V p l e R s m args below meth c γ Q h k j tgt L st) : V p l e R s m args below meth c γ Q h k j pc L (.int y :: .int x :: st) := v_icmp_lt X d ht (fun _ => kt) (fun z => absurd q z)
theorem v_icmp_lt_f (X : Cx p s m args meth c γ y cc nL ret) {x y : Int32} {off : Int} {tgt : Nat} (d : decode cc pc = .ok (.if_icmp .lt off, 3)) (ht : (pc : Int) + off = (tgt : Int)) (q : ¬ x < y) (kf : V p l e R s m args below meth c γ Q h k j (pc + 3) L st) : V p l e R s m args below meth c γ Q h k j pc L (.int y :: .int x :: st) := v_icmp_lt X d ht (fun z => absurd z q) (fun _ => kf)
theorem v_if_ge (X : Cx p s m args meth c γ y cc nL ret) {x : Int32} {off : Int} {tgt : Nat} (d : decode cc pc = .ok (.ifCond .ge off, 3)) (ht : (pc : Int) + off = (tgt : Int)) (kt : 0 ≤ x → V p l e R s m args below meth c γ Q h k j tgt L st) (kf : ¬ 0 ≤ x → V p l e R s m args below meth c γ Q h k j (pc + 3) L st) : V p l e R s m args below meth c γ Q h k j pc L (.int x :: st) := fun H locs ls a b g => lv_if_ge X.1 X.2.1 d ht (fun q => kt q H locs ls a b g) (fun q => kf q H locs ls a b g)
theorem v_if_ge_t (X : Cx p s m args meth c γ y cc nL ret) {x : Int32} {off : Int} {tgt : Nat} (d : decode cc pc = .ok (.ifCond .ge off, 3)) (ht : (pc : Int) + off = (tgt : Int)) (q : 0 ≤ x) (kt : V p l e R s m args below meth c γ Q h k j tgt L st) : V p l e R s m args below meth c γ Q h k j pc L (.int x :: st) := v_if_ge X d ht (fun _ => kt) (fun z => absurd q z)
theorem v_if_ge_f (X : Cx p s m args meth c γ y cc nL ret) {x : Int32} {off : Int} {tgt : Nat} (d : decode cc pc = .ok (.ifCond .ge off, 3)) (ht : (pc : Int) + off = (tgt : Int)) (q : ¬ 0 ≤ x) (kf : V p l e R s m args below meth c γ Q h k j (pc + 3) L st) : V p l e R s m args below meth c γ Q h k j pc L (.int x :: st) := v_if_ge X d ht (fun z => absurd z q) (fun _ => kf)
theorem v_icmp_ge (X : Cx p s m args meth c γ y cc nL ret) {x y : Int32} {off : Int} {tgt : Nat} (d : decode cc pc = .ok (.if_icmp .ge off, 3)) (ht : (pc : Int) + off = (tgt : Int)) (kt : y ≤ x → V p l e R s m args below meth c γ Q h k j tgt L st) (kf : ¬ y ≤ x → V p l e R s m args below meth c γ Q h k j (pc + 3) L st) : V p l e R s m args below meth c γ Q h k j pc L (.int y :: .int x :: st) := fun H locs ls a b g => lv_icmp_ge X.1 X.2.1 d ht (fun q => kt q H locs ls a b g) (fun q => kf q H locs ls a b g)
theorem v_icmp_ge_t (X : Cx p s m args meth c γ y cc nL ret) {x y : Int32} {off : Int} {tgt : Nat} (d : decode cc pc = .ok (.if_icmp .ge off, 3)) (ht : (pc : Int) + off = (tgt : Int)) (q : y ≤ x) (kt : V p l e R s m args below meth c γ Q h k j tgt L st) : V p l e R s m args below meth c γ Q h k j pc L (.int y :: .int x :: st) := v_icmp_ge X d ht (fun _ => kt) (fun z => absurd q z)
theorem v_icmp_ge_f (X : Cx p s m args meth c γ y cc nL ret) {x y : Int32} {off : Int} {tgt : Nat} (d : decode cc pc = .ok (.if_icmp .ge off, 3)) (ht : (pc : Int) + off = (tgt : Int)) (q : ¬ y ≤ x) (kf : V p l e R s m args below meth c γ Q h k j (pc + 3) L st) : V p l e R s m args below meth c γ Q h k j pc L (.int y :: .int x :: st) := v_icmp_ge X d ht (fun z => absurd z q) (fun _ => kf)
theorem v_if_gt (X : Cx p s m args meth c γ y cc nL ret) {x : Int32} {off : Int} {tgt : Nat} (d : decode cc pc = .ok (.ifCond .gt off, 3)) (ht : (pc : Int) + off = (tgt : Int)) (kt : 0 < x → V p l e R s m args below meth c γ Q h k j tgt L st) (kf : ¬ 0 < x → V p l e R s m args below meth c γ Q h k j (pc + 3) L st) : V p l e R s m args below meth c γ Q h k j pc L (.int x :: st) := fun H locs ls a b g => lv_if_gt X.1 X.2.1 d ht (fun q => kt q H locs ls a b g) (fun q => kf q H locs ls a b g)
theorem v_if_gt_t (X : Cx p s m args meth c γ y cc nL ret) {x : Int32} {off : Int} {tgt : Nat} (d : decode cc pc = .ok (.ifCond .gt off, 3)) (ht : (pc : Int) + off = (tgt : Int)) (q : 0 < x) (kt : V p l e R s m args below meth c γ Q h k j tgt L st) : V p l e R s m args below meth c γ Q h k j pc L (.int x :: st) := v_if_gt X d ht (fun _ => kt) (fun z => absurd q z)
theorem v_if_gt_f (X : Cx p s m args meth c γ y cc nL ret) {x : Int32} {off : Int} {tgt : Nat} (d : decode cc pc = .ok (.ifCond .gt off, 3)) (ht : (pc : Int) + off = (tgt : Int)) (q : ¬ 0 < x) (kf : V p l e R s m args below meth c γ Q h k j (pc + 3) L st) : V p l e R s m args below meth c γ Q h k j pc L (.int x :: st) := v_if_gt X d ht (fun z => absurd z q) (fun _ => kf)
theorem v_icmp_gt (X : Cx p s m args meth c γ y cc nL ret) {x y : Int32} {off : Int} {tgt : Nat} (d : decode cc pc = .ok (.if_icmp .gt off, 3)) (ht : (pc : Int) + off = (tgt : Int)) (kt : y < x → V p l e R s m args below meth c γ Q h k j tgt L st) (kf : ¬ y < x → V p l e R s m args below meth c γ Q h k j (pc + 3) L st) : V p l e R s m args below meth c γ Q h k j pc L (.int y :: .int x :: st) := fun H locs ls a b g => lv_icmp_gt X.1 X.2.1 d ht (fun q => kt q H locs ls a b g) (fun q => kf q H locs ls a b g)
theorem v_icmp_gt_t (X : Cx p s m args meth c γ y cc nL ret) {x y : Int32} {off : Int} {tgt : Nat} (d : decode cc pc = .ok (.if_icmp .gt off, 3)) (ht : (pc : Int) + off = (tgt : Int)) (q : y < x) (kt : V p l e R s m args below meth c γ Q h k j tgt L st) : V p l e R s m args below meth c γ Q h k j pc L (.int y :: .int x :: st) := v_icmp_gt X d ht (fun _ => kt) (fun z => absurd q z)
theorem v_icmp_gt_f (X : Cx p s m args meth c γ y cc nL ret) {x y : Int32} {off : Int} {tgt : Nat} (d : decode cc pc = .ok (.if_icmp .gt off, 3)) (ht : (pc : Int) + off = (tgt : Int)) (q : ¬ y < x) (kf : V p l e R s m args below meth c γ Q h k j (pc + 3) L st) : V p l e R s m args below meth c γ Q h k j pc L (.int y :: .int x :: st) := v_icmp_gt X d ht (fun z => absurd z q) (fun _ => kf)
theorem v_if_le (X : Cx p s m args meth c γ y cc nL ret) {x : Int32} {off : Int} {tgt : Nat} (d : decode cc pc = .ok (.ifCond .le off, 3)) (ht : (pc : Int) + off = (tgt : Int)) (kt : x ≤ 0 → V p l e R s m args below meth c γ Q h k j tgt L st) (kf : ¬ x ≤ 0 → V p l e R s m args below meth c γ Q h k j (pc + 3) L st) : V p l e R s m args below meth c γ Q h k j pc L (.int x :: st) := fun H locs ls a b g => lv_if_le X.1 X.2.1 d ht (fun q => kt q H locs ls a b g) (fun q => kf q H locs ls a b g)
theorem v_if_le_t (X : Cx p s m args meth c γ y cc nL ret) {x : Int32} {off : Int} {tgt : Nat} (d : decode cc pc = .ok (.ifCond .le off, 3)) (ht : (pc : Int) + off = (tgt : Int)) (q : x ≤ 0) (kt : V p l e R s m args below meth c γ Q h k j tgt L st) : V p l e R s m args below meth c γ Q h k j pc L (.int x :: st) := v_if_le X d ht (fun _ => kt) (fun z => absurd q z)
theorem v_if_le_f (X : Cx p s m args meth c γ y cc nL ret) {x : Int32} {off : Int} {tgt : Nat} (d : decode cc pc = .ok (.ifCond .le off, 3)) (ht : (pc : Int) + off = (tgt : Int)) (q : ¬ x ≤ 0) (kf : V p l e R s m args below meth c γ Q h k j (pc + 3) L st) : V p l e R s m args below meth c γ Q h k j pc L (.int x :: st) := v_if_le X d ht (fun z => absurd z q) (fun _ => kf)
theorem v_icmp_le (X : Cx p s m args meth c γ y cc nL ret) {x y : Int32} {off : Int} {tgt : Nat} (d : decode cc pc = .ok (.if_icmp .le off, 3)) (ht : (pc : Int) + off = (tgt : Int)) (kt : x ≤ y → V p l e R s m args below meth c γ Q h k j tgt L st) (kf : ¬ x ≤ y → V p l e R s m args below meth c γ Q h k j (pc + 3) L st) : V p l e R s m args below meth c γ Q h k j pc L (.int y :: .int x :: st) := fun H locs ls a b g => lv_icmp_le X.1 X.2.1 d ht (fun q => kt q H locs ls a b g) (fun q => kf q H locs ls a b g)
theorem v_icmp_le_t (X : Cx p s m args meth c γ y cc nL ret) {x y : Int32} {off : Int} {tgt : Nat} (d : decode cc pc = .ok (.if_icmp .le off, 3)) (ht : (pc : Int) + off = (tgt : Int)) (q : x ≤ y) (kt : V p l e R s m args below meth c γ Q h k j tgt L st) : V p l e R s m args below meth c γ Q h k j pc L (.int y :: .int x :: st) := v_icmp_le X d ht (fun _ => kt) (fun z => absurd q z)
theorem v_icmp_le_f (X : Cx p s m args meth c γ y cc nL ret) {x y : Int32} {off : Int} {tgt : Nat} (d : decode cc pc = .ok (.if_icmp .le off, 3)) (ht : (pc : Int) + off = (tgt : Int)) (q : ¬ x ≤ y) (kf : V p l e R s m args below meth c γ Q h k j (pc + 3) L st) : V p l e R s m args below meth c γ Q h k j pc L (.int y :: .int x :: st) := v_icmp_le X d ht (fun z => absurd z q) (fun _ => kf)
theorem v_acmp_eq (X : Cx p s m args meth c γ y cc nL ret) {rx ry : Nat} {off : Int} {tgt : Nat} (d : decode cc pc = .ok (.if_acmp .eq off, 3)) (ht : (pc : Int) + off = (tgt : Int)) (kt : rx = ry → V p l e R s m args below meth c γ Q h k j tgt L st) (kf : ¬ rx = ry → V p l e R s m args below meth c γ Q h k j (pc + 3) L st) : V p l e R s m args below meth c γ Q h k j pc L (.ref ry :: .ref rx :: st) := fun H locs ls a b g => lv_acmp_eq (rx := some rx) (ry := some ry) X.1 X.2.1 d ht (fun q => kt (by simpa using q) H locs ls a b g) (fun q => kf (by simpa using q) H locs ls a b g)
theorem v_acmp_ne (X : Cx p s m args meth c γ y cc nL ret) {rx ry : Nat} {off : Int} {tgt : Nat} (d : decode cc pc = .ok (.if_acmp .ne off, 3)) (ht : (pc : Int) + off = (tgt : Int)) (kt : ¬ rx = ry → V p l e R s m args below meth c γ Q h k j tgt L st) (kf : rx = ry → V p l e R s m args below meth c γ Q h k j (pc + 3) L st) : V p l e R s m args below meth c γ Q h k j pc L (.ref ry :: .ref rx :: st) := fun H locs ls a b g => lv_acmp_ne (rx := some rx) (ry := some ry) X.1 X.2.1 d ht (fun q => kt (by simpa using q) H locs ls a b g) (fun q => kf (by simpa using q) H locs ls a b g)
theorem v_tableOut (X : Cx p s m args meth c γ y cc nL ret) {dflt lo hi : Int} {offs : Array Int} {len tgt : Nat} {x : Int32} (d : decode cc pc = .ok (.tableswitch dflt lo hi offs, len)) (q : x.toInt < lo ∨ hi < x.toInt) (ht : (pc : Int) + dflt = (tgt : Int)) (kk : V p l e R s m args below meth c γ Q h k j tgt L st) : V p l e R s m args below meth c γ Q h k j pc L (.int x :: st) := fun H locs ls a b g => lv_tableOut X.1 X.2.1 d q ht (kk H locs ls a b g)
theorem v_tableIn (X : Cx p s m args meth c γ y cc nL ret) {dflt lo hi : Int} {offs : Array Int} {len tgt : Nat} {x : Int32} {off : Int} (d : decode cc pc = .ok (.tableswitch dflt lo hi offs, len)) (h1 : ¬ x.toInt < lo) (h2 : ¬ hi < x.toInt) (ho : offs[(x.toInt - lo).toNat]? = some off) (ht : (pc : Int) + off = (tgt : Int)) (kk : V p l e R s m args below meth c γ Q h k j tgt L st) : V p l e R s m args below meth c γ Q h k j pc L (.int x :: st) := fun H locs ls a b g => lv_tableIn X.1 X.2.1 d h1 h2 ho ht (kk H locs ls a b g)
theorem v_lookup (X : Cx p s m args meth c γ y cc nL ret) {dflt : Int} {ps : Array (Int × Int)} {len tgt : Nat} {x : Int32} {off : Int} (d : decode cc pc = .ok (.lookupswitch dflt ps, len)) (hp : (ps.toList.zip (ps.toList.drop 1)).all (fun (a, next) => a.1 < next.1) = true) (ho : Op.lookupswitch.offset ps.toList dflt x.toInt = off) (ht : (pc : Int) + off = (tgt : Int)) (kk : V p l e R s m args below meth c γ Q h k j tgt L st) : V p l e R s m args below meth c γ Q h k j pc L (.int x :: st) := fun H locs ls a b g => lv_lookup X.1 X.2.1 d hp ho ht (kk H locs ls a b g)
theorem v_widen {k' j' : Nat} (hk : k ≤ k') (hj : j ≤ j') (kk : V p l e R s m args below meth c γ Q h k' j' pc L st) : V p l e R s m args below meth c γ Q h k j pc L st := fun H locs ls a b g => W.widen hk hj (kk H locs ls a b g)
theorem at_of {H : Heap} {a : Nat} {e0 : va_E} (hh : hOK γ h H) (ha : h.1 a = some e0) : va_P γ.2.1 vwCl [(a, e0)] H := fun k q hq => by
  have hz : k < 1 := (List.getElem?_eq_some_iff.mp hq).1
  rw [show k = 0 by omega] at hq
  cases hq
  exact (hh.2.2 a e0 ha).1
theorem v_getf (X : Cx p s m args meth c γ y cc nL ret) {index ci kf a : Nat} {fs : List Value} {v : Value} (F : FD y.cls index ci kf) (hr : h.1 a = some (.inr (ci, fs))) (hv : fs[kf]? = some v) (d : decode cc pc = .ok (.getfield index, 3)) (kk : V p l e R s m args below meth c γ Q h k j (pc + 3) L (v :: st)) : V p l e R s m args below meth c γ Q h k j pc L (.ref a :: st) := by
  intro H locs ls hh hS hl
  obtain ⟨C, ref, T, N, f1, f2, f3, f4, f5⟩ := F
  exact va_get X.1 X.2.1 X.2.2.2.2.1 f2 X.2.2.2.1 X.2.2.2.2.2.2.2.1.1 (at_of hh hr) 0 rfl f1 kf f3 (X.2.2.2.2.1 _ f4) (fun x hx => f5.elim (fun z => by rw [z]; exact hx) (fun z => u_same (X.2.2.2.2.1 _ z) x hx)) hv d (kk H locs ls hh hS hl)
theorem v_putf (X : Cx p s m args meth c γ y cc nL ret) {index ci kf a : Nat} {fs : List Value} {v : Value} {ty : FieldType} (F : FP y.cls index ci kf false ty) (hr : h.1 a = some (.inr (ci, fs))) (hn : narrow ty v = v) (hfit : fits ty v = true) (hl : kf < fs.length) (d : decode cc pc = .ok (.putfield index, 3)) (kk : V p l e R s m args below meth c γ Q (hset h a (.inr (ci, fs.set kf v))) k j (pc + 3) L st) : V p l e R s m args below meth c γ Q h k j pc L (v :: .ref a :: st) := by
  intro H locs ls hh hS0 hlo
  obtain ⟨C, ref, T, N, t0, hc, hin, hk, hlink, hsame, hty, hnm, hfin, -, hd⟩ := F
  have hts := X.2.2.2.2.1
  have hown := X.2.2.2.1
  have hK := X.2.2.2.2.2.2.2.1.1
  have hap := va_apart (own := y.cls) hts hin t0 hty hnm hK hc
  obtain ⟨r, h1, cell, q1, q2, q3, q4⟩ := (hh.2.2 a _ hr).1
  have hr2 : r = (C, T, N) := Option.some.inj (h1.symm.trans hc)
  subst hr2
  obtain ⟨hS, hfc, kC, hkC, hkind⟩ := hK.1 ci _ hc
  obtain ⟨cf, kf', fi, f, hi, hsl⟩ := hS kf hk
  have hlay := hts _ (hin _ (u_in_lay hk))
  unfold u_lay at hlay
  rw [if_neg (by rw [hfin]; decide)] at hlay
  have hst := (u_facts hfc hkC (u_lays hts hin hk) hi).1
  have h6 := u_store hfc hkC hkind hlay hi hd hn hfit
  have hi2 : s.fieldFound? ref (T kf).2.1 (T kf).2.2.1 = some (cf, kf', fi, f) := hsame.elim (fun z => by rw [z]; exact hi) (fun z => u_same (hts _ z) _ hi)
  refine W.putK X.1 X.2.1 (f := f) ⟨hown, hts _ hlink, ⟨_, _, _, hi2⟩, hst⟩ (by rw [q2]; exact h6) q1 q3 (by rw [hsl]; exact k2_hasslot (q4 kf hk)) rfl rfl d fun H' e1 e2 e3 => ?_
  rw [hsl] at e1 ⊢
  exact kk H' _ ls (hOK_set hh hr e2 e3 ⟨_, hc, t_OB.to (V := updV (vp_V fs) kf v) ⟨_, e1, q2, q3, t_set q4 hap hk v⟩ (fun j _ => vp_updV_set hl v j)⟩) (hS0.put e2 e3 (hh.2.2 a _ hr).2) hlo
theorem v_putF (X : Cx p s m args meth c γ y cc nL ret) {index ci kf a : Nat} {fs : List Value} {v : Value} {ty : FieldType} (F : FP y.cls index ci kf true ty) (hin2 : y.name = "<init>") (hr : h.1 a = some (.inr (ci, fs))) (hn : narrow ty v = v) (hfit : fits ty v = true) (hl : kf < fs.length) (d : decode cc pc = .ok (.putfield index, 3)) (kk : V p l e R s m args below meth c γ Q (hset h a (.inr (ci, fs.set kf v))) k j (pc + 3) L st) : V p l e R s m args below meth c γ Q h k j pc L (v :: .ref a :: st) := by
  intro H locs ls hh hS0 hlo
  obtain ⟨C, ref, T, N, t0, hc, hin, hk, hlink, hsame, hty, hnm, hfin, hdecl, hd⟩ := F
  have hts := X.2.2.2.2.1
  have hown := X.2.2.2.1
  have hK := X.2.2.2.2.2.2.2.1.1
  have hap := va_apart (own := y.cls) hts hin t0 hty hnm hK hc
  obtain ⟨r, h1, cell, q1, q2, q3, q4⟩ := (hh.2.2 a _ hr).1
  have hr2 : r = (C, T, N) := Option.some.inj (h1.symm.trans hc)
  subst hr2
  obtain ⟨hS, hfc, kC, hkC, hkind⟩ := hK.1 ci _ hc
  obtain ⟨cf, kf', fi, f, hi, hsl⟩ := hS kf hk
  have hlay := hts _ (hin _ (u_in_lay hk))
  unfold u_lay at hlay
  rw [if_pos hfin] at hlay
  have hst := (u_facts hfc hkC (u_lays hts hin hk) hi).1
  have hcf : m.cls = cf := by
    obtain ⟨_, _, c', _, _, _, -, -, hf', -, -, -, hown2, -⟩ := Cond.laysFinal_spec hlay
    have e1 : c' = cf := by have := hi.symm.trans hf'; simp at this; exact this.1.symm
    rw [hdecl rfl] at hown2
    rw [← e1]; exact Option.some.inj (hown.symm.trans hown2)
  have h6 := u_fits hfc hkC hkind (Or.inr hlay) hi hd hn hfit
  have hi2 : s.fieldFound? ref (T kf).2.1 (T kf).2.2.1 = some (cf, kf', fi, f) := hsame.elim (fun z => by rw [z]; exact hi) (fun z => u_same (hts _ z) _ hi)
  refine W.putFinK X.1 X.2.1 hown (hts _ hlink) hi2 hst hcf (X.2.2.2.2.2.2.2.2 hin2) (by rw [q2]; exact h6) q1 q3 (by rw [hsl]; exact k2_hasslot (q4 kf hk)) rfl rfl d fun H' e1 e2 e3 => ?_
  rw [hsl] at e1 ⊢
  exact kk H' _ ls (hOK_set hh hr e2 e3 ⟨_, hc, t_OB.to (V := updV (vp_V fs) kf v) ⟨_, e1, q2, q3, t_set q4 hap hk v⟩ (fun j _ => vp_updV_set hl v j)⟩) (hS0.put e2 e3 (hh.2.2 a _ hr).2) hlo
theorem v_iald (X : Cx p s m args meth c γ y cc nL ret) {a n : Nat} {f : Nat → Int32} {x : Int32} (hr : h.1 a = some (.inl (γ.2.2.1 0, n, .inl f))) (i : Nat) (hx : x = nI i) (hi : i < n) (hn : n < 2 ^ 31) (d : decode cc pc = .ok (.iaload, 1)) (kk : V p l e R s m args below meth c γ Q h k j (pc + 1) L (.int (f i) :: st)) : V p l e R s m args below meth c γ Q h k j pc L (.int x :: .ref a :: st) := by
  intro H locs ls hh hS hl
  subst hx
  refine va_iald X.1 X.2.1 X.2.2.2.2.2.2.2.1.1 (at_of hh hr) 0 0 rfl rfl (vp_in_nI hi hn) d ?_
  rw [nI_clamp (Nat.lt_trans hi hn)]
  exact kk H locs ls hh hS hl
theorem v_iast (X : Cx p s m args meth c γ y cc nL ret) {a n : Nat} {f : Nat → Int32} {x z : Int32} (hr : h.1 a = some (.inl (γ.2.2.1 0, n, .inl f))) (i : Nat) (hx : x = nI i) (hi : i < n) (hn : n < 2 ^ 31) (d : decode cc pc = .ok (.iastore, 1)) (kk : V p l e R s m args below meth c γ Q (hset h a (.inl (γ.2.2.1 0, n, .inl (upd f i z)))) k j (pc + 1) L st) : V p l e R s m args below meth c γ Q h k j pc L (.int z :: .int x :: .ref a :: st) := by
  intro H locs ls hh hS hl
  subst hx
  have hp := (hh.2.2 a _ hr).1
  refine W.iast X.1 X.2.1 (cell := vp_cell (γ.2.2.1 0) (n, .inl f)) hp ((X.2.2.2.2.2.2.2.1.1.2 0 _ rfl).1 n (fun j => .int (f j))) (fun q => by cases q) (by show ¬ (nI i < 0 ∨ (arrV _ _ _).slots.size ≤ _); rw [arrV_size]; exact vp_in_nI hi hn) rfl rfl d fun H1 e1 e2 e3 => ?_
  refine kk H1 _ ls (hOK_set hh hr e2 e3 ?_) (hS.put e2 e3 (hh.2.2 a _ hr).2) hl
  show H1[a]? = some (vp_cell _ _)
  rw [e1, nI_clamp (Nat.lt_trans hi hn), vp_cell_i, vp_cell_i, arrV_store]
  congr 2
  funext q
  by_cases hq : q = i
  · subst hq; simp [updV, upd]
  · simp [updV, upd, hq]
theorem v_alen (X : Cx p s m args meth c γ y cc nL ret) {a t0 : Nat} {z : vp_A} {cA : ClassId} {ty : FieldType} (hr : h.1 a = some (.inl (cA, z))) (ht : (tyl γ)[t0]? = some (cA, ty)) (d : decode cc pc = .ok (.arraylength, 1)) (kk : V p l e R s m args below meth c γ Q h k j (pc + 1) L (.int (nI z.1) :: st)) : V p l e R s m args below meth c γ Q h k j pc L (.ref a :: st) := fun H locs ls hh hS hl =>
  va_alen X.1 X.2.1 X.2.2.2.2.2.2.2.1.1 (at_of hh hr) 0 t0 rfl ht rfl d (kk H locs ls hh hS hl)
theorem v_aald (X : Cx p s m args meth c γ y cc nL ret) {a t0 n b : Nat} {f : Nat → Option Nat} {cA : ClassId} {C : String} {x : Int32} (hr : h.1 a = some (.inl (cA, n, .inr (.inr (.inr (.inr f)))))) (ht : (tyl γ)[t0]? = some (cA, .object C)) (i : Nat) (hx : x = nI i) (hi : i < n) (hn : n < 2 ^ 31) (hb : f i = some b) (d : decode cc pc = .ok (.aaload, 1)) (kk : V p l e R s m args below meth c γ Q h k j (pc + 1) L (.ref b :: st)) : V p l e R s m args below meth c γ Q h k j pc L (.int x :: .ref a :: st) := by
  intro H locs ls hh hS hl
  subst hx
  refine va_aldq X.1 X.2.1 X.2.2.2.2.2.2.2.1.1 (at_of hh hr) 0 t0 rfl ht (vp_in_nI hi hn) d ?_
  rw [nI_clamp (Nat.lt_trans hi hn), hb]
  exact kk H locs ls hh hS hl
theorem v_aast (X : Cx p s m args meth c γ y cc nL ret) {a t0 n v ci : Nat} {f : Nat → Option Nat} {cA : ClassId} {E : String} {r : vw_C} {fs : List Value} {x : Int32} (hr : h.1 a = some (.inl (cA, n, .inr (.inr (.inr (.inr f)))))) (ht : (tyl γ)[t0]? = some (cA, .object E)) (hv : h.1 v = some (.inr (ci, fs))) (hci : vwCl[ci]? = some r) (hE : r.1 = E ∨ va_Nw (.castable r.1 E) s) (i : Nat) (hx : x = nI i) (hi : i < n) (hn : n < 2 ^ 31) (d : decode cc pc = .ok (.aastore, 1)) (kk : V p l e R s m args below meth c γ Q (hset h a (.inl (cA, n, .inr (.inr (.inr (.inr (va_up f i (some v)))))))) k j (pc + 1) L st) : V p l e R s m args below meth c γ Q h k j pc L (.ref v :: .int x :: .ref a :: st) := by
  intro H locs ls hh hS hl
  subst hx
  have hp := (hh.2.2 a _ hr).1
  have hK := X.2.2.2.2.2.2.2.1.1
  obtain ⟨cellV, g1, g2, g3⟩ := va_recv hK (at_of hh hv) (ci := ci) (q0 := 0) hci rfl
  obtain ⟨kC, hkC, -⟩ := Vm.findClass_spec g3
  obtain ⟨kA, comp, k1, k2, k3, -⟩ := (hK.2 t0 _ ht).2
  obtain ⟨kE, hkE, -⟩ := Vm.findClass_spec k3
  have hasg : s.vm.assignable cellV.cls comp = true := by
    rcases hE with z | z
    · have : comp = cellV.cls := by rw [← z] at k3; exact Option.some.inj (k3.symm.trans g3)
      rw [this]
      exact va_asg _ _
    · obtain ⟨c0, t1, f1, f2, f3⟩ := Cond.castable_spec (va_Nw.use (A := args) rfl z)
      cases g3.symm.trans f1
      cases k3.symm.trans f2
      exact f3
  refine W.aast X.1 X.2.1 (cell := vp_cell cA (n, .inr (.inr (.inr (.inr f))))) hp (fun q z => by cases z) (fun z => by cases z) k1 k2 rfl hkE ⟨fun q => (vp_in_nI hi hn) (Or.inl q), by show _ < (arrV _ _ _).slots.size; rw [arrV_size, nI_clamp (Nat.lt_trans hi hn)]; exact hi⟩ g1 (fun q z => by rw [z] at g2; cases g2) hkC hasg rfl rfl d fun H1 e1 e2 e3 => ?_
  refine kk H1 _ ls (hOK_set hh hr e2 e3 ?_) (hS.put e2 e3 (hh.2.2 a _ hr).2) hl
  show H1[a]? = some (vp_cell _ _)
  rw [e1, nI_clamp (Nat.lt_trans hi hn), vp_cell_q, vp_cell_q, arrV_store]
  congr 2
  funext q
  by_cases hq : q = i
  · subst hq; simp [updV, va_up, va_rf]
  · simp [updV, va_up, hq]
theorem v_aastN (X : Cx p s m args meth c γ y cc nL ret) {a t0 n : Nat} {f : Nat → Option Nat} {cA : ClassId} {E : String} {x : Int32} (hr : h.1 a = some (.inl (cA, n, .inr (.inr (.inr (.inr f)))))) (ht : (tyl γ)[t0]? = some (cA, .object E)) (i : Nat) (hx : x = nI i) (hi : i < n) (hn : n < 2 ^ 31) (d : decode cc pc = .ok (.aastore, 1)) (kk : V p l e R s m args below meth c γ Q (hset h a (.inl (cA, n, .inr (.inr (.inr (.inr (va_up f i none))))))) k j (pc + 1) L st) : V p l e R s m args below meth c γ Q h k j pc L (.null :: .int x :: .ref a :: st) := by
  intro H locs ls hh hS hl
  subst hx
  have hp := (hh.2.2 a _ hr).1
  refine va_WaastN (C := E) X.1 X.2.1 (cell := vp_cell cA (n, .inr (.inr (.inr (.inr f))))) hp ((X.2.2.2.2.2.2.2.1.1.2 t0 _ ht).1 n (fun j => va_rf (f j))) (fun z => by cases z) (by show ¬ (nI i < 0 ∨ (arrV _ _ _).slots.size ≤ _); rw [arrV_size]; exact vp_in_nI hi hn) rfl rfl d fun H1 e1 e2 e3 => ?_
  refine kk H1 _ ls (hOK_set hh hr e2 e3 ?_) (hS.put e2 e3 (hh.2.2 a _ hr).2) hl
  show H1[a]? = some (vp_cell _ _)
  rw [e1, nI_clamp (Nat.lt_trans hi hn), vp_cell_q, vp_cell_q, arrV_store]
  congr 2
  funext q
  by_cases hq : q = i
  · subst hq; simp [updV, va_up, va_rf]
  · simp [updV, va_up, hq]
theorem v_new (X : Cx p s m args meth c γ y cc nL ret) {index ci n : Nat} {fs : List Value} (F : ND y.cls index ci n fs) (hk : k + 1 ≤ R.cells) (hj : j + n ≤ R.slots) (d : decode cc pc = .ok (.new index, 3)) (kk : V p l e R s m args below meth c γ Q (hnew h (.inr (ci, fs))) (k + 1) (j + n) (pc + 3) L (.ref h.2 :: st)) : V p l e R s m args below meth c γ Q h k j pc L st := by
  intro H locs ls hh hS hl
  obtain ⟨C, T, t0, hc, hin, hty, hcl, hins, hini, hfs⟩ := F
  have hts := X.2.2.2.2.1
  have hKn := X.2.2.2.2.2.2.2.1.1.1 ci _ hc
  refine W.newcK X.1 X.2.1 X.2.2.2.1 (hts _ hcl) (hts _ hins) (hts _ hini) rfl d hk hj hKn.2.1 rfl fun H1 kC hkC e1 z1 o1 => ?_
  have hw := kk H1 locs ls (hOK_new hh z1 o1 ⟨_, hc, (u_born t0 hts hin hKn hkC e1 hty).to hfs⟩) (hS.new (by omega) o1) hl
  rw [← hh.1] at hw
  exact hw
theorem v_newarr (X : Cx p s m args meth c γ y cc nL ret) {x : Int32} (n : Nat) (hx : x = nI n) (hn : n < 100000) (hw : Cond.arrayClass .int ∈ tb) (hk : k + 1 ≤ R.cells) (hj : j + n ≤ R.slots) (d : decode cc pc = .ok (.newarray .int, 2)) (kk : V p l e R s m args below meth c γ Q (hnew h (.inl (γ.2.2.1 0, n, .inl (fun _ => 0)))) (k + 1) (j + n) (pc + 2) L (.ref h.2 :: st)) : V p l e R s m args below meth c γ Q h k j pc L (.int x :: st) := by
  intro H locs ls hh hS hl
  subst hx
  have hc : (nI n).toNatClampNeg = n := nI_clamp (by omega)
  refine va_newaK (atype := .int) (h := H.size) X.1 X.2.1 (X.2.2.2.2.1 _ hw) rfl d rfl (nI_pos (by omega)) hc (by show n * 4 ≤ _; omega) hk hj rfl fun H1 cA e1 z1 o1 hAr hNm => ?_
  have hra := (X.2.2.2.2.2.2.2.1.1.2 0 _ rfl).2
  have hcA : cA = γ.2.2.1 0 := Option.some.inj (hNm.symm.trans hra)
  subst hcA
  have hw := kk H1 locs ls (hOK_new hh z1 o1 e1) (hS.new (by omega) o1) hl
  rw [← hh.1] at hw
  exact hw
theorem v_anew (X : Cx p s m args meth c γ y cc nL ret) {index t0 : Nat} {cA : ClassId} {C : String} {x : Int32} (n : Nat) (hx : x = nI n) (hn : n < 100000) (hcl : Cond.classLink y.cls index C ∈ tb) (hov : va_AO C s) (ht : (tyl γ)[t0]? = some (cA, .object C)) (hk : k + 1 ≤ R.cells) (hj : j + n ≤ R.slots) (d : decode cc pc = .ok (.anewarray index, 3)) (kk : V p l e R s m args below meth c γ Q (hnew h (.inl (cA, n, .inr (.inr (.inr (.inr (fun _ => none))))))) (k + 1) (j + n) (pc + 3) L (.ref h.2 :: st)) : V p l e R s m args below meth c γ Q h k j pc L (.int x :: st) := by
  intro H locs ls hh hS hl
  subst hx
  have hc : (nI n).toNatClampNeg = n := nI_clamp (by omega)
  refine W.anew X.1 X.2.1 X.2.2.2.1 (X.2.2.2.2.1 _ hcl) (va_AO.use hov) rfl d rfl (nI_pos (by omega)) (by rw [hc]; omega) hk (by rw [hc]; exact hj) fun cB kB comp f1 f2 f3 f4 => ?_
  obtain ⟨kA, comp2, k1, k2, k3, k4⟩ := (X.2.2.2.2.2.2.2.1.1.2 t0 _ ht).2
  have hcA : cB = cA := Option.some.inj (f1.symm.trans k4)
  subst hcA
  rw [hc]
  generalize hH1 : H.push ({ cls := cB, slots := Array.replicate n .null, vm := .none } : Cell) = H1
  have z1 : H1.size = H.size + 1 := by rw [← hH1, Array.size_push]
  have e1 : H1[H.size]? = some (arrV cB n (fun _ => .null)) := by rw [← hH1, Array.getElem?_push_size, ← arrV_new]
  have o1 : ∀ q : Nat, q < H.size → H1[q]? = H[q]? := fun q hq => by rw [← hH1, Array.getElem?_push, if_neg (Nat.ne_of_lt hq)]
  have hw := kk H1 locs ls (hOK_new hh z1 o1 e1) (hS.new (by omega) o1) hl
  rw [← hh.1] at hw
  exact hw
theorem v_castS (X : Cx p s m args meth c γ y cc nL ret) {index ci a : Nat} {r : vw_C} {fs : List Value} (hcl : Cond.classLink y.cls index r.1 ∈ tb) (hci : vwCl[ci]? = some r) (hr : h.1 a = some (.inr (ci, fs))) (d : decode cc pc = .ok (.checkcast index, 3)) (kk : V p l e R s m args below meth c γ Q h k j (pc + 3) L (.ref a :: st)) : V p l e R s m args below meth c γ Q h k j pc L (.ref a :: st) := fun H locs ls hh hS hl =>
  va_castE X.1 X.2.1 X.2.2.2.1 (X.2.2.2.2.1 _ hcl) (va_recv X.2.2.2.2.2.2.2.1.1 (at_of hh hr) (q0 := 0) hci rfl) d (kk H locs ls hh hS hl)
theorem v_mmax (X : Cx p s m args meth c γ y cc nL ret) {index : Nat} {x z : Int32} (hw : Cond.methodLink y.cls index Lib.Math.max.name ∈ tb ∧ Cond.static Lib.Math.max.name ∈ tb ∧ Cond.initialized "java/lang/Math" ∈ tb ∧ Cond.code Lib.Math.max.name Lib.Math.max.code 2 (some .int) ∈ tb) (hf : 1 ≤ R.frames) (hlo : (st.map fun v => v.category).sum + 13 ≤ R.locals) (hk : k ≤ R.cells) (hj : j ≤ R.slots) (hnL : L.length = nL) (d : decode cc pc = .ok (.invokestatic index, 3)) (kk : V p l e R s m args below meth c γ Q h k j (pc + 3) L (.int (if x < z then z else x) :: st)) : V p l e R s m args below meth c γ Q h k j pc L (.int z :: .int x :: st) := fun H locs ls hh hS hl =>
  va_mmax X.1 X.2.1 (by rw [X.2.2.1, ← hnL, hl.1]) X.2.2.2.1 (X.2.2.2.2.1 _ hw.1) (X.2.2.2.2.1 _ hw.2.1) (X.2.2.2.2.1 _ hw.2.2.1) (X.2.2.2.2.1 _ hw.2.2.2) hf hlo hk hj d (kk H locs ls hh hS hl)
theorem v_mmin (X : Cx p s m args meth c γ y cc nL ret) {index : Nat} {x z : Int32} (hw : Cond.methodLink y.cls index Lib.Math.min.name ∈ tb ∧ Cond.static Lib.Math.min.name ∈ tb ∧ Cond.initialized "java/lang/Math" ∈ tb ∧ Cond.code Lib.Math.min.name Lib.Math.min.code 2 (some .int) ∈ tb) (hf : 1 ≤ R.frames) (hlo : (st.map fun v => v.category).sum + 13 ≤ R.locals) (hk : k ≤ R.cells) (hj : j ≤ R.slots) (hnL : L.length = nL) (d : decode cc pc = .ok (.invokestatic index, 3)) (kk : V p l e R s m args below meth c γ Q h k j (pc + 3) L (.int (if z < x then z else x) :: st)) : V p l e R s m args below meth c γ Q h k j pc L (.int z :: .int x :: st) := fun H locs ls hh hS hl =>
  va_mmin X.1 X.2.1 (by rw [X.2.2.1, ← hnL, hl.1]) X.2.2.2.1 (X.2.2.2.2.1 _ hw.1) (X.2.2.2.2.1 _ hw.2.1) (X.2.2.2.2.1 _ hw.2.2.1) (X.2.2.2.2.1 _ hw.2.2.2) hf hlo hk hj d (kk H locs ls hh hS hl)
theorem v_mabs (X : Cx p s m args meth c γ y cc nL ret) {index : Nat} {x : Int32} (hw : Cond.methodLink y.cls index Lib.Math.abs.name ∈ tb ∧ Cond.static Lib.Math.abs.name ∈ tb ∧ Cond.initialized "java/lang/Math" ∈ tb ∧ Cond.code Lib.Math.abs.name Lib.Math.abs.code 1 (some .int) ∈ tb) (hf : 1 ≤ R.frames) (hlo : (st.map fun v => v.category).sum + 13 ≤ R.locals) (hk : k ≤ R.cells) (hj : j ≤ R.slots) (hnL : L.length = nL) (d : decode cc pc = .ok (.invokestatic index, 3)) (kk : V p l e R s m args below meth c γ Q h k j (pc + 3) L (.int (if 0 ≤ x then x else 0 - x) :: st)) : V p l e R s m args below meth c γ Q h k j pc L (.int x :: st) := fun H locs ls hh hS hl =>
  va_mabs X.1 X.2.1 (by rw [X.2.2.1, ← hnL, hl.1]) X.2.2.2.1 (X.2.2.2.2.1 _ hw.1) (X.2.2.2.2.1 _ hw.2.1) (X.2.2.2.2.1 _ hw.2.2.1) (X.2.2.2.2.1 _ hw.2.2.2) hf hlo hk hj d (kk H locs ls hh hS hl)
theorem v_objInit (X : Cx p s m args meth c γ y cc nL ret) {index a : Nat} (hw : Cond.methodLink y.cls index objectInit ∈ tb ∧ Cond.instanceMethod objectInit ∈ tb ∧ Cond.code objectInit ⟨#[0xb1]⟩ 1 none ∈ tb) (hf : 1 ≤ R.frames) (hlo : (st.map fun v => v.category).sum + 12 ≤ R.locals) (hnL : L.length = nL) (d : decode cc pc = .ok (.invokespecial index, 3)) (kk : V p l e R s m args below meth c γ Q h k j (pc + 3) L st) : V p l e R s m args below meth c γ Q h k j pc L (.ref a :: st) := fun H locs ls hh hS hl =>
  W.objInit X.1 X.2.1 X.2.2.2.1 (X.2.2.2.2.1 _ hw.1) (X.2.2.2.2.1 _ hw.2.1) (X.2.2.2.2.1 _ hw.2.2) (g := F0 m pc ls (.ref a :: st)) rfl (by show ls.size = _; rw [X.2.2.1, ← hnL, hl.1]) rfl d hf (by show 2 * 0 + _ + 12 ≤ _; omega) (kk H locs ls hh hS hl)
theorem v_gets (X : Cx p s m args meth c γ y cc nL ret) {index : Nat} {C n dd : String} {v : Value} (hZ : va_Z C n dd v (Ag γ) s s.heap) (hl1 : Cond.fieldLink y.cls index C n dd ∈ tb) (d : decode cc pc = .ok (.getstatic index, 3)) (kk : V p l e R s m args below meth c γ Q h k j (pc + 3) L (v :: st)) : V p l e R s m args below meth c γ Q h k j pc L st := fun H locs ls hh hS hl =>
  va_gets X.1 X.2.1 hZ hS X.2.2.2.1 (X.2.2.2.2.1 _ hl1) (fun _ z => z) d (kk H locs ls hh hS hl)
theorem v_tald (X : Cx p s m args meth c γ y cc nL ret) {t N : Nat} {f : Nat → Value} {x : Int32} {v : Value} (hT : va_T .int t N f (Ag γ) s s.heap) (i : Nat) (hx : x = nI i) (hi : i < N) (hn : N < 2 ^ 31) (hv : f i = v) (d : decode cc pc = .ok (.iaload, 1)) (kk : V p l e R s m args below meth c γ Q h k j (pc + 1) L (v :: st)) : V p l e R s m args below meth c γ Q h k j pc L (.int x :: .ref t :: st) := fun H locs ls hh hS hl =>
  va_ti X.1 X.2.1 hT hS (by rw [hx]; exact vp_in_nI hi hn) (by rw [hx, nI_clamp (Nat.lt_trans hi hn)]; exact hv) d (kk H locs ls hh hS hl)
theorem v_tbald (X : Cx p s m args meth c γ y cc nL ret) {t N : Nat} {f : Nat → Value} {x : Int32} {v : Value} (hT : va_T .byte t N f (Ag γ) s s.heap) (i : Nat) (hx : x = nI i) (hi : i < N) (hn : N < 2 ^ 31) (hv : f i = v) (d : decode cc pc = .ok (.baload, 1)) (kk : V p l e R s m args below meth c γ Q h k j (pc + 1) L (v :: st)) : V p l e R s m args below meth c γ Q h k j pc L (.int x :: .ref t :: st) := fun H locs ls hh hS hl =>
  va_tb X.1 X.2.1 hT hS (by rw [hx]; exact vp_in_nI hi hn) (by rw [hx, nI_clamp (Nat.lt_trans hi hn)]; exact hv) d (kk H locs ls hh hS hl)
theorem v_tlen (X : Cx p s m args meth c γ y cc nL ret) {t N : Nat} {f : Nat → Value} {ty : FieldType} (hT : va_T ty t N f (Ag γ) s s.heap) (d : decode cc pc = .ok (.arraylength, 1)) (kk : V p l e R s m args below meth c γ Q h k j (pc + 1) L (.int (nI N) :: st)) : V p l e R s m args below meth c γ Q h k j pc L (.ref t :: st) := fun H locs ls hh hS hl =>
  va_tlen X.1 X.2.1 hT hS rfl d (kk H locs ls hh hS hl)
theorem v_ldcS (X : Cx p s m args meth c γ y cc nL ret) {tx : String} {index q : Nat} (hZ : vk_R y.cls index tx q s) (d : decode cc pc = .ok (.ldc index, 2)) (kk : V p l e R s m args below meth c γ Q h k j (pc + 2) L (.ref q :: st)) : V p l e R s m args below meth c γ Q h k j pc L st := fun H locs ls hh hS hl =>
  va_ldcS X.1 X.2.1 X.2.2.2.1 hZ d (kk H locs ls hh hS hl)
theorem v_ldc2 (X : Cx p s m args meth c γ y cc nL ret) {index : Nat} {v : Int64} (hw : Cond.constantLong y.cls index v ∈ tb) (d : decode cc pc = .ok (.ldc2_w index, 3)) (kk : V p l e R s m args below meth c γ Q h k j (pc + 3) L (.long v :: st)) : V p l e R s m args below meth c γ Q h k j pc L st := fun H locs ls hh hS hl =>
  lv_ldc2 X.1 X.2.1 X.2.2.2.1 (X.2.2.2.2.1 _ hw) d (kk H locs ls hh hS hl)
theorem v_ldcI (X : Cx p s m args meth c γ y cc nL ret) {index : Nat} {v : Int32} (hw : Cond.constant y.cls index v ∈ tb) (d : decode cc pc = .ok (.ldc index, 2)) (kk : V p l e R s m args below meth c γ Q h k j (pc + 2) L (.int v :: st)) : V p l e R s m args below meth c γ Q h k j pc L st := fun H locs ls hh hS hl =>
  lv_ldc X.1 X.2.1 X.2.2.2.1 (X.2.2.2.2.1 _ hw) d (kk H locs ls hh hS hl)
theorem v_ldcM (X : Cx p s m args meth c γ y cc nL ret) {C : String} {index mi : Nat} (hcl : Cond.classLink y.cls index C ∈ tb) (hM : va_Mi C mi s) (d : decode cc pc = .ok (.ldc index, 2)) (kk : V p l e R s m args below meth c γ Q h k j (pc + 2) L (.ref mi :: st)) : V p l e R s m args below meth c γ Q h k j pc L st := fun H locs ls hh hS hl =>
  va_ldcM X.1 X.2.1 X.2.2.2.1 (X.2.2.2.2.1 _ hcl) hM d (kk H locs ls hh hS hl)
theorem v_sget (X : Cx p s m args meth c γ y cc nL ret) {o n dd : String} {index q : Nat} {v : Value} (hE : va_OF o n dd v q (Ag γ) s s.heap) (hl1 : Cond.fieldLink y.cls index o n dd ∈ tb) (d : decode cc pc = .ok (.getfield index, 3)) (kk : V p l e R s m args below meth c γ Q h k j (pc + 3) L (v :: st)) : V p l e R s m args below meth c γ Q h k j pc L (.ref q :: st) := fun H locs ls hh hS hl =>
  vk_getf X.1 X.2.1 hE hS X.2.2.2.1 (X.2.2.2.2.1 _ hl1) (fun _ z => z) d (kk H locs ls hh hS hl)
theorem v_getC (X : Cx p s m args meth c γ y cc nL ret) {index a mi t0 : Nat} {cA : ClassId} {z : vp_A} {E C : String} (hw : Cond.methodLink y.cls index yGC ∈ tb ∧ Cond.selects C yGC yGC ∈ tb ∧ Cond.instanceMethod yGC ∈ tb ∧ Cond.native yGC ∈ tb) (hM : va_Mi C mi s) (hr : h.1 a = some (.inl (cA, z))) (ht : (tyl γ)[t0]? = some (cA, .object E)) (hC : "[" ++ (FieldType.object E).toString = C) (hf : 1 ≤ R.frames) (hlo : (st.map fun v => v.category).sum + 14 ≤ R.locals) (hnL : L.length = nL) (d : decode cc pc = .ok (.invokevirtual index, 3)) (kk : V p l e R s m args below meth c γ Q h k j (pc + 3) L (.ref mi :: st)) : V p l e R s m args below meth c γ Q h k j pc L (.ref a :: st) := fun H locs ls hh hS hl => by
  have hra := (X.2.2.2.2.2.2.2.1.1.2 t0 _ ht).2
  have hnm := va_nmO hra hC
  have hcell : ∃ cell : Cell, H[a]? = some cell ∧ cell.vm.isStatics = false ∧ s.vm.findClass C = some cell.cls := by
    have hp := (hh.2.2 a _ hr).1
    obtain ⟨n, f | f | f | f | f⟩ := z <;> exact ⟨_, hp, rfl, hnm⟩
  exact va_getC X.1 X.2.1 (by rw [X.2.2.1, ← hnL, hl.1]) X.2.2.2.1 (X.2.2.2.2.1 _ hw.1) (va_Dc.use X.2.2.2.2.2.2.2.1.2.2.2.2.2.2.2.2.1) (X.2.2.2.2.1 _ hw.2.1) (X.2.2.2.2.1 _ hw.2.2.1) (X.2.2.2.2.1 _ hw.2.2.2) hM hcell hf hlo d (kk H locs ls hh hS hl)

/-- what a contract says of a method's end -/
def Qof (γ : Gm) (Post : Option Value → HP → Prop) : Array Value → State → Outcome → State → Prop := fun _ st o t => (∃ (v : Option Value) (h' : HP), o = .returned v ∧ Post v h' ∧ hOK γ h' t.heap) ∧ va_F (Ag γ) st t
theorem v_iret (X : Cx p s m args meth c γ y cc nL ret) {Post : Option Value → HP → Prop} {v : Int32} {mc ms : Nat} (hr : ret = some .int) (hk : k ≤ mc) (hj : j ≤ ms) (d : decode cc pc = .ok (.ireturn, 1)) (hP : Post (some (.int v)) h) : V p l e R s m args below meth c γ (MQ below (Qof γ Post) args s mc ms (Ag γ)) h k j pc L [.int v] := fun H locs ls hh hS hl =>
  W.widen hk hj (W.iret X.1 X.2.1 (X.2.2.2.2.2.1.trans hr) (fun t ht _ => ⟨⟨_, h, rfl, hP, by rw [ht]; exact hh⟩, hS.F ht⟩) hS.2.2 d X.2.2.2.2.2.2.1)
theorem v_zret (X : Cx p s m args meth c γ y cc nL ret) {Post : Option Value → HP → Prop} {v : Int32} {mc ms : Nat} {ty : FieldType} (hr : ret = some ty) (hn : narrow ty (.int v) = .int v) (hk : k ≤ mc) (hj : j ≤ ms) (d : decode cc pc = .ok (.ireturn, 1)) (hP : Post (some (.int v)) h) : V p l e R s m args below meth c γ (MQ below (Qof γ Post) args s mc ms (Ag γ)) h k j pc L [.int v] := fun H locs ls hh hS hl =>
  W.widen hk hj (W.zret X.1 X.2.1 (X.2.2.2.2.2.1.trans hr) hn (fun t ht _ => ⟨⟨_, h, rfl, hP, by rw [ht]; exact hh⟩, hS.F ht⟩) hS.2.2 d X.2.2.2.2.2.2.1)
theorem v_vret (X : Cx p s m args meth c γ y cc nL ret) {Post : Option Value → HP → Prop} {mc ms : Nat} (hr : ret = none) (hk : k ≤ mc) (hj : j ≤ ms) (d : decode cc pc = .ok (.return_, 1)) (hP : Post none h) : V p l e R s m args below meth c γ (MQ below (Qof γ Post) args s mc ms (Ag γ)) h k j pc L [] := fun H locs ls hh hS hl =>
  W.widen hk hj (W.vret X.1 X.2.1 (X.2.2.2.2.2.1.trans hr) (fun t ht _ => ⟨⟨_, h, rfl, hP, by rw [ht]; exact hh⟩, hS.F ht⟩) hS.2.2 d X.2.2.2.2.2.2.1)
theorem v_lret (X : Cx p s m args meth c γ y cc nL ret) {Post : Option Value → HP → Prop} {v : Int64} {mc ms : Nat} (hr : ret = some .long) (hk : k ≤ mc) (hj : j ≤ ms) (d : decode cc pc = .ok (.lreturn, 1)) (hP : Post (some (.long v)) h) : V p l e R s m args below meth c γ (MQ below (Qof γ Post) args s mc ms (Ag γ)) h k j pc L [.long v] := fun H locs ls hh hS hl =>
  W.widen hk hj (W.lret X.1 X.2.1 (X.2.2.2.2.2.1.trans hr) (fun t ht _ => ⟨⟨_, h, rfl, hP, by rw [ht]; exact hh⟩, hS.F ht⟩) hS.2.2 d X.2.2.2.2.2.2.1)
theorem v_aret (X : Cx p s m args meth c γ y cc nL ret) {Post : Option Value → HP → Prop} {v : Nat} {mc ms : Nat} {rt : FieldType} (hr : ret = some rt) (hrt : (∃ n, rt = .object n) ∨ ∃ t, rt = .array t) (hk : k ≤ mc) (hj : j ≤ ms) (d : decode cc pc = .ok (.areturn, 1)) (hP : Post (some (.ref v)) h) : V p l e R s m args below meth c γ (MQ below (Qof γ Post) args s mc ms (Ag γ)) h k j pc L [.ref v] := fun H locs ls hh hS hl =>
  W.widen hk hj (W.aret X.1 X.2.1 (X.2.2.2.2.2.1.trans hr) hrt (Or.inr ⟨v, rfl⟩) (fun t ht _ => ⟨⟨_, h, rfl, hP, by rw [ht]; exact hh⟩, hS.F ht⟩) hS.2.2 d X.2.2.2.2.2.2.1)
/-- THE CONTRACT: from any state over a heap of the picture h, the method y at the arguments av returns v over the picture h', with Post v h' -/
def Cr (l : Launch) (γ : Gm) (y : MethodName) (cc : ByteArray) (maxL : Nat) (ret : Option FieldType) (fr lc mc ms : Nat) (av : List Value) (h : HP) (Post : Option Value → HP → Prop) : Prop :=
  Met l y (.code y cc maxL ret :: tb) { frames := fr, cells := mc, slots := ms, locals := lc } (va_Pc av (fun U => EnvG γ U ∧ hOK γ h U.heap)) (Qof γ Post) mc ms (Ag γ)
def lo0 (n : Nat) (av : List Value) : List (Option Value) := (List.range n).map (fun i => ((lv_args 0 av).find? (fun q => q.1 == i)).map (fun q => q.2))
theorem lo_entry {av : List Value} {n : Nat} (hn : (lg_sl av).length ≤ n) : lo ((lg_sl av ++ List.replicate (n - (lg_sl av).length) Slot.unset).toArray) (lo0 n av) := by
  have he := lv_entry av hn
  refine ⟨by rw [he.1]; simp [lo0], he.2.1, fun i v hv => ?_⟩
  unfold lo0 at hv
  rw [List.getElem?_map] at hv
  cases hr : (List.range n)[i]? with
  | none => rw [hr] at hv; cases hv
  | some a =>
    rw [hr] at hv
    have ha : a = i := by
      have := List.getElem?_eq_some_iff.mp hr
      obtain ⟨h1, h2⟩ := this
      rw [List.getElem_range] at h2
      exact h2.symm
    subst ha
    simp only [Option.map_some] at hv
    cases hf : (lv_args 0 av).find? (fun q => q.1 == a) with
    | none => rw [hf] at hv; cases hv
    | some q =>
      rw [hf] at hv
      cases hv
      have h1 := List.mem_of_find?_eq_some hf
      have h2 := List.find?_some hf
      rw [beq_iff_eq] at h2
      rw [← h2]
      exact he.2.2 q h1
end VR
theorem Cr_of {l : Launch} {γ : Gm} {y : MethodName} {cc : ByteArray} {maxL : Nat} {ret : Option FieldType} {fr lc mc ms : Nat} {av : List Value} {h : HP} {Post : Option Value → HP → Prop} (L0 : List (Option Value)) (hy : plainFor y = true) (hn : (lg_sl av).length ≤ maxL) (hL : lo0 maxL av = L0)
    (body : ∀ (p : Program) (e : Env) (s : State) (m : MethodId) (args : Array Value) (below : List Frame) (meth : Method) (c : Code), Cx p s m args meth c γ y cc maxL ret → V p l e { frames := fr, cells := mc, slots := ms, locals := lc } s m args below meth c γ (MQ below (Qof γ Post) args s mc ms (Ag γ)) h 0 0 0 L0 []) : Cr l γ y cc maxL ret fr lc mc ms av h Post := by
  refine va_MetF (cc := cc) (maxL := maxL) (ret := ret) hy rfl ?_
  intro p e s m args below meth c s₁ B hml hv
  obtain ⟨rfl, hE, hh⟩ := hv
  have hts := atoms_spec (ws := .code y cc maxL ret :: tb) B.pre
  have X : Cx p s m av.toArray meth c γ y cc maxL ret := ⟨B.exec, B.bytes, hml, findClass_of_methodNamed B.named, fun w hw => hts w (List.mem_cons_of_mem _ hw), B.returns, B.notSynchronized, hE, fun q => by rw [← q]; exact (name_of_methodNamed B.named B.method).1⟩
  rw [lg_entry_eq]
  exact body p e s m av.toArray below meth c X s.heap [] _ hh va_S.rf (hL ▸ lo_entry hn)
section VCALL
variable {p : Program} {l : Launch} {e : Env} {R : Room} {s : State} {m : MethodId} {args : Array Value} {below : List Frame} {meth : Method} {c : Code} {γ : Gm} {Q : State → Prop} {y : MethodName} {cc : ByteArray} {nL : Nat} {ret : Option FieldType} {h : HP} {k j pc : Nat} {L : List (Option Value)} {st : List Value}
variable {y2 : MethodName} {cc2 : ByteArray} {maxL2 fr lc mc ms n : Nat} {ret2 : Option FieldType} {Post : Option Value → HP → Prop} {index : Nat}
theorem pre_blind {av : List Value} : FrameBlind (va_Pc av (fun U => EnvG γ U ∧ hOK γ h U.heap)) := fun a U g mk q => ⟨q.1, EnvG.blind a U g mk q.2.1, q.2.2⟩
theorem v_back {H : Heap} {locs : List Loc} {ls : Array Slot} {st0 : List Value} {a : Array Value} (hE : EnvG γ s) (hS : va_S (Ag γ) s.heap H locs) (hl : lo ls L) (hr : va_Run p l e R s m args below meth c H locs k j mc ms (F0 m pc ls st0) st (Qof γ Post a) (Ag γ)) (kk : ∀ (v : Option Value) (h' : HP), Post v h' → V p l e R s m args below meth c γ Q h' (k + mc) (j + ms) (pc + 3) L (v.toList ++ st)) : W p l e R s m args below meth c H locs k j Q (F0 m pc ls st0) := by
  intro T hT XX
  obtain ⟨v, st₀, t, T', L1, h0, X', hL, e1, e2, ⟨⟨v', h', hv, hp, hb⟩, hz, hk⟩, stp⟩ := hr T hT XX
  cases hv
  rw [h0] at hz hk
  obtain ⟨t2, a1, b1⟩ := kk v h' hp T'.heap (locs ++ L1) ls (by rw [e1]; exact hb) ⟨Nat.le_trans hS.1 (by rw [e1]; exact hz), fun q h1 h2 => by rw [e1, hk q (Nat.lt_of_lt_of_le h1 hS.1) h2]; exact hS.2.1 q h1 h2, fun q hq => by
      rcases List.mem_append.mp hq with h3 | h3
      · exact hS.2.2 q h3
      · exact hL q h3⟩ hl T' rfl X'
  exact ⟨t2, stp t2 a1, b1⟩
abbrev Rm (R : Room) (k j fr lc mc ms maxL2 : Nat) : Prop := fr + 1 ≤ R.frames ∧ 8 + (maxL2 + 11) + lc ≤ R.locals ∧ k + mc ≤ R.cells ∧ j + ms ≤ R.slots
theorem v_callV (X : Cx p s m args meth c γ y cc nL ret) {b : Nat} {As : List Value} {ci : Nat} {r : vw_C} {fs : List Value} (M : MV y.cls index y2 cc2 maxL2 ret2 n) (hC : Cr l γ y2 cc2 maxL2 ret2 fr lc mc ms (.ref b :: As) h Post) (hci : vwCl[ci]? = some r) (hcls : r.1 = y2.cls) (hb : h.1 b = some (.inr (ci, fs))) (hn : As.length = n) (hm : Rm R k j fr lc mc ms maxL2) (hw : (st.map fun v => v.category).sum ≤ 8) (hnL : L.length = nL) (d : decode cc pc = .ok (.invokevirtual index, 3)) {st0 : List Value} (hst : st0 = As.reverse ++ .ref b :: st)
    (kk : ∀ (v : Option Value) (h' : HP), Post v h' → V p l e R s m args below meth c γ Q h' (k + mc) (j + ms) (pc + 3) L (v.toList ++ st)) : V p l e R s m args below meth c γ Q h k j pc L st0 := by
  intro H locs ls hh hS hl
  subst hst
  have hts := X.2.2.2.2.1
  have hcb : CallB R s args y.cls index y2 cc2 maxL2 ret2 (.code y2 cc2 maxL2 ret2 :: tb) { frames := fr, cells := mc, slots := ms, locals := lc } mc ms n := callB_of n hts (tb_cons M.1.2.2.2.2) rfl rfl rfl (hts _ M.1.2.2.2.1) (hts _ M.1.1) M.2 ⟨hm.1, hm.2.1⟩
  refine v_back X.2.2.2.2.2.2.2.1 hS hl (va_runV (C := y2.cls) (As := As) (rest := st) ⟨X.1, X.2.1, X.2.2.1, X.2.2.2.1, hts⟩ hC ⟨hcb, hts _ M.1.2.1, hts _ M.1.2.2.1⟩ ⟨pre_blind, ?_, fun U hU hW => ⟨rfl, X.2.2.2.2.2.2.2.1.at hS hU hW, by rw [hU]; exact hh⟩⟩ rfl hn (by show ls.size = _; rw [← hnL, hl.1]) rfl (lv_room hw) d ⟨hm.2.2.1, hm.2.2.2⟩) kk
  rw [← hcls]
  exact va_recv X.2.2.2.2.2.2.2.1.1 (at_of hh hb) (q0 := 0) hci rfl
/-- a text constant's method -/
theorem v_callT (X : Cx p s m args meth c γ y cc nL ret) {b : Nat} {As : List Value} (M : MV y.cls index y2 cc2 maxL2 ret2 n) (hC : Cr l γ y2 cc2 maxL2 ret2 fr lc mc ms (.ref b :: As) h Post) (hb : va_O y2.cls b (Ag γ) s s.heap) (hn : As.length = n) (hm : Rm R k j fr lc mc ms maxL2) (hw : (st.map fun v => v.category).sum ≤ 8) (hnL : L.length = nL) (d : decode cc pc = .ok (.invokevirtual index, 3)) {st0 : List Value} (hst : st0 = As.reverse ++ .ref b :: st)
    (kk : ∀ (v : Option Value) (h' : HP), Post v h' → V p l e R s m args below meth c γ Q h' (k + mc) (j + ms) (pc + 3) L (v.toList ++ st)) : V p l e R s m args below meth c γ Q h k j pc L st0 := by
  intro H locs ls hh hS hl
  subst hst
  have hts := X.2.2.2.2.1
  have hcb : CallB R s args y.cls index y2 cc2 maxL2 ret2 (.code y2 cc2 maxL2 ret2 :: tb) { frames := fr, cells := mc, slots := ms, locals := lc } mc ms n := callB_of n hts (tb_cons M.1.2.2.2.2) rfl rfl rfl (hts _ M.1.2.2.2.1) (hts _ M.1.1) M.2 ⟨hm.1, hm.2.1⟩
  refine v_back X.2.2.2.2.2.2.2.1 hS hl (va_runV (C := y2.cls) (As := As) (rest := st) ⟨X.1, X.2.1, X.2.2.1, X.2.2.2.1, hts⟩ hC ⟨hcb, hts _ M.1.2.1, hts _ M.1.2.2.1⟩ ⟨pre_blind, ?_, fun U hU hW => ⟨rfl, X.2.2.2.2.2.2.2.1.at hS hU hW, by rw [hU]; exact hh⟩⟩ rfl hn (by show ls.size = _; rw [← hnL, hl.1]) rfl (lv_room hw) d ⟨hm.2.2.1, hm.2.2.2⟩) kk
  obtain ⟨cell, h1, h2, h3, -⟩ := hb.kept hS.2.1
  exact ⟨cell, h1, h2, h3⟩
theorem v_callS (X : Cx p s m args meth c γ y cc nL ret) {As : List Value} (M : MS y.cls index y2 cc2 maxL2 ret2 n) (hC : Cr l γ y2 cc2 maxL2 ret2 fr lc mc ms As h Post) (hn : As.length = n) (hm : Rm R k j fr lc mc ms maxL2) (hw : (st.map fun v => v.category).sum ≤ 8) (hnL : L.length = nL) (d : decode cc pc = .ok (.invokestatic index, 3)) {st0 : List Value} (hst : st0 = As.reverse ++ st)
    (kk : ∀ (v : Option Value) (h' : HP), Post v h' → V p l e R s m args below meth c γ Q h' (k + mc) (j + ms) (pc + 3) L (v.toList ++ st)) : V p l e R s m args below meth c γ Q h k j pc L st0 := by
  intro H locs ls hh hS hl
  subst hst
  have hts := X.2.2.2.2.1
  have hcb : CallB R s args y.cls index y2 cc2 maxL2 ret2 (.code y2 cc2 maxL2 ret2 :: tb) { frames := fr, cells := mc, slots := ms, locals := lc } mc ms n := callB_of n hts (tb_cons M.1.2.2.2) rfl rfl rfl (hts _ M.1.2.2.1) (hts _ M.1.1) M.2 ⟨hm.1, hm.2.1⟩
  exact v_back X.2.2.2.2.2.2.2.1 hS hl (va_runS (As := As) (rest := st) ⟨X.1, X.2.1, X.2.2.1, X.2.2.2.1, hts⟩ hC ⟨hcb, hts _ M.1.2.1⟩ ⟨pre_blind, fun U hU hW => ⟨rfl, X.2.2.2.2.2.2.2.1.at hS hU hW, by rw [hU]; exact hh⟩⟩ rfl hn (by show ls.size = _; rw [← hnL, hl.1]) rfl (lv_room hw) d ⟨hm.2.2.1, hm.2.2.2⟩) kk
theorem v_callI (X : Cx p s m args meth c γ y cc nL ret) {b : Nat} {As : List Value} (M : MI y.cls index y2 cc2 maxL2 n) (hC : Cr l γ y2 cc2 maxL2 none fr lc mc ms (.ref b :: As) h Post) (hn : As.length = n) (hm : Rm R k j fr lc mc ms maxL2) (hw : (st.map fun v => v.category).sum ≤ 8) (hnL : L.length = nL) (d : decode cc pc = .ok (.invokespecial index, 3)) {st0 : List Value} (hst : st0 = As.reverse ++ .ref b :: st)
    (kk : ∀ (v : Option Value) (h' : HP), Post v h' → V p l e R s m args below meth c γ Q h' (k + mc) (j + ms) (pc + 3) L (v.toList ++ st)) : V p l e R s m args below meth c γ Q h k j pc L st0 := by
  intro H locs ls hh hS hl
  subst hst
  have hts := X.2.2.2.2.1
  have hcb : CallB R s args y.cls index y2 cc2 maxL2 none (.code y2 cc2 maxL2 none :: tb) { frames := fr, cells := mc, slots := ms, locals := lc } mc ms n := callB_of n hts (tb_cons M.1.2.2.2.2) rfl rfl rfl (hts _ M.1.2.2.2.1) (hts _ M.1.1) M.2 ⟨hm.1, hm.2.1⟩
  exact v_back X.2.2.2.2.2.2.2.1 hS hl (va_runI (b := b) (As := As) (rest := st) ⟨X.1, X.2.1, X.2.2.1, X.2.2.2.1, hts⟩ hC ⟨hcb, M.1.2.2.1, hts _ M.1.2.1⟩ ⟨pre_blind, fun U hU hW => ⟨rfl, X.2.2.2.2.2.2.2.1.at hS hU hW, by rw [hU]; exact hh⟩⟩ rfl hn (by show ls.size = _; rw [← hnL, hl.1]) rfl (lv_room hw) d ⟨hm.2.2.1, hm.2.2.2⟩) kk
theorem v_callSN (X : Cx p s m args meth c γ y cc nL ret) {As : List Value} (M : MSN y.cls index y2 cc2 maxL2 ret2 n) (hC : Cr l γ y2 cc2 maxL2 ret2 fr lc mc ms As h Post) (hn : As.length = n) (hm : Rm R k j fr lc mc ms maxL2) (hw : (st.map fun v => v.category).sum ≤ 8) (hnL : L.length = nL) (d : decode cc pc = .ok (.invokestatic index, 3)) {st0 : List Value} (hst : st0 = As.reverse ++ st)
    (kk : ∀ (v : Option Value) (h' : HP), Post v h' → V p l e R s m args below meth c γ Q h' (k + mc) (j + ms) (pc + 3) L (v.toList ++ st)) : V p l e R s m args below meth c γ Q h k j pc L st0 := by
  intro H locs ls hh hS hl
  subst hst
  have hts := X.2.2.2.2.1
  have hcn : va_CN R s args y.cls index y2 "BallastTrain" cc2 maxL2 ret2 (.code y2 cc2 maxL2 ret2 :: tb) { frames := fr, cells := mc, slots := ms, locals := lc } mc ms n := va_cnB n hts (tb_cons M.1.2.2.2) rfl rfl rfl (X.2.2.2.2.2.2.2.1.2.2.2.2.1 _ M.1.1) (hts _ M.1.2.2.1) M.2 ⟨hm.1, hm.2.1⟩
  exact v_back X.2.2.2.2.2.2.2.1 hS hl (va_runSN (As := As) (rest := st) ⟨X.1, X.2.1, X.2.2.1, X.2.2.2.1, hts⟩ hC ⟨hcn, hts _ M.1.2.1, trivial⟩ ⟨pre_blind, fun U hU hW => ⟨rfl, X.2.2.2.2.2.2.2.1.at hS hU hW, by rw [hU]; exact hh⟩⟩ rfl hn (by show ls.size = _; rw [← hnL, hl.1]) rfl (lv_room hw) d ⟨hm.2.2.1, hm.2.2.2⟩) kk
theorem v_callIN (X : Cx p s m args meth c γ y cc nL ret) {b : Nat} {As : List Value} (M : MIN y.cls index y2 cc2 maxL2 n) (hC : Cr l γ y2 cc2 maxL2 none fr lc mc ms (.ref b :: As) h Post) (hn : As.length = n) (hm : Rm R k j fr lc mc ms maxL2) (hw : (st.map fun v => v.category).sum ≤ 8) (hnL : L.length = nL) (d : decode cc pc = .ok (.invokespecial index, 3)) {st0 : List Value} (hst : st0 = As.reverse ++ .ref b :: st)
    (kk : ∀ (v : Option Value) (h' : HP), Post v h' → V p l e R s m args below meth c γ Q h' (k + mc) (j + ms) (pc + 3) L (v.toList ++ st)) : V p l e R s m args below meth c γ Q h k j pc L st0 := by
  intro H locs ls hh hS hl
  subst hst
  have hts := X.2.2.2.2.1
  have hcn : va_CN R s args y.cls index y2 "BallastTrain" cc2 maxL2 none (.code y2 cc2 maxL2 none :: tb) { frames := fr, cells := mc, slots := ms, locals := lc } mc ms n := va_cnB n hts (tb_cons M.1.2.2.2.2) rfl rfl rfl (X.2.2.2.2.2.2.2.1.2.2.2.2.1 _ M.1.1) (hts _ M.1.2.2.2.1) M.2 ⟨hm.1, hm.2.1⟩
  exact v_back X.2.2.2.2.2.2.2.1 hS hl (va_runIN (b := b) (As := As) (rest := st) ⟨X.1, X.2.1, X.2.2.1, X.2.2.2.1, hts⟩ hC ⟨hcn, M.1.2.2.1, hts _ M.1.2.1⟩ ⟨pre_blind, fun U hU hW => ⟨rfl, X.2.2.2.2.2.2.2.1.at hS hU hW, by rw [hU]; exact hh⟩⟩ rfl hn (by show ls.size = _; rw [← hnL, hl.1]) rfl (lv_room hw) d ⟨hm.2.2.1, hm.2.2.2⟩) kk
end VCALL
end
section
section VCPY
variable {p : Program} {l : Launch} {e : Env} {R : Room} {s : State} {m : MethodId} {args : Array Value} {below : List Frame} {meth : Method} {c : Code} {γ : Gm} {Q : State → Prop} {y : MethodName} {cc : ByteArray} {nL : Nat} {ret : Option FieldType} {h : HP} {k j pc : Nat} {L : List (Option Value)} {st : List Value}
abbrev CpyW (own : String) (index : Nat) : Prop := Cond.methodLink own index arraycopyName ∈ tb ∧ Cond.native arraycopyName ∈ tb ∧ Cond.static arraycopyName ∈ tb ∧ Cond.initialized "java/lang/System" ∈ tb
theorem nI_int {i : Nat} (h : i < 2 ^ 31) : (nI i).toInt = (((nI i).toNatClampNeg : Nat) : Int) := by rw [nI_toInt h, nI_clamp h]
/-- System.arraycopy between rows of numbers -/
theorem v_copyi (X : Cx p s m args meth c γ y cc nL ret) {index a0 a n0 n1 : Nat} {f g : Nat → Int32} {xs xd xn : Int32} (hw : CpyW y.cls index) (hr0 : h.1 a0 = some (.inl (γ.2.2.1 0, n0, .inl f))) (hr1 : h.1 a = some (.inl (γ.2.2.1 0, n1, .inl g))) (sp dp n : Nat) (hs : xs = nI sp) (hd : xd = nI dp) (hn : xn = nI n) (h4 : sp + n ≤ n0) (h5 : dp + n ≤ n1) (hb0 : n0 < 2 ^ 31) (hb1 : n1 < 2 ^ 31) (hf : 1 ≤ R.frames) (hlo : (st.map fun v => v.category).sum + (nativeFrameWords "java/lang/System" "arraycopy" 5 + 11) ≤ R.locals) (hnL : L.length = nL) (d : decode cc pc = .ok (.invokestatic index, 3))
    (kk : V p l e R s m args below meth c γ Q (hset h a (.inl (γ.2.2.1 0, n1, .inl (va_cpy f g sp dp n)))) k j (pc + 3) L st) : V p l e R s m args below meth c γ Q h k j pc L (.int xn :: .int xd :: .ref a :: .int xs :: .ref a0 :: st) := by
  intro H locs ls hh hS hl
  subst hs; subst hd; subst hn
  have hK := X.2.2.2.2.2.2.2.1.1
  have hts := X.2.2.2.2.1
  have b1 : sp < 2 ^ 31 := by omega
  have b2 : dp < 2 ^ 31 := by omega
  have b3 : n < 2 ^ 31 := by omega
  have hc0 : H[a0]? = some (vp_cell (γ.2.2.1 0) (n0, .inl f)) := (hh.2.2 a0 _ hr0).1
  have hc1 : H[a]? = some (vp_cell (γ.2.2.1 0) (n1, .inl g)) := (hh.2.2 a _ hr1).1
  obtain ⟨-, k0, hk0, cm0, hkk0⟩ := (hK.2 0 _ rfl).1 n0 (fun j => .int (f j))
  obtain ⟨-, k1, hk1, cm1, hkk1⟩ := (hK.2 0 _ rfl).1 n1 (fun j => .int (g j))
  intro T hT XX
  obtain ⟨vm', X', step⟩ := XX.arraycopy X.1 X.2.2.2.1 (hts _ hw.1) (hts _ hw.2.1) (hts _ hw.2.2.1) (hts _ hw.2.2.2) (src := a0) (dst := a) (cs := vp_cell (γ.2.2.1 0) (n0, .inl f)) (cd := vp_cell (γ.2.2.1 0) (n1, .inl g)) (srcPos := nI sp) (destPos := nI dp) (n := nI n) (by rw [hT]; exact hc0) (by rw [hT]; exact hc1)
    (fun _ h => by cases h) (fun _ h => by cases h) (fun h => by cases h) (fun h => by cases h) hk0 hk1 hkk0 hkk1 (by simp [refKind]) (nI_pos b1) (nI_pos b2) (nI_pos b3)
    (by rw [nI_toInt b1, nI_toInt b3]; show ¬ _ > ((arrV (γ.2.2.1 0) n0 (fun j => .int (f j))).slots.size : Int); rw [arrV_size]; omega)
    (by rw [nI_toInt b2, nI_toInt b3]; show ¬ _ > ((arrV (γ.2.2.1 0) n1 (fun j => .int (g j))).slots.size : Int); rw [arrV_size]; omega)
    (fun vm₁ _ i hi => by
      rw [nI_clamp b3] at hi
      have e : (vp_cell (γ.2.2.1 0) (n0, .inl f)).slots.getD ((nI sp).toNatClampNeg + i) .null = .int (f (sp + i)) := by
        show (arrV (γ.2.2.1 0) n0 (fun j => .int (f j))).slots.getD _ _ = _
        rw [Array.getD_eq_getD_getElem?, nI_clamp b1, arrV_read _ _ (by omega)]
        rfl
      rw [e]
      exact ⟨rfl, trivial⟩)
    (g := F0 m pc ls (.int (nI n) :: .int (nI dp) :: .ref a :: .int (nI sp) :: .ref a0 :: st)) rfl (by show ls.size = _; rw [X.2.2.1, ← hnL, hl.1]) (rest := st) rfl (by rw [X.2.1]; exact d) hf (by show 2 * 0 + _ + _ ≤ _; omega)
  have e1 : copied (vp_cell (γ.2.2.1 0) (n0, .inl f)) (vp_cell (γ.2.2.1 0) (n1, .inl g)) (nI sp) (nI dp) (nI n) = vp_cell (γ.2.2.1 0) (n1, .inl (va_cpy f g sp dp n)) := by
    have h4' : (nI sp).toNatClampNeg + (nI n).toNatClampNeg ≤ n0 := by rw [nI_clamp b1, nI_clamp b3]; exact h4
    have := va_copied (n1 := n1) (dp := (nI dp).toNatClampNeg) (fun z => Value.int z) (γ.2.2.1 0) (γ.2.2.1 0) f g h4'
    rw [nI_clamp b1, nI_clamp b2, nI_clamp b3] at this
    rw [vp_cell_i, vp_cell_i, vp_cell_i]
    unfold copied
    rw [nI_clamp b1, nI_clamp b2, nI_clamp b3]
    exact this
  rw [e1] at X' step
  have hla : a < H.size := (Array.getElem?_eq_some_iff.mp hc1).1
  have hheap : ((T.setVm vm').setCell a (vp_cell (γ.2.2.1 0) (n1, .inl (va_cpy f g sp dp n)))).heap = H.setIfInBounds a (vp_cell (γ.2.2.1 0) (n1, .inl (va_cpy f g sp dp n))) := by rw [← hT]; rfl
  have oq : ∀ q : Nat, q ≠ a → (H.setIfInBounds a (vp_cell (γ.2.2.1 0) (n1, .inl (va_cpy f g sp dp n))))[q]? = H[q]? := fun q hq => by simp [Array.getElem?_setIfInBounds, Ne.symm hq]
  have hag := (hh.2.2 a _ hr1).2
  obtain ⟨t, a1, b1⟩ := kk _ _ ls (hOK_set hh hr1 (by simp) oq (show (H.setIfInBounds a _)[a]? = some _ by simp [Array.getElem?_setIfInBounds, hla])) ⟨by simp; exact hS.1, fun q g1 g2 => by
      rw [oq q (fun e => g2 (by rw [e]; exact hag))]
      exact hS.2.1 q g1 g2, fun q hq => by
      rcases List.mem_append.mp hq with h | h
      · exact hS.2.2 q h
      · obtain ⟨z, -, hz⟩ := List.mem_map.mp h
        rw [← hz]
        exact hag⟩ hl _ hheap X'
  exact ⟨t, step t a1, b1⟩
/-- what may lie in a row of objects: null, or an object that the picture holds -/
def rowOK (s : State) (h : HP) (E : String) (f : Nat → Option Nat) (i : Nat) : Prop := ∀ z, f i = some z → ∃ (ci : Nat) (r : vw_C) (fs : List Value), h.1 z = some (.inr (ci, fs)) ∧ vwCl[ci]? = some r ∧ va_Nw (.castable r.1 E) s
theorem v_copyq (X : Cx p s m args meth c γ y cc nL ret) {index a0 a n0 n1 t0 : Nat} {cA : ClassId} {E : String} {f g : Nat → Option Nat} {xs xd xn : Int32} (hw : CpyW y.cls index) (hr0 : h.1 a0 = some (.inl (cA, n0, .inr (.inr (.inr (.inr f)))))) (hr1 : h.1 a = some (.inl (cA, n1, .inr (.inr (.inr (.inr g)))))) (ht : (tyl γ)[t0]? = some (cA, .object E)) (sp dp n : Nat) (hs : xs = nI sp) (hd : xd = nI dp) (hn : xn = nI n) (h4 : sp + n ≤ n0) (h5 : dp + n ≤ n1) (hb0 : n0 < 2 ^ 31) (hb1 : n1 < 2 ^ 31) (hel : ∀ i : Nat, i < n → rowOK s h E f (sp + i)) (hf : 1 ≤ R.frames) (hlo : (st.map fun v => v.category).sum + (nativeFrameWords "java/lang/System" "arraycopy" 5 + 11) ≤ R.locals) (hnL : L.length = nL) (d : decode cc pc = .ok (.invokestatic index, 3))
    (kk : V p l e R s m args below meth c γ Q (hset h a (.inl (cA, n1, .inr (.inr (.inr (.inr (va_cpy f g sp dp n))))))) k j (pc + 3) L st) : V p l e R s m args below meth c γ Q h k j pc L (.int xn :: .int xd :: .ref a :: .int xs :: .ref a0 :: st) := by
  intro H locs ls hh hS hl
  subst hs; subst hd; subst hn
  have hK := X.2.2.2.2.2.2.2.1.1
  have hts := X.2.2.2.2.1
  have b1 : sp < 2 ^ 31 := by omega
  have b2 : dp < 2 ^ 31 := by omega
  have b3 : n < 2 ^ 31 := by omega
  have hc0 : H[a0]? = some (vp_cell cA (n0, .inr (.inr (.inr (.inr f))))) := (hh.2.2 a0 _ hr0).1
  have hc1 : H[a]? = some (vp_cell cA (n1, .inr (.inr (.inr (.inr g))))) := (hh.2.2 a _ hr1).1
  obtain ⟨-, k0, hk0, cm0, hkk0⟩ := (hK.2 t0 _ ht).1 n0 (fun j => va_rf (f j))
  obtain ⟨-, k1, hk1, cm1, hkk1⟩ := (hK.2 t0 _ ht).1 n1 (fun j => va_rf (g j))
  intro T hT XX
  obtain ⟨vm', X', step⟩ := XX.arraycopy X.1 X.2.2.2.1 (hts _ hw.1) (hts _ hw.2.1) (hts _ hw.2.2.1) (hts _ hw.2.2.2) (src := a0) (dst := a) (cs := vp_cell cA (n0, .inr (.inr (.inr (.inr f))))) (cd := vp_cell cA (n1, .inr (.inr (.inr (.inr g))))) (srcPos := nI sp) (destPos := nI dp) (n := nI n) (by rw [hT]; exact hc0) (by rw [hT]; exact hc1)
    (fun _ h => by cases h) (fun _ h => by cases h) (fun h => by cases h) (fun h => by cases h) hk0 hk1 hkk0 hkk1 rfl (nI_pos b1) (nI_pos b2) (nI_pos b3)
    (by rw [nI_toInt b1, nI_toInt b3]; show ¬ _ > ((arrV cA n0 (fun j => va_rf (f j))).slots.size : Int); rw [arrV_size]; omega)
    (by rw [nI_toInt b2, nI_toInt b3]; show ¬ _ > ((arrV cA n1 (fun j => va_rf (g j))).slots.size : Int); rw [arrV_size]; omega)
    (fun vm₁ hal i hi => by
      rw [nI_clamp b3] at hi
      have e : (vp_cell cA (n0, .inr (.inr (.inr (.inr f))))).slots.getD ((nI sp).toNatClampNeg + i) .null = va_rf (f (sp + i)) := by
        show (arrV cA n0 (fun j => va_rf (f j))).slots.getD _ _ = _
        rw [Array.getD_eq_getD_getElem?, nI_clamp b1, arrV_read _ _ (by omega)]
        rfl
      rw [e]
      cases hy : f (sp + i) with
      | none => exact ⟨rfl, trivial⟩
      | some z =>
        obtain ⟨ci, r, fs, hz, hci, hcast⟩ := hel i hi z hy
        obtain ⟨cellV, g1, g2, g3⟩ := va_recv hK (at_of hh hz) (ci := ci) (q0 := 0) hci rfl
        obtain ⟨kC, hkC, -⟩ := Vm.findClass_spec g3
        obtain ⟨c9, t9, f1, f2, f3⟩ := Cond.castable_spec (va_Nw.use (A := args) rfl hcast)
        cases g3.symm.trans f1
        obtain ⟨kA, comp, r1, r2, r3, -⟩ := (hK.2 t0 _ ht).2
        cases hk1.symm.trans r1
        cases hkk1.symm.trans r2
        cases r3.symm.trans f2
        obtain ⟨kE, hkE, -⟩ := Vm.findClass_spec r3
        obtain ⟨kC', hkC', -⟩ := hal.2.2 _ _ hkC
        obtain ⟨kE', hkE', -⟩ := hal.2.2 _ _ hkE
        refine ⟨rfl, cellV, (show T.heap[z]? = some cellV by rw [hT]; exact g1), (fun q h => by rw [h] at g2; cases g2), ⟨kC', hkC'⟩, ?_, ?_⟩
        · exact ⟨kE', hkE'⟩
        · show vm₁.assignable _ _ = true
          rw [hal.assignable]
          exact f3)
    (g := F0 m pc ls (.int (nI n) :: .int (nI dp) :: .ref a :: .int (nI sp) :: .ref a0 :: st)) rfl (by show ls.size = _; rw [X.2.2.1, ← hnL, hl.1]) (rest := st) rfl (by rw [X.2.1]; exact d) hf (by show 2 * 0 + _ + _ ≤ _; omega)
  have e1 : copied (vp_cell cA (n0, .inr (.inr (.inr (.inr f))))) (vp_cell cA (n1, .inr (.inr (.inr (.inr g))))) (nI sp) (nI dp) (nI n) = vp_cell cA (n1, .inr (.inr (.inr (.inr (va_cpy f g sp dp n))))) := by
    have h4' : (nI sp).toNatClampNeg + (nI n).toNatClampNeg ≤ n0 := by rw [nI_clamp b1, nI_clamp b3]; exact h4
    have := va_copied (n1 := n1) (dp := (nI dp).toNatClampNeg) (fun z => va_rf z) cA cA f g h4'
    rw [nI_clamp b1, nI_clamp b2, nI_clamp b3] at this
    rw [vp_cell_q, vp_cell_q, vp_cell_q]
    unfold copied
    rw [nI_clamp b1, nI_clamp b2, nI_clamp b3]
    exact this
  rw [e1] at X' step
  have hla : a < H.size := (Array.getElem?_eq_some_iff.mp hc1).1
  have hheap : ((T.setVm vm').setCell a (vp_cell cA (n1, .inr (.inr (.inr (.inr (va_cpy f g sp dp n))))))).heap = H.setIfInBounds a (vp_cell cA (n1, .inr (.inr (.inr (.inr (va_cpy f g sp dp n)))))) := by rw [← hT]; rfl
  have oq : ∀ q : Nat, q ≠ a → (H.setIfInBounds a (vp_cell cA (n1, .inr (.inr (.inr (.inr (va_cpy f g sp dp n)))))))[q]? = H[q]? := fun q hq => by simp [Array.getElem?_setIfInBounds, Ne.symm hq]
  have hag := (hh.2.2 a _ hr1).2
  obtain ⟨t, a1, b1⟩ := kk _ _ ls (hOK_set hh hr1 (by simp) oq (show (H.setIfInBounds a _)[a]? = some _ by simp [Array.getElem?_setIfInBounds, hla])) ⟨by simp; exact hS.1, fun q g1 g2 => by
      rw [oq q (fun e => g2 (by rw [e]; exact hag))]
      exact hS.2.1 q g1 g2, fun q hq => by
      rcases List.mem_append.mp hq with h | h
      · exact hS.2.2 q h
      · obtain ⟨z, -, hz⟩ := List.mem_map.mp h
        rw [← hz]
        exact hag⟩ hl _ hheap X'
  exact ⟨t, step t a1, b1⟩
end VCPY
end
section
theorem tw_0 : (Jvm.Cond.selects "BallastTrain$Text" ({ cls := "BallastTrain$Text", name := "skipBlanks", desc := "()V" } : Jvm.MethodName) ({ cls := "BallastTrain$Text", name := "skipBlanks", desc := "()V" } : Jvm.MethodName)) ∈ tb := tb_mem 0 (by decide +kernel) rfl
theorem tw_1 : (Jvm.Cond.selects "BallastTrain$Text" ({ cls := "BallastTrain$Text", name := "readOrder", desc := "()V" } : Jvm.MethodName) ({ cls := "BallastTrain$Text", name := "readOrder", desc := "()V" } : Jvm.MethodName)) ∈ tb := tb_mem 1 (by decide +kernel) rfl
theorem tw_2 : (Jvm.Cond.selects "BallastTrain$Text" ({ cls := "BallastTrain$Text", name := "takeOneOf", desc := "(Ljava/lang/String;)I" } : Jvm.MethodName) ({ cls := "BallastTrain$Text", name := "takeOneOf", desc := "(Ljava/lang/String;)I" } : Jvm.MethodName)) ∈ tb := tb_mem 2 (by decide +kernel) rfl
theorem tw_3 : (Jvm.Cond.selects "BallastTrain$Text" ({ cls := "BallastTrain$Text", name := "take", desc := "(III)I" } : Jvm.MethodName) ({ cls := "BallastTrain$Text", name := "take", desc := "(III)I" } : Jvm.MethodName)) ∈ tb := tb_mem 3 (by decide +kernel) rfl
theorem tw_4 : (Jvm.Cond.selects "BallastTrain$Text" ({ cls := "BallastTrain$Text", name := "takeCell", desc := "()I" } : Jvm.MethodName) ({ cls := "BallastTrain$Text", name := "takeCell", desc := "()I" } : Jvm.MethodName)) ∈ tb := tb_mem 4 (by decide +kernel) rfl
theorem tw_5 : (Jvm.Cond.selects "BallastTrain$Text" ({ cls := "BallastTrain$Text", name := "takeDigit", desc := "(II)I" } : Jvm.MethodName) ({ cls := "BallastTrain$Text", name := "takeDigit", desc := "(II)I" } : Jvm.MethodName)) ∈ tb := tb_mem 5 (by decide +kernel) rfl
theorem tw_6 : (Jvm.Cond.selects "java/util/ArrayList" ({ cls := "java/util/ArrayList", name := "add", desc := "(Ljava/lang/Object;[Ljava/lang/Object;I)V" } : Jvm.MethodName) ({ cls := "java/util/ArrayList", name := "add", desc := "(Ljava/lang/Object;[Ljava/lang/Object;I)V" } : Jvm.MethodName)) ∈ tb := tb_mem 6 (by decide +kernel) rfl
theorem tw_7 : (Jvm.Cond.selects "java/util/ArrayList" ({ cls := "java/util/ArrayList", name := "grow", desc := "()[Ljava/lang/Object;" } : Jvm.MethodName) ({ cls := "java/util/ArrayList", name := "grow", desc := "()[Ljava/lang/Object;" } : Jvm.MethodName)) ∈ tb := tb_mem 7 (by decide +kernel) rfl
theorem tw_8 : (Jvm.Cond.selects "java/util/ArrayList" ({ cls := "java/util/ArrayList", name := "grow", desc := "(I)[Ljava/lang/Object;" } : Jvm.MethodName) ({ cls := "java/util/ArrayList", name := "grow", desc := "(I)[Ljava/lang/Object;" } : Jvm.MethodName)) ∈ tb := tb_mem 8 (by decide +kernel) rfl
theorem tw_9 : (Jvm.Cond.selects "java/util/ArrayList" ({ cls := "java/util/ArrayList", name := "fastRemove", desc := "([Ljava/lang/Object;I)V" } : Jvm.MethodName) ({ cls := "java/util/ArrayList", name := "fastRemove", desc := "([Ljava/lang/Object;I)V" } : Jvm.MethodName)) ∈ tb := tb_mem 9 (by decide +kernel) rfl
theorem tw_10 : (Jvm.Cond.selects "BallastTrain$State" ({ cls := "BallastTrain$State", name := "carryOutOrders", desc := "()V" } : Jvm.MethodName) ({ cls := "BallastTrain$State", name := "carryOutOrders", desc := "()V" } : Jvm.MethodName)) ∈ tb := tb_mem 10 (by decide +kernel) rfl
theorem tw_11 : (Jvm.Cond.selects "BallastTrain$State" ({ cls := "BallastTrain$State", name := "unload", desc := "()V" } : Jvm.MethodName) ({ cls := "BallastTrain$State", name := "unload", desc := "()V" } : Jvm.MethodName)) ∈ tb := tb_mem 11 (by decide +kernel) rfl
theorem tw_12 : (Jvm.Cond.selects "BallastTrain$State" ({ cls := "BallastTrain$State", name := "land", desc := "(III)V" } : Jvm.MethodName) ({ cls := "BallastTrain$State", name := "land", desc := "(III)V" } : Jvm.MethodName)) ∈ tb := tb_mem 12 (by decide +kernel) rfl
theorem tw_13 : (Jvm.Cond.selects "BallastTrain$Track" ({ cls := "BallastTrain$Track", name := "lowestIn", desc := "(I)I" } : Jvm.MethodName) ({ cls := "BallastTrain$Track", name := "lowestIn", desc := "(I)I" } : Jvm.MethodName)) ∈ tb := tb_mem 13 (by decide +kernel) rfl
theorem tw_14 : (Jvm.Cond.selects "BallastTrain" ({ cls := "BallastTrain", name := "lookAhead", desc := "(I)V" } : Jvm.MethodName) ({ cls := "BallastTrain", name := "lookAhead", desc := "(I)V" } : Jvm.MethodName)) ∈ tb := tb_mem 14 (by decide +kernel) rfl
theorem tw_15 : (Jvm.Cond.selects "BallastTrain" ({ cls := "BallastTrain", name := "foretold", desc := "(I)I" } : Jvm.MethodName) ({ cls := "BallastTrain", name := "foretold", desc := "(I)I" } : Jvm.MethodName)) ∈ tb := tb_mem 15 (by decide +kernel) rfl
theorem tw_16 : (Jvm.Cond.selects "BallastTrain" ({ cls := "BallastTrain", name := "mixedWithTrain", desc := "(J)J" } : Jvm.MethodName) ({ cls := "BallastTrain", name := "mixedWithTrain", desc := "(J)J" } : Jvm.MethodName)) ∈ tb := tb_mem 16 (by decide +kernel) rfl
theorem tw_17 : (Jvm.Cond.selects "BallastTrain" ({ cls := "BallastTrain", name := "mixedWithTrack", desc := "(J)J" } : Jvm.MethodName) ({ cls := "BallastTrain", name := "mixedWithTrack", desc := "(J)J" } : Jvm.MethodName)) ∈ tb := tb_mem 17 (by decide +kernel) rfl
theorem tw_18 : (Jvm.Cond.selects "BallastTrain" ({ cls := "BallastTrain", name := "mixedWithOrders", desc := "(J)J" } : Jvm.MethodName) ({ cls := "BallastTrain", name := "mixedWithOrders", desc := "(J)J" } : Jvm.MethodName)) ∈ tb := tb_mem 18 (by decide +kernel) rfl
theorem tw_19 : (Jvm.Cond.selects "BallastTrainModel" ({ cls := "BallastTrainModel", name := "couples", desc := "(I)V" } : Jvm.MethodName) ({ cls := "BallastTrainModel", name := "couples", desc := "(I)V" } : Jvm.MethodName)) ∈ tb := tb_mem 19 (by decide +kernel) rfl
theorem tw_20 : (Jvm.Cond.selects "BallastTrainModel" ({ cls := "BallastTrainModel", name := "put", desc := "(III)V" } : Jvm.MethodName) ({ cls := "BallastTrainModel", name := "put", desc := "(III)V" } : Jvm.MethodName)) ∈ tb := tb_mem 20 (by decide +kernel) rfl
theorem tw_21 : (Jvm.Cond.selects "BallastTrainModel" ({ cls := "BallastTrainModel", name := "reads", desc := "()V" } : Jvm.MethodName) ({ cls := "BallastTrainModel", name := "reads", desc := "()V" } : Jvm.MethodName)) ∈ tb := tb_mem 21 (by decide +kernel) rfl
theorem tw_22 : (Jvm.Cond.selects "BallastTrainModel" ({ cls := "BallastTrainModel", name := "blanks", desc := "()V" } : Jvm.MethodName) ({ cls := "BallastTrainModel", name := "blanks", desc := "()V" } : Jvm.MethodName)) ∈ tb := tb_mem 22 (by decide +kernel) rfl
theorem tw_23 : (Jvm.Cond.selects "BallastTrainModel" ({ cls := "BallastTrainModel", name := "next", desc := "()I" } : Jvm.MethodName) ({ cls := "BallastTrainModel", name := "next", desc := "()I" } : Jvm.MethodName)) ∈ tb := tb_mem 23 (by decide +kernel) rfl
theorem tw_24 : (Jvm.Cond.selects "BallastTrainModel" ({ cls := "BallastTrainModel", name := "readsOrder", desc := "()V" } : Jvm.MethodName) ({ cls := "BallastTrainModel", name := "readsOrder", desc := "()V" } : Jvm.MethodName)) ∈ tb := tb_mem 24 (by decide +kernel) rfl
theorem tw_25 : (Jvm.Cond.selects "BallastTrainModel" ({ cls := "BallastTrainModel", name := "needs", desc := "(Z)V" } : Jvm.MethodName) ({ cls := "BallastTrainModel", name := "needs", desc := "(Z)V" } : Jvm.MethodName)) ∈ tb := tb_mem 25 (by decide +kernel) rfl
theorem tw_26 : (Jvm.Cond.selects "BallastTrainModel" ({ cls := "BallastTrainModel", name := "fails", desc := "(I)V" } : Jvm.MethodName) ({ cls := "BallastTrainModel", name := "fails", desc := "(I)V" } : Jvm.MethodName)) ∈ tb := tb_mem 26 (by decide +kernel) rfl
theorem tw_27 : (Jvm.Cond.selects "BallastTrainModel" ({ cls := "BallastTrainModel", name := "cell", desc := "()I" } : Jvm.MethodName) ({ cls := "BallastTrainModel", name := "cell", desc := "()I" } : Jvm.MethodName)) ∈ tb := tb_mem 27 (by decide +kernel) rfl
theorem tw_28 : (Jvm.Cond.selects "BallastTrainModel" ({ cls := "BallastTrainModel", name := "isDigit", desc := "()Z" } : Jvm.MethodName) ({ cls := "BallastTrainModel", name := "isDigit", desc := "()Z" } : Jvm.MethodName)) ∈ tb := tb_mem 28 (by decide +kernel) rfl
theorem tw_29 : (Jvm.Cond.selects "BallastTrainModel" ({ cls := "BallastTrainModel", name := "digit", desc := "(II)I" } : Jvm.MethodName) ({ cls := "BallastTrainModel", name := "digit", desc := "(II)I" } : Jvm.MethodName)) ∈ tb := tb_mem 29 (by decide +kernel) rfl
theorem tw_30 : (Jvm.Cond.selects "BallastTrainModel" ({ cls := "BallastTrainModel", name := "doorAt", desc := "()I" } : Jvm.MethodName) ({ cls := "BallastTrainModel", name := "doorAt", desc := "()I" } : Jvm.MethodName)) ∈ tb := tb_mem 30 (by decide +kernel) rfl
theorem tw_31 : (Jvm.Cond.selects "BallastTrainModel" ({ cls := "BallastTrainModel", name := "keeps", desc := "()V" } : Jvm.MethodName) ({ cls := "BallastTrainModel", name := "keeps", desc := "()V" } : Jvm.MethodName)) ∈ tb := tb_mem 31 (by decide +kernel) rfl
theorem tw_32 : (Jvm.Cond.selects "BallastTrainModel" ({ cls := "BallastTrainModel", name := "inWagons", desc := "()I" } : Jvm.MethodName) ({ cls := "BallastTrainModel", name := "inWagons", desc := "()I" } : Jvm.MethodName)) ∈ tb := tb_mem 32 (by decide +kernel) rfl
theorem tw_33 : (Jvm.Cond.selects "BallastTrainModel" ({ cls := "BallastTrainModel", name := "of", desc := "(II)I" } : Jvm.MethodName) ({ cls := "BallastTrainModel", name := "of", desc := "(II)I" } : Jvm.MethodName)) ∈ tb := tb_mem 33 (by decide +kernel) rfl
theorem tw_34 : (Jvm.Cond.selects "BallastTrainModel" ({ cls := "BallastTrainModel", name := "isWagon", desc := "(I)Z" } : Jvm.MethodName) ({ cls := "BallastTrainModel", name := "isWagon", desc := "(I)Z" } : Jvm.MethodName)) ∈ tb := tb_mem 34 (by decide +kernel) rfl
theorem tw_35 : (Jvm.Cond.selects "BallastTrainModel" ({ cls := "BallastTrainModel", name := "moves", desc := "(III)V" } : Jvm.MethodName) ({ cls := "BallastTrainModel", name := "moves", desc := "(III)V" } : Jvm.MethodName)) ∈ tb := tb_mem 35 (by decide +kernel) rfl
theorem tw_36 : (Jvm.Cond.selects "BallastTrainModel" ({ cls := "BallastTrainModel", name := "dropsOrder", desc := "(I)V" } : Jvm.MethodName) ({ cls := "BallastTrainModel", name := "dropsOrder", desc := "(I)V" } : Jvm.MethodName)) ∈ tb := tb_mem 36 (by decide +kernel) rfl
theorem tw_37 : (Jvm.Cond.selects "BallastTrainModel" ({ cls := "BallastTrainModel", name := "second", desc := "()V" } : Jvm.MethodName) ({ cls := "BallastTrainModel", name := "second", desc := "()V" } : Jvm.MethodName)) ∈ tb := tb_mem 37 (by decide +kernel) rfl
theorem tw_38 : (Jvm.Cond.selects "BallastTrainModel" ({ cls := "BallastTrainModel", name := "ordersDue", desc := "()V" } : Jvm.MethodName) ({ cls := "BallastTrainModel", name := "ordersDue", desc := "()V" } : Jvm.MethodName)) ∈ tb := tb_mem 38 (by decide +kernel) rfl
theorem tw_39 : (Jvm.Cond.selects "BallastTrainModel" ({ cls := "BallastTrainModel", name := "isDue", desc := "(I)Z" } : Jvm.MethodName) ({ cls := "BallastTrainModel", name := "isDue", desc := "(I)Z" } : Jvm.MethodName)) ∈ tb := tb_mem 39 (by decide +kernel) rfl
theorem tw_40 : (Jvm.Cond.selects "BallastTrainModel" ({ cls := "BallastTrainModel", name := "falls", desc := "(II)V" } : Jvm.MethodName) ({ cls := "BallastTrainModel", name := "falls", desc := "(II)V" } : Jvm.MethodName)) ∈ tb := tb_mem 40 (by decide +kernel) rfl
theorem tw_41 : (Jvm.Cond.selects "BallastTrainModel" ({ cls := "BallastTrainModel", name := "slides", desc := "(II)V" } : Jvm.MethodName) ({ cls := "BallastTrainModel", name := "slides", desc := "(II)V" } : Jvm.MethodName)) ∈ tb := tb_mem 41 (by decide +kernel) rfl
theorem tw_42 : (Jvm.Cond.selects "BallastTrainModel" ({ cls := "BallastTrainModel", name := "spills", desc := "(II)V" } : Jvm.MethodName) ({ cls := "BallastTrainModel", name := "spills", desc := "(II)V" } : Jvm.MethodName)) ∈ tb := tb_mem 42 (by decide +kernel) rfl
theorem tw_43 : (Jvm.Cond.selects "BallastTrainModel" ({ cls := "BallastTrainModel", name := "closes", desc := "(II)V" } : Jvm.MethodName) ({ cls := "BallastTrainModel", name := "closes", desc := "(II)V" } : Jvm.MethodName)) ∈ tb := tb_mem 43 (by decide +kernel) rfl
theorem tw_44 : (Jvm.Cond.selects "BallastTrainModel" ({ cls := "BallastTrainModel", name := "sum", desc := "(I)I" } : Jvm.MethodName) ({ cls := "BallastTrainModel", name := "sum", desc := "(I)I" } : Jvm.MethodName)) ∈ tb := tb_mem 44 (by decide +kernel) rfl
theorem tw_45 : (Jvm.Cond.selects "BallastTrainModel" ({ cls := "BallastTrainModel", name := "highest", desc := "(I)I" } : Jvm.MethodName) ({ cls := "BallastTrainModel", name := "highest", desc := "(I)I" } : Jvm.MethodName)) ∈ tb := tb_mem 45 (by decide +kernel) rfl
theorem tw_46 : (Jvm.Cond.selects "BallastTrainModel" ({ cls := "BallastTrainModel", name := "row", desc := "(IZ)I" } : Jvm.MethodName) ({ cls := "BallastTrainModel", name := "row", desc := "(IZ)I" } : Jvm.MethodName)) ∈ tb := tb_mem 46 (by decide +kernel) rfl
theorem tw_47 : (Jvm.Cond.selects "BallastTrainModel" ({ cls := "BallastTrainModel", name := "steepest", desc := "(I)I" } : Jvm.MethodName) ({ cls := "BallastTrainModel", name := "steepest", desc := "(I)I" } : Jvm.MethodName)) ∈ tb := tb_mem 47 (by decide +kernel) rfl
theorem tw_48 : (Jvm.Cond.selects "BallastTrainModel" ({ cls := "BallastTrainModel", name := "lackingIn", desc := "(I)I" } : Jvm.MethodName) ({ cls := "BallastTrainModel", name := "lackingIn", desc := "(I)I" } : Jvm.MethodName)) ∈ tb := tb_mem 48 (by decide +kernel) rfl
theorem tw_49 : (Jvm.Cond.selects "BallastTrainModel" ({ cls := "BallastTrainModel", name := "keepsAside", desc := "()V" } : Jvm.MethodName) ({ cls := "BallastTrainModel", name := "keepsAside", desc := "()V" } : Jvm.MethodName)) ∈ tb := tb_mem 49 (by decide +kernel) rfl
theorem tw_50 : (Jvm.Cond.selects "BallastTrainModel" ({ cls := "BallastTrainModel", name := "part", desc := "(I)I" } : Jvm.MethodName) ({ cls := "BallastTrainModel", name := "part", desc := "(I)I" } : Jvm.MethodName)) ∈ tb := tb_mem 50 (by decide +kernel) rfl
theorem tw_51 : (Jvm.Cond.selects "BallastTrainModel" ({ cls := "BallastTrainModel", name := "onTrack", desc := "()I" } : Jvm.MethodName) ({ cls := "BallastTrainModel", name := "onTrack", desc := "()I" } : Jvm.MethodName)) ∈ tb := tb_mem 51 (by decide +kernel) rfl
theorem tw_52 : (Jvm.Cond.selects "BallastTrainModel" ({ cls := "BallastTrainModel", name := "returns", desc := "()V" } : Jvm.MethodName) ({ cls := "BallastTrainModel", name := "returns", desc := "()V" } : Jvm.MethodName)) ∈ tb := tb_mem 52 (by decide +kernel) rfl
theorem tw_53 : (Jvm.Cond.selects "BallastTrainModel" ({ cls := "BallastTrainModel", name := "mixes", desc := "(I)V" } : Jvm.MethodName) ({ cls := "BallastTrainModel", name := "mixes", desc := "(I)V" } : Jvm.MethodName)) ∈ tb := tb_mem 53 (by decide +kernel) rfl
theorem tw_54 : (Jvm.Cond.selects "BallastTrainModel" ({ cls := "BallastTrainModel", name := "mixesWagon", desc := "(I)V" } : Jvm.MethodName) ({ cls := "BallastTrainModel", name := "mixesWagon", desc := "(I)V" } : Jvm.MethodName)) ∈ tb := tb_mem 54 (by decide +kernel) rfl
theorem tw_56 : (Jvm.Cond.initialized "BallastTrain") ∈ tb := tb_mem 56 (by decide +kernel) rfl
theorem tw_57 : (Jvm.Cond.initialized "BallastTrain$Text") ∈ tb := tb_mem 57 (by decide +kernel) rfl
theorem tw_58 : (Jvm.Cond.initialized "java/util/AbstractCollection") ∈ tb := tb_mem 58 (by decide +kernel) rfl
theorem tw_59 : (Jvm.Cond.initialized "java/util/AbstractList") ∈ tb := tb_mem 59 (by decide +kernel) rfl
theorem tw_60 : (Jvm.Cond.initialized "java/util/ArrayList") ∈ tb := tb_mem 60 (by decide +kernel) rfl
theorem tw_61 : (Jvm.Cond.initialized "BallastTrain$State") ∈ tb := tb_mem 61 (by decide +kernel) rfl
theorem tw_62 : (Jvm.Cond.initialized "BallastTrain$Track") ∈ tb := tb_mem 62 (by decide +kernel) rfl
theorem tw_63 : (Jvm.Cond.initialized "BallastTrain$Train") ∈ tb := tb_mem 63 (by decide +kernel) rfl
theorem tw_64 : (Jvm.Cond.initialized "java/util/Arrays") ∈ tb := tb_mem 64 (by decide +kernel) rfl
theorem tw_65 : (Jvm.Cond.initialized "BallastTrain$History") ∈ tb := tb_mem 65 (by decide +kernel) rfl
theorem tw_66 : (Jvm.Cond.initialized "BallastTrainModel") ∈ tb := tb_mem 66 (by decide +kernel) rfl
theorem tw_67 : (Jvm.Cond.initialized "java/lang/String") ∈ tb := tb_mem 67 (by decide +kernel) rfl
theorem tw_68 : (Jvm.Cond.initialized "java/lang/StringLatin1") ∈ tb := tb_mem 68 (by decide +kernel) rfl
theorem tw_69 : (Jvm.Cond.initialized "java/lang/Math") ∈ tb := tb_mem 69 (by decide +kernel) rfl
theorem tw_70 : (Jvm.Cond.initialized "java/lang/StringUTF16") ∈ tb := tb_mem 70 (by decide +kernel) rfl
theorem tw_71 : (Jvm.Cond.initialized "jdk/internal/util/Preconditions") ∈ tb := tb_mem 71 (by decide +kernel) rfl
theorem tw_72 : (Jvm.Cond.initialized "java/lang/Character") ∈ tb := tb_mem 72 (by decide +kernel) rfl
theorem tw_73 : (Jvm.Cond.initialized "BallastTrain$Order") ∈ tb := tb_mem 73 (by decide +kernel) rfl
theorem tw_74 : (Jvm.Cond.initialized "jdk/internal/util/ArraysSupport") ∈ tb := tb_mem 74 (by decide +kernel) rfl
theorem tw_75 : (Jvm.Cond.initialized "java/lang/System") ∈ tb := tb_mem 75 (by decide +kernel) rfl
theorem tw_76 : (Jvm.Cond.initialized "java/util/Objects") ∈ tb := tb_mem 76 (by decide +kernel) rfl
theorem tw_77 : (Jvm.Cond.classLink "BallastTrainLaw" (7 : Nat) "BallastTrain") ∈ tb := tb_mem 77 (by decide +kernel) rfl
theorem tw_78 : (Jvm.Cond.instantiable "BallastTrain" (4 : Nat)) ∈ tb := tb_mem 78 (by decide +kernel) rfl
theorem tw_79 : (Jvm.Cond.methodLink "BallastTrainLaw" (9 : Nat) ({ cls := "BallastTrain", name := "<init>", desc := "()V" } : Jvm.MethodName)) ∈ tb := tb_mem 79 (by decide +kernel) rfl
theorem tw_80 : (Jvm.Cond.instanceMethod ({ cls := "BallastTrain", name := "<init>", desc := "()V" } : Jvm.MethodName)) ∈ tb := tb_mem 80 (by decide +kernel) rfl
theorem tw_81 : (Jvm.Cond.code ({ cls := "BallastTrain", name := "<init>", desc := "()V" } : Jvm.MethodName) prog_1_method_1_code (1 : Nat) (Option.none : Option Jvm.ClassFile.FieldType)) ∈ tb := tb_mem 81 (by decide +kernel) rfl
theorem tw_82 : (Jvm.Cond.methodLink "BallastTrain" (1 : Nat) ({ cls := "java/lang/Object", name := "<init>", desc := "()V" } : Jvm.MethodName)) ∈ tb := tb_mem 82 (by decide +kernel) rfl
theorem tw_83 : (Jvm.Cond.instanceMethod ({ cls := "java/lang/Object", name := "<init>", desc := "()V" } : Jvm.MethodName)) ∈ tb := tb_mem 83 (by decide +kernel) rfl
theorem tw_85 : (Jvm.Cond.classLink "BallastTrain" (7 : Nat) "BallastTrain$Text") ∈ tb := tb_mem 85 (by decide +kernel) rfl
theorem tw_86 : (Jvm.Cond.instantiable "BallastTrain$Text" (5 : Nat)) ∈ tb := tb_mem 86 (by decide +kernel) rfl
theorem tw_88 : (Jvm.Cond.instanceMethod ({ cls := "BallastTrain$Text", name := "<init>", desc := "()V" } : Jvm.MethodName)) ∈ tb := tb_mem 88 (by decide +kernel) rfl
theorem tw_89 : (Jvm.Cond.code ({ cls := "BallastTrain$Text", name := "<init>", desc := "()V" } : Jvm.MethodName) prog_5_method_1_code (1 : Nat) (Option.none : Option Jvm.ClassFile.FieldType)) ∈ tb := tb_mem 89 (by decide +kernel) rfl
theorem tw_90 : (Jvm.Cond.methodLink "BallastTrain$Text" (3 : Nat) ({ cls := "java/lang/Object", name := "<init>", desc := "()V" } : Jvm.MethodName)) ∈ tb := tb_mem 90 (by decide +kernel) rfl
theorem tw_91 : (Jvm.Cond.classLink "BallastTrain$Text" (19 : Nat) "java/util/ArrayList") ∈ tb := tb_mem 91 (by decide +kernel) rfl
theorem tw_92 : (Jvm.Cond.instantiable "java/util/ArrayList" (3 : Nat)) ∈ tb := tb_mem 92 (by decide +kernel) rfl
theorem tw_93 : (Jvm.Cond.methodLink "BallastTrain$Text" (21 : Nat) ({ cls := "java/util/ArrayList", name := "<init>", desc := "()V" } : Jvm.MethodName)) ∈ tb := tb_mem 93 (by decide +kernel) rfl
theorem tw_94 : (Jvm.Cond.instanceMethod ({ cls := "java/util/ArrayList", name := "<init>", desc := "()V" } : Jvm.MethodName)) ∈ tb := tb_mem 94 (by decide +kernel) rfl
theorem tw_95 : (Jvm.Cond.code ({ cls := "java/util/ArrayList", name := "<init>", desc := "()V" } : Jvm.MethodName) prog_25_method_2_code (1 : Nat) (Option.none : Option Jvm.ClassFile.FieldType)) ∈ tb := tb_mem 95 (by decide +kernel) rfl
theorem tw_96 : (Jvm.Cond.methodLink "java/util/ArrayList" (1 : Nat) ({ cls := "java/util/AbstractList", name := "<init>", desc := "()V" } : Jvm.MethodName)) ∈ tb := tb_mem 96 (by decide +kernel) rfl
theorem tw_97 : (Jvm.Cond.instanceMethod ({ cls := "java/util/AbstractList", name := "<init>", desc := "()V" } : Jvm.MethodName)) ∈ tb := tb_mem 97 (by decide +kernel) rfl
theorem tw_98 : (Jvm.Cond.code ({ cls := "java/util/AbstractList", name := "<init>", desc := "()V" } : Jvm.MethodName) prog_24_method_1_code (1 : Nat) (Option.none : Option Jvm.ClassFile.FieldType)) ∈ tb := tb_mem 98 (by decide +kernel) rfl
theorem tw_99 : (Jvm.Cond.methodLink "java/util/AbstractList" (1 : Nat) ({ cls := "java/util/AbstractCollection", name := "<init>", desc := "()V" } : Jvm.MethodName)) ∈ tb := tb_mem 99 (by decide +kernel) rfl
theorem tw_100 : (Jvm.Cond.instanceMethod ({ cls := "java/util/AbstractCollection", name := "<init>", desc := "()V" } : Jvm.MethodName)) ∈ tb := tb_mem 100 (by decide +kernel) rfl
theorem tw_101 : (Jvm.Cond.code ({ cls := "java/util/AbstractCollection", name := "<init>", desc := "()V" } : Jvm.MethodName) prog_23_method_1_code (1 : Nat) (Option.none : Option Jvm.ClassFile.FieldType)) ∈ tb := tb_mem 101 (by decide +kernel) rfl
theorem tw_102 : (Jvm.Cond.methodLink "java/util/AbstractCollection" (1 : Nat) ({ cls := "java/lang/Object", name := "<init>", desc := "()V" } : Jvm.MethodName)) ∈ tb := tb_mem 102 (by decide +kernel) rfl
theorem tw_103 : (Jvm.Cond.fieldLink "java/util/ArrayList" (39 : Nat) "java/util/ArrayList" "DEFAULTCAPACITY_EMPTY_ELEMENTDATA" "[Ljava/lang/Object;") ∈ tb := tb_mem 103 (by decide +kernel) rfl
theorem tw_105 : (Jvm.Cond.fieldLink "java/util/ArrayList" (9 : Nat) "java/util/ArrayList" "elementData" "[Ljava/lang/Object;") ∈ tb := tb_mem 105 (by decide +kernel) rfl
theorem tw_106 : (Jvm.Cond.fieldLink "java/util/ArrayList" (48 : Nat) "java/util/ArrayList" "size" "I") ∈ tb := tb_mem 106 (by decide +kernel) rfl
theorem tw_107 : (Jvm.Cond.fieldLink "java/util/AbstractList" (7 : Nat) "java/util/AbstractList" "modCount" "I") ∈ tb := tb_mem 107 (by decide +kernel) rfl
theorem tw_108 : (Jvm.Cond.fieldLink "java/util/ArrayList" (63 : Nat) "java/util/ArrayList" "modCount" "I") ∈ tb := tb_mem 108 (by decide +kernel) rfl
theorem tw_109 : (Jvm.Cond.sameField "java/util/ArrayList" "java/util/AbstractList" "modCount" "I") ∈ tb := tb_mem 109 (by decide +kernel) rfl
theorem tw_118 : (Jvm.Cond.fieldLink "BallastTrain$Text" (9 : Nat) "BallastTrain$Text" "bytes" "[I") ∈ tb := tb_mem 118 (by decide +kernel) rfl
theorem tw_119 : (Jvm.Cond.fieldLink "BallastTrain$Text" (15 : Nat) "BallastTrain$Text" "length" "I") ∈ tb := tb_mem 119 (by decide +kernel) rfl
theorem tw_120 : (Jvm.Cond.fieldLink "BallastTrain" (41 : Nat) "BallastTrain$Text" "length" "I") ∈ tb := tb_mem 120 (by decide +kernel) rfl
theorem tw_121 : (Jvm.Cond.fieldLink "BallastTrain$Text" (22 : Nat) "BallastTrain$Text" "orders" "Ljava/util/ArrayList;") ∈ tb := tb_mem 121 (by decide +kernel) rfl
theorem tw_122 : (Jvm.Cond.fieldLink "BallastTrain" (121 : Nat) "BallastTrain$Text" "orders" "Ljava/util/ArrayList;") ∈ tb := tb_mem 122 (by decide +kernel) rfl
theorem tw_123 : (Jvm.Cond.fieldLink "BallastTrain$Text" (26 : Nat) "BallastTrain$Text" "fault" "I") ∈ tb := tb_mem 123 (by decide +kernel) rfl
theorem tw_124 : (Jvm.Cond.fieldLink "BallastTrain" (48 : Nat) "BallastTrain$Text" "fault" "I") ∈ tb := tb_mem 124 (by decide +kernel) rfl
theorem tw_125 : (Jvm.Cond.fieldLink "BallastTrain$Text" (29 : Nat) "BallastTrain$Text" "at" "I") ∈ tb := tb_mem 125 (by decide +kernel) rfl
theorem tw_137 : (Jvm.Cond.classLink "BallastTrain" (16 : Nat) "BallastTrain$State") ∈ tb := tb_mem 137 (by decide +kernel) rfl
theorem tw_138 : (Jvm.Cond.instantiable "BallastTrain$State" (9 : Nat)) ∈ tb := tb_mem 138 (by decide +kernel) rfl
theorem tw_140 : (Jvm.Cond.instanceMethod ({ cls := "BallastTrain$State", name := "<init>", desc := "()V" } : Jvm.MethodName)) ∈ tb := tb_mem 140 (by decide +kernel) rfl
theorem tw_141 : (Jvm.Cond.code ({ cls := "BallastTrain$State", name := "<init>", desc := "()V" } : Jvm.MethodName) prog_4_method_1_code (1 : Nat) (Option.none : Option Jvm.ClassFile.FieldType)) ∈ tb := tb_mem 141 (by decide +kernel) rfl
theorem tw_142 : (Jvm.Cond.methodLink "BallastTrain$State" (3 : Nat) ({ cls := "java/lang/Object", name := "<init>", desc := "()V" } : Jvm.MethodName)) ∈ tb := tb_mem 142 (by decide +kernel) rfl
theorem tw_143 : (Jvm.Cond.classLink "BallastTrain$State" (15 : Nat) "BallastTrain$Track") ∈ tb := tb_mem 143 (by decide +kernel) rfl
theorem tw_144 : (Jvm.Cond.instantiable "BallastTrain$Track" (1 : Nat)) ∈ tb := tb_mem 144 (by decide +kernel) rfl
theorem tw_146 : (Jvm.Cond.instanceMethod ({ cls := "BallastTrain$Track", name := "<init>", desc := "()V" } : Jvm.MethodName)) ∈ tb := tb_mem 146 (by decide +kernel) rfl
theorem tw_147 : (Jvm.Cond.code ({ cls := "BallastTrain$Track", name := "<init>", desc := "()V" } : Jvm.MethodName) prog_6_method_1_code (1 : Nat) (Option.none : Option Jvm.ClassFile.FieldType)) ∈ tb := tb_mem 147 (by decide +kernel) rfl
theorem tw_148 : (Jvm.Cond.methodLink "BallastTrain$Track" (3 : Nat) ({ cls := "java/lang/Object", name := "<init>", desc := "()V" } : Jvm.MethodName)) ∈ tb := tb_mem 148 (by decide +kernel) rfl
theorem tw_149 : (Jvm.Cond.fieldLink "BallastTrain$Track" (9 : Nat) "BallastTrain$Track" "heights" "[I") ∈ tb := tb_mem 149 (by decide +kernel) rfl
theorem tw_150 : (Jvm.Cond.fieldLink "BallastTrain$State" (56 : Nat) "BallastTrain$Track" "heights" "[I") ∈ tb := tb_mem 150 (by decide +kernel) rfl
theorem tw_154 : (Jvm.Cond.classLink "BallastTrain$State" (22 : Nat) "BallastTrain$Train") ∈ tb := tb_mem 154 (by decide +kernel) rfl
theorem tw_155 : (Jvm.Cond.instantiable "BallastTrain$Train" (8 : Nat)) ∈ tb := tb_mem 155 (by decide +kernel) rfl
theorem tw_156 : (Jvm.Cond.methodLink "BallastTrain$State" (24 : Nat) ({ cls := "BallastTrain$Train", name := "<init>", desc := "()V" } : Jvm.MethodName)) ∈ tb := tb_mem 156 (by decide +kernel) rfl
theorem tw_157 : (Jvm.Cond.instanceMethod ({ cls := "BallastTrain$Train", name := "<init>", desc := "()V" } : Jvm.MethodName)) ∈ tb := tb_mem 157 (by decide +kernel) rfl
theorem tw_158 : (Jvm.Cond.code ({ cls := "BallastTrain$Train", name := "<init>", desc := "()V" } : Jvm.MethodName) prog_7_method_1_code (1 : Nat) (Option.none : Option Jvm.ClassFile.FieldType)) ∈ tb := tb_mem 158 (by decide +kernel) rfl
theorem tw_159 : (Jvm.Cond.methodLink "BallastTrain$Train" (3 : Nat) ({ cls := "java/lang/Object", name := "<init>", desc := "()V" } : Jvm.MethodName)) ∈ tb := tb_mem 159 (by decide +kernel) rfl
theorem tw_160 : (Jvm.Cond.methodLink "BallastTrain$Train" (37 : Nat) ({ cls := "java/util/Arrays", name := "fill", desc := "([II)V" } : Jvm.MethodName)) ∈ tb := tb_mem 160 (by decide +kernel) rfl
theorem tw_161 : (Jvm.Cond.static ({ cls := "java/util/Arrays", name := "fill", desc := "([II)V" } : Jvm.MethodName)) ∈ tb := tb_mem 161 (by decide +kernel) rfl
theorem tw_162 : (Jvm.Cond.code ({ cls := "java/util/Arrays", name := "fill", desc := "([II)V" } : Jvm.MethodName) prog_26_method_103_code (4 : Nat) (Option.none : Option Jvm.ClassFile.FieldType)) ∈ tb := tb_mem 162 (by decide +kernel) rfl
theorem tw_163 : (Jvm.Cond.fieldLink "BallastTrain$Train" (9 : Nat) "BallastTrain$Train" "wagons" "I") ∈ tb := tb_mem 163 (by decide +kernel) rfl
theorem tw_164 : (Jvm.Cond.fieldLink "BallastTrain$State" (90 : Nat) "BallastTrain$Train" "wagons" "I") ∈ tb := tb_mem 164 (by decide +kernel) rfl
theorem tw_165 : (Jvm.Cond.fieldLink "BallastTrain" (223 : Nat) "BallastTrain$Train" "wagons" "I") ∈ tb := tb_mem 165 (by decide +kernel) rfl
theorem tw_166 : (Jvm.Cond.fieldLink "BallastTrain$Train" (15 : Nat) "BallastTrain$Train" "place" "I") ∈ tb := tb_mem 166 (by decide +kernel) rfl
theorem tw_167 : (Jvm.Cond.fieldLink "BallastTrain$Order" (27 : Nat) "BallastTrain$Train" "place" "I") ∈ tb := tb_mem 167 (by decide +kernel) rfl
theorem tw_168 : (Jvm.Cond.fieldLink "BallastTrain" (136 : Nat) "BallastTrain$Train" "place" "I") ∈ tb := tb_mem 168 (by decide +kernel) rfl
theorem tw_169 : (Jvm.Cond.fieldLink "BallastTrain$Train" (18 : Nat) "BallastTrain$Train" "speed" "I") ∈ tb := tb_mem 169 (by decide +kernel) rfl
theorem tw_170 : (Jvm.Cond.fieldLink "BallastTrain" (85 : Nat) "BallastTrain$Train" "speed" "I") ∈ tb := tb_mem 170 (by decide +kernel) rfl
theorem tw_171 : (Jvm.Cond.fieldLink "BallastTrain$Train" (21 : Nat) "BallastTrain$Train" "wish" "I") ∈ tb := tb_mem 171 (by decide +kernel) rfl
theorem tw_172 : (Jvm.Cond.fieldLink "BallastTrain$Order" (40 : Nat) "BallastTrain$Train" "wish" "I") ∈ tb := tb_mem 172 (by decide +kernel) rfl
theorem tw_173 : (Jvm.Cond.fieldLink "BallastTrain" (109 : Nat) "BallastTrain$Train" "wish" "I") ∈ tb := tb_mem 173 (by decide +kernel) rfl
theorem tw_174 : (Jvm.Cond.fieldLink "BallastTrain$Train" (24 : Nat) "BallastTrain$Train" "load" "[I") ∈ tb := tb_mem 174 (by decide +kernel) rfl
theorem tw_175 : (Jvm.Cond.fieldLink "BallastTrain" (88 : Nat) "BallastTrain$Train" "load" "[I") ∈ tb := tb_mem 175 (by decide +kernel) rfl
theorem tw_176 : (Jvm.Cond.fieldLink "BallastTrain$Train" (28 : Nat) "BallastTrain$Train" "left" "[I") ∈ tb := tb_mem 176 (by decide +kernel) rfl
theorem tw_177 : (Jvm.Cond.fieldLink "BallastTrain" (174 : Nat) "BallastTrain$Train" "left" "[I") ∈ tb := tb_mem 177 (by decide +kernel) rfl
theorem tw_178 : (Jvm.Cond.fieldLink "BallastTrain$Train" (31 : Nat) "BallastTrain$Train" "level" "[I") ∈ tb := tb_mem 178 (by decide +kernel) rfl
theorem tw_179 : (Jvm.Cond.fieldLink "BallastTrain$Train" (34 : Nat) "BallastTrain$Train" "rest" "[I") ∈ tb := tb_mem 179 (by decide +kernel) rfl
theorem tw_197 : (Jvm.Cond.classLink "BallastTrain$State" (29 : Nat) "java/util/ArrayList") ∈ tb := tb_mem 197 (by decide +kernel) rfl
theorem tw_198 : (Jvm.Cond.methodLink "BallastTrain$State" (31 : Nat) ({ cls := "java/util/ArrayList", name := "<init>", desc := "()V" } : Jvm.MethodName)) ∈ tb := tb_mem 198 (by decide +kernel) rfl
theorem tw_199 : (Jvm.Cond.fieldLink "BallastTrain$State" (9 : Nat) "BallastTrain$State" "settings" "[I") ∈ tb := tb_mem 199 (by decide +kernel) rfl
theorem tw_200 : (Jvm.Cond.fieldLink "BallastTrain" (62 : Nat) "BallastTrain$State" "settings" "[I") ∈ tb := tb_mem 200 (by decide +kernel) rfl
theorem tw_201 : (Jvm.Cond.fieldLink "BallastTrain$State" (18 : Nat) "BallastTrain$State" "track" "LBallastTrain$Track;") ∈ tb := tb_mem 201 (by decide +kernel) rfl
theorem tw_202 : (Jvm.Cond.fieldLink "BallastTrain" (144 : Nat) "BallastTrain$State" "track" "LBallastTrain$Track;") ∈ tb := tb_mem 202 (by decide +kernel) rfl
theorem tw_203 : (Jvm.Cond.fieldLink "BallastTrain$State" (25 : Nat) "BallastTrain$State" "train" "LBallastTrain$Train;") ∈ tb := tb_mem 203 (by decide +kernel) rfl
theorem tw_204 : (Jvm.Cond.fieldLink "BallastTrain" (65 : Nat) "BallastTrain$State" "train" "LBallastTrain$Train;") ∈ tb := tb_mem 204 (by decide +kernel) rfl
theorem tw_205 : (Jvm.Cond.fieldLink "BallastTrain$State" (32 : Nat) "BallastTrain$State" "orders" "Ljava/util/ArrayList;") ∈ tb := tb_mem 205 (by decide +kernel) rfl
theorem tw_206 : (Jvm.Cond.fieldLink "BallastTrain" (112 : Nat) "BallastTrain$State" "orders" "Ljava/util/ArrayList;") ∈ tb := tb_mem 206 (by decide +kernel) rfl
theorem tw_207 : (Jvm.Cond.fieldLink "BallastTrain$State" (36 : Nat) "BallastTrain$State" "time" "I") ∈ tb := tb_mem 207 (by decide +kernel) rfl
theorem tw_208 : (Jvm.Cond.fieldLink "BallastTrain" (130 : Nat) "BallastTrain$State" "time" "I") ∈ tb := tb_mem 208 (by decide +kernel) rfl
theorem tw_209 : (Jvm.Cond.fieldLink "BallastTrain$State" (40 : Nat) "BallastTrain$State" "jams" "I") ∈ tb := tb_mem 209 (by decide +kernel) rfl
theorem tw_210 : (Jvm.Cond.fieldLink "BallastTrain" (226 : Nat) "BallastTrain$State" "jams" "I") ∈ tb := tb_mem 210 (by decide +kernel) rfl
theorem tw_211 : (Jvm.Cond.fieldLink "BallastTrain$State" (43 : Nat) "BallastTrain$State" "loaded" "I") ∈ tb := tb_mem 211 (by decide +kernel) rfl
theorem tw_212 : (Jvm.Cond.fieldLink "BallastTrain" (91 : Nat) "BallastTrain$State" "loaded" "I") ∈ tb := tb_mem 212 (by decide +kernel) rfl
theorem tw_213 : (Jvm.Cond.fieldLink "BallastTrain$State" (46 : Nat) "BallastTrain$State" "lost" "I") ∈ tb := tb_mem 213 (by decide +kernel) rfl
theorem tw_214 : (Jvm.Cond.fieldLink "BallastTrain" (230 : Nat) "BallastTrain$State" "lost" "I") ∈ tb := tb_mem 214 (by decide +kernel) rfl
theorem tw_215 : (Jvm.Cond.fieldLink "BallastTrain$State" (49 : Nat) "BallastTrain$State" "taken" "I") ∈ tb := tb_mem 215 (by decide +kernel) rfl
theorem tw_216 : (Jvm.Cond.fieldLink "BallastTrain" (79 : Nat) "BallastTrain$State" "taken" "I") ∈ tb := tb_mem 216 (by decide +kernel) rfl
theorem tw_236 : (Jvm.Cond.classLink "BallastTrain" (26 : Nat) "BallastTrain$History") ∈ tb := tb_mem 236 (by decide +kernel) rfl
theorem tw_237 : (Jvm.Cond.instantiable "BallastTrain$History" (3 : Nat)) ∈ tb := tb_mem 237 (by decide +kernel) rfl
theorem tw_238 : (Jvm.Cond.methodLink "BallastTrain" (28 : Nat) ({ cls := "BallastTrain$History", name := "<init>", desc := "()V" } : Jvm.MethodName)) ∈ tb := tb_mem 238 (by decide +kernel) rfl
theorem tw_239 : (Jvm.Cond.instanceMethod ({ cls := "BallastTrain$History", name := "<init>", desc := "()V" } : Jvm.MethodName)) ∈ tb := tb_mem 239 (by decide +kernel) rfl
theorem tw_240 : (Jvm.Cond.code ({ cls := "BallastTrain$History", name := "<init>", desc := "()V" } : Jvm.MethodName) prog_2_method_1_code (2 : Nat) (Option.none : Option Jvm.ClassFile.FieldType)) ∈ tb := tb_mem 240 (by decide +kernel) rfl
theorem tw_241 : (Jvm.Cond.methodLink "BallastTrain$History" (3 : Nat) ({ cls := "java/lang/Object", name := "<init>", desc := "()V" } : Jvm.MethodName)) ∈ tb := tb_mem 241 (by decide +kernel) rfl
theorem tw_242 : (Jvm.Cond.classLink "BallastTrain$History" (9 : Nat) "BallastTrain$State") ∈ tb := tb_mem 242 (by decide +kernel) rfl
theorem tw_245 : (Jvm.Cond.fieldLink "BallastTrain$History" (11 : Nat) "BallastTrain$History" "states" "[LBallastTrain$State;") ∈ tb := tb_mem 245 (by decide +kernel) rfl
theorem tw_246 : (Jvm.Cond.fieldLink "BallastTrain$History" (17 : Nat) "BallastTrain$History" "next" "I") ∈ tb := tb_mem 246 (by decide +kernel) rfl
theorem tw_247 : (Jvm.Cond.fieldLink "BallastTrain$History" (21 : Nat) "BallastTrain$History" "size" "I") ∈ tb := tb_mem 247 (by decide +kernel) rfl
theorem tw_248 : (Jvm.Cond.fieldLink "BallastTrain" (159 : Nat) "BallastTrain$History" "size" "I") ∈ tb := tb_mem 248 (by decide +kernel) rfl
theorem tw_256 : (Jvm.Cond.fieldLink "BallastTrain" (10 : Nat) "BallastTrain" "text" "LBallastTrain$Text;") ∈ tb := tb_mem 256 (by decide +kernel) rfl
theorem tw_257 : (Jvm.Cond.fieldLink "BallastTrain" (19 : Nat) "BallastTrain" "now" "LBallastTrain$State;") ∈ tb := tb_mem 257 (by decide +kernel) rfl
theorem tw_258 : (Jvm.Cond.fieldLink "BallastTrain" (23 : Nat) "BallastTrain" "ahead" "LBallastTrain$State;") ∈ tb := tb_mem 258 (by decide +kernel) rfl
theorem tw_259 : (Jvm.Cond.fieldLink "BallastTrain" (29 : Nat) "BallastTrain" "history" "LBallastTrain$History;") ∈ tb := tb_mem 259 (by decide +kernel) rfl
theorem tw_269 : (Jvm.Cond.methodLink "BallastTrainLaw" (13 : Nat) ({ cls := "BallastTrain", name := "type", desc := "(I)I" } : Jvm.MethodName)) ∈ tb := tb_mem 269 (by decide +kernel) rfl
theorem tw_270 : (Jvm.Cond.instanceMethod ({ cls := "BallastTrain", name := "type", desc := "(I)I" } : Jvm.MethodName)) ∈ tb := tb_mem 270 (by decide +kernel) rfl
theorem tw_271 : (Jvm.Cond.selects "BallastTrain" ({ cls := "BallastTrain", name := "type", desc := "(I)I" } : Jvm.MethodName) ({ cls := "BallastTrain", name := "type", desc := "(I)I" } : Jvm.MethodName)) ∈ tb := tb_mem 271 (by decide +kernel) rfl
theorem tw_272 : (Jvm.Cond.code ({ cls := "BallastTrain", name := "type", desc := "(I)I" } : Jvm.MethodName) prog_1_method_2_code (2 : Nat) (Option.some Jvm.ClassFile.FieldType.int)) ∈ tb := tb_mem 272 (by decide +kernel) rfl
theorem tw_273 : (Jvm.Cond.methodLink "BallastTrain" (33 : Nat) ({ cls := "BallastTrain", name := "isWithin", desc := "(III)Z" } : Jvm.MethodName)) ∈ tb := tb_mem 273 (by decide +kernel) rfl
theorem tw_274 : (Jvm.Cond.static ({ cls := "BallastTrain", name := "isWithin", desc := "(III)Z" } : Jvm.MethodName)) ∈ tb := tb_mem 274 (by decide +kernel) rfl
theorem tw_275 : (Jvm.Cond.code ({ cls := "BallastTrain", name := "isWithin", desc := "(III)Z" } : Jvm.MethodName) prog_1_method_31_code (3 : Nat) (Option.some Jvm.ClassFile.FieldType.boolean)) ∈ tb := tb_mem 275 (by decide +kernel) rfl
theorem tw_276 : (Jvm.Cond.methodLink "BallastTrain" (37 : Nat) ({ cls := "BallastTrain$Text", name := "append", desc := "(I)Z" } : Jvm.MethodName)) ∈ tb := tb_mem 276 (by decide +kernel) rfl
theorem tw_277 : (Jvm.Cond.instanceMethod ({ cls := "BallastTrain$Text", name := "append", desc := "(I)Z" } : Jvm.MethodName)) ∈ tb := tb_mem 277 (by decide +kernel) rfl
theorem tw_278 : (Jvm.Cond.selects "BallastTrain$Text" ({ cls := "BallastTrain$Text", name := "append", desc := "(I)Z" } : Jvm.MethodName) ({ cls := "BallastTrain$Text", name := "append", desc := "(I)Z" } : Jvm.MethodName)) ∈ tb := tb_mem 278 (by decide +kernel) rfl
theorem tw_279 : (Jvm.Cond.code ({ cls := "BallastTrain$Text", name := "append", desc := "(I)Z" } : Jvm.MethodName) prog_5_method_2_code (2 : Nat) (Option.some Jvm.ClassFile.FieldType.boolean)) ∈ tb := tb_mem 279 (by decide +kernel) rfl
theorem tw_280 : (Jvm.Cond.methodLink "BallastTrainLaw" (18 : Nat) ({ cls := "BallastTrain", name := "clearText", desc := "()I" } : Jvm.MethodName)) ∈ tb := tb_mem 280 (by decide +kernel) rfl
theorem tw_281 : (Jvm.Cond.instanceMethod ({ cls := "BallastTrain", name := "clearText", desc := "()I" } : Jvm.MethodName)) ∈ tb := tb_mem 281 (by decide +kernel) rfl
theorem tw_282 : (Jvm.Cond.selects "BallastTrain" ({ cls := "BallastTrain", name := "clearText", desc := "()I" } : Jvm.MethodName) ({ cls := "BallastTrain", name := "clearText", desc := "()I" } : Jvm.MethodName)) ∈ tb := tb_mem 282 (by decide +kernel) rfl
theorem tw_283 : (Jvm.Cond.code ({ cls := "BallastTrain", name := "clearText", desc := "()I" } : Jvm.MethodName) prog_1_method_3_code (2 : Nat) (Option.some Jvm.ClassFile.FieldType.int)) ∈ tb := tb_mem 283 (by decide +kernel) rfl
theorem tw_284 : (Jvm.Cond.methodLink "BallastTrainLaw" (23 : Nat) ({ cls := "BallastTrain", name := "fault", desc := "()I" } : Jvm.MethodName)) ∈ tb := tb_mem 284 (by decide +kernel) rfl
theorem tw_285 : (Jvm.Cond.instanceMethod ({ cls := "BallastTrain", name := "fault", desc := "()I" } : Jvm.MethodName)) ∈ tb := tb_mem 285 (by decide +kernel) rfl
theorem tw_286 : (Jvm.Cond.selects "BallastTrain" ({ cls := "BallastTrain", name := "fault", desc := "()I" } : Jvm.MethodName) ({ cls := "BallastTrain", name := "fault", desc := "()I" } : Jvm.MethodName)) ∈ tb := tb_mem 286 (by decide +kernel) rfl
theorem tw_287 : (Jvm.Cond.code ({ cls := "BallastTrain", name := "fault", desc := "()I" } : Jvm.MethodName) prog_1_method_4_code (1 : Nat) (Option.some Jvm.ClassFile.FieldType.int)) ∈ tb := tb_mem 287 (by decide +kernel) rfl
theorem tw_288 : (Jvm.Cond.methodLink "BallastTrain" (45 : Nat) ({ cls := "BallastTrain$Text", name := "read", desc := "()V" } : Jvm.MethodName)) ∈ tb := tb_mem 288 (by decide +kernel) rfl
theorem tw_289 : (Jvm.Cond.instanceMethod ({ cls := "BallastTrain$Text", name := "read", desc := "()V" } : Jvm.MethodName)) ∈ tb := tb_mem 289 (by decide +kernel) rfl
theorem tw_290 : (Jvm.Cond.selects "BallastTrain$Text" ({ cls := "BallastTrain$Text", name := "read", desc := "()V" } : Jvm.MethodName) ({ cls := "BallastTrain$Text", name := "read", desc := "()V" } : Jvm.MethodName)) ∈ tb := tb_mem 290 (by decide +kernel) rfl
theorem tw_291 : (Jvm.Cond.code ({ cls := "BallastTrain$Text", name := "read", desc := "()V" } : Jvm.MethodName) prog_5_method_4_code (2 : Nat) (Option.none : Option Jvm.ClassFile.FieldType)) ∈ tb := tb_mem 291 (by decide +kernel) rfl
theorem tw_292 : (Jvm.Cond.methodLink "BallastTrain$Text" (32 : Nat) ({ cls := "java/util/ArrayList", name := "clear", desc := "()V" } : Jvm.MethodName)) ∈ tb := tb_mem 292 (by decide +kernel) rfl
theorem tw_293 : (Jvm.Cond.instanceMethod ({ cls := "java/util/ArrayList", name := "clear", desc := "()V" } : Jvm.MethodName)) ∈ tb := tb_mem 293 (by decide +kernel) rfl
theorem tw_294 : (Jvm.Cond.selects "java/util/ArrayList" ({ cls := "java/util/ArrayList", name := "clear", desc := "()V" } : Jvm.MethodName) ({ cls := "java/util/ArrayList", name := "clear", desc := "()V" } : Jvm.MethodName)) ∈ tb := tb_mem 294 (by decide +kernel) rfl
theorem tw_295 : (Jvm.Cond.code ({ cls := "java/util/ArrayList", name := "clear", desc := "()V" } : Jvm.MethodName) prog_25_method_40_code (4 : Nat) (Option.none : Option Jvm.ClassFile.FieldType)) ∈ tb := tb_mem 295 (by decide +kernel) rfl
theorem tw_296 : (Jvm.Cond.methodLink "BallastTrain$Text" (35 : Nat) ({ cls := "BallastTrain$Text", name := "skipBlanks", desc := "()V" } : Jvm.MethodName)) ∈ tb := tb_mem 296 (by decide +kernel) rfl
theorem tw_298 : (Jvm.Cond.instanceMethod ({ cls := "BallastTrain$Text", name := "skipBlanks", desc := "()V" } : Jvm.MethodName)) ∈ tb := tb_mem 298 (by decide +kernel) rfl
theorem tw_299 : (Jvm.Cond.code ({ cls := "BallastTrain$Text", name := "skipBlanks", desc := "()V" } : Jvm.MethodName) prog_5_method_10_code (2 : Nat) (Option.none : Option Jvm.ClassFile.FieldType)) ∈ tb := tb_mem 299 (by decide +kernel) rfl
theorem tw_300 : (Jvm.Cond.methodLink "BallastTrain$Text" (70 : Nat) ({ cls := "BallastTrain$Text", name := "byteAt", desc := "(I)I" } : Jvm.MethodName)) ∈ tb := tb_mem 300 (by decide +kernel) rfl
theorem tw_301 : (Jvm.Cond.instanceMethod ({ cls := "BallastTrain$Text", name := "byteAt", desc := "(I)I" } : Jvm.MethodName)) ∈ tb := tb_mem 301 (by decide +kernel) rfl
theorem tw_302 : (Jvm.Cond.selects "BallastTrain$Text" ({ cls := "BallastTrain$Text", name := "byteAt", desc := "(I)I" } : Jvm.MethodName) ({ cls := "BallastTrain$Text", name := "byteAt", desc := "(I)I" } : Jvm.MethodName)) ∈ tb := tb_mem 302 (by decide +kernel) rfl
theorem tw_303 : (Jvm.Cond.code ({ cls := "BallastTrain$Text", name := "byteAt", desc := "(I)I" } : Jvm.MethodName) prog_5_method_3_code (2 : Nat) (Option.some Jvm.ClassFile.FieldType.int)) ∈ tb := tb_mem 303 (by decide +kernel) rfl
theorem tw_304 : (Jvm.Cond.methodLink "BallastTrain$Text" (38 : Nat) ({ cls := "BallastTrain$Text", name := "readOrder", desc := "()V" } : Jvm.MethodName)) ∈ tb := tb_mem 304 (by decide +kernel) rfl
theorem tw_306 : (Jvm.Cond.instanceMethod ({ cls := "BallastTrain$Text", name := "readOrder", desc := "()V" } : Jvm.MethodName)) ∈ tb := tb_mem 306 (by decide +kernel) rfl
theorem tw_307 : (Jvm.Cond.code ({ cls := "BallastTrain$Text", name := "readOrder", desc := "()V" } : Jvm.MethodName) prog_5_method_5_code (6 : Nat) (Option.none : Option Jvm.ClassFile.FieldType)) ∈ tb := tb_mem 307 (by decide +kernel) rfl
theorem tw_309 : (Jvm.Cond.methodLink "BallastTrain$Text" (43 : Nat) ({ cls := "BallastTrain$Text", name := "takeOneOf", desc := "(Ljava/lang/String;)I" } : Jvm.MethodName)) ∈ tb := tb_mem 309 (by decide +kernel) rfl
theorem tw_311 : (Jvm.Cond.instanceMethod ({ cls := "BallastTrain$Text", name := "takeOneOf", desc := "(Ljava/lang/String;)I" } : Jvm.MethodName)) ∈ tb := tb_mem 311 (by decide +kernel) rfl
theorem tw_312 : (Jvm.Cond.code ({ cls := "BallastTrain$Text", name := "takeOneOf", desc := "(Ljava/lang/String;)I" } : Jvm.MethodName) prog_5_method_6_code (4 : Nat) (Option.some Jvm.ClassFile.FieldType.int)) ∈ tb := tb_mem 312 (by decide +kernel) rfl
theorem tw_313 : (Jvm.Cond.methodLink "BallastTrain$Text" (74 : Nat) ({ cls := "java/lang/String", name := "indexOf", desc := "(I)I" } : Jvm.MethodName)) ∈ tb := tb_mem 313 (by decide +kernel) rfl
theorem tw_314 : (Jvm.Cond.instanceMethod ({ cls := "java/lang/String", name := "indexOf", desc := "(I)I" } : Jvm.MethodName)) ∈ tb := tb_mem 314 (by decide +kernel) rfl
theorem tw_315 : (Jvm.Cond.selects "java/lang/String" ({ cls := "java/lang/String", name := "indexOf", desc := "(I)I" } : Jvm.MethodName) ({ cls := "java/lang/String", name := "indexOf", desc := "(I)I" } : Jvm.MethodName)) ∈ tb := tb_mem 315 (by decide +kernel) rfl
theorem tw_316 : (Jvm.Cond.code ({ cls := "java/lang/String", name := "indexOf", desc := "(I)I" } : Jvm.MethodName) prog_17_method_79_code (2 : Nat) (Option.some Jvm.ClassFile.FieldType.int)) ∈ tb := tb_mem 316 (by decide +kernel) rfl
theorem tw_317 : (Jvm.Cond.methodLink "java/lang/String" (633 : Nat) ({ cls := "java/lang/String", name := "indexOf", desc := "(II)I" } : Jvm.MethodName)) ∈ tb := tb_mem 317 (by decide +kernel) rfl
theorem tw_318 : (Jvm.Cond.instanceMethod ({ cls := "java/lang/String", name := "indexOf", desc := "(II)I" } : Jvm.MethodName)) ∈ tb := tb_mem 318 (by decide +kernel) rfl
theorem tw_319 : (Jvm.Cond.selects "java/lang/String" ({ cls := "java/lang/String", name := "indexOf", desc := "(II)I" } : Jvm.MethodName) ({ cls := "java/lang/String", name := "indexOf", desc := "(II)I" } : Jvm.MethodName)) ∈ tb := tb_mem 319 (by decide +kernel) rfl
theorem tw_320 : (Jvm.Cond.code ({ cls := "java/lang/String", name := "indexOf", desc := "(II)I" } : Jvm.MethodName) prog_17_method_80_code (3 : Nat) (Option.some Jvm.ClassFile.FieldType.int)) ∈ tb := tb_mem 320 (by decide +kernel) rfl
theorem tw_321 : (Jvm.Cond.methodLink "java/lang/String" (492 : Nat) ({ cls := "java/lang/String", name := "isLatin1", desc := "()Z" } : Jvm.MethodName)) ∈ tb := tb_mem 321 (by decide +kernel) rfl
theorem tw_322 : (Jvm.Cond.instanceMethod ({ cls := "java/lang/String", name := "isLatin1", desc := "()Z" } : Jvm.MethodName)) ∈ tb := tb_mem 322 (by decide +kernel) rfl
theorem tw_323 : (Jvm.Cond.selects "java/lang/String" ({ cls := "java/lang/String", name := "isLatin1", desc := "()Z" } : Jvm.MethodName) ({ cls := "java/lang/String", name := "isLatin1", desc := "()Z" } : Jvm.MethodName)) ∈ tb := tb_mem 323 (by decide +kernel) rfl
theorem tw_324 : (Jvm.Cond.code ({ cls := "java/lang/String", name := "isLatin1", desc := "()Z" } : Jvm.MethodName) prog_17_method_154_code (1 : Nat) (Option.some Jvm.ClassFile.FieldType.boolean)) ∈ tb := tb_mem 324 (by decide +kernel) rfl
theorem tw_325 : (Jvm.Cond.fieldLink "java/lang/String" (38 : Nat) "java/lang/String" "COMPACT_STRINGS" "Z") ∈ tb := tb_mem 325 (by decide +kernel) rfl
theorem tw_327 : (Jvm.Cond.methodLink "java/lang/String" (505 : Nat) ({ cls := "java/lang/String", name := "length", desc := "()I" } : Jvm.MethodName)) ∈ tb := tb_mem 327 (by decide +kernel) rfl
theorem tw_328 : (Jvm.Cond.instanceMethod ({ cls := "java/lang/String", name := "length", desc := "()I" } : Jvm.MethodName)) ∈ tb := tb_mem 328 (by decide +kernel) rfl
theorem tw_329 : (Jvm.Cond.selects "java/lang/String" ({ cls := "java/lang/String", name := "length", desc := "()I" } : Jvm.MethodName) ({ cls := "java/lang/String", name := "length", desc := "()I" } : Jvm.MethodName)) ∈ tb := tb_mem 329 (by decide +kernel) rfl
theorem tw_330 : (Jvm.Cond.code ({ cls := "java/lang/String", name := "length", desc := "()I" } : Jvm.MethodName) prog_17_method_54_code (1 : Nat) (Option.some Jvm.ClassFile.FieldType.int)) ∈ tb := tb_mem 330 (by decide +kernel) rfl
theorem tw_331 : (Jvm.Cond.methodLink "java/lang/String" (335 : Nat) ({ cls := "java/lang/String", name := "coder", desc := "()B" } : Jvm.MethodName)) ∈ tb := tb_mem 331 (by decide +kernel) rfl
theorem tw_332 : (Jvm.Cond.instanceMethod ({ cls := "java/lang/String", name := "coder", desc := "()B" } : Jvm.MethodName)) ∈ tb := tb_mem 332 (by decide +kernel) rfl
theorem tw_333 : (Jvm.Cond.selects "java/lang/String" ({ cls := "java/lang/String", name := "coder", desc := "()B" } : Jvm.MethodName) ({ cls := "java/lang/String", name := "coder", desc := "()B" } : Jvm.MethodName)) ∈ tb := tb_mem 333 (by decide +kernel) rfl
theorem tw_334 : (Jvm.Cond.code ({ cls := "java/lang/String", name := "coder", desc := "()B" } : Jvm.MethodName) prog_17_method_152_code (1 : Nat) (Option.some Jvm.ClassFile.FieldType.byte)) ∈ tb := tb_mem 334 (by decide +kernel) rfl
theorem tw_335 : (Jvm.Cond.methodLink "java/lang/String" (637 : Nat) ({ cls := "java/lang/StringLatin1", name := "indexOf", desc := "([BIII)I" } : Jvm.MethodName)) ∈ tb := tb_mem 335 (by decide +kernel) rfl
theorem tw_336 : (Jvm.Cond.static ({ cls := "java/lang/StringLatin1", name := "indexOf", desc := "([BIII)I" } : Jvm.MethodName)) ∈ tb := tb_mem 336 (by decide +kernel) rfl
theorem tw_337 : (Jvm.Cond.code ({ cls := "java/lang/StringLatin1", name := "indexOf", desc := "([BIII)I" } : Jvm.MethodName) prog_18_method_22_code (4 : Nat) (Option.some Jvm.ClassFile.FieldType.int)) ∈ tb := tb_mem 337 (by decide +kernel) rfl
theorem tw_338 : (Jvm.Cond.methodLink "java/lang/StringLatin1" (88 : Nat) ({ cls := "java/lang/StringLatin1", name := "canEncode", desc := "(I)Z" } : Jvm.MethodName)) ∈ tb := tb_mem 338 (by decide +kernel) rfl
theorem tw_339 : (Jvm.Cond.static ({ cls := "java/lang/StringLatin1", name := "canEncode", desc := "(I)Z" } : Jvm.MethodName)) ∈ tb := tb_mem 339 (by decide +kernel) rfl
theorem tw_340 : (Jvm.Cond.code ({ cls := "java/lang/StringLatin1", name := "canEncode", desc := "(I)Z" } : Jvm.MethodName) prog_18_method_4_code (1 : Nat) (Option.some Jvm.ClassFile.FieldType.boolean)) ∈ tb := tb_mem 340 (by decide +kernel) rfl
theorem tw_341 : (Jvm.Cond.methodLink "java/lang/StringLatin1" (92 : Nat) ({ cls := "java/lang/Math", name := "max", desc := "(II)I" } : Jvm.MethodName)) ∈ tb := tb_mem 341 (by decide +kernel) rfl
theorem tw_342 : (Jvm.Cond.static ({ cls := "java/lang/Math", name := "max", desc := "(II)I" } : Jvm.MethodName)) ∈ tb := tb_mem 342 (by decide +kernel) rfl
theorem tw_344 : (Jvm.Cond.methodLink "java/lang/StringLatin1" (38 : Nat) ({ cls := "java/lang/Math", name := "min", desc := "(II)I" } : Jvm.MethodName)) ∈ tb := tb_mem 344 (by decide +kernel) rfl
theorem tw_345 : (Jvm.Cond.static ({ cls := "java/lang/Math", name := "min", desc := "(II)I" } : Jvm.MethodName)) ∈ tb := tb_mem 345 (by decide +kernel) rfl
theorem tw_347 : (Jvm.Cond.methodLink "java/lang/StringLatin1" (95 : Nat) ({ cls := "java/lang/StringLatin1", name := "indexOfChar", desc := "([BIII)I" } : Jvm.MethodName)) ∈ tb := tb_mem 347 (by decide +kernel) rfl
theorem tw_348 : (Jvm.Cond.static ({ cls := "java/lang/StringLatin1", name := "indexOfChar", desc := "([BIII)I" } : Jvm.MethodName)) ∈ tb := tb_mem 348 (by decide +kernel) rfl
theorem tw_349 : (Jvm.Cond.code ({ cls := "java/lang/StringLatin1", name := "indexOfChar", desc := "([BIII)I" } : Jvm.MethodName) prog_18_method_23_code (6 : Nat) (Option.some Jvm.ClassFile.FieldType.int)) ∈ tb := tb_mem 349 (by decide +kernel) rfl
theorem tw_350 : (Jvm.Cond.methodLink "java/lang/String" (640 : Nat) ({ cls := "java/lang/StringUTF16", name := "indexOf", desc := "([BIII)I" } : Jvm.MethodName)) ∈ tb := tb_mem 350 (by decide +kernel) rfl
theorem tw_351 : (Jvm.Cond.static ({ cls := "java/lang/StringUTF16", name := "indexOf", desc := "([BIII)I" } : Jvm.MethodName)) ∈ tb := tb_mem 351 (by decide +kernel) rfl
theorem tw_352 : (Jvm.Cond.code ({ cls := "java/lang/StringUTF16", name := "indexOf", desc := "([BIII)I" } : Jvm.MethodName) prog_19_method_40_code (4 : Nat) (Option.some Jvm.ClassFile.FieldType.int)) ∈ tb := tb_mem 352 (by decide +kernel) rfl
theorem tw_353 : (Jvm.Cond.methodLink "java/lang/StringUTF16" (224 : Nat) ({ cls := "java/lang/Math", name := "max", desc := "(II)I" } : Jvm.MethodName)) ∈ tb := tb_mem 353 (by decide +kernel) rfl
theorem tw_354 : (Jvm.Cond.methodLink "java/lang/StringUTF16" (183 : Nat) ({ cls := "java/lang/Math", name := "min", desc := "(II)I" } : Jvm.MethodName)) ∈ tb := tb_mem 354 (by decide +kernel) rfl
theorem tw_355 : (Jvm.Cond.constant "java/lang/StringUTF16" (227 : Nat) (65536 : Int32)) ∈ tb := tb_mem 355 (by decide +kernel) rfl
theorem tw_356 : (Jvm.Cond.methodLink "java/lang/StringUTF16" (228 : Nat) ({ cls := "java/lang/StringUTF16", name := "indexOfChar", desc := "([BIII)I" } : Jvm.MethodName)) ∈ tb := tb_mem 356 (by decide +kernel) rfl
theorem tw_357 : (Jvm.Cond.static ({ cls := "java/lang/StringUTF16", name := "indexOfChar", desc := "([BIII)I" } : Jvm.MethodName)) ∈ tb := tb_mem 357 (by decide +kernel) rfl
theorem tw_358 : (Jvm.Cond.code ({ cls := "java/lang/StringUTF16", name := "indexOfChar", desc := "([BIII)I" } : Jvm.MethodName) prog_19_method_47_code (4 : Nat) (Option.some Jvm.ClassFile.FieldType.int)) ∈ tb := tb_mem 358 (by decide +kernel) rfl
theorem tw_359 : (Jvm.Cond.methodLink "java/lang/StringUTF16" (96 : Nat) ({ cls := "java/lang/StringUTF16", name := "checkBoundsBeginEnd", desc := "(II[B)V" } : Jvm.MethodName)) ∈ tb := tb_mem 359 (by decide +kernel) rfl
theorem tw_360 : (Jvm.Cond.static ({ cls := "java/lang/StringUTF16", name := "checkBoundsBeginEnd", desc := "(II[B)V" } : Jvm.MethodName)) ∈ tb := tb_mem 360 (by decide +kernel) rfl
theorem tw_361 : (Jvm.Cond.code ({ cls := "java/lang/StringUTF16", name := "checkBoundsBeginEnd", desc := "(II[B)V" } : Jvm.MethodName) prog_19_method_93_code (3 : Nat) (Option.none : Option Jvm.ClassFile.FieldType)) ∈ tb := tb_mem 361 (by decide +kernel) rfl
theorem tw_362 : (Jvm.Cond.methodLink "java/lang/StringUTF16" (48 : Nat) ({ cls := "java/lang/StringUTF16", name := "length", desc := "([B)I" } : Jvm.MethodName)) ∈ tb := tb_mem 362 (by decide +kernel) rfl
theorem tw_363 : (Jvm.Cond.static ({ cls := "java/lang/StringUTF16", name := "length", desc := "([B)I" } : Jvm.MethodName)) ∈ tb := tb_mem 363 (by decide +kernel) rfl
theorem tw_364 : (Jvm.Cond.code ({ cls := "java/lang/StringUTF16", name := "length", desc := "([B)I" } : Jvm.MethodName) prog_19_method_6_code (1 : Nat) (Option.some Jvm.ClassFile.FieldType.int)) ∈ tb := tb_mem 364 (by decide +kernel) rfl
theorem tw_365 : (Jvm.Cond.methodLink "java/lang/StringUTF16" (241 : Nat) ({ cls := "java/lang/String", name := "checkBoundsBeginEnd", desc := "(III)V" } : Jvm.MethodName)) ∈ tb := tb_mem 365 (by decide +kernel) rfl
theorem tw_366 : (Jvm.Cond.static ({ cls := "java/lang/String", name := "checkBoundsBeginEnd", desc := "(III)V" } : Jvm.MethodName)) ∈ tb := tb_mem 366 (by decide +kernel) rfl
theorem tw_367 : (Jvm.Cond.code ({ cls := "java/lang/String", name := "checkBoundsBeginEnd", desc := "(III)V" } : Jvm.MethodName) prog_17_method_158_code (3 : Nat) (Option.none : Option Jvm.ClassFile.FieldType)) ∈ tb := tb_mem 367 (by decide +kernel) rfl
theorem tw_368 : (Jvm.Cond.fieldLink "java/lang/String" (1053 : Nat) "jdk/internal/util/Preconditions" "SIOOBE_FORMATTER" "Ljava/util/function/BiFunction;") ∈ tb := tb_mem 368 (by decide +kernel) rfl
theorem tw_370 : (Jvm.Cond.methodLink "java/lang/String" (1062 : Nat) ({ cls := "jdk/internal/util/Preconditions", name := "checkFromToIndex", desc := "(IIILjava/util/function/BiFunction;)I" } : Jvm.MethodName)) ∈ tb := tb_mem 370 (by decide +kernel) rfl
theorem tw_371 : (Jvm.Cond.static ({ cls := "jdk/internal/util/Preconditions", name := "checkFromToIndex", desc := "(IIILjava/util/function/BiFunction;)I" } : Jvm.MethodName)) ∈ tb := tb_mem 371 (by decide +kernel) rfl
theorem tw_372 : (Jvm.Cond.code ({ cls := "jdk/internal/util/Preconditions", name := "checkFromToIndex", desc := "(IIILjava/util/function/BiFunction;)I" } : Jvm.MethodName) prog_33_method_12_code (4 : Nat) (Option.some Jvm.ClassFile.FieldType.int)) ∈ tb := tb_mem 372 (by decide +kernel) rfl
theorem tw_373 : (Jvm.Cond.methodLink "java/lang/StringUTF16" (244 : Nat) ({ cls := "java/lang/StringUTF16", name := "indexOfCharUnsafe", desc := "([BIII)I" } : Jvm.MethodName)) ∈ tb := tb_mem 373 (by decide +kernel) rfl
theorem tw_374 : (Jvm.Cond.static ({ cls := "java/lang/StringUTF16", name := "indexOfCharUnsafe", desc := "([BIII)I" } : Jvm.MethodName)) ∈ tb := tb_mem 374 (by decide +kernel) rfl
theorem tw_375 : (Jvm.Cond.code ({ cls := "java/lang/StringUTF16", name := "indexOfCharUnsafe", desc := "([BIII)I" } : Jvm.MethodName) prog_19_method_48_code (5 : Nat) (Option.some Jvm.ClassFile.FieldType.int)) ∈ tb := tb_mem 375 (by decide +kernel) rfl
theorem tw_376 : (Jvm.Cond.methodLink "java/lang/StringUTF16" (71 : Nat) ({ cls := "java/lang/StringUTF16", name := "getChar", desc := "([BI)C" } : Jvm.MethodName)) ∈ tb := tb_mem 376 (by decide +kernel) rfl
theorem tw_377 : (Jvm.Cond.static ({ cls := "java/lang/StringUTF16", name := "getChar", desc := "([BI)C" } : Jvm.MethodName)) ∈ tb := tb_mem 377 (by decide +kernel) rfl
theorem tw_378 : (Jvm.Cond.code ({ cls := "java/lang/StringUTF16", name := "getChar", desc := "([BI)C" } : Jvm.MethodName) prog_19_method_5_code (2 : Nat) (Option.some Jvm.ClassFile.FieldType.char)) ∈ tb := tb_mem 378 (by decide +kernel) rfl
theorem tw_379 : (Jvm.Cond.fieldLink "java/lang/StringUTF16" (44 : Nat) "java/lang/StringUTF16" "$assertionsDisabled" "Z") ∈ tb := tb_mem 379 (by decide +kernel) rfl
theorem tw_381 : (Jvm.Cond.fieldLink "java/lang/StringUTF16" (59 : Nat) "java/lang/StringUTF16" "HI_BYTE_SHIFT" "I") ∈ tb := tb_mem 381 (by decide +kernel) rfl
theorem tw_383 : (Jvm.Cond.fieldLink "java/lang/StringUTF16" (63 : Nat) "java/lang/StringUTF16" "LO_BYTE_SHIFT" "I") ∈ tb := tb_mem 383 (by decide +kernel) rfl
theorem tw_385 : (Jvm.Cond.methodLink "java/lang/StringUTF16" (232 : Nat) ({ cls := "java/lang/StringUTF16", name := "indexOfSupplementary", desc := "([BIII)I" } : Jvm.MethodName)) ∈ tb := tb_mem 385 (by decide +kernel) rfl
theorem tw_386 : (Jvm.Cond.static ({ cls := "java/lang/StringUTF16", name := "indexOfSupplementary", desc := "([BIII)I" } : Jvm.MethodName)) ∈ tb := tb_mem 386 (by decide +kernel) rfl
theorem tw_387 : (Jvm.Cond.code ({ cls := "java/lang/StringUTF16", name := "indexOfSupplementary", desc := "([BIII)I" } : Jvm.MethodName) prog_19_method_49_code (7 : Nat) (Option.some Jvm.ClassFile.FieldType.int)) ∈ tb := tb_mem 387 (by decide +kernel) rfl
theorem tw_388 : (Jvm.Cond.methodLink "java/lang/StringUTF16" (164 : Nat) ({ cls := "java/lang/Character", name := "isValidCodePoint", desc := "(I)Z" } : Jvm.MethodName)) ∈ tb := tb_mem 388 (by decide +kernel) rfl
theorem tw_389 : (Jvm.Cond.static ({ cls := "java/lang/Character", name := "isValidCodePoint", desc := "(I)Z" } : Jvm.MethodName)) ∈ tb := tb_mem 389 (by decide +kernel) rfl
theorem tw_390 : (Jvm.Cond.code ({ cls := "java/lang/Character", name := "isValidCodePoint", desc := "(I)Z" } : Jvm.MethodName) prog_12_method_11_code (2 : Nat) (Option.some Jvm.ClassFile.FieldType.boolean)) ∈ tb := tb_mem 390 (by decide +kernel) rfl
theorem tw_391 : (Jvm.Cond.methodLink "java/lang/StringUTF16" (157 : Nat) ({ cls := "java/lang/Character", name := "highSurrogate", desc := "(I)C" } : Jvm.MethodName)) ∈ tb := tb_mem 391 (by decide +kernel) rfl
theorem tw_392 : (Jvm.Cond.static ({ cls := "java/lang/Character", name := "highSurrogate", desc := "(I)C" } : Jvm.MethodName)) ∈ tb := tb_mem 392 (by decide +kernel) rfl
theorem tw_393 : (Jvm.Cond.code ({ cls := "java/lang/Character", name := "highSurrogate", desc := "(I)C" } : Jvm.MethodName) prog_12_method_28_code (1 : Nat) (Option.some Jvm.ClassFile.FieldType.char)) ∈ tb := tb_mem 393 (by decide +kernel) rfl
theorem tw_394 : (Jvm.Cond.constant "java/lang/Character" (110 : Nat) (55232 : Int32)) ∈ tb := tb_mem 394 (by decide +kernel) rfl
theorem tw_395 : (Jvm.Cond.methodLink "java/lang/StringUTF16" (161 : Nat) ({ cls := "java/lang/Character", name := "lowSurrogate", desc := "(I)C" } : Jvm.MethodName)) ∈ tb := tb_mem 395 (by decide +kernel) rfl
theorem tw_396 : (Jvm.Cond.static ({ cls := "java/lang/Character", name := "lowSurrogate", desc := "(I)C" } : Jvm.MethodName)) ∈ tb := tb_mem 396 (by decide +kernel) rfl
theorem tw_397 : (Jvm.Cond.code ({ cls := "java/lang/Character", name := "lowSurrogate", desc := "(I)C" } : Jvm.MethodName) prog_12_method_29_code (1 : Nat) (Option.some Jvm.ClassFile.FieldType.char)) ∈ tb := tb_mem 397 (by decide +kernel) rfl
theorem tw_398 : (Jvm.Cond.constant "java/lang/Character" (76 : Nat) (56320 : Int32)) ∈ tb := tb_mem 398 (by decide +kernel) rfl
theorem tw_399 : (Jvm.Cond.methodLink "BallastTrain$Text" (79 : Nat) ({ cls := "java/lang/String", name := "length", desc := "()I" } : Jvm.MethodName)) ∈ tb := tb_mem 399 (by decide +kernel) rfl
theorem tw_400 : (Jvm.Cond.methodLink "BallastTrain$Text" (81 : Nat) ({ cls := "BallastTrain$Text", name := "take", desc := "(III)I" } : Jvm.MethodName)) ∈ tb := tb_mem 400 (by decide +kernel) rfl
theorem tw_402 : (Jvm.Cond.instanceMethod ({ cls := "BallastTrain$Text", name := "take", desc := "(III)I" } : Jvm.MethodName)) ∈ tb := tb_mem 402 (by decide +kernel) rfl
theorem tw_403 : (Jvm.Cond.code ({ cls := "BallastTrain$Text", name := "take", desc := "(III)I" } : Jvm.MethodName) prog_5_method_8_code (4 : Nat) (Option.some Jvm.ClassFile.FieldType.int)) ∈ tb := tb_mem 403 (by decide +kernel) rfl
theorem tw_405 : (Jvm.Cond.methodLink "BallastTrain$Text" (47 : Nat) ({ cls := "BallastTrain$Text", name := "takeCell", desc := "()I" } : Jvm.MethodName)) ∈ tb := tb_mem 405 (by decide +kernel) rfl
theorem tw_407 : (Jvm.Cond.instanceMethod ({ cls := "BallastTrain$Text", name := "takeCell", desc := "()I" } : Jvm.MethodName)) ∈ tb := tb_mem 407 (by decide +kernel) rfl
theorem tw_408 : (Jvm.Cond.code ({ cls := "BallastTrain$Text", name := "takeCell", desc := "()I" } : Jvm.MethodName) prog_5_method_9_code (4 : Nat) (Option.some Jvm.ClassFile.FieldType.int)) ∈ tb := tb_mem 408 (by decide +kernel) rfl
theorem tw_409 : (Jvm.Cond.methodLink "BallastTrain$Text" (89 : Nat) ({ cls := "BallastTrain$Text", name := "isDigit", desc := "(I)Z" } : Jvm.MethodName)) ∈ tb := tb_mem 409 (by decide +kernel) rfl
theorem tw_410 : (Jvm.Cond.static ({ cls := "BallastTrain$Text", name := "isDigit", desc := "(I)Z" } : Jvm.MethodName)) ∈ tb := tb_mem 410 (by decide +kernel) rfl
theorem tw_411 : (Jvm.Cond.code ({ cls := "BallastTrain$Text", name := "isDigit", desc := "(I)Z" } : Jvm.MethodName) prog_5_method_11_code (1 : Nat) (Option.some Jvm.ClassFile.FieldType.boolean)) ∈ tb := tb_mem 411 (by decide +kernel) rfl
theorem tw_413 : (Jvm.Cond.methodLink "BallastTrain$Text" (53 : Nat) ({ cls := "BallastTrain$Text", name := "takeDigit", desc := "(II)I" } : Jvm.MethodName)) ∈ tb := tb_mem 413 (by decide +kernel) rfl
theorem tw_415 : (Jvm.Cond.instanceMethod ({ cls := "BallastTrain$Text", name := "takeDigit", desc := "(II)I" } : Jvm.MethodName)) ∈ tb := tb_mem 415 (by decide +kernel) rfl
theorem tw_416 : (Jvm.Cond.code ({ cls := "BallastTrain$Text", name := "takeDigit", desc := "(II)I" } : Jvm.MethodName) prog_5_method_7_code (3 : Nat) (Option.some Jvm.ClassFile.FieldType.int)) ∈ tb := tb_mem 416 (by decide +kernel) rfl
theorem tw_419 : (Jvm.Cond.classLink "BallastTrain$Text" (61 : Nat) "BallastTrain$Order") ∈ tb := tb_mem 419 (by decide +kernel) rfl
theorem tw_420 : (Jvm.Cond.instantiable "BallastTrain$Order" (5 : Nat)) ∈ tb := tb_mem 420 (by decide +kernel) rfl
theorem tw_421 : (Jvm.Cond.methodLink "BallastTrain$Text" (63 : Nat) ({ cls := "BallastTrain$Order", name := "<init>", desc := "(IIIII)V" } : Jvm.MethodName)) ∈ tb := tb_mem 421 (by decide +kernel) rfl
theorem tw_422 : (Jvm.Cond.instanceMethod ({ cls := "BallastTrain$Order", name := "<init>", desc := "(IIIII)V" } : Jvm.MethodName)) ∈ tb := tb_mem 422 (by decide +kernel) rfl
theorem tw_423 : (Jvm.Cond.code ({ cls := "BallastTrain$Order", name := "<init>", desc := "(IIIII)V" } : Jvm.MethodName) prog_3_method_1_code (6 : Nat) (Option.none : Option Jvm.ClassFile.FieldType)) ∈ tb := tb_mem 423 (by decide +kernel) rfl
theorem tw_424 : (Jvm.Cond.methodLink "BallastTrain$Order" (3 : Nat) ({ cls := "java/lang/Object", name := "<init>", desc := "()V" } : Jvm.MethodName)) ∈ tb := tb_mem 424 (by decide +kernel) rfl
theorem tw_425 : (Jvm.Cond.fieldLink "BallastTrain$Order" (9 : Nat) "BallastTrain$Order" "cell" "I") ∈ tb := tb_mem 425 (by decide +kernel) rfl
theorem tw_426 : (Jvm.Cond.fieldLink "BallastTrain$Order" (15 : Nat) "BallastTrain$Order" "kind" "I") ∈ tb := tb_mem 426 (by decide +kernel) rfl
theorem tw_427 : (Jvm.Cond.fieldLink "BallastTrain$Order" (18 : Nat) "BallastTrain$Order" "wagon" "I") ∈ tb := tb_mem 427 (by decide +kernel) rfl
theorem tw_428 : (Jvm.Cond.fieldLink "BallastTrain$Order" (21 : Nat) "BallastTrain$Order" "door" "I") ∈ tb := tb_mem 428 (by decide +kernel) rfl
theorem tw_429 : (Jvm.Cond.fieldLink "BallastTrain$Order" (24 : Nat) "BallastTrain$Order" "level" "I") ∈ tb := tb_mem 429 (by decide +kernel) rfl
theorem tw_442 : (Jvm.Cond.methodLink "BallastTrain$Text" (66 : Nat) ({ cls := "java/util/ArrayList", name := "add", desc := "(Ljava/lang/Object;)Z" } : Jvm.MethodName)) ∈ tb := tb_mem 442 (by decide +kernel) rfl
theorem tw_443 : (Jvm.Cond.instanceMethod ({ cls := "java/util/ArrayList", name := "add", desc := "(Ljava/lang/Object;)Z" } : Jvm.MethodName)) ∈ tb := tb_mem 443 (by decide +kernel) rfl
theorem tw_444 : (Jvm.Cond.selects "java/util/ArrayList" ({ cls := "java/util/ArrayList", name := "add", desc := "(Ljava/lang/Object;)Z" } : Jvm.MethodName) ({ cls := "java/util/ArrayList", name := "add", desc := "(Ljava/lang/Object;)Z" } : Jvm.MethodName)) ∈ tb := tb_mem 444 (by decide +kernel) rfl
theorem tw_445 : (Jvm.Cond.code ({ cls := "java/util/ArrayList", name := "add", desc := "(Ljava/lang/Object;)Z" } : Jvm.MethodName) prog_25_method_25_code (2 : Nat) (Option.some Jvm.ClassFile.FieldType.boolean)) ∈ tb := tb_mem 445 (by decide +kernel) rfl
theorem tw_446 : (Jvm.Cond.methodLink "java/util/ArrayList" (131 : Nat) ({ cls := "java/util/ArrayList", name := "add", desc := "(Ljava/lang/Object;[Ljava/lang/Object;I)V" } : Jvm.MethodName)) ∈ tb := tb_mem 446 (by decide +kernel) rfl
theorem tw_448 : (Jvm.Cond.instanceMethod ({ cls := "java/util/ArrayList", name := "add", desc := "(Ljava/lang/Object;[Ljava/lang/Object;I)V" } : Jvm.MethodName)) ∈ tb := tb_mem 448 (by decide +kernel) rfl
theorem tw_449 : (Jvm.Cond.code ({ cls := "java/util/ArrayList", name := "add", desc := "(Ljava/lang/Object;[Ljava/lang/Object;I)V" } : Jvm.MethodName) prog_25_method_24_code (4 : Nat) (Option.none : Option Jvm.ClassFile.FieldType)) ∈ tb := tb_mem 449 (by decide +kernel) rfl
theorem tw_450 : (Jvm.Cond.methodLink "java/util/ArrayList" (129 : Nat) ({ cls := "java/util/ArrayList", name := "grow", desc := "()[Ljava/lang/Object;" } : Jvm.MethodName)) ∈ tb := tb_mem 450 (by decide +kernel) rfl
theorem tw_452 : (Jvm.Cond.instanceMethod ({ cls := "java/util/ArrayList", name := "grow", desc := "()[Ljava/lang/Object;" } : Jvm.MethodName)) ∈ tb := tb_mem 452 (by decide +kernel) rfl
theorem tw_453 : (Jvm.Cond.code ({ cls := "java/util/ArrayList", name := "grow", desc := "()[Ljava/lang/Object;" } : Jvm.MethodName) prog_25_method_7_code (1 : Nat) (Option.some (Jvm.ClassFile.FieldType.array (Jvm.ClassFile.FieldType.object "java/lang/Object")))) ∈ tb := tb_mem 453 (by decide +kernel) rfl
theorem tw_454 : (Jvm.Cond.methodLink "java/util/ArrayList" (69 : Nat) ({ cls := "java/util/ArrayList", name := "grow", desc := "(I)[Ljava/lang/Object;" } : Jvm.MethodName)) ∈ tb := tb_mem 454 (by decide +kernel) rfl
theorem tw_456 : (Jvm.Cond.instanceMethod ({ cls := "java/util/ArrayList", name := "grow", desc := "(I)[Ljava/lang/Object;" } : Jvm.MethodName)) ∈ tb := tb_mem 456 (by decide +kernel) rfl
theorem tw_457 : (Jvm.Cond.code ({ cls := "java/util/ArrayList", name := "grow", desc := "(I)[Ljava/lang/Object;" } : Jvm.MethodName) prog_25_method_6_code (4 : Nat) (Option.some (Jvm.ClassFile.FieldType.array (Jvm.ClassFile.FieldType.object "java/lang/Object")))) ∈ tb := tb_mem 457 (by decide +kernel) rfl
theorem tw_458 : (Jvm.Cond.methodLink "java/util/ArrayList" (73 : Nat) ({ cls := "jdk/internal/util/ArraysSupport", name := "newLength", desc := "(III)I" } : Jvm.MethodName)) ∈ tb := tb_mem 458 (by decide +kernel) rfl
theorem tw_459 : (Jvm.Cond.static ({ cls := "jdk/internal/util/ArraysSupport", name := "newLength", desc := "(III)I" } : Jvm.MethodName)) ∈ tb := tb_mem 459 (by decide +kernel) rfl
theorem tw_460 : (Jvm.Cond.code ({ cls := "jdk/internal/util/ArraysSupport", name := "newLength", desc := "(III)I" } : Jvm.MethodName) prog_32_method_27_code (4 : Nat) (Option.some Jvm.ClassFile.FieldType.int)) ∈ tb := tb_mem 460 (by decide +kernel) rfl
theorem tw_461 : (Jvm.Cond.methodLink "jdk/internal/util/ArraysSupport" (194 : Nat) ({ cls := "java/lang/Math", name := "max", desc := "(II)I" } : Jvm.MethodName)) ∈ tb := tb_mem 461 (by decide +kernel) rfl
theorem tw_462 : (Jvm.Cond.constant "jdk/internal/util/ArraysSupport" (200 : Nat) (2147483639 : Int32)) ∈ tb := tb_mem 462 (by decide +kernel) rfl
theorem tw_463 : (Jvm.Cond.methodLink "jdk/internal/util/ArraysSupport" (201 : Nat) ({ cls := "jdk/internal/util/ArraysSupport", name := "hugeLength", desc := "(II)I" } : Jvm.MethodName)) ∈ tb := tb_mem 463 (by decide +kernel) rfl
theorem tw_464 : (Jvm.Cond.static ({ cls := "jdk/internal/util/ArraysSupport", name := "hugeLength", desc := "(II)I" } : Jvm.MethodName)) ∈ tb := tb_mem 464 (by decide +kernel) rfl
theorem tw_465 : (Jvm.Cond.code ({ cls := "jdk/internal/util/ArraysSupport", name := "hugeLength", desc := "(II)I" } : Jvm.MethodName) prog_32_method_28_code (3 : Nat) (Option.some Jvm.ClassFile.FieldType.int)) ∈ tb := tb_mem 465 (by decide +kernel) rfl
theorem tw_466 : (Jvm.Cond.methodLink "java/util/ArrayList" (66 : Nat) ({ cls := "java/util/Arrays", name := "copyOf", desc := "([Ljava/lang/Object;I)[Ljava/lang/Object;" } : Jvm.MethodName)) ∈ tb := tb_mem 466 (by decide +kernel) rfl
theorem tw_467 : (Jvm.Cond.static ({ cls := "java/util/Arrays", name := "copyOf", desc := "([Ljava/lang/Object;I)[Ljava/lang/Object;" } : Jvm.MethodName)) ∈ tb := tb_mem 467 (by decide +kernel) rfl
theorem tw_468 : (Jvm.Cond.code ({ cls := "java/util/Arrays", name := "copyOf", desc := "([Ljava/lang/Object;I)[Ljava/lang/Object;" } : Jvm.MethodName) prog_26_method_119_code (2 : Nat) (Option.some (Jvm.ClassFile.FieldType.array (Jvm.ClassFile.FieldType.object "java/lang/Object")))) ∈ tb := tb_mem 468 (by decide +kernel) rfl
theorem tw_469 : (Jvm.Cond.methodLink "java/util/Arrays" (86 : Nat) ({ cls := "java/lang/Object", name := "getClass", desc := "()Ljava/lang/Class;" } : Jvm.MethodName)) ∈ tb := tb_mem 469 (by decide +kernel) rfl
theorem tw_470 : (Jvm.Cond.instanceMethod ({ cls := "java/lang/Object", name := "getClass", desc := "()Ljava/lang/Class;" } : Jvm.MethodName)) ∈ tb := tb_mem 470 (by decide +kernel) rfl
theorem tw_481 : (Jvm.Cond.native ({ cls := "java/lang/Object", name := "getClass", desc := "()Ljava/lang/Class;" } : Jvm.MethodName)) ∈ tb := tb_mem 481 (by decide +kernel) rfl
theorem tw_482 : (Jvm.Cond.methodLink "java/util/Arrays" (300 : Nat) ({ cls := "java/util/Arrays", name := "copyOf", desc := "([Ljava/lang/Object;ILjava/lang/Class;)[Ljava/lang/Object;" } : Jvm.MethodName)) ∈ tb := tb_mem 482 (by decide +kernel) rfl
theorem tw_483 : (Jvm.Cond.static ({ cls := "java/util/Arrays", name := "copyOf", desc := "([Ljava/lang/Object;ILjava/lang/Class;)[Ljava/lang/Object;" } : Jvm.MethodName)) ∈ tb := tb_mem 483 (by decide +kernel) rfl
theorem tw_484 : (Jvm.Cond.code ({ cls := "java/util/Arrays", name := "copyOf", desc := "([Ljava/lang/Object;ILjava/lang/Class;)[Ljava/lang/Object;" } : Jvm.MethodName) prog_26_method_120_code (4 : Nat) (Option.some (Jvm.ClassFile.FieldType.array (Jvm.ClassFile.FieldType.object "java/lang/Object")))) ∈ tb := tb_mem 484 (by decide +kernel) rfl
theorem tw_485 : (Jvm.Cond.classLink "java/util/Arrays" (110 : Nat) "[Ljava/lang/Object;") ∈ tb := tb_mem 485 (by decide +kernel) rfl
theorem tw_487 : (Jvm.Cond.classLink "java/util/Arrays" (2 : Nat) "java/lang/Object") ∈ tb := tb_mem 487 (by decide +kernel) rfl
theorem tw_488 : (Jvm.Cond.methodLink "java/util/Arrays" (304 : Nat) ({ cls := "java/lang/Math", name := "min", desc := "(II)I" } : Jvm.MethodName)) ∈ tb := tb_mem 488 (by decide +kernel) rfl
theorem tw_489 : (Jvm.Cond.methodLink "java/util/Arrays" (150 : Nat) ({ cls := "java/lang/System", name := "arraycopy", desc := "(Ljava/lang/Object;ILjava/lang/Object;II)V" } : Jvm.MethodName)) ∈ tb := tb_mem 489 (by decide +kernel) rfl
theorem tw_490 : (Jvm.Cond.static ({ cls := "java/lang/System", name := "arraycopy", desc := "(Ljava/lang/Object;ILjava/lang/Object;II)V" } : Jvm.MethodName)) ∈ tb := tb_mem 490 (by decide +kernel) rfl
theorem tw_491 : (Jvm.Cond.native ({ cls := "java/lang/System", name := "arraycopy", desc := "(Ljava/lang/Object;ILjava/lang/Object;II)V" } : Jvm.MethodName)) ∈ tb := tb_mem 491 (by decide +kernel) rfl
theorem tw_492 : (Jvm.Cond.methodLink "java/util/ArrayList" (79 : Nat) ({ cls := "java/lang/Math", name := "max", desc := "(II)I" } : Jvm.MethodName)) ∈ tb := tb_mem 492 (by decide +kernel) rfl
theorem tw_493 : (Jvm.Cond.classLink "java/util/ArrayList" (7 : Nat) "java/lang/Object") ∈ tb := tb_mem 493 (by decide +kernel) rfl
theorem tw_494 : (Jvm.Cond.methodLink "BallastTrainLaw" (27 : Nat) ({ cls := "BallastTrain", name := "set", desc := "(II)I" } : Jvm.MethodName)) ∈ tb := tb_mem 494 (by decide +kernel) rfl
theorem tw_495 : (Jvm.Cond.instanceMethod ({ cls := "BallastTrain", name := "set", desc := "(II)I" } : Jvm.MethodName)) ∈ tb := tb_mem 495 (by decide +kernel) rfl
theorem tw_496 : (Jvm.Cond.selects "BallastTrain" ({ cls := "BallastTrain", name := "set", desc := "(II)I" } : Jvm.MethodName) ({ cls := "BallastTrain", name := "set", desc := "(II)I" } : Jvm.MethodName)) ∈ tb := tb_mem 496 (by decide +kernel) rfl
theorem tw_497 : (Jvm.Cond.code ({ cls := "BallastTrain", name := "set", desc := "(II)I" } : Jvm.MethodName) prog_1_method_5_code (4 : Nat) (Option.some Jvm.ClassFile.FieldType.int)) ∈ tb := tb_mem 497 (by decide +kernel) rfl
theorem tw_498 : (Jvm.Cond.fieldLink "BallastTrain" (51 : Nat) "BallastTrain" "LEAST_SETTING" "[I") ∈ tb := tb_mem 498 (by decide +kernel) rfl
theorem tw_500 : (Jvm.Cond.fieldLink "BallastTrain" (55 : Nat) "BallastTrain" "MOST_SETTING" "[I") ∈ tb := tb_mem 500 (by decide +kernel) rfl
theorem tw_502 : (Jvm.Cond.methodLink "BallastTrain" (58 : Nat) ({ cls := "BallastTrain$History", name := "keep", desc := "(LBallastTrain$State;)V" } : Jvm.MethodName)) ∈ tb := tb_mem 502 (by decide +kernel) rfl
theorem tw_503 : (Jvm.Cond.instanceMethod ({ cls := "BallastTrain$History", name := "keep", desc := "(LBallastTrain$State;)V" } : Jvm.MethodName)) ∈ tb := tb_mem 503 (by decide +kernel) rfl
theorem tw_504 : (Jvm.Cond.selects "BallastTrain$History" ({ cls := "BallastTrain$History", name := "keep", desc := "(LBallastTrain$State;)V" } : Jvm.MethodName) ({ cls := "BallastTrain$History", name := "keep", desc := "(LBallastTrain$State;)V" } : Jvm.MethodName)) ∈ tb := tb_mem 504 (by decide +kernel) rfl
theorem tw_505 : (Jvm.Cond.code ({ cls := "BallastTrain$History", name := "keep", desc := "(LBallastTrain$State;)V" } : Jvm.MethodName) prog_2_method_2_code (2 : Nat) (Option.none : Option Jvm.ClassFile.FieldType)) ∈ tb := tb_mem 505 (by decide +kernel) rfl
theorem tw_506 : (Jvm.Cond.methodLink "BallastTrain$History" (25 : Nat) ({ cls := "java/lang/Math", name := "floorMod", desc := "(II)I" } : Jvm.MethodName)) ∈ tb := tb_mem 506 (by decide +kernel) rfl
theorem tw_507 : (Jvm.Cond.static ({ cls := "java/lang/Math", name := "floorMod", desc := "(II)I" } : Jvm.MethodName)) ∈ tb := tb_mem 507 (by decide +kernel) rfl
theorem tw_508 : (Jvm.Cond.code ({ cls := "java/lang/Math", name := "floorMod", desc := "(II)I" } : Jvm.MethodName) prog_16_method_50_code (3 : Nat) (Option.some Jvm.ClassFile.FieldType.int)) ∈ tb := tb_mem 508 (by decide +kernel) rfl
theorem tw_509 : (Jvm.Cond.methodLink "BallastTrain$History" (31 : Nat) ({ cls := "BallastTrain$State", name := "copyFrom", desc := "(LBallastTrain$State;)V" } : Jvm.MethodName)) ∈ tb := tb_mem 509 (by decide +kernel) rfl
theorem tw_510 : (Jvm.Cond.instanceMethod ({ cls := "BallastTrain$State", name := "copyFrom", desc := "(LBallastTrain$State;)V" } : Jvm.MethodName)) ∈ tb := tb_mem 510 (by decide +kernel) rfl
theorem tw_511 : (Jvm.Cond.selects "BallastTrain$State" ({ cls := "BallastTrain$State", name := "copyFrom", desc := "(LBallastTrain$State;)V" } : Jvm.MethodName) ({ cls := "BallastTrain$State", name := "copyFrom", desc := "(LBallastTrain$State;)V" } : Jvm.MethodName)) ∈ tb := tb_mem 511 (by decide +kernel) rfl
theorem tw_512 : (Jvm.Cond.code ({ cls := "BallastTrain$State", name := "copyFrom", desc := "(LBallastTrain$State;)V" } : Jvm.MethodName) prog_4_method_2_code (2 : Nat) (Option.none : Option Jvm.ClassFile.FieldType)) ∈ tb := tb_mem 512 (by decide +kernel) rfl
theorem tw_514 : (Jvm.Cond.static ({ cls := "BallastTrain", name := "copyRow", desc := "([I[I)V" } : Jvm.MethodName)) ∈ tb := tb_mem 514 (by decide +kernel) rfl
theorem tw_515 : (Jvm.Cond.code ({ cls := "BallastTrain", name := "copyRow", desc := "([I[I)V" } : Jvm.MethodName) prog_1_method_33_code (2 : Nat) (Option.none : Option Jvm.ClassFile.FieldType)) ∈ tb := tb_mem 515 (by decide +kernel) rfl
theorem tw_516 : (Jvm.Cond.methodLink "BallastTrain" (151 : Nat) ({ cls := "java/lang/Math", name := "min", desc := "(II)I" } : Jvm.MethodName)) ∈ tb := tb_mem 516 (by decide +kernel) rfl
theorem tw_517 : (Jvm.Cond.methodLink "BallastTrain" (279 : Nat) ({ cls := "java/lang/System", name := "arraycopy", desc := "(Ljava/lang/Object;ILjava/lang/Object;II)V" } : Jvm.MethodName)) ∈ tb := tb_mem 517 (by decide +kernel) rfl
theorem tw_518 : (Jvm.Cond.methodLink "BallastTrain$State" (59 : Nat) ({ cls := "BallastTrain$Train", name := "copyFrom", desc := "(LBallastTrain$Train;)V" } : Jvm.MethodName)) ∈ tb := tb_mem 518 (by decide +kernel) rfl
theorem tw_519 : (Jvm.Cond.instanceMethod ({ cls := "BallastTrain$Train", name := "copyFrom", desc := "(LBallastTrain$Train;)V" } : Jvm.MethodName)) ∈ tb := tb_mem 519 (by decide +kernel) rfl
theorem tw_520 : (Jvm.Cond.selects "BallastTrain$Train" ({ cls := "BallastTrain$Train", name := "copyFrom", desc := "(LBallastTrain$Train;)V" } : Jvm.MethodName) ({ cls := "BallastTrain$Train", name := "copyFrom", desc := "(LBallastTrain$Train;)V" } : Jvm.MethodName)) ∈ tb := tb_mem 520 (by decide +kernel) rfl
theorem tw_521 : (Jvm.Cond.code ({ cls := "BallastTrain$Train", name := "copyFrom", desc := "(LBallastTrain$Train;)V" } : Jvm.MethodName) prog_7_method_3_code (2 : Nat) (Option.none : Option Jvm.ClassFile.FieldType)) ∈ tb := tb_mem 521 (by decide +kernel) rfl
theorem tw_523 : (Jvm.Cond.methodLink "BallastTrain$State" (63 : Nat) ({ cls := "java/util/ArrayList", name := "clear", desc := "()V" } : Jvm.MethodName)) ∈ tb := tb_mem 523 (by decide +kernel) rfl
theorem tw_525 : (Jvm.Cond.static ({ cls := "BallastTrain", name := "addAll", desc := "(Ljava/util/ArrayList;Ljava/util/ArrayList;)V" } : Jvm.MethodName)) ∈ tb := tb_mem 525 (by decide +kernel) rfl
theorem tw_526 : (Jvm.Cond.code ({ cls := "BallastTrain", name := "addAll", desc := "(Ljava/util/ArrayList;Ljava/util/ArrayList;)V" } : Jvm.MethodName) prog_1_method_34_code (3 : Nat) (Option.none : Option Jvm.ClassFile.FieldType)) ∈ tb := tb_mem 526 (by decide +kernel) rfl
theorem tw_527 : (Jvm.Cond.methodLink "BallastTrain" (116 : Nat) ({ cls := "java/util/ArrayList", name := "size", desc := "()I" } : Jvm.MethodName)) ∈ tb := tb_mem 527 (by decide +kernel) rfl
theorem tw_528 : (Jvm.Cond.instanceMethod ({ cls := "java/util/ArrayList", name := "size", desc := "()I" } : Jvm.MethodName)) ∈ tb := tb_mem 528 (by decide +kernel) rfl
theorem tw_529 : (Jvm.Cond.selects "java/util/ArrayList" ({ cls := "java/util/ArrayList", name := "size", desc := "()I" } : Jvm.MethodName) ({ cls := "java/util/ArrayList", name := "size", desc := "()I" } : Jvm.MethodName)) ∈ tb := tb_mem 529 (by decide +kernel) rfl
theorem tw_530 : (Jvm.Cond.code ({ cls := "java/util/ArrayList", name := "size", desc := "()I" } : Jvm.MethodName) prog_25_method_8_code (1 : Nat) (Option.some Jvm.ClassFile.FieldType.int)) ∈ tb := tb_mem 530 (by decide +kernel) rfl
theorem tw_531 : (Jvm.Cond.methodLink "BallastTrain" (203 : Nat) ({ cls := "java/util/ArrayList", name := "get", desc := "(I)Ljava/lang/Object;" } : Jvm.MethodName)) ∈ tb := tb_mem 531 (by decide +kernel) rfl
theorem tw_532 : (Jvm.Cond.instanceMethod ({ cls := "java/util/ArrayList", name := "get", desc := "(I)Ljava/lang/Object;" } : Jvm.MethodName)) ∈ tb := tb_mem 532 (by decide +kernel) rfl
theorem tw_533 : (Jvm.Cond.selects "java/util/ArrayList" ({ cls := "java/util/ArrayList", name := "get", desc := "(I)Ljava/lang/Object;" } : Jvm.MethodName) ({ cls := "java/util/ArrayList", name := "get", desc := "(I)Ljava/lang/Object;" } : Jvm.MethodName)) ∈ tb := tb_mem 533 (by decide +kernel) rfl
theorem tw_534 : (Jvm.Cond.code ({ cls := "java/util/ArrayList", name := "get", desc := "(I)Ljava/lang/Object;" } : Jvm.MethodName) prog_25_method_20_code (2 : Nat) (Option.some (Jvm.ClassFile.FieldType.object "java/lang/Object"))) ∈ tb := tb_mem 534 (by decide +kernel) rfl
theorem tw_535 : (Jvm.Cond.methodLink "java/util/ArrayList" (118 : Nat) ({ cls := "java/util/Objects", name := "checkIndex", desc := "(II)I" } : Jvm.MethodName)) ∈ tb := tb_mem 535 (by decide +kernel) rfl
theorem tw_536 : (Jvm.Cond.static ({ cls := "java/util/Objects", name := "checkIndex", desc := "(II)I" } : Jvm.MethodName)) ∈ tb := tb_mem 536 (by decide +kernel) rfl
theorem tw_537 : (Jvm.Cond.code ({ cls := "java/util/Objects", name := "checkIndex", desc := "(II)I" } : Jvm.MethodName) prog_29_method_17_code (2 : Nat) (Option.some Jvm.ClassFile.FieldType.int)) ∈ tb := tb_mem 537 (by decide +kernel) rfl
theorem tw_538 : (Jvm.Cond.methodLink "java/util/Objects" (105 : Nat) ({ cls := "jdk/internal/util/Preconditions", name := "checkIndex", desc := "(IILjava/util/function/BiFunction;)I" } : Jvm.MethodName)) ∈ tb := tb_mem 538 (by decide +kernel) rfl
theorem tw_539 : (Jvm.Cond.static ({ cls := "jdk/internal/util/Preconditions", name := "checkIndex", desc := "(IILjava/util/function/BiFunction;)I" } : Jvm.MethodName)) ∈ tb := tb_mem 539 (by decide +kernel) rfl
theorem tw_540 : (Jvm.Cond.code ({ cls := "jdk/internal/util/Preconditions", name := "checkIndex", desc := "(IILjava/util/function/BiFunction;)I" } : Jvm.MethodName) prog_33_method_11_code (3 : Nat) (Option.some Jvm.ClassFile.FieldType.int)) ∈ tb := tb_mem 540 (by decide +kernel) rfl
theorem tw_541 : (Jvm.Cond.methodLink "java/util/ArrayList" (123 : Nat) ({ cls := "java/util/ArrayList", name := "elementData", desc := "(I)Ljava/lang/Object;" } : Jvm.MethodName)) ∈ tb := tb_mem 541 (by decide +kernel) rfl
theorem tw_542 : (Jvm.Cond.instanceMethod ({ cls := "java/util/ArrayList", name := "elementData", desc := "(I)Ljava/lang/Object;" } : Jvm.MethodName)) ∈ tb := tb_mem 542 (by decide +kernel) rfl
theorem tw_543 : (Jvm.Cond.selects "java/util/ArrayList" ({ cls := "java/util/ArrayList", name := "elementData", desc := "(I)Ljava/lang/Object;" } : Jvm.MethodName) ({ cls := "java/util/ArrayList", name := "elementData", desc := "(I)Ljava/lang/Object;" } : Jvm.MethodName)) ∈ tb := tb_mem 543 (by decide +kernel) rfl
theorem tw_544 : (Jvm.Cond.code ({ cls := "java/util/ArrayList", name := "elementData", desc := "(I)Ljava/lang/Object;" } : Jvm.MethodName) prog_25_method_18_code (2 : Nat) (Option.some (Jvm.ClassFile.FieldType.object "java/lang/Object"))) ∈ tb := tb_mem 544 (by decide +kernel) rfl
theorem tw_545 : (Jvm.Cond.classLink "BallastTrain" (206 : Nat) "BallastTrain$Order") ∈ tb := tb_mem 545 (by decide +kernel) rfl
theorem tw_546 : (Jvm.Cond.methodLink "BallastTrain" (285 : Nat) ({ cls := "java/util/ArrayList", name := "add", desc := "(Ljava/lang/Object;)Z" } : Jvm.MethodName)) ∈ tb := tb_mem 546 (by decide +kernel) rfl
theorem tw_547 : (Jvm.Cond.methodLink "BallastTrain$History" (35 : Nat) ({ cls := "java/lang/Math", name := "min", desc := "(II)I" } : Jvm.MethodName)) ∈ tb := tb_mem 547 (by decide +kernel) rfl
theorem tw_548 : (Jvm.Cond.methodLink "BallastTrainLaw" (32 : Nat) ({ cls := "BallastTrain", name := "setTrain", desc := "(I)I" } : Jvm.MethodName)) ∈ tb := tb_mem 548 (by decide +kernel) rfl
theorem tw_549 : (Jvm.Cond.instanceMethod ({ cls := "BallastTrain", name := "setTrain", desc := "(I)I" } : Jvm.MethodName)) ∈ tb := tb_mem 549 (by decide +kernel) rfl
theorem tw_550 : (Jvm.Cond.selects "BallastTrain" ({ cls := "BallastTrain", name := "setTrain", desc := "(I)I" } : Jvm.MethodName) ({ cls := "BallastTrain", name := "setTrain", desc := "(I)I" } : Jvm.MethodName)) ∈ tb := tb_mem 550 (by decide +kernel) rfl
theorem tw_551 : (Jvm.Cond.code ({ cls := "BallastTrain", name := "setTrain", desc := "(I)I" } : Jvm.MethodName) prog_1_method_6_code (3 : Nat) (Option.some Jvm.ClassFile.FieldType.int)) ∈ tb := tb_mem 551 (by decide +kernel) rfl
theorem tw_552 : (Jvm.Cond.methodLink "BallastTrain" (69 : Nat) ({ cls := "BallastTrain$Train", name := "units", desc := "()I" } : Jvm.MethodName)) ∈ tb := tb_mem 552 (by decide +kernel) rfl
theorem tw_553 : (Jvm.Cond.instanceMethod ({ cls := "BallastTrain$Train", name := "units", desc := "()I" } : Jvm.MethodName)) ∈ tb := tb_mem 553 (by decide +kernel) rfl
theorem tw_554 : (Jvm.Cond.selects "BallastTrain$Train" ({ cls := "BallastTrain$Train", name := "units", desc := "()I" } : Jvm.MethodName) ({ cls := "BallastTrain$Train", name := "units", desc := "()I" } : Jvm.MethodName)) ∈ tb := tb_mem 554 (by decide +kernel) rfl
theorem tw_555 : (Jvm.Cond.code ({ cls := "BallastTrain$Train", name := "units", desc := "()I" } : Jvm.MethodName) prog_7_method_9_code (1 : Nat) (Option.some Jvm.ClassFile.FieldType.int)) ∈ tb := tb_mem 555 (by decide +kernel) rfl
theorem tw_557 : (Jvm.Cond.static ({ cls := "BallastTrain", name := "sum", desc := "([I)I" } : Jvm.MethodName)) ∈ tb := tb_mem 557 (by decide +kernel) rfl
theorem tw_558 : (Jvm.Cond.code ({ cls := "BallastTrain", name := "sum", desc := "([I)I" } : Jvm.MethodName) prog_1_method_32_code (6 : Nat) (Option.some Jvm.ClassFile.FieldType.int)) ∈ tb := tb_mem 558 (by decide +kernel) rfl
theorem tw_559 : (Jvm.Cond.methodLink "BallastTrain" (75 : Nat) ({ cls := "BallastTrain$Train", name := "replace", desc := "(I)V" } : Jvm.MethodName)) ∈ tb := tb_mem 559 (by decide +kernel) rfl
theorem tw_560 : (Jvm.Cond.instanceMethod ({ cls := "BallastTrain$Train", name := "replace", desc := "(I)V" } : Jvm.MethodName)) ∈ tb := tb_mem 560 (by decide +kernel) rfl
theorem tw_561 : (Jvm.Cond.selects "BallastTrain$Train" ({ cls := "BallastTrain$Train", name := "replace", desc := "(I)V" } : Jvm.MethodName) ({ cls := "BallastTrain$Train", name := "replace", desc := "(I)V" } : Jvm.MethodName)) ∈ tb := tb_mem 561 (by decide +kernel) rfl
theorem tw_562 : (Jvm.Cond.code ({ cls := "BallastTrain$Train", name := "replace", desc := "(I)V" } : Jvm.MethodName) prog_7_method_2_code (2 : Nat) (Option.none : Option Jvm.ClassFile.FieldType)) ∈ tb := tb_mem 562 (by decide +kernel) rfl
theorem tw_563 : (Jvm.Cond.methodLink "BallastTrainLaw" (36 : Nat) ({ cls := "BallastTrain", name := "load", desc := "(II)I" } : Jvm.MethodName)) ∈ tb := tb_mem 563 (by decide +kernel) rfl
theorem tw_564 : (Jvm.Cond.instanceMethod ({ cls := "BallastTrain", name := "load", desc := "(II)I" } : Jvm.MethodName)) ∈ tb := tb_mem 564 (by decide +kernel) rfl
theorem tw_565 : (Jvm.Cond.selects "BallastTrain" ({ cls := "BallastTrain", name := "load", desc := "(II)I" } : Jvm.MethodName) ({ cls := "BallastTrain", name := "load", desc := "(II)I" } : Jvm.MethodName)) ∈ tb := tb_mem 565 (by decide +kernel) rfl
theorem tw_566 : (Jvm.Cond.code ({ cls := "BallastTrain", name := "load", desc := "(II)I" } : Jvm.MethodName) prog_1_method_7_code (3 : Nat) (Option.some Jvm.ClassFile.FieldType.int)) ∈ tb := tb_mem 566 (by decide +kernel) rfl
theorem tw_567 : (Jvm.Cond.methodLink "BallastTrain" (82 : Nat) ({ cls := "BallastTrain$Train", name := "hasWagon", desc := "(I)Z" } : Jvm.MethodName)) ∈ tb := tb_mem 567 (by decide +kernel) rfl
theorem tw_568 : (Jvm.Cond.instanceMethod ({ cls := "BallastTrain$Train", name := "hasWagon", desc := "(I)Z" } : Jvm.MethodName)) ∈ tb := tb_mem 568 (by decide +kernel) rfl
theorem tw_569 : (Jvm.Cond.selects "BallastTrain$Train" ({ cls := "BallastTrain$Train", name := "hasWagon", desc := "(I)Z" } : Jvm.MethodName) ({ cls := "BallastTrain$Train", name := "hasWagon", desc := "(I)Z" } : Jvm.MethodName)) ∈ tb := tb_mem 569 (by decide +kernel) rfl
theorem tw_570 : (Jvm.Cond.code ({ cls := "BallastTrain$Train", name := "hasWagon", desc := "(I)Z" } : Jvm.MethodName) prog_7_method_4_code (2 : Nat) (Option.some Jvm.ClassFile.FieldType.boolean)) ∈ tb := tb_mem 570 (by decide +kernel) rfl
theorem tw_571 : (Jvm.Cond.methodLink "BallastTrainLaw" (40 : Nat) ({ cls := "BallastTrain", name := "door", desc := "(III)I" } : Jvm.MethodName)) ∈ tb := tb_mem 571 (by decide +kernel) rfl
theorem tw_572 : (Jvm.Cond.instanceMethod ({ cls := "BallastTrain", name := "door", desc := "(III)I" } : Jvm.MethodName)) ∈ tb := tb_mem 572 (by decide +kernel) rfl
theorem tw_573 : (Jvm.Cond.selects "BallastTrain" ({ cls := "BallastTrain", name := "door", desc := "(III)I" } : Jvm.MethodName) ({ cls := "BallastTrain", name := "door", desc := "(III)I" } : Jvm.MethodName)) ∈ tb := tb_mem 573 (by decide +kernel) rfl
theorem tw_574 : (Jvm.Cond.code ({ cls := "BallastTrain", name := "door", desc := "(III)I" } : Jvm.MethodName) prog_1_method_8_code (5 : Nat) (Option.some Jvm.ClassFile.FieldType.int)) ∈ tb := tb_mem 574 (by decide +kernel) rfl
theorem tw_575 : (Jvm.Cond.methodLink "BallastTrain" (94 : Nat) ({ cls := "BallastTrain$Train", name := "hasDoor", desc := "(II)Z" } : Jvm.MethodName)) ∈ tb := tb_mem 575 (by decide +kernel) rfl
theorem tw_576 : (Jvm.Cond.instanceMethod ({ cls := "BallastTrain$Train", name := "hasDoor", desc := "(II)Z" } : Jvm.MethodName)) ∈ tb := tb_mem 576 (by decide +kernel) rfl
theorem tw_577 : (Jvm.Cond.selects "BallastTrain$Train" ({ cls := "BallastTrain$Train", name := "hasDoor", desc := "(II)Z" } : Jvm.MethodName) ({ cls := "BallastTrain$Train", name := "hasDoor", desc := "(II)Z" } : Jvm.MethodName)) ∈ tb := tb_mem 577 (by decide +kernel) rfl
theorem tw_578 : (Jvm.Cond.code ({ cls := "BallastTrain$Train", name := "hasDoor", desc := "(II)Z" } : Jvm.MethodName) prog_7_method_5_code (3 : Nat) (Option.some Jvm.ClassFile.FieldType.boolean)) ∈ tb := tb_mem 578 (by decide +kernel) rfl
theorem tw_579 : (Jvm.Cond.methodLink "BallastTrain" (98 : Nat) ({ cls := "BallastTrain$Train", name := "levelOf", desc := "(II)I" } : Jvm.MethodName)) ∈ tb := tb_mem 579 (by decide +kernel) rfl
theorem tw_580 : (Jvm.Cond.instanceMethod ({ cls := "BallastTrain$Train", name := "levelOf", desc := "(II)I" } : Jvm.MethodName)) ∈ tb := tb_mem 580 (by decide +kernel) rfl
theorem tw_581 : (Jvm.Cond.selects "BallastTrain$Train" ({ cls := "BallastTrain$Train", name := "levelOf", desc := "(II)I" } : Jvm.MethodName) ({ cls := "BallastTrain$Train", name := "levelOf", desc := "(II)I" } : Jvm.MethodName)) ∈ tb := tb_mem 581 (by decide +kernel) rfl
theorem tw_582 : (Jvm.Cond.code ({ cls := "BallastTrain$Train", name := "levelOf", desc := "(II)I" } : Jvm.MethodName) prog_7_method_6_code (3 : Nat) (Option.some Jvm.ClassFile.FieldType.int)) ∈ tb := tb_mem 582 (by decide +kernel) rfl
theorem tw_583 : (Jvm.Cond.methodLink "BallastTrain$Train" (47 : Nat) ({ cls := "BallastTrain$Train", name := "hasDoor", desc := "(II)Z" } : Jvm.MethodName)) ∈ tb := tb_mem 583 (by decide +kernel) rfl
theorem tw_584 : (Jvm.Cond.methodLink "BallastTrain" (102 : Nat) ({ cls := "BallastTrain$Train", name := "closeDoor", desc := "(III)V" } : Jvm.MethodName)) ∈ tb := tb_mem 584 (by decide +kernel) rfl
theorem tw_585 : (Jvm.Cond.instanceMethod ({ cls := "BallastTrain$Train", name := "closeDoor", desc := "(III)V" } : Jvm.MethodName)) ∈ tb := tb_mem 585 (by decide +kernel) rfl
theorem tw_586 : (Jvm.Cond.selects "BallastTrain$Train" ({ cls := "BallastTrain$Train", name := "closeDoor", desc := "(III)V" } : Jvm.MethodName) ({ cls := "BallastTrain$Train", name := "closeDoor", desc := "(III)V" } : Jvm.MethodName)) ∈ tb := tb_mem 586 (by decide +kernel) rfl
theorem tw_587 : (Jvm.Cond.code ({ cls := "BallastTrain$Train", name := "closeDoor", desc := "(III)V" } : Jvm.MethodName) prog_7_method_13_code (4 : Nat) (Option.none : Option Jvm.ClassFile.FieldType)) ∈ tb := tb_mem 587 (by decide +kernel) rfl
theorem tw_588 : (Jvm.Cond.methodLink "BallastTrain" (106 : Nat) ({ cls := "BallastTrain$Train", name := "openDoor", desc := "(III)V" } : Jvm.MethodName)) ∈ tb := tb_mem 588 (by decide +kernel) rfl
theorem tw_589 : (Jvm.Cond.instanceMethod ({ cls := "BallastTrain$Train", name := "openDoor", desc := "(III)V" } : Jvm.MethodName)) ∈ tb := tb_mem 589 (by decide +kernel) rfl
theorem tw_590 : (Jvm.Cond.selects "BallastTrain$Train" ({ cls := "BallastTrain$Train", name := "openDoor", desc := "(III)V" } : Jvm.MethodName) ({ cls := "BallastTrain$Train", name := "openDoor", desc := "(III)V" } : Jvm.MethodName)) ∈ tb := tb_mem 590 (by decide +kernel) rfl
theorem tw_591 : (Jvm.Cond.code ({ cls := "BallastTrain$Train", name := "openDoor", desc := "(III)V" } : Jvm.MethodName) prog_7_method_12_code (4 : Nat) (Option.none : Option Jvm.ClassFile.FieldType)) ∈ tb := tb_mem 591 (by decide +kernel) rfl
theorem tw_592 : (Jvm.Cond.methodLink "BallastTrainLaw" (45 : Nat) ({ cls := "BallastTrain", name := "wish", desc := "(I)I" } : Jvm.MethodName)) ∈ tb := tb_mem 592 (by decide +kernel) rfl
theorem tw_593 : (Jvm.Cond.instanceMethod ({ cls := "BallastTrain", name := "wish", desc := "(I)I" } : Jvm.MethodName)) ∈ tb := tb_mem 593 (by decide +kernel) rfl
theorem tw_594 : (Jvm.Cond.selects "BallastTrain" ({ cls := "BallastTrain", name := "wish", desc := "(I)I" } : Jvm.MethodName) ({ cls := "BallastTrain", name := "wish", desc := "(I)I" } : Jvm.MethodName)) ∈ tb := tb_mem 594 (by decide +kernel) rfl
theorem tw_595 : (Jvm.Cond.code ({ cls := "BallastTrain", name := "wish", desc := "(I)I" } : Jvm.MethodName) prog_1_method_9_code (3 : Nat) (Option.some Jvm.ClassFile.FieldType.int)) ∈ tb := tb_mem 595 (by decide +kernel) rfl
theorem tw_596 : (Jvm.Cond.methodLink "BallastTrainLaw" (49 : Nat) ({ cls := "BallastTrain", name := "order", desc := "()I" } : Jvm.MethodName)) ∈ tb := tb_mem 596 (by decide +kernel) rfl
theorem tw_597 : (Jvm.Cond.instanceMethod ({ cls := "BallastTrain", name := "order", desc := "()I" } : Jvm.MethodName)) ∈ tb := tb_mem 597 (by decide +kernel) rfl
theorem tw_598 : (Jvm.Cond.selects "BallastTrain" ({ cls := "BallastTrain", name := "order", desc := "()I" } : Jvm.MethodName) ({ cls := "BallastTrain", name := "order", desc := "()I" } : Jvm.MethodName)) ∈ tb := tb_mem 598 (by decide +kernel) rfl
theorem tw_599 : (Jvm.Cond.code ({ cls := "BallastTrain", name := "order", desc := "()I" } : Jvm.MethodName) prog_1_method_10_code (1 : Nat) (Option.some Jvm.ClassFile.FieldType.int)) ∈ tb := tb_mem 599 (by decide +kernel) rfl
theorem tw_600 : (Jvm.Cond.methodLink "BallastTrain" (122 : Nat) ({ cls := "BallastTrain", name := "addAll", desc := "(Ljava/util/ArrayList;Ljava/util/ArrayList;)V" } : Jvm.MethodName)) ∈ tb := tb_mem 600 (by decide +kernel) rfl
theorem tw_601 : (Jvm.Cond.methodLink "BallastTrainLaw" (53 : Nat) ({ cls := "BallastTrain", name := "cancel", desc := "(I)I" } : Jvm.MethodName)) ∈ tb := tb_mem 601 (by decide +kernel) rfl
theorem tw_602 : (Jvm.Cond.instanceMethod ({ cls := "BallastTrain", name := "cancel", desc := "(I)I" } : Jvm.MethodName)) ∈ tb := tb_mem 602 (by decide +kernel) rfl
theorem tw_603 : (Jvm.Cond.selects "BallastTrain" ({ cls := "BallastTrain", name := "cancel", desc := "(I)I" } : Jvm.MethodName) ({ cls := "BallastTrain", name := "cancel", desc := "(I)I" } : Jvm.MethodName)) ∈ tb := tb_mem 603 (by decide +kernel) rfl
theorem tw_604 : (Jvm.Cond.code ({ cls := "BallastTrain", name := "cancel", desc := "(I)I" } : Jvm.MethodName) prog_1_method_11_code (2 : Nat) (Option.some Jvm.ClassFile.FieldType.int)) ∈ tb := tb_mem 604 (by decide +kernel) rfl
theorem tw_605 : (Jvm.Cond.methodLink "BallastTrain" (126 : Nat) ({ cls := "java/util/ArrayList", name := "remove", desc := "(I)Ljava/lang/Object;" } : Jvm.MethodName)) ∈ tb := tb_mem 605 (by decide +kernel) rfl
theorem tw_606 : (Jvm.Cond.instanceMethod ({ cls := "java/util/ArrayList", name := "remove", desc := "(I)Ljava/lang/Object;" } : Jvm.MethodName)) ∈ tb := tb_mem 606 (by decide +kernel) rfl
theorem tw_607 : (Jvm.Cond.selects "java/util/ArrayList" ({ cls := "java/util/ArrayList", name := "remove", desc := "(I)Ljava/lang/Object;" } : Jvm.MethodName) ({ cls := "java/util/ArrayList", name := "remove", desc := "(I)Ljava/lang/Object;" } : Jvm.MethodName)) ∈ tb := tb_mem 607 (by decide +kernel) rfl
theorem tw_608 : (Jvm.Cond.code ({ cls := "java/util/ArrayList", name := "remove", desc := "(I)Ljava/lang/Object;" } : Jvm.MethodName) prog_25_method_29_code (4 : Nat) (Option.some (Jvm.ClassFile.FieldType.object "java/lang/Object"))) ∈ tb := tb_mem 608 (by decide +kernel) rfl
theorem tw_609 : (Jvm.Cond.methodLink "java/util/ArrayList" (144 : Nat) ({ cls := "java/util/ArrayList", name := "fastRemove", desc := "([Ljava/lang/Object;I)V" } : Jvm.MethodName)) ∈ tb := tb_mem 609 (by decide +kernel) rfl
theorem tw_611 : (Jvm.Cond.instanceMethod ({ cls := "java/util/ArrayList", name := "fastRemove", desc := "([Ljava/lang/Object;I)V" } : Jvm.MethodName)) ∈ tb := tb_mem 611 (by decide +kernel) rfl
theorem tw_612 : (Jvm.Cond.code ({ cls := "java/util/ArrayList", name := "fastRemove", desc := "([Ljava/lang/Object;I)V" } : Jvm.MethodName) prog_25_method_39_code (4 : Nat) (Option.none : Option Jvm.ClassFile.FieldType)) ∈ tb := tb_mem 612 (by decide +kernel) rfl
theorem tw_613 : (Jvm.Cond.methodLink "java/util/ArrayList" (112 : Nat) ({ cls := "java/lang/System", name := "arraycopy", desc := "(Ljava/lang/Object;ILjava/lang/Object;II)V" } : Jvm.MethodName)) ∈ tb := tb_mem 613 (by decide +kernel) rfl
theorem tw_614 : (Jvm.Cond.methodLink "BallastTrainLaw" (57 : Nat) ({ cls := "BallastTrain", name := "pass", desc := "(I)I" } : Jvm.MethodName)) ∈ tb := tb_mem 614 (by decide +kernel) rfl
theorem tw_615 : (Jvm.Cond.instanceMethod ({ cls := "BallastTrain", name := "pass", desc := "(I)I" } : Jvm.MethodName)) ∈ tb := tb_mem 615 (by decide +kernel) rfl
theorem tw_616 : (Jvm.Cond.selects "BallastTrain" ({ cls := "BallastTrain", name := "pass", desc := "(I)I" } : Jvm.MethodName) ({ cls := "BallastTrain", name := "pass", desc := "(I)I" } : Jvm.MethodName)) ∈ tb := tb_mem 616 (by decide +kernel) rfl
theorem tw_617 : (Jvm.Cond.code ({ cls := "BallastTrain", name := "pass", desc := "(I)I" } : Jvm.MethodName) prog_1_method_12_code (3 : Nat) (Option.some Jvm.ClassFile.FieldType.int)) ∈ tb := tb_mem 617 (by decide +kernel) rfl
theorem tw_618 : (Jvm.Cond.methodLink "BallastTrain" (133 : Nat) ({ cls := "BallastTrain$State", name := "passSecond", desc := "()V" } : Jvm.MethodName)) ∈ tb := tb_mem 618 (by decide +kernel) rfl
theorem tw_619 : (Jvm.Cond.instanceMethod ({ cls := "BallastTrain$State", name := "passSecond", desc := "()V" } : Jvm.MethodName)) ∈ tb := tb_mem 619 (by decide +kernel) rfl
theorem tw_620 : (Jvm.Cond.selects "BallastTrain$State" ({ cls := "BallastTrain$State", name := "passSecond", desc := "()V" } : Jvm.MethodName) ({ cls := "BallastTrain$State", name := "passSecond", desc := "()V" } : Jvm.MethodName)) ∈ tb := tb_mem 620 (by decide +kernel) rfl
theorem tw_621 : (Jvm.Cond.code ({ cls := "BallastTrain$State", name := "passSecond", desc := "()V" } : Jvm.MethodName) prog_4_method_3_code (1 : Nat) (Option.none : Option Jvm.ClassFile.FieldType)) ∈ tb := tb_mem 621 (by decide +kernel) rfl
theorem tw_622 : (Jvm.Cond.methodLink "BallastTrain$State" (70 : Nat) ({ cls := "BallastTrain$Train", name := "move", desc := "()V" } : Jvm.MethodName)) ∈ tb := tb_mem 622 (by decide +kernel) rfl
theorem tw_623 : (Jvm.Cond.instanceMethod ({ cls := "BallastTrain$Train", name := "move", desc := "()V" } : Jvm.MethodName)) ∈ tb := tb_mem 623 (by decide +kernel) rfl
theorem tw_624 : (Jvm.Cond.selects "BallastTrain$Train" ({ cls := "BallastTrain$Train", name := "move", desc := "()V" } : Jvm.MethodName) ({ cls := "BallastTrain$Train", name := "move", desc := "()V" } : Jvm.MethodName)) ∈ tb := tb_mem 624 (by decide +kernel) rfl
theorem tw_625 : (Jvm.Cond.code ({ cls := "BallastTrain$Train", name := "move", desc := "()V" } : Jvm.MethodName) prog_7_method_14_code (1 : Nat) (Option.none : Option Jvm.ClassFile.FieldType)) ∈ tb := tb_mem 625 (by decide +kernel) rfl
theorem tw_626 : (Jvm.Cond.methodLink "BallastTrain$Train" (62 : Nat) ({ cls := "java/lang/Math", name := "min", desc := "(II)I" } : Jvm.MethodName)) ∈ tb := tb_mem 626 (by decide +kernel) rfl
theorem tw_627 : (Jvm.Cond.methodLink "BallastTrain$State" (73 : Nat) ({ cls := "BallastTrain$State", name := "carryOutOrders", desc := "()V" } : Jvm.MethodName)) ∈ tb := tb_mem 627 (by decide +kernel) rfl
theorem tw_629 : (Jvm.Cond.instanceMethod ({ cls := "BallastTrain$State", name := "carryOutOrders", desc := "()V" } : Jvm.MethodName)) ∈ tb := tb_mem 629 (by decide +kernel) rfl
theorem tw_630 : (Jvm.Cond.code ({ cls := "BallastTrain$State", name := "carryOutOrders", desc := "()V" } : Jvm.MethodName) prog_4_method_7_code (4 : Nat) (Option.none : Option Jvm.ClassFile.FieldType)) ∈ tb := tb_mem 630 (by decide +kernel) rfl
theorem tw_631 : (Jvm.Cond.methodLink "BallastTrain$State" (111 : Nat) ({ cls := "java/util/ArrayList", name := "size", desc := "()I" } : Jvm.MethodName)) ∈ tb := tb_mem 631 (by decide +kernel) rfl
theorem tw_632 : (Jvm.Cond.methodLink "BallastTrain$State" (115 : Nat) ({ cls := "java/util/ArrayList", name := "get", desc := "(I)Ljava/lang/Object;" } : Jvm.MethodName)) ∈ tb := tb_mem 632 (by decide +kernel) rfl
theorem tw_633 : (Jvm.Cond.classLink "BallastTrain$State" (119 : Nat) "BallastTrain$Order") ∈ tb := tb_mem 633 (by decide +kernel) rfl
theorem tw_634 : (Jvm.Cond.methodLink "BallastTrain$State" (121 : Nat) ({ cls := "BallastTrain$Order", name := "isDue", desc := "(LBallastTrain$Train;)Z" } : Jvm.MethodName)) ∈ tb := tb_mem 634 (by decide +kernel) rfl
theorem tw_635 : (Jvm.Cond.instanceMethod ({ cls := "BallastTrain$Order", name := "isDue", desc := "(LBallastTrain$Train;)Z" } : Jvm.MethodName)) ∈ tb := tb_mem 635 (by decide +kernel) rfl
theorem tw_636 : (Jvm.Cond.selects "BallastTrain$Order" ({ cls := "BallastTrain$Order", name := "isDue", desc := "(LBallastTrain$Train;)Z" } : Jvm.MethodName) ({ cls := "BallastTrain$Order", name := "isDue", desc := "(LBallastTrain$Train;)Z" } : Jvm.MethodName)) ∈ tb := tb_mem 636 (by decide +kernel) rfl
theorem tw_637 : (Jvm.Cond.code ({ cls := "BallastTrain$Order", name := "isDue", desc := "(LBallastTrain$Train;)Z" } : Jvm.MethodName) prog_3_method_3_code (2 : Nat) (Option.some Jvm.ClassFile.FieldType.boolean)) ∈ tb := tb_mem 637 (by decide +kernel) rfl
theorem tw_638 : (Jvm.Cond.methodLink "BallastTrain$Order" (32 : Nat) ({ cls := "BallastTrain$Train", name := "hasDoor", desc := "(II)Z" } : Jvm.MethodName)) ∈ tb := tb_mem 638 (by decide +kernel) rfl
theorem tw_639 : (Jvm.Cond.methodLink "BallastTrain$Order" (36 : Nat) ({ cls := "BallastTrain$Train", name := "cellBelow", desc := "(I)I" } : Jvm.MethodName)) ∈ tb := tb_mem 639 (by decide +kernel) rfl
theorem tw_640 : (Jvm.Cond.instanceMethod ({ cls := "BallastTrain$Train", name := "cellBelow", desc := "(I)I" } : Jvm.MethodName)) ∈ tb := tb_mem 640 (by decide +kernel) rfl
theorem tw_641 : (Jvm.Cond.selects "BallastTrain$Train" ({ cls := "BallastTrain$Train", name := "cellBelow", desc := "(I)I" } : Jvm.MethodName) ({ cls := "BallastTrain$Train", name := "cellBelow", desc := "(I)I" } : Jvm.MethodName)) ∈ tb := tb_mem 641 (by decide +kernel) rfl
theorem tw_642 : (Jvm.Cond.code ({ cls := "BallastTrain$Train", name := "cellBelow", desc := "(I)I" } : Jvm.MethodName) prog_7_method_8_code (2 : Nat) (Option.some Jvm.ClassFile.FieldType.int)) ∈ tb := tb_mem 642 (by decide +kernel) rfl
theorem tw_643 : (Jvm.Cond.methodLink "BallastTrain$State" (125 : Nat) ({ cls := "BallastTrain$Order", name := "carryOut", desc := "(LBallastTrain$Train;I)V" } : Jvm.MethodName)) ∈ tb := tb_mem 643 (by decide +kernel) rfl
theorem tw_644 : (Jvm.Cond.instanceMethod ({ cls := "BallastTrain$Order", name := "carryOut", desc := "(LBallastTrain$Train;I)V" } : Jvm.MethodName)) ∈ tb := tb_mem 644 (by decide +kernel) rfl
theorem tw_645 : (Jvm.Cond.selects "BallastTrain$Order" ({ cls := "BallastTrain$Order", name := "carryOut", desc := "(LBallastTrain$Train;I)V" } : Jvm.MethodName) ({ cls := "BallastTrain$Order", name := "carryOut", desc := "(LBallastTrain$Train;I)V" } : Jvm.MethodName)) ∈ tb := tb_mem 645 (by decide +kernel) rfl
theorem tw_646 : (Jvm.Cond.code ({ cls := "BallastTrain$Order", name := "carryOut", desc := "(LBallastTrain$Train;I)V" } : Jvm.MethodName) prog_3_method_4_code (3 : Nat) (Option.none : Option Jvm.ClassFile.FieldType)) ∈ tb := tb_mem 646 (by decide +kernel) rfl
theorem tw_647 : (Jvm.Cond.methodLink "BallastTrain$Order" (43 : Nat) ({ cls := "BallastTrain$Train", name := "openDoor", desc := "(III)V" } : Jvm.MethodName)) ∈ tb := tb_mem 647 (by decide +kernel) rfl
theorem tw_648 : (Jvm.Cond.methodLink "BallastTrain$Order" (47 : Nat) ({ cls := "BallastTrain$Train", name := "closeDoor", desc := "(III)V" } : Jvm.MethodName)) ∈ tb := tb_mem 648 (by decide +kernel) rfl
theorem tw_649 : (Jvm.Cond.methodLink "BallastTrain$State" (129 : Nat) ({ cls := "java/util/ArrayList", name := "set", desc := "(ILjava/lang/Object;)Ljava/lang/Object;" } : Jvm.MethodName)) ∈ tb := tb_mem 649 (by decide +kernel) rfl
theorem tw_650 : (Jvm.Cond.instanceMethod ({ cls := "java/util/ArrayList", name := "set", desc := "(ILjava/lang/Object;)Ljava/lang/Object;" } : Jvm.MethodName)) ∈ tb := tb_mem 650 (by decide +kernel) rfl
theorem tw_651 : (Jvm.Cond.selects "java/util/ArrayList" ({ cls := "java/util/ArrayList", name := "set", desc := "(ILjava/lang/Object;)Ljava/lang/Object;" } : Jvm.MethodName) ({ cls := "java/util/ArrayList", name := "set", desc := "(ILjava/lang/Object;)Ljava/lang/Object;" } : Jvm.MethodName)) ∈ tb := tb_mem 651 (by decide +kernel) rfl
theorem tw_652 : (Jvm.Cond.code ({ cls := "java/util/ArrayList", name := "set", desc := "(ILjava/lang/Object;)Ljava/lang/Object;" } : Jvm.MethodName) prog_25_method_23_code (4 : Nat) (Option.some (Jvm.ClassFile.FieldType.object "java/lang/Object"))) ∈ tb := tb_mem 652 (by decide +kernel) rfl
theorem tw_653 : (Jvm.Cond.methodLink "BallastTrain$State" (133 : Nat) ({ cls := "java/util/ArrayList", name := "remove", desc := "(I)Ljava/lang/Object;" } : Jvm.MethodName)) ∈ tb := tb_mem 653 (by decide +kernel) rfl
theorem tw_654 : (Jvm.Cond.methodLink "BallastTrain$State" (76 : Nat) ({ cls := "BallastTrain$State", name := "unload", desc := "()V" } : Jvm.MethodName)) ∈ tb := tb_mem 654 (by decide +kernel) rfl
theorem tw_656 : (Jvm.Cond.instanceMethod ({ cls := "BallastTrain$State", name := "unload", desc := "()V" } : Jvm.MethodName)) ∈ tb := tb_mem 656 (by decide +kernel) rfl
theorem tw_657 : (Jvm.Cond.code ({ cls := "BallastTrain$State", name := "unload", desc := "()V" } : Jvm.MethodName) prog_4_method_5_code (3 : Nat) (Option.none : Option Jvm.ClassFile.FieldType)) ∈ tb := tb_mem 657 (by decide +kernel) rfl
theorem tw_658 : (Jvm.Cond.methodLink "BallastTrain$State" (93 : Nat) ({ cls := "BallastTrain$Train", name := "cellBelow", desc := "(I)I" } : Jvm.MethodName)) ∈ tb := tb_mem 658 (by decide +kernel) rfl
theorem tw_659 : (Jvm.Cond.methodLink "BallastTrain$State" (96 : Nat) ({ cls := "BallastTrain$Train", name := "drop", desc := "(II)I" } : Jvm.MethodName)) ∈ tb := tb_mem 659 (by decide +kernel) rfl
theorem tw_660 : (Jvm.Cond.instanceMethod ({ cls := "BallastTrain$Train", name := "drop", desc := "(II)I" } : Jvm.MethodName)) ∈ tb := tb_mem 660 (by decide +kernel) rfl
theorem tw_661 : (Jvm.Cond.selects "BallastTrain$Train" ({ cls := "BallastTrain$Train", name := "drop", desc := "(II)I" } : Jvm.MethodName) ({ cls := "BallastTrain$Train", name := "drop", desc := "(II)I" } : Jvm.MethodName)) ∈ tb := tb_mem 661 (by decide +kernel) rfl
theorem tw_662 : (Jvm.Cond.code ({ cls := "BallastTrain$Train", name := "drop", desc := "(II)I" } : Jvm.MethodName) prog_7_method_15_code (4 : Nat) (Option.some Jvm.ClassFile.FieldType.int)) ∈ tb := tb_mem 662 (by decide +kernel) rfl
theorem tw_663 : (Jvm.Cond.methodLink "BallastTrain$State" (100 : Nat) ({ cls := "BallastTrain$State", name := "land", desc := "(III)V" } : Jvm.MethodName)) ∈ tb := tb_mem 663 (by decide +kernel) rfl
theorem tw_665 : (Jvm.Cond.instanceMethod ({ cls := "BallastTrain$State", name := "land", desc := "(III)V" } : Jvm.MethodName)) ∈ tb := tb_mem 665 (by decide +kernel) rfl
theorem tw_666 : (Jvm.Cond.code ({ cls := "BallastTrain$State", name := "land", desc := "(III)V" } : Jvm.MethodName) prog_4_method_6_code (4 : Nat) (Option.none : Option Jvm.ClassFile.FieldType)) ∈ tb := tb_mem 666 (by decide +kernel) rfl
theorem tw_667 : (Jvm.Cond.methodLink "BallastTrain$State" (104 : Nat) ({ cls := "BallastTrain$Track", name := "has", desc := "(II)Z" } : Jvm.MethodName)) ∈ tb := tb_mem 667 (by decide +kernel) rfl
theorem tw_668 : (Jvm.Cond.static ({ cls := "BallastTrain$Track", name := "has", desc := "(II)Z" } : Jvm.MethodName)) ∈ tb := tb_mem 668 (by decide +kernel) rfl
theorem tw_669 : (Jvm.Cond.code ({ cls := "BallastTrain$Track", name := "has", desc := "(II)Z" } : Jvm.MethodName) prog_6_method_2_code (2 : Nat) (Option.some Jvm.ClassFile.FieldType.boolean)) ∈ tb := tb_mem 669 (by decide +kernel) rfl
theorem tw_670 : (Jvm.Cond.methodLink "BallastTrain$State" (108 : Nat) ({ cls := "BallastTrain$Track", name := "add", desc := "(III)V" } : Jvm.MethodName)) ∈ tb := tb_mem 670 (by decide +kernel) rfl
theorem tw_671 : (Jvm.Cond.instanceMethod ({ cls := "BallastTrain$Track", name := "add", desc := "(III)V" } : Jvm.MethodName)) ∈ tb := tb_mem 671 (by decide +kernel) rfl
theorem tw_672 : (Jvm.Cond.selects "BallastTrain$Track" ({ cls := "BallastTrain$Track", name := "add", desc := "(III)V" } : Jvm.MethodName) ({ cls := "BallastTrain$Track", name := "add", desc := "(III)V" } : Jvm.MethodName)) ∈ tb := tb_mem 672 (by decide +kernel) rfl
theorem tw_673 : (Jvm.Cond.code ({ cls := "BallastTrain$Track", name := "add", desc := "(III)V" } : Jvm.MethodName) prog_6_method_4_code (4 : Nat) (Option.none : Option Jvm.ClassFile.FieldType)) ∈ tb := tb_mem 673 (by decide +kernel) rfl
theorem tw_674 : (Jvm.Cond.methodLink "BallastTrain$Track" (15 : Nat) ({ cls := "BallastTrain$Track", name := "has", desc := "(II)Z" } : Jvm.MethodName)) ∈ tb := tb_mem 674 (by decide +kernel) rfl
theorem tw_675 : (Jvm.Cond.methodLink "BallastTrain$State" (79 : Nat) ({ cls := "BallastTrain$Track", name := "slide", desc := "(I)V" } : Jvm.MethodName)) ∈ tb := tb_mem 675 (by decide +kernel) rfl
theorem tw_676 : (Jvm.Cond.instanceMethod ({ cls := "BallastTrain$Track", name := "slide", desc := "(I)V" } : Jvm.MethodName)) ∈ tb := tb_mem 676 (by decide +kernel) rfl
theorem tw_677 : (Jvm.Cond.selects "BallastTrain$Track" ({ cls := "BallastTrain$Track", name := "slide", desc := "(I)V" } : Jvm.MethodName) ({ cls := "BallastTrain$Track", name := "slide", desc := "(I)V" } : Jvm.MethodName)) ∈ tb := tb_mem 677 (by decide +kernel) rfl
theorem tw_678 : (Jvm.Cond.code ({ cls := "BallastTrain$Track", name := "slide", desc := "(I)V" } : Jvm.MethodName) prog_6_method_5_code (4 : Nat) (Option.none : Option Jvm.ClassFile.FieldType)) ∈ tb := tb_mem 678 (by decide +kernel) rfl
theorem tw_679 : (Jvm.Cond.methodLink "BallastTrain$State" (83 : Nat) ({ cls := "BallastTrain$Track", name := "cutShoulders", desc := "(I)I" } : Jvm.MethodName)) ∈ tb := tb_mem 679 (by decide +kernel) rfl
theorem tw_680 : (Jvm.Cond.instanceMethod ({ cls := "BallastTrain$Track", name := "cutShoulders", desc := "(I)I" } : Jvm.MethodName)) ∈ tb := tb_mem 680 (by decide +kernel) rfl
theorem tw_681 : (Jvm.Cond.selects "BallastTrain$Track" ({ cls := "BallastTrain$Track", name := "cutShoulders", desc := "(I)I" } : Jvm.MethodName) ({ cls := "BallastTrain$Track", name := "cutShoulders", desc := "(I)I" } : Jvm.MethodName)) ∈ tb := tb_mem 681 (by decide +kernel) rfl
theorem tw_682 : (Jvm.Cond.code ({ cls := "BallastTrain$Track", name := "cutShoulders", desc := "(I)I" } : Jvm.MethodName) prog_6_method_6_code (5 : Nat) (Option.some Jvm.ClassFile.FieldType.int)) ∈ tb := tb_mem 682 (by decide +kernel) rfl
theorem tw_683 : (Jvm.Cond.methodLink "BallastTrain$State" (87 : Nat) ({ cls := "BallastTrain$Train", name := "closeFurther", desc := "(I)I" } : Jvm.MethodName)) ∈ tb := tb_mem 683 (by decide +kernel) rfl
theorem tw_684 : (Jvm.Cond.instanceMethod ({ cls := "BallastTrain$Train", name := "closeFurther", desc := "(I)I" } : Jvm.MethodName)) ∈ tb := tb_mem 684 (by decide +kernel) rfl
theorem tw_685 : (Jvm.Cond.selects "BallastTrain$Train" ({ cls := "BallastTrain$Train", name := "closeFurther", desc := "(I)I" } : Jvm.MethodName) ({ cls := "BallastTrain$Train", name := "closeFurther", desc := "(I)I" } : Jvm.MethodName)) ∈ tb := tb_mem 685 (by decide +kernel) rfl
theorem tw_686 : (Jvm.Cond.code ({ cls := "BallastTrain$Train", name := "closeFurther", desc := "(I)I" } : Jvm.MethodName) prog_7_method_16_code (5 : Nat) (Option.some Jvm.ClassFile.FieldType.int)) ∈ tb := tb_mem 686 (by decide +kernel) rfl
theorem tw_687 : (Jvm.Cond.methodLink "BallastTrainLaw" (61 : Nat) ({ cls := "BallastTrain", name := "scrape", desc := "(III)I" } : Jvm.MethodName)) ∈ tb := tb_mem 687 (by decide +kernel) rfl
theorem tw_688 : (Jvm.Cond.instanceMethod ({ cls := "BallastTrain", name := "scrape", desc := "(III)I" } : Jvm.MethodName)) ∈ tb := tb_mem 688 (by decide +kernel) rfl
theorem tw_689 : (Jvm.Cond.selects "BallastTrain" ({ cls := "BallastTrain", name := "scrape", desc := "(III)I" } : Jvm.MethodName) ({ cls := "BallastTrain", name := "scrape", desc := "(III)I" } : Jvm.MethodName)) ∈ tb := tb_mem 689 (by decide +kernel) rfl
theorem tw_690 : (Jvm.Cond.code ({ cls := "BallastTrain", name := "scrape", desc := "(III)I" } : Jvm.MethodName) prog_1_method_13_code (5 : Nat) (Option.some Jvm.ClassFile.FieldType.int)) ∈ tb := tb_mem 690 (by decide +kernel) rfl
theorem tw_691 : (Jvm.Cond.methodLink "BallastTrain" (139 : Nat) ({ cls := "BallastTrain$Track", name := "has", desc := "(II)Z" } : Jvm.MethodName)) ∈ tb := tb_mem 691 (by decide +kernel) rfl
theorem tw_692 : (Jvm.Cond.methodLink "BallastTrain" (148 : Nat) ({ cls := "BallastTrain$Track", name := "heightAt", desc := "(II)I" } : Jvm.MethodName)) ∈ tb := tb_mem 692 (by decide +kernel) rfl
theorem tw_693 : (Jvm.Cond.instanceMethod ({ cls := "BallastTrain$Track", name := "heightAt", desc := "(II)I" } : Jvm.MethodName)) ∈ tb := tb_mem 693 (by decide +kernel) rfl
theorem tw_694 : (Jvm.Cond.selects "BallastTrain$Track" ({ cls := "BallastTrain$Track", name := "heightAt", desc := "(II)I" } : Jvm.MethodName) ({ cls := "BallastTrain$Track", name := "heightAt", desc := "(II)I" } : Jvm.MethodName)) ∈ tb := tb_mem 694 (by decide +kernel) rfl
theorem tw_695 : (Jvm.Cond.code ({ cls := "BallastTrain$Track", name := "heightAt", desc := "(II)I" } : Jvm.MethodName) prog_6_method_3_code (3 : Nat) (Option.some Jvm.ClassFile.FieldType.int)) ∈ tb := tb_mem 695 (by decide +kernel) rfl
theorem tw_696 : (Jvm.Cond.methodLink "BallastTrain" (156 : Nat) ({ cls := "BallastTrain$Track", name := "add", desc := "(III)V" } : Jvm.MethodName)) ∈ tb := tb_mem 696 (by decide +kernel) rfl
theorem tw_697 : (Jvm.Cond.methodLink "BallastTrainLaw" (65 : Nat) ({ cls := "BallastTrain", name := "undo", desc := "()I" } : Jvm.MethodName)) ∈ tb := tb_mem 697 (by decide +kernel) rfl
theorem tw_698 : (Jvm.Cond.instanceMethod ({ cls := "BallastTrain", name := "undo", desc := "()I" } : Jvm.MethodName)) ∈ tb := tb_mem 698 (by decide +kernel) rfl
theorem tw_699 : (Jvm.Cond.selects "BallastTrain" ({ cls := "BallastTrain", name := "undo", desc := "()I" } : Jvm.MethodName) ({ cls := "BallastTrain", name := "undo", desc := "()I" } : Jvm.MethodName)) ∈ tb := tb_mem 699 (by decide +kernel) rfl
theorem tw_700 : (Jvm.Cond.code ({ cls := "BallastTrain", name := "undo", desc := "()I" } : Jvm.MethodName) prog_1_method_14_code (1 : Nat) (Option.some Jvm.ClassFile.FieldType.int)) ∈ tb := tb_mem 700 (by decide +kernel) rfl
theorem tw_701 : (Jvm.Cond.methodLink "BallastTrain" (161 : Nat) ({ cls := "BallastTrain$History", name := "restore", desc := "(LBallastTrain$State;)V" } : Jvm.MethodName)) ∈ tb := tb_mem 701 (by decide +kernel) rfl
theorem tw_702 : (Jvm.Cond.instanceMethod ({ cls := "BallastTrain$History", name := "restore", desc := "(LBallastTrain$State;)V" } : Jvm.MethodName)) ∈ tb := tb_mem 702 (by decide +kernel) rfl
theorem tw_703 : (Jvm.Cond.selects "BallastTrain$History" ({ cls := "BallastTrain$History", name := "restore", desc := "(LBallastTrain$State;)V" } : Jvm.MethodName) ({ cls := "BallastTrain$History", name := "restore", desc := "(LBallastTrain$State;)V" } : Jvm.MethodName)) ∈ tb := tb_mem 703 (by decide +kernel) rfl
theorem tw_704 : (Jvm.Cond.code ({ cls := "BallastTrain$History", name := "restore", desc := "(LBallastTrain$State;)V" } : Jvm.MethodName) prog_2_method_3_code (2 : Nat) (Option.none : Option Jvm.ClassFile.FieldType)) ∈ tb := tb_mem 704 (by decide +kernel) rfl
theorem tw_705 : (Jvm.Cond.methodLink "BallastTrainLaw" (69 : Nat) ({ cls := "BallastTrain", name := "wagon", desc := "(II)I" } : Jvm.MethodName)) ∈ tb := tb_mem 705 (by decide +kernel) rfl
theorem tw_706 : (Jvm.Cond.instanceMethod ({ cls := "BallastTrain", name := "wagon", desc := "(II)I" } : Jvm.MethodName)) ∈ tb := tb_mem 706 (by decide +kernel) rfl
theorem tw_707 : (Jvm.Cond.selects "BallastTrain" ({ cls := "BallastTrain", name := "wagon", desc := "(II)I" } : Jvm.MethodName) ({ cls := "BallastTrain", name := "wagon", desc := "(II)I" } : Jvm.MethodName)) ∈ tb := tb_mem 707 (by decide +kernel) rfl
theorem tw_708 : (Jvm.Cond.code ({ cls := "BallastTrain", name := "wagon", desc := "(II)I" } : Jvm.MethodName) prog_1_method_15_code (3 : Nat) (Option.some Jvm.ClassFile.FieldType.int)) ∈ tb := tb_mem 708 (by decide +kernel) rfl
theorem tw_709 : (Jvm.Cond.methodLink "BallastTrain" (164 : Nat) ({ cls := "BallastTrain$Train", name := "cellBelow", desc := "(I)I" } : Jvm.MethodName)) ∈ tb := tb_mem 709 (by decide +kernel) rfl
theorem tw_710 : (Jvm.Cond.methodLink "BallastTrain" (168 : Nat) ({ cls := "BallastTrain$Train", name := "sumOfLevels", desc := "(I)I" } : Jvm.MethodName)) ∈ tb := tb_mem 710 (by decide +kernel) rfl
theorem tw_711 : (Jvm.Cond.instanceMethod ({ cls := "BallastTrain$Train", name := "sumOfLevels", desc := "(I)I" } : Jvm.MethodName)) ∈ tb := tb_mem 711 (by decide +kernel) rfl
theorem tw_712 : (Jvm.Cond.selects "BallastTrain$Train" ({ cls := "BallastTrain$Train", name := "sumOfLevels", desc := "(I)I" } : Jvm.MethodName) ({ cls := "BallastTrain$Train", name := "sumOfLevels", desc := "(I)I" } : Jvm.MethodName)) ∈ tb := tb_mem 712 (by decide +kernel) rfl
theorem tw_713 : (Jvm.Cond.code ({ cls := "BallastTrain$Train", name := "sumOfLevels", desc := "(I)I" } : Jvm.MethodName) prog_7_method_10_code (4 : Nat) (Option.some Jvm.ClassFile.FieldType.int)) ∈ tb := tb_mem 713 (by decide +kernel) rfl
theorem tw_714 : (Jvm.Cond.methodLink "BallastTrain$Train" (55 : Nat) ({ cls := "BallastTrain$Train", name := "levelOf", desc := "(II)I" } : Jvm.MethodName)) ∈ tb := tb_mem 714 (by decide +kernel) rfl
theorem tw_715 : (Jvm.Cond.methodLink "BallastTrain" (171 : Nat) ({ cls := "BallastTrain$Train", name := "closingDoors", desc := "(I)I" } : Jvm.MethodName)) ∈ tb := tb_mem 715 (by decide +kernel) rfl
theorem tw_716 : (Jvm.Cond.instanceMethod ({ cls := "BallastTrain$Train", name := "closingDoors", desc := "(I)I" } : Jvm.MethodName)) ∈ tb := tb_mem 716 (by decide +kernel) rfl
theorem tw_717 : (Jvm.Cond.selects "BallastTrain$Train" ({ cls := "BallastTrain$Train", name := "closingDoors", desc := "(I)I" } : Jvm.MethodName) ({ cls := "BallastTrain$Train", name := "closingDoors", desc := "(I)I" } : Jvm.MethodName)) ∈ tb := tb_mem 717 (by decide +kernel) rfl
theorem tw_718 : (Jvm.Cond.code ({ cls := "BallastTrain$Train", name := "closingDoors", desc := "(I)I" } : Jvm.MethodName) prog_7_method_11_code (4 : Nat) (Option.some Jvm.ClassFile.FieldType.int)) ∈ tb := tb_mem 718 (by decide +kernel) rfl
theorem tw_719 : (Jvm.Cond.methodLink "BallastTrain$Train" (59 : Nat) ({ cls := "BallastTrain$Train", name := "restOf", desc := "(II)I" } : Jvm.MethodName)) ∈ tb := tb_mem 719 (by decide +kernel) rfl
theorem tw_720 : (Jvm.Cond.instanceMethod ({ cls := "BallastTrain$Train", name := "restOf", desc := "(II)I" } : Jvm.MethodName)) ∈ tb := tb_mem 720 (by decide +kernel) rfl
theorem tw_721 : (Jvm.Cond.selects "BallastTrain$Train" ({ cls := "BallastTrain$Train", name := "restOf", desc := "(II)I" } : Jvm.MethodName) ({ cls := "BallastTrain$Train", name := "restOf", desc := "(II)I" } : Jvm.MethodName)) ∈ tb := tb_mem 721 (by decide +kernel) rfl
theorem tw_722 : (Jvm.Cond.code ({ cls := "BallastTrain$Train", name := "restOf", desc := "(II)I" } : Jvm.MethodName) prog_7_method_7_code (3 : Nat) (Option.some Jvm.ClassFile.FieldType.int)) ∈ tb := tb_mem 722 (by decide +kernel) rfl
theorem tw_723 : (Jvm.Cond.methodLink "BallastTrainLaw" (73 : Nat) ({ cls := "BallastTrain", name := "doorOf", desc := "(III)I" } : Jvm.MethodName)) ∈ tb := tb_mem 723 (by decide +kernel) rfl
theorem tw_724 : (Jvm.Cond.instanceMethod ({ cls := "BallastTrain", name := "doorOf", desc := "(III)I" } : Jvm.MethodName)) ∈ tb := tb_mem 724 (by decide +kernel) rfl
theorem tw_725 : (Jvm.Cond.selects "BallastTrain" ({ cls := "BallastTrain", name := "doorOf", desc := "(III)I" } : Jvm.MethodName) ({ cls := "BallastTrain", name := "doorOf", desc := "(III)I" } : Jvm.MethodName)) ∈ tb := tb_mem 725 (by decide +kernel) rfl
theorem tw_726 : (Jvm.Cond.code ({ cls := "BallastTrain", name := "doorOf", desc := "(III)I" } : Jvm.MethodName) prog_1_method_16_code (4 : Nat) (Option.some Jvm.ClassFile.FieldType.int)) ∈ tb := tb_mem 726 (by decide +kernel) rfl
theorem tw_727 : (Jvm.Cond.methodLink "BallastTrain" (177 : Nat) ({ cls := "BallastTrain$Train", name := "restOf", desc := "(II)I" } : Jvm.MethodName)) ∈ tb := tb_mem 727 (by decide +kernel) rfl
theorem tw_728 : (Jvm.Cond.methodLink "BallastTrainLaw" (77 : Nat) ({ cls := "BallastTrain", name := "height", desc := "(II)I" } : Jvm.MethodName)) ∈ tb := tb_mem 728 (by decide +kernel) rfl
theorem tw_729 : (Jvm.Cond.instanceMethod ({ cls := "BallastTrain", name := "height", desc := "(II)I" } : Jvm.MethodName)) ∈ tb := tb_mem 729 (by decide +kernel) rfl
theorem tw_730 : (Jvm.Cond.selects "BallastTrain" ({ cls := "BallastTrain", name := "height", desc := "(II)I" } : Jvm.MethodName) ({ cls := "BallastTrain", name := "height", desc := "(II)I" } : Jvm.MethodName)) ∈ tb := tb_mem 730 (by decide +kernel) rfl
theorem tw_731 : (Jvm.Cond.code ({ cls := "BallastTrain", name := "height", desc := "(II)I" } : Jvm.MethodName) prog_1_method_17_code (3 : Nat) (Option.some Jvm.ClassFile.FieldType.int)) ∈ tb := tb_mem 731 (by decide +kernel) rfl
theorem tw_732 : (Jvm.Cond.methodLink "BallastTrainLaw" (81 : Nat) ({ cls := "BallastTrain", name := "profile", desc := "(II)I" } : Jvm.MethodName)) ∈ tb := tb_mem 732 (by decide +kernel) rfl
theorem tw_733 : (Jvm.Cond.instanceMethod ({ cls := "BallastTrain", name := "profile", desc := "(II)I" } : Jvm.MethodName)) ∈ tb := tb_mem 733 (by decide +kernel) rfl
theorem tw_734 : (Jvm.Cond.selects "BallastTrain" ({ cls := "BallastTrain", name := "profile", desc := "(II)I" } : Jvm.MethodName) ({ cls := "BallastTrain", name := "profile", desc := "(II)I" } : Jvm.MethodName)) ∈ tb := tb_mem 734 (by decide +kernel) rfl
theorem tw_735 : (Jvm.Cond.code ({ cls := "BallastTrain", name := "profile", desc := "(II)I" } : Jvm.MethodName) prog_1_method_18_code (3 : Nat) (Option.some Jvm.ClassFile.FieldType.int)) ∈ tb := tb_mem 735 (by decide +kernel) rfl
theorem tw_736 : (Jvm.Cond.methodLink "BallastTrain" (180 : Nat) ({ cls := "BallastTrain$Track", name := "sumOn", desc := "(I)I" } : Jvm.MethodName)) ∈ tb := tb_mem 736 (by decide +kernel) rfl
theorem tw_737 : (Jvm.Cond.instanceMethod ({ cls := "BallastTrain$Track", name := "sumOn", desc := "(I)I" } : Jvm.MethodName)) ∈ tb := tb_mem 737 (by decide +kernel) rfl
theorem tw_738 : (Jvm.Cond.selects "BallastTrain$Track" ({ cls := "BallastTrain$Track", name := "sumOn", desc := "(I)I" } : Jvm.MethodName) ({ cls := "BallastTrain$Track", name := "sumOn", desc := "(I)I" } : Jvm.MethodName)) ∈ tb := tb_mem 738 (by decide +kernel) rfl
theorem tw_739 : (Jvm.Cond.code ({ cls := "BallastTrain$Track", name := "sumOn", desc := "(I)I" } : Jvm.MethodName) prog_6_method_8_code (4 : Nat) (Option.some Jvm.ClassFile.FieldType.int)) ∈ tb := tb_mem 739 (by decide +kernel) rfl
theorem tw_740 : (Jvm.Cond.methodLink "BallastTrain$Track" (23 : Nat) ({ cls := "BallastTrain$Track", name := "heightAt", desc := "(II)I" } : Jvm.MethodName)) ∈ tb := tb_mem 740 (by decide +kernel) rfl
theorem tw_741 : (Jvm.Cond.methodLink "BallastTrain" (183 : Nat) ({ cls := "BallastTrain$Track", name := "greatestOn", desc := "(I)I" } : Jvm.MethodName)) ∈ tb := tb_mem 741 (by decide +kernel) rfl
theorem tw_742 : (Jvm.Cond.instanceMethod ({ cls := "BallastTrain$Track", name := "greatestOn", desc := "(I)I" } : Jvm.MethodName)) ∈ tb := tb_mem 742 (by decide +kernel) rfl
theorem tw_743 : (Jvm.Cond.selects "BallastTrain$Track" ({ cls := "BallastTrain$Track", name := "greatestOn", desc := "(I)I" } : Jvm.MethodName) ({ cls := "BallastTrain$Track", name := "greatestOn", desc := "(I)I" } : Jvm.MethodName)) ∈ tb := tb_mem 743 (by decide +kernel) rfl
theorem tw_744 : (Jvm.Cond.code ({ cls := "BallastTrain$Track", name := "greatestOn", desc := "(I)I" } : Jvm.MethodName) prog_6_method_9_code (2 : Nat) (Option.some Jvm.ClassFile.FieldType.int)) ∈ tb := tb_mem 744 (by decide +kernel) rfl
theorem tw_745 : (Jvm.Cond.methodLink "BallastTrain$Track" (27 : Nat) ({ cls := "BallastTrain$Track", name := "firstGreatestOn", desc := "(I)I" } : Jvm.MethodName)) ∈ tb := tb_mem 745 (by decide +kernel) rfl
theorem tw_746 : (Jvm.Cond.instanceMethod ({ cls := "BallastTrain$Track", name := "firstGreatestOn", desc := "(I)I" } : Jvm.MethodName)) ∈ tb := tb_mem 746 (by decide +kernel) rfl
theorem tw_747 : (Jvm.Cond.selects "BallastTrain$Track" ({ cls := "BallastTrain$Track", name := "firstGreatestOn", desc := "(I)I" } : Jvm.MethodName) ({ cls := "BallastTrain$Track", name := "firstGreatestOn", desc := "(I)I" } : Jvm.MethodName)) ∈ tb := tb_mem 747 (by decide +kernel) rfl
theorem tw_748 : (Jvm.Cond.code ({ cls := "BallastTrain$Track", name := "firstGreatestOn", desc := "(I)I" } : Jvm.MethodName) prog_6_method_10_code (4 : Nat) (Option.some Jvm.ClassFile.FieldType.int)) ∈ tb := tb_mem 748 (by decide +kernel) rfl
theorem tw_749 : (Jvm.Cond.methodLink "BallastTrain" (186 : Nat) ({ cls := "BallastTrain$Track", name := "firstGreatestOn", desc := "(I)I" } : Jvm.MethodName)) ∈ tb := tb_mem 749 (by decide +kernel) rfl
theorem tw_750 : (Jvm.Cond.methodLink "BallastTrain" (189 : Nat) ({ cls := "BallastTrain$Track", name := "cellsReaching", desc := "(II)I" } : Jvm.MethodName)) ∈ tb := tb_mem 750 (by decide +kernel) rfl
theorem tw_751 : (Jvm.Cond.instanceMethod ({ cls := "BallastTrain$Track", name := "cellsReaching", desc := "(II)I" } : Jvm.MethodName)) ∈ tb := tb_mem 751 (by decide +kernel) rfl
theorem tw_752 : (Jvm.Cond.selects "BallastTrain$Track" ({ cls := "BallastTrain$Track", name := "cellsReaching", desc := "(II)I" } : Jvm.MethodName) ({ cls := "BallastTrain$Track", name := "cellsReaching", desc := "(II)I" } : Jvm.MethodName)) ∈ tb := tb_mem 752 (by decide +kernel) rfl
theorem tw_753 : (Jvm.Cond.code ({ cls := "BallastTrain$Track", name := "cellsReaching", desc := "(II)I" } : Jvm.MethodName) prog_6_method_11_code (5 : Nat) (Option.some Jvm.ClassFile.FieldType.int)) ∈ tb := tb_mem 753 (by decide +kernel) rfl
theorem tw_754 : (Jvm.Cond.methodLink "BallastTrain" (192 : Nat) ({ cls := "BallastTrain$Track", name := "longestRowReaching", desc := "(II)I" } : Jvm.MethodName)) ∈ tb := tb_mem 754 (by decide +kernel) rfl
theorem tw_755 : (Jvm.Cond.instanceMethod ({ cls := "BallastTrain$Track", name := "longestRowReaching", desc := "(II)I" } : Jvm.MethodName)) ∈ tb := tb_mem 755 (by decide +kernel) rfl
theorem tw_756 : (Jvm.Cond.selects "BallastTrain$Track" ({ cls := "BallastTrain$Track", name := "longestRowReaching", desc := "(II)I" } : Jvm.MethodName) ({ cls := "BallastTrain$Track", name := "longestRowReaching", desc := "(II)I" } : Jvm.MethodName)) ∈ tb := tb_mem 756 (by decide +kernel) rfl
theorem tw_757 : (Jvm.Cond.code ({ cls := "BallastTrain$Track", name := "longestRowReaching", desc := "(II)I" } : Jvm.MethodName) prog_6_method_12_code (6 : Nat) (Option.some Jvm.ClassFile.FieldType.int)) ∈ tb := tb_mem 757 (by decide +kernel) rfl
theorem tw_758 : (Jvm.Cond.methodLink "BallastTrain$Track" (31 : Nat) ({ cls := "java/lang/Math", name := "max", desc := "(II)I" } : Jvm.MethodName)) ∈ tb := tb_mem 758 (by decide +kernel) rfl
theorem tw_759 : (Jvm.Cond.methodLink "BallastTrain" (195 : Nat) ({ cls := "BallastTrain$Track", name := "steepestOn", desc := "(I)I" } : Jvm.MethodName)) ∈ tb := tb_mem 759 (by decide +kernel) rfl
theorem tw_760 : (Jvm.Cond.instanceMethod ({ cls := "BallastTrain$Track", name := "steepestOn", desc := "(I)I" } : Jvm.MethodName)) ∈ tb := tb_mem 760 (by decide +kernel) rfl
theorem tw_761 : (Jvm.Cond.selects "BallastTrain$Track" ({ cls := "BallastTrain$Track", name := "steepestOn", desc := "(I)I" } : Jvm.MethodName) ({ cls := "BallastTrain$Track", name := "steepestOn", desc := "(I)I" } : Jvm.MethodName)) ∈ tb := tb_mem 761 (by decide +kernel) rfl
theorem tw_762 : (Jvm.Cond.code ({ cls := "BallastTrain$Track", name := "steepestOn", desc := "(I)I" } : Jvm.MethodName) prog_6_method_13_code (5 : Nat) (Option.some Jvm.ClassFile.FieldType.int)) ∈ tb := tb_mem 762 (by decide +kernel) rfl
theorem tw_763 : (Jvm.Cond.methodLink "BallastTrain$Track" (36 : Nat) ({ cls := "java/lang/Math", name := "abs", desc := "(I)I" } : Jvm.MethodName)) ∈ tb := tb_mem 763 (by decide +kernel) rfl
theorem tw_764 : (Jvm.Cond.static ({ cls := "java/lang/Math", name := "abs", desc := "(I)I" } : Jvm.MethodName)) ∈ tb := tb_mem 764 (by decide +kernel) rfl
theorem tw_766 : (Jvm.Cond.methodLink "BallastTrainLaw" (85 : Nat) ({ cls := "BallastTrain", name := "lacking", desc := "(I)I" } : Jvm.MethodName)) ∈ tb := tb_mem 766 (by decide +kernel) rfl
theorem tw_767 : (Jvm.Cond.instanceMethod ({ cls := "BallastTrain", name := "lacking", desc := "(I)I" } : Jvm.MethodName)) ∈ tb := tb_mem 767 (by decide +kernel) rfl
theorem tw_768 : (Jvm.Cond.selects "BallastTrain" ({ cls := "BallastTrain", name := "lacking", desc := "(I)I" } : Jvm.MethodName) ({ cls := "BallastTrain", name := "lacking", desc := "(I)I" } : Jvm.MethodName)) ∈ tb := tb_mem 768 (by decide +kernel) rfl
theorem tw_769 : (Jvm.Cond.code ({ cls := "BallastTrain", name := "lacking", desc := "(I)I" } : Jvm.MethodName) prog_1_method_19_code (3 : Nat) (Option.some Jvm.ClassFile.FieldType.int)) ∈ tb := tb_mem 769 (by decide +kernel) rfl
theorem tw_770 : (Jvm.Cond.methodLink "BallastTrain" (198 : Nat) ({ cls := "BallastTrain$Track", name := "unitsBelow", desc := "(I)I" } : Jvm.MethodName)) ∈ tb := tb_mem 770 (by decide +kernel) rfl
theorem tw_771 : (Jvm.Cond.instanceMethod ({ cls := "BallastTrain$Track", name := "unitsBelow", desc := "(I)I" } : Jvm.MethodName)) ∈ tb := tb_mem 771 (by decide +kernel) rfl
theorem tw_772 : (Jvm.Cond.selects "BallastTrain$Track" ({ cls := "BallastTrain$Track", name := "unitsBelow", desc := "(I)I" } : Jvm.MethodName) ({ cls := "BallastTrain$Track", name := "unitsBelow", desc := "(I)I" } : Jvm.MethodName)) ∈ tb := tb_mem 772 (by decide +kernel) rfl
theorem tw_773 : (Jvm.Cond.code ({ cls := "BallastTrain$Track", name := "unitsBelow", desc := "(I)I" } : Jvm.MethodName) prog_6_method_14_code (7 : Nat) (Option.some Jvm.ClassFile.FieldType.int)) ∈ tb := tb_mem 773 (by decide +kernel) rfl
theorem tw_774 : (Jvm.Cond.methodLink "BallastTrain" (201 : Nat) ({ cls := "BallastTrain$Track", name := "cellBelow", desc := "(II)I" } : Jvm.MethodName)) ∈ tb := tb_mem 774 (by decide +kernel) rfl
theorem tw_775 : (Jvm.Cond.instanceMethod ({ cls := "BallastTrain$Track", name := "cellBelow", desc := "(II)I" } : Jvm.MethodName)) ∈ tb := tb_mem 775 (by decide +kernel) rfl
theorem tw_776 : (Jvm.Cond.selects "BallastTrain$Track" ({ cls := "BallastTrain$Track", name := "cellBelow", desc := "(II)I" } : Jvm.MethodName) ({ cls := "BallastTrain$Track", name := "cellBelow", desc := "(II)I" } : Jvm.MethodName)) ∈ tb := tb_mem 776 (by decide +kernel) rfl
theorem tw_777 : (Jvm.Cond.code ({ cls := "BallastTrain$Track", name := "cellBelow", desc := "(II)I" } : Jvm.MethodName) prog_6_method_15_code (5 : Nat) (Option.some Jvm.ClassFile.FieldType.int)) ∈ tb := tb_mem 777 (by decide +kernel) rfl
theorem tw_778 : (Jvm.Cond.methodLink "BallastTrain$Track" (39 : Nat) ({ cls := "BallastTrain$Track", name := "lowestIn", desc := "(I)I" } : Jvm.MethodName)) ∈ tb := tb_mem 778 (by decide +kernel) rfl
theorem tw_780 : (Jvm.Cond.instanceMethod ({ cls := "BallastTrain$Track", name := "lowestIn", desc := "(I)I" } : Jvm.MethodName)) ∈ tb := tb_mem 780 (by decide +kernel) rfl
theorem tw_781 : (Jvm.Cond.code ({ cls := "BallastTrain$Track", name := "lowestIn", desc := "(I)I" } : Jvm.MethodName) prog_6_method_16_code (4 : Nat) (Option.some Jvm.ClassFile.FieldType.int)) ∈ tb := tb_mem 781 (by decide +kernel) rfl
theorem tw_782 : (Jvm.Cond.methodLink "BallastTrain$Track" (42 : Nat) ({ cls := "java/lang/Math", name := "min", desc := "(II)I" } : Jvm.MethodName)) ∈ tb := tb_mem 782 (by decide +kernel) rfl
theorem tw_783 : (Jvm.Cond.methodLink "BallastTrainLaw" (89 : Nat) ({ cls := "BallastTrain", name := "ordered", desc := "(II)I" } : Jvm.MethodName)) ∈ tb := tb_mem 783 (by decide +kernel) rfl
theorem tw_784 : (Jvm.Cond.instanceMethod ({ cls := "BallastTrain", name := "ordered", desc := "(II)I" } : Jvm.MethodName)) ∈ tb := tb_mem 784 (by decide +kernel) rfl
theorem tw_785 : (Jvm.Cond.selects "BallastTrain" ({ cls := "BallastTrain", name := "ordered", desc := "(II)I" } : Jvm.MethodName) ({ cls := "BallastTrain", name := "ordered", desc := "(II)I" } : Jvm.MethodName)) ∈ tb := tb_mem 785 (by decide +kernel) rfl
theorem tw_786 : (Jvm.Cond.code ({ cls := "BallastTrain", name := "ordered", desc := "(II)I" } : Jvm.MethodName) prog_1_method_20_code (3 : Nat) (Option.some Jvm.ClassFile.FieldType.int)) ∈ tb := tb_mem 786 (by decide +kernel) rfl
theorem tw_787 : (Jvm.Cond.methodLink "BallastTrain" (208 : Nat) ({ cls := "BallastTrain$Order", name := "part", desc := "(I)I" } : Jvm.MethodName)) ∈ tb := tb_mem 787 (by decide +kernel) rfl
theorem tw_788 : (Jvm.Cond.instanceMethod ({ cls := "BallastTrain$Order", name := "part", desc := "(I)I" } : Jvm.MethodName)) ∈ tb := tb_mem 788 (by decide +kernel) rfl
theorem tw_789 : (Jvm.Cond.selects "BallastTrain$Order" ({ cls := "BallastTrain$Order", name := "part", desc := "(I)I" } : Jvm.MethodName) ({ cls := "BallastTrain$Order", name := "part", desc := "(I)I" } : Jvm.MethodName)) ∈ tb := tb_mem 789 (by decide +kernel) rfl
theorem tw_790 : (Jvm.Cond.code ({ cls := "BallastTrain$Order", name := "part", desc := "(I)I" } : Jvm.MethodName) prog_3_method_2_code (2 : Nat) (Option.some Jvm.ClassFile.FieldType.int)) ∈ tb := tb_mem 790 (by decide +kernel) rfl
theorem tw_791 : (Jvm.Cond.methodLink "BallastTrainLaw" (93 : Nat) ({ cls := "BallastTrain", name := "foretell", desc := "(II)I" } : Jvm.MethodName)) ∈ tb := tb_mem 791 (by decide +kernel) rfl
theorem tw_792 : (Jvm.Cond.instanceMethod ({ cls := "BallastTrain", name := "foretell", desc := "(II)I" } : Jvm.MethodName)) ∈ tb := tb_mem 792 (by decide +kernel) rfl
theorem tw_793 : (Jvm.Cond.selects "BallastTrain" ({ cls := "BallastTrain", name := "foretell", desc := "(II)I" } : Jvm.MethodName) ({ cls := "BallastTrain", name := "foretell", desc := "(II)I" } : Jvm.MethodName)) ∈ tb := tb_mem 793 (by decide +kernel) rfl
theorem tw_794 : (Jvm.Cond.code ({ cls := "BallastTrain", name := "foretell", desc := "(II)I" } : Jvm.MethodName) prog_1_method_21_code (3 : Nat) (Option.some Jvm.ClassFile.FieldType.int)) ∈ tb := tb_mem 794 (by decide +kernel) rfl
theorem tw_795 : (Jvm.Cond.methodLink "BallastTrain" (211 : Nat) ({ cls := "BallastTrain", name := "lookAhead", desc := "(I)V" } : Jvm.MethodName)) ∈ tb := tb_mem 795 (by decide +kernel) rfl
theorem tw_797 : (Jvm.Cond.instanceMethod ({ cls := "BallastTrain", name := "lookAhead", desc := "(I)V" } : Jvm.MethodName)) ∈ tb := tb_mem 797 (by decide +kernel) rfl
theorem tw_798 : (Jvm.Cond.code ({ cls := "BallastTrain", name := "lookAhead", desc := "(I)V" } : Jvm.MethodName) prog_1_method_29_code (3 : Nat) (Option.none : Option Jvm.ClassFile.FieldType)) ∈ tb := tb_mem 798 (by decide +kernel) rfl
theorem tw_799 : (Jvm.Cond.methodLink "BallastTrain" (217 : Nat) ({ cls := "BallastTrain$State", name := "copyFrom", desc := "(LBallastTrain$State;)V" } : Jvm.MethodName)) ∈ tb := tb_mem 799 (by decide +kernel) rfl
theorem tw_800 : (Jvm.Cond.methodLink "BallastTrain" (214 : Nat) ({ cls := "BallastTrain", name := "foretold", desc := "(I)I" } : Jvm.MethodName)) ∈ tb := tb_mem 800 (by decide +kernel) rfl
theorem tw_802 : (Jvm.Cond.instanceMethod ({ cls := "BallastTrain", name := "foretold", desc := "(I)I" } : Jvm.MethodName)) ∈ tb := tb_mem 802 (by decide +kernel) rfl
theorem tw_803 : (Jvm.Cond.code ({ cls := "BallastTrain", name := "foretold", desc := "(I)I" } : Jvm.MethodName) prog_1_method_30_code (2 : Nat) (Option.some Jvm.ClassFile.FieldType.int)) ∈ tb := tb_mem 803 (by decide +kernel) rfl
theorem tw_804 : (Jvm.Cond.methodLink "BallastTrain" (229 : Nat) ({ cls := "BallastTrain$Track", name := "units", desc := "()I" } : Jvm.MethodName)) ∈ tb := tb_mem 804 (by decide +kernel) rfl
theorem tw_805 : (Jvm.Cond.instanceMethod ({ cls := "BallastTrain$Track", name := "units", desc := "()I" } : Jvm.MethodName)) ∈ tb := tb_mem 805 (by decide +kernel) rfl
theorem tw_806 : (Jvm.Cond.selects "BallastTrain$Track" ({ cls := "BallastTrain$Track", name := "units", desc := "()I" } : Jvm.MethodName) ({ cls := "BallastTrain$Track", name := "units", desc := "()I" } : Jvm.MethodName)) ∈ tb := tb_mem 806 (by decide +kernel) rfl
theorem tw_807 : (Jvm.Cond.code ({ cls := "BallastTrain$Track", name := "units", desc := "()I" } : Jvm.MethodName) prog_6_method_7_code (1 : Nat) (Option.some Jvm.ClassFile.FieldType.int)) ∈ tb := tb_mem 807 (by decide +kernel) rfl
theorem tw_809 : (Jvm.Cond.methodLink "BallastTrainLaw" (97 : Nat) ({ cls := "BallastTrain", name := "emptyAfter", desc := "()I" } : Jvm.MethodName)) ∈ tb := tb_mem 809 (by decide +kernel) rfl
theorem tw_810 : (Jvm.Cond.instanceMethod ({ cls := "BallastTrain", name := "emptyAfter", desc := "()I" } : Jvm.MethodName)) ∈ tb := tb_mem 810 (by decide +kernel) rfl
theorem tw_811 : (Jvm.Cond.selects "BallastTrain" ({ cls := "BallastTrain", name := "emptyAfter", desc := "()I" } : Jvm.MethodName) ({ cls := "BallastTrain", name := "emptyAfter", desc := "()I" } : Jvm.MethodName)) ∈ tb := tb_mem 811 (by decide +kernel) rfl
theorem tw_812 : (Jvm.Cond.code ({ cls := "BallastTrain", name := "emptyAfter", desc := "()I" } : Jvm.MethodName) prog_1_method_22_code (2 : Nat) (Option.some Jvm.ClassFile.FieldType.int)) ∈ tb := tb_mem 812 (by decide +kernel) rfl
theorem tw_813 : (Jvm.Cond.methodLink "BallastTrain" (220 : Nat) ({ cls := "BallastTrain$State", name := "passSecondOfTrain", desc := "()V" } : Jvm.MethodName)) ∈ tb := tb_mem 813 (by decide +kernel) rfl
theorem tw_814 : (Jvm.Cond.instanceMethod ({ cls := "BallastTrain$State", name := "passSecondOfTrain", desc := "()V" } : Jvm.MethodName)) ∈ tb := tb_mem 814 (by decide +kernel) rfl
theorem tw_815 : (Jvm.Cond.selects "BallastTrain$State" ({ cls := "BallastTrain$State", name := "passSecondOfTrain", desc := "()V" } : Jvm.MethodName) ({ cls := "BallastTrain$State", name := "passSecondOfTrain", desc := "()V" } : Jvm.MethodName)) ∈ tb := tb_mem 815 (by decide +kernel) rfl
theorem tw_816 : (Jvm.Cond.code ({ cls := "BallastTrain$State", name := "passSecondOfTrain", desc := "()V" } : Jvm.MethodName) prog_4_method_4_code (1 : Nat) (Option.none : Option Jvm.ClassFile.FieldType)) ∈ tb := tb_mem 816 (by decide +kernel) rfl
theorem tw_817 : (Jvm.Cond.methodLink "BallastTrainLaw" (101 : Nat) ({ cls := "BallastTrain", name := "count", desc := "(I)I" } : Jvm.MethodName)) ∈ tb := tb_mem 817 (by decide +kernel) rfl
theorem tw_818 : (Jvm.Cond.instanceMethod ({ cls := "BallastTrain", name := "count", desc := "(I)I" } : Jvm.MethodName)) ∈ tb := tb_mem 818 (by decide +kernel) rfl
theorem tw_819 : (Jvm.Cond.selects "BallastTrain" ({ cls := "BallastTrain", name := "count", desc := "(I)I" } : Jvm.MethodName) ({ cls := "BallastTrain", name := "count", desc := "(I)I" } : Jvm.MethodName)) ∈ tb := tb_mem 819 (by decide +kernel) rfl
theorem tw_820 : (Jvm.Cond.code ({ cls := "BallastTrain", name := "count", desc := "(I)I" } : Jvm.MethodName) prog_1_method_23_code (2 : Nat) (Option.some Jvm.ClassFile.FieldType.int)) ∈ tb := tb_mem 820 (by decide +kernel) rfl
theorem tw_821 : (Jvm.Cond.methodLink "BallastTrainLaw" (105 : Nat) ({ cls := "BallastTrain", name := "digest", desc := "()J" } : Jvm.MethodName)) ∈ tb := tb_mem 821 (by decide +kernel) rfl
theorem tw_822 : (Jvm.Cond.instanceMethod ({ cls := "BallastTrain", name := "digest", desc := "()J" } : Jvm.MethodName)) ∈ tb := tb_mem 822 (by decide +kernel) rfl
theorem tw_823 : (Jvm.Cond.selects "BallastTrain" ({ cls := "BallastTrain", name := "digest", desc := "()J" } : Jvm.MethodName) ({ cls := "BallastTrain", name := "digest", desc := "()J" } : Jvm.MethodName)) ∈ tb := tb_mem 823 (by decide +kernel) rfl
theorem tw_824 : (Jvm.Cond.code ({ cls := "BallastTrain", name := "digest", desc := "()J" } : Jvm.MethodName) prog_1_method_24_code (4 : Nat) (Option.some Jvm.ClassFile.FieldType.long)) ∈ tb := tb_mem 824 (by decide +kernel) rfl
theorem tw_825 : (Jvm.Cond.constantLong "BallastTrain" (233 : Nat) (149 : Int64)) ∈ tb := tb_mem 825 (by decide +kernel) rfl
theorem tw_826 : (Jvm.Cond.methodLink "BallastTrain" (235 : Nat) ({ cls := "BallastTrain", name := "count", desc := "(I)I" } : Jvm.MethodName)) ∈ tb := tb_mem 826 (by decide +kernel) rfl
theorem tw_827 : (Jvm.Cond.methodLink "BallastTrain" (238 : Nat) ({ cls := "BallastTrain", name := "mixed", desc := "(JI)J" } : Jvm.MethodName)) ∈ tb := tb_mem 827 (by decide +kernel) rfl
theorem tw_828 : (Jvm.Cond.static ({ cls := "BallastTrain", name := "mixed", desc := "(JI)J" } : Jvm.MethodName)) ∈ tb := tb_mem 828 (by decide +kernel) rfl
theorem tw_829 : (Jvm.Cond.code ({ cls := "BallastTrain", name := "mixed", desc := "(JI)J" } : Jvm.MethodName) prog_1_method_28_code (3 : Nat) (Option.some Jvm.ClassFile.FieldType.long)) ∈ tb := tb_mem 829 (by decide +kernel) rfl
theorem tw_830 : (Jvm.Cond.constantLong "BallastTrain" (277 : Nat) (31 : Int64)) ∈ tb := tb_mem 830 (by decide +kernel) rfl
theorem tw_831 : (Jvm.Cond.methodLink "BallastTrain" (242 : Nat) ({ cls := "BallastTrain", name := "mixedWithTrain", desc := "(J)J" } : Jvm.MethodName)) ∈ tb := tb_mem 831 (by decide +kernel) rfl
theorem tw_833 : (Jvm.Cond.instanceMethod ({ cls := "BallastTrain", name := "mixedWithTrain", desc := "(J)J" } : Jvm.MethodName)) ∈ tb := tb_mem 833 (by decide +kernel) rfl
theorem tw_834 : (Jvm.Cond.code ({ cls := "BallastTrain", name := "mixedWithTrain", desc := "(J)J" } : Jvm.MethodName) prog_1_method_25_code (8 : Nat) (Option.some Jvm.ClassFile.FieldType.long)) ∈ tb := tb_mem 834 (by decide +kernel) rfl
theorem tw_835 : (Jvm.Cond.methodLink "BallastTrain" (258 : Nat) ({ cls := "BallastTrain", name := "wagon", desc := "(II)I" } : Jvm.MethodName)) ∈ tb := tb_mem 835 (by decide +kernel) rfl
theorem tw_836 : (Jvm.Cond.methodLink "BallastTrain" (261 : Nat) ({ cls := "BallastTrain", name := "doorOf", desc := "(III)I" } : Jvm.MethodName)) ∈ tb := tb_mem 836 (by decide +kernel) rfl
theorem tw_837 : (Jvm.Cond.methodLink "BallastTrain" (246 : Nat) ({ cls := "BallastTrain", name := "mixedWithTrack", desc := "(J)J" } : Jvm.MethodName)) ∈ tb := tb_mem 837 (by decide +kernel) rfl
theorem tw_839 : (Jvm.Cond.instanceMethod ({ cls := "BallastTrain", name := "mixedWithTrack", desc := "(J)J" } : Jvm.MethodName)) ∈ tb := tb_mem 839 (by decide +kernel) rfl
theorem tw_840 : (Jvm.Cond.code ({ cls := "BallastTrain", name := "mixedWithTrack", desc := "(J)J" } : Jvm.MethodName) prog_1_method_26_code (7 : Nat) (Option.some Jvm.ClassFile.FieldType.long)) ∈ tb := tb_mem 840 (by decide +kernel) rfl
theorem tw_841 : (Jvm.Cond.methodLink "BallastTrain" (265 : Nat) ({ cls := "BallastTrain", name := "height", desc := "(II)I" } : Jvm.MethodName)) ∈ tb := tb_mem 841 (by decide +kernel) rfl
theorem tw_842 : (Jvm.Cond.methodLink "BallastTrain" (268 : Nat) ({ cls := "BallastTrain", name := "profile", desc := "(II)I" } : Jvm.MethodName)) ∈ tb := tb_mem 842 (by decide +kernel) rfl
theorem tw_843 : (Jvm.Cond.methodLink "BallastTrain" (271 : Nat) ({ cls := "BallastTrain", name := "lacking", desc := "(I)I" } : Jvm.MethodName)) ∈ tb := tb_mem 843 (by decide +kernel) rfl
theorem tw_844 : (Jvm.Cond.methodLink "BallastTrain" (249 : Nat) ({ cls := "BallastTrain", name := "mixedWithOrders", desc := "(J)J" } : Jvm.MethodName)) ∈ tb := tb_mem 844 (by decide +kernel) rfl
theorem tw_846 : (Jvm.Cond.instanceMethod ({ cls := "BallastTrain", name := "mixedWithOrders", desc := "(J)J" } : Jvm.MethodName)) ∈ tb := tb_mem 846 (by decide +kernel) rfl
theorem tw_847 : (Jvm.Cond.code ({ cls := "BallastTrain", name := "mixedWithOrders", desc := "(J)J" } : Jvm.MethodName) prog_1_method_27_code (7 : Nat) (Option.some Jvm.ClassFile.FieldType.long)) ∈ tb := tb_mem 847 (by decide +kernel) rfl
theorem tw_848 : (Jvm.Cond.methodLink "BallastTrain" (274 : Nat) ({ cls := "BallastTrain", name := "ordered", desc := "(II)I" } : Jvm.MethodName)) ∈ tb := tb_mem 848 (by decide +kernel) rfl
theorem tw_849 : (Jvm.Cond.methodLink "BallastTrain" (252 : Nat) ({ cls := "BallastTrain", name := "emptyAfter", desc := "()I" } : Jvm.MethodName)) ∈ tb := tb_mem 849 (by decide +kernel) rfl
theorem tw_850 : (Jvm.Cond.methodLink "BallastTrain" (255 : Nat) ({ cls := "BallastTrain$Text", name := "byteAt", desc := "(I)I" } : Jvm.MethodName)) ∈ tb := tb_mem 850 (by decide +kernel) rfl
theorem tw_851 : (Jvm.Cond.classLink "BallastTrainLaw" (10 : Nat) "BallastTrainModel") ∈ tb := tb_mem 851 (by decide +kernel) rfl
theorem tw_852 : (Jvm.Cond.instantiable "BallastTrainModel" (11 : Nat)) ∈ tb := tb_mem 852 (by decide +kernel) rfl
theorem tw_853 : (Jvm.Cond.methodLink "BallastTrainLaw" (12 : Nat) ({ cls := "BallastTrainModel", name := "<init>", desc := "()V" } : Jvm.MethodName)) ∈ tb := tb_mem 853 (by decide +kernel) rfl
theorem tw_854 : (Jvm.Cond.instanceMethod ({ cls := "BallastTrainModel", name := "<init>", desc := "()V" } : Jvm.MethodName)) ∈ tb := tb_mem 854 (by decide +kernel) rfl
theorem tw_855 : (Jvm.Cond.code ({ cls := "BallastTrainModel", name := "<init>", desc := "()V" } : Jvm.MethodName) prog_9_method_1_code (1 : Nat) (Option.none : Option Jvm.ClassFile.FieldType)) ∈ tb := tb_mem 855 (by decide +kernel) rfl
theorem tw_856 : (Jvm.Cond.methodLink "BallastTrainModel" (1 : Nat) ({ cls := "java/lang/Object", name := "<init>", desc := "()V" } : Jvm.MethodName)) ∈ tb := tb_mem 856 (by decide +kernel) rfl
theorem tw_857 : (Jvm.Cond.methodLink "BallastTrainModel" (25 : Nat) ({ cls := "BallastTrainModel", name := "couples", desc := "(I)V" } : Jvm.MethodName)) ∈ tb := tb_mem 857 (by decide +kernel) rfl
theorem tw_859 : (Jvm.Cond.instanceMethod ({ cls := "BallastTrainModel", name := "couples", desc := "(I)V" } : Jvm.MethodName)) ∈ tb := tb_mem 859 (by decide +kernel) rfl
theorem tw_860 : (Jvm.Cond.code ({ cls := "BallastTrainModel", name := "couples", desc := "(I)V" } : Jvm.MethodName) prog_9_method_9_code (4 : Nat) (Option.none : Option Jvm.ClassFile.FieldType)) ∈ tb := tb_mem 860 (by decide +kernel) rfl
theorem tw_861 : (Jvm.Cond.methodLink "BallastTrainModel" (33 : Nat) ({ cls := "BallastTrainModel", name := "put", desc := "(III)V" } : Jvm.MethodName)) ∈ tb := tb_mem 861 (by decide +kernel) rfl
theorem tw_863 : (Jvm.Cond.instanceMethod ({ cls := "BallastTrainModel", name := "put", desc := "(III)V" } : Jvm.MethodName)) ∈ tb := tb_mem 863 (by decide +kernel) rfl
theorem tw_864 : (Jvm.Cond.code ({ cls := "BallastTrainModel", name := "put", desc := "(III)V" } : Jvm.MethodName) prog_9_method_8_code (4 : Nat) (Option.none : Option Jvm.ClassFile.FieldType)) ∈ tb := tb_mem 864 (by decide +kernel) rfl
theorem tw_865 : (Jvm.Cond.fieldLink "BallastTrainModel" (7 : Nat) "BallastTrainModel" "m" "[I") ∈ tb := tb_mem 865 (by decide +kernel) rfl
theorem tw_866 : (Jvm.Cond.fieldLink "BallastTrainModel" (13 : Nat) "BallastTrainModel" "past" "[I") ∈ tb := tb_mem 866 (by decide +kernel) rfl
theorem tw_867 : (Jvm.Cond.fieldLink "BallastTrainModel" (16 : Nat) "BallastTrainModel" "aside" "[I") ∈ tb := tb_mem 867 (by decide +kernel) rfl
theorem tw_868 : (Jvm.Cond.fieldLink "BallastTrainModel" (37 : Nat) "BallastTrainModel" "undos" "I") ∈ tb := tb_mem 868 (by decide +kernel) rfl
theorem tw_869 : (Jvm.Cond.fieldLink "BallastTrainModel" (19 : Nat) "BallastTrainModel" "text" "[I") ∈ tb := tb_mem 869 (by decide +kernel) rfl
theorem tw_870 : (Jvm.Cond.fieldLink "BallastTrainModel" (41 : Nat) "BallastTrainModel" "textLength" "I") ∈ tb := tb_mem 870 (by decide +kernel) rfl
theorem tw_871 : (Jvm.Cond.fieldLink "BallastTrainModel" (22 : Nat) "BallastTrainModel" "read" "[I") ∈ tb := tb_mem 871 (by decide +kernel) rfl
theorem tw_872 : (Jvm.Cond.fieldLink "BallastTrainModel" (68 : Nat) "BallastTrainModel" "reads" "I") ∈ tb := tb_mem 872 (by decide +kernel) rfl
theorem tw_873 : (Jvm.Cond.fieldLink "BallastTrainModel" (44 : Nat) "BallastTrainModel" "at" "I") ∈ tb := tb_mem 873 (by decide +kernel) rfl
theorem tw_874 : (Jvm.Cond.fieldLink "BallastTrainModel" (51 : Nat) "BallastTrainModel" "fault" "I") ∈ tb := tb_mem 874 (by decide +kernel) rfl
theorem tw_875 : (Jvm.Cond.fieldLink "BallastTrainModel" (170 : Nat) "BallastTrainModel" "hash" "J") ∈ tb := tb_mem 875 (by decide +kernel) rfl
theorem tw_899 : (Jvm.Cond.methodLink "BallastTrainLaw" (68 : Nat) ({ cls := "BallastTrainModel", name := "undo", desc := "()I" } : Jvm.MethodName)) ∈ tb := tb_mem 899 (by decide +kernel) rfl
theorem tw_900 : (Jvm.Cond.instanceMethod ({ cls := "BallastTrainModel", name := "undo", desc := "()I" } : Jvm.MethodName)) ∈ tb := tb_mem 900 (by decide +kernel) rfl
theorem tw_901 : (Jvm.Cond.selects "BallastTrainModel" ({ cls := "BallastTrainModel", name := "undo", desc := "()I" } : Jvm.MethodName) ({ cls := "BallastTrainModel", name := "undo", desc := "()I" } : Jvm.MethodName)) ∈ tb := tb_mem 901 (by decide +kernel) rfl
theorem tw_902 : (Jvm.Cond.code ({ cls := "BallastTrainModel", name := "undo", desc := "()I" } : Jvm.MethodName) prog_9_method_11_code (2 : Nat) (Option.some Jvm.ClassFile.FieldType.int)) ∈ tb := tb_mem 902 (by decide +kernel) rfl
theorem tw_903 : (Jvm.Cond.methodLink "BallastTrainLaw" (17 : Nat) ({ cls := "BallastTrainModel", name := "type", desc := "(I)I" } : Jvm.MethodName)) ∈ tb := tb_mem 903 (by decide +kernel) rfl
theorem tw_904 : (Jvm.Cond.instanceMethod ({ cls := "BallastTrainModel", name := "type", desc := "(I)I" } : Jvm.MethodName)) ∈ tb := tb_mem 904 (by decide +kernel) rfl
theorem tw_905 : (Jvm.Cond.selects "BallastTrainModel" ({ cls := "BallastTrainModel", name := "type", desc := "(I)I" } : Jvm.MethodName) ({ cls := "BallastTrainModel", name := "type", desc := "(I)I" } : Jvm.MethodName)) ∈ tb := tb_mem 905 (by decide +kernel) rfl
theorem tw_906 : (Jvm.Cond.code ({ cls := "BallastTrainModel", name := "type", desc := "(I)I" } : Jvm.MethodName) prog_9_method_14_code (2 : Nat) (Option.some Jvm.ClassFile.FieldType.int)) ∈ tb := tb_mem 906 (by decide +kernel) rfl
theorem tw_907 : (Jvm.Cond.methodLink "BallastTrainModel" (29 : Nat) ({ cls := "BallastTrainModel", name := "in", desc := "(III)Z" } : Jvm.MethodName)) ∈ tb := tb_mem 907 (by decide +kernel) rfl
theorem tw_908 : (Jvm.Cond.static ({ cls := "BallastTrainModel", name := "in", desc := "(III)Z" } : Jvm.MethodName)) ∈ tb := tb_mem 908 (by decide +kernel) rfl
theorem tw_909 : (Jvm.Cond.code ({ cls := "BallastTrainModel", name := "in", desc := "(III)Z" } : Jvm.MethodName) prog_9_method_2_code (3 : Nat) (Option.some Jvm.ClassFile.FieldType.boolean)) ∈ tb := tb_mem 909 (by decide +kernel) rfl
theorem tw_910 : (Jvm.Cond.methodLink "BallastTrainLaw" (22 : Nat) ({ cls := "BallastTrainModel", name := "clearText", desc := "()I" } : Jvm.MethodName)) ∈ tb := tb_mem 910 (by decide +kernel) rfl
theorem tw_911 : (Jvm.Cond.instanceMethod ({ cls := "BallastTrainModel", name := "clearText", desc := "()I" } : Jvm.MethodName)) ∈ tb := tb_mem 911 (by decide +kernel) rfl
theorem tw_912 : (Jvm.Cond.selects "BallastTrainModel" ({ cls := "BallastTrainModel", name := "clearText", desc := "()I" } : Jvm.MethodName) ({ cls := "BallastTrainModel", name := "clearText", desc := "()I" } : Jvm.MethodName)) ∈ tb := tb_mem 912 (by decide +kernel) rfl
theorem tw_913 : (Jvm.Cond.code ({ cls := "BallastTrainModel", name := "clearText", desc := "()I" } : Jvm.MethodName) prog_9_method_15_code (2 : Nat) (Option.some Jvm.ClassFile.FieldType.int)) ∈ tb := tb_mem 913 (by decide +kernel) rfl
theorem tw_914 : (Jvm.Cond.methodLink "BallastTrainLaw" (26 : Nat) ({ cls := "BallastTrainModel", name := "fault", desc := "()I" } : Jvm.MethodName)) ∈ tb := tb_mem 914 (by decide +kernel) rfl
theorem tw_915 : (Jvm.Cond.instanceMethod ({ cls := "BallastTrainModel", name := "fault", desc := "()I" } : Jvm.MethodName)) ∈ tb := tb_mem 915 (by decide +kernel) rfl
theorem tw_916 : (Jvm.Cond.selects "BallastTrainModel" ({ cls := "BallastTrainModel", name := "fault", desc := "()I" } : Jvm.MethodName) ({ cls := "BallastTrainModel", name := "fault", desc := "()I" } : Jvm.MethodName)) ∈ tb := tb_mem 916 (by decide +kernel) rfl
theorem tw_917 : (Jvm.Cond.code ({ cls := "BallastTrainModel", name := "fault", desc := "()I" } : Jvm.MethodName) prog_9_method_26_code (1 : Nat) (Option.some Jvm.ClassFile.FieldType.int)) ∈ tb := tb_mem 917 (by decide +kernel) rfl
theorem tw_918 : (Jvm.Cond.methodLink "BallastTrainModel" (84 : Nat) ({ cls := "BallastTrainModel", name := "reads", desc := "()V" } : Jvm.MethodName)) ∈ tb := tb_mem 918 (by decide +kernel) rfl
theorem tw_920 : (Jvm.Cond.instanceMethod ({ cls := "BallastTrainModel", name := "reads", desc := "()V" } : Jvm.MethodName)) ∈ tb := tb_mem 920 (by decide +kernel) rfl
theorem tw_921 : (Jvm.Cond.code ({ cls := "BallastTrainModel", name := "reads", desc := "()V" } : Jvm.MethodName) prog_9_method_25_code (1 : Nat) (Option.none : Option Jvm.ClassFile.FieldType)) ∈ tb := tb_mem 921 (by decide +kernel) rfl
theorem tw_922 : (Jvm.Cond.methodLink "BallastTrainModel" (54 : Nat) ({ cls := "BallastTrainModel", name := "blanks", desc := "()V" } : Jvm.MethodName)) ∈ tb := tb_mem 922 (by decide +kernel) rfl
theorem tw_924 : (Jvm.Cond.instanceMethod ({ cls := "BallastTrainModel", name := "blanks", desc := "()V" } : Jvm.MethodName)) ∈ tb := tb_mem 924 (by decide +kernel) rfl
theorem tw_925 : (Jvm.Cond.code ({ cls := "BallastTrainModel", name := "blanks", desc := "()V" } : Jvm.MethodName) prog_9_method_18_code (1 : Nat) (Option.none : Option Jvm.ClassFile.FieldType)) ∈ tb := tb_mem 925 (by decide +kernel) rfl
theorem tw_926 : (Jvm.Cond.methodLink "BallastTrainModel" (47 : Nat) ({ cls := "BallastTrainModel", name := "next", desc := "()I" } : Jvm.MethodName)) ∈ tb := tb_mem 926 (by decide +kernel) rfl
theorem tw_928 : (Jvm.Cond.instanceMethod ({ cls := "BallastTrainModel", name := "next", desc := "()I" } : Jvm.MethodName)) ∈ tb := tb_mem 928 (by decide +kernel) rfl
theorem tw_929 : (Jvm.Cond.code ({ cls := "BallastTrainModel", name := "next", desc := "()I" } : Jvm.MethodName) prog_9_method_16_code (1 : Nat) (Option.some Jvm.ClassFile.FieldType.int)) ∈ tb := tb_mem 929 (by decide +kernel) rfl
theorem tw_930 : (Jvm.Cond.methodLink "BallastTrainModel" (81 : Nat) ({ cls := "BallastTrainModel", name := "readsOrder", desc := "()V" } : Jvm.MethodName)) ∈ tb := tb_mem 930 (by decide +kernel) rfl
theorem tw_932 : (Jvm.Cond.instanceMethod ({ cls := "BallastTrainModel", name := "readsOrder", desc := "()V" } : Jvm.MethodName)) ∈ tb := tb_mem 932 (by decide +kernel) rfl
theorem tw_933 : (Jvm.Cond.code ({ cls := "BallastTrainModel", name := "readsOrder", desc := "()V" } : Jvm.MethodName) prog_9_method_24_code (3 : Nat) (Option.none : Option Jvm.ClassFile.FieldType)) ∈ tb := tb_mem 933 (by decide +kernel) rfl
theorem tw_934 : (Jvm.Cond.methodLink "BallastTrainModel" (60 : Nat) ({ cls := "BallastTrainModel", name := "needs", desc := "(Z)V" } : Jvm.MethodName)) ∈ tb := tb_mem 934 (by decide +kernel) rfl
theorem tw_936 : (Jvm.Cond.instanceMethod ({ cls := "BallastTrainModel", name := "needs", desc := "(Z)V" } : Jvm.MethodName)) ∈ tb := tb_mem 936 (by decide +kernel) rfl
theorem tw_937 : (Jvm.Cond.code ({ cls := "BallastTrainModel", name := "needs", desc := "(Z)V" } : Jvm.MethodName) prog_9_method_20_code (2 : Nat) (Option.none : Option Jvm.ClassFile.FieldType)) ∈ tb := tb_mem 937 (by decide +kernel) rfl
theorem tw_938 : (Jvm.Cond.methodLink "BallastTrainModel" (57 : Nat) ({ cls := "BallastTrainModel", name := "fails", desc := "(I)V" } : Jvm.MethodName)) ∈ tb := tb_mem 938 (by decide +kernel) rfl
theorem tw_940 : (Jvm.Cond.instanceMethod ({ cls := "BallastTrainModel", name := "fails", desc := "(I)V" } : Jvm.MethodName)) ∈ tb := tb_mem 940 (by decide +kernel) rfl
theorem tw_941 : (Jvm.Cond.code ({ cls := "BallastTrainModel", name := "fails", desc := "(I)V" } : Jvm.MethodName) prog_9_method_19_code (2 : Nat) (Option.none : Option Jvm.ClassFile.FieldType)) ∈ tb := tb_mem 941 (by decide +kernel) rfl
theorem tw_942 : (Jvm.Cond.methodLink "BallastTrainModel" (71 : Nat) ({ cls := "BallastTrainModel", name := "cell", desc := "()I" } : Jvm.MethodName)) ∈ tb := tb_mem 942 (by decide +kernel) rfl
theorem tw_944 : (Jvm.Cond.instanceMethod ({ cls := "BallastTrainModel", name := "cell", desc := "()I" } : Jvm.MethodName)) ∈ tb := tb_mem 944 (by decide +kernel) rfl
theorem tw_945 : (Jvm.Cond.code ({ cls := "BallastTrainModel", name := "cell", desc := "()I" } : Jvm.MethodName) prog_9_method_23_code (3 : Nat) (Option.some Jvm.ClassFile.FieldType.int)) ∈ tb := tb_mem 945 (by decide +kernel) rfl
theorem tw_946 : (Jvm.Cond.methodLink "BallastTrainModel" (64 : Nat) ({ cls := "BallastTrainModel", name := "isDigit", desc := "()Z" } : Jvm.MethodName)) ∈ tb := tb_mem 946 (by decide +kernel) rfl
theorem tw_948 : (Jvm.Cond.instanceMethod ({ cls := "BallastTrainModel", name := "isDigit", desc := "()Z" } : Jvm.MethodName)) ∈ tb := tb_mem 948 (by decide +kernel) rfl
theorem tw_949 : (Jvm.Cond.code ({ cls := "BallastTrainModel", name := "isDigit", desc := "()Z" } : Jvm.MethodName) prog_9_method_17_code (1 : Nat) (Option.some Jvm.ClassFile.FieldType.boolean)) ∈ tb := tb_mem 949 (by decide +kernel) rfl
theorem tw_950 : (Jvm.Cond.methodLink "BallastTrainModel" (74 : Nat) ({ cls := "BallastTrainModel", name := "digit", desc := "(II)I" } : Jvm.MethodName)) ∈ tb := tb_mem 950 (by decide +kernel) rfl
theorem tw_952 : (Jvm.Cond.instanceMethod ({ cls := "BallastTrainModel", name := "digit", desc := "(II)I" } : Jvm.MethodName)) ∈ tb := tb_mem 952 (by decide +kernel) rfl
theorem tw_953 : (Jvm.Cond.code ({ cls := "BallastTrainModel", name := "digit", desc := "(II)I" } : Jvm.MethodName) prog_9_method_21_code (4 : Nat) (Option.some Jvm.ClassFile.FieldType.int)) ∈ tb := tb_mem 953 (by decide +kernel) rfl
theorem tw_954 : (Jvm.Cond.methodLink "BallastTrainModel" (78 : Nat) ({ cls := "BallastTrainModel", name := "doorAt", desc := "()I" } : Jvm.MethodName)) ∈ tb := tb_mem 954 (by decide +kernel) rfl
theorem tw_956 : (Jvm.Cond.instanceMethod ({ cls := "BallastTrainModel", name := "doorAt", desc := "()I" } : Jvm.MethodName)) ∈ tb := tb_mem 956 (by decide +kernel) rfl
theorem tw_957 : (Jvm.Cond.code ({ cls := "BallastTrainModel", name := "doorAt", desc := "()I" } : Jvm.MethodName) prog_9_method_22_code (2 : Nat) (Option.some Jvm.ClassFile.FieldType.int)) ∈ tb := tb_mem 957 (by decide +kernel) rfl
theorem tw_958 : (Jvm.Cond.methodLink "BallastTrainLaw" (31 : Nat) ({ cls := "BallastTrainModel", name := "set", desc := "(II)I" } : Jvm.MethodName)) ∈ tb := tb_mem 958 (by decide +kernel) rfl
theorem tw_959 : (Jvm.Cond.instanceMethod ({ cls := "BallastTrainModel", name := "set", desc := "(II)I" } : Jvm.MethodName)) ∈ tb := tb_mem 959 (by decide +kernel) rfl
theorem tw_960 : (Jvm.Cond.selects "BallastTrainModel" ({ cls := "BallastTrainModel", name := "set", desc := "(II)I" } : Jvm.MethodName) ({ cls := "BallastTrainModel", name := "set", desc := "(II)I" } : Jvm.MethodName)) ∈ tb := tb_mem 960 (by decide +kernel) rfl
theorem tw_961 : (Jvm.Cond.code ({ cls := "BallastTrainModel", name := "set", desc := "(II)I" } : Jvm.MethodName) prog_9_method_36_code (5 : Nat) (Option.some Jvm.ClassFile.FieldType.int)) ∈ tb := tb_mem 961 (by decide +kernel) rfl
theorem tw_962 : (Jvm.Cond.methodLink "BallastTrainModel" (124 : Nat) ({ cls := "BallastTrainModel", name := "keeps", desc := "()V" } : Jvm.MethodName)) ∈ tb := tb_mem 962 (by decide +kernel) rfl
theorem tw_964 : (Jvm.Cond.instanceMethod ({ cls := "BallastTrainModel", name := "keeps", desc := "()V" } : Jvm.MethodName)) ∈ tb := tb_mem 964 (by decide +kernel) rfl
theorem tw_965 : (Jvm.Cond.code ({ cls := "BallastTrainModel", name := "keeps", desc := "()V" } : Jvm.MethodName) prog_9_method_10_code (2 : Nat) (Option.none : Option Jvm.ClassFile.FieldType)) ∈ tb := tb_mem 965 (by decide +kernel) rfl
theorem tw_966 : (Jvm.Cond.methodLink "BallastTrainLaw" (35 : Nat) ({ cls := "BallastTrainModel", name := "setTrain", desc := "(I)I" } : Jvm.MethodName)) ∈ tb := tb_mem 966 (by decide +kernel) rfl
theorem tw_967 : (Jvm.Cond.instanceMethod ({ cls := "BallastTrainModel", name := "setTrain", desc := "(I)I" } : Jvm.MethodName)) ∈ tb := tb_mem 967 (by decide +kernel) rfl
theorem tw_968 : (Jvm.Cond.selects "BallastTrainModel" ({ cls := "BallastTrainModel", name := "setTrain", desc := "(I)I" } : Jvm.MethodName) ({ cls := "BallastTrainModel", name := "setTrain", desc := "(I)I" } : Jvm.MethodName)) ∈ tb := tb_mem 968 (by decide +kernel) rfl
theorem tw_969 : (Jvm.Cond.code ({ cls := "BallastTrainModel", name := "setTrain", desc := "(I)I" } : Jvm.MethodName) prog_9_method_38_code (3 : Nat) (Option.some Jvm.ClassFile.FieldType.int)) ∈ tb := tb_mem 969 (by decide +kernel) rfl
theorem tw_970 : (Jvm.Cond.methodLink "BallastTrainModel" (127 : Nat) ({ cls := "BallastTrainModel", name := "inWagons", desc := "()I" } : Jvm.MethodName)) ∈ tb := tb_mem 970 (by decide +kernel) rfl
theorem tw_972 : (Jvm.Cond.instanceMethod ({ cls := "BallastTrainModel", name := "inWagons", desc := "()I" } : Jvm.MethodName)) ∈ tb := tb_mem 972 (by decide +kernel) rfl
theorem tw_973 : (Jvm.Cond.code ({ cls := "BallastTrainModel", name := "inWagons", desc := "()I" } : Jvm.MethodName) prog_9_method_37_code (3 : Nat) (Option.some Jvm.ClassFile.FieldType.int)) ∈ tb := tb_mem 973 (by decide +kernel) rfl
theorem tw_974 : (Jvm.Cond.methodLink "BallastTrainModel" (90 : Nat) ({ cls := "BallastTrainModel", name := "of", desc := "(II)I" } : Jvm.MethodName)) ∈ tb := tb_mem 974 (by decide +kernel) rfl
theorem tw_976 : (Jvm.Cond.instanceMethod ({ cls := "BallastTrainModel", name := "of", desc := "(II)I" } : Jvm.MethodName)) ∈ tb := tb_mem 976 (by decide +kernel) rfl
theorem tw_977 : (Jvm.Cond.code ({ cls := "BallastTrainModel", name := "of", desc := "(II)I" } : Jvm.MethodName) prog_9_method_7_code (3 : Nat) (Option.some Jvm.ClassFile.FieldType.int)) ∈ tb := tb_mem 977 (by decide +kernel) rfl
theorem tw_978 : (Jvm.Cond.methodLink "BallastTrainLaw" (39 : Nat) ({ cls := "BallastTrainModel", name := "load", desc := "(II)I" } : Jvm.MethodName)) ∈ tb := tb_mem 978 (by decide +kernel) rfl
theorem tw_979 : (Jvm.Cond.instanceMethod ({ cls := "BallastTrainModel", name := "load", desc := "(II)I" } : Jvm.MethodName)) ∈ tb := tb_mem 979 (by decide +kernel) rfl
theorem tw_980 : (Jvm.Cond.selects "BallastTrainModel" ({ cls := "BallastTrainModel", name := "load", desc := "(II)I" } : Jvm.MethodName) ({ cls := "BallastTrainModel", name := "load", desc := "(II)I" } : Jvm.MethodName)) ∈ tb := tb_mem 980 (by decide +kernel) rfl
theorem tw_981 : (Jvm.Cond.code ({ cls := "BallastTrainModel", name := "load", desc := "(II)I" } : Jvm.MethodName) prog_9_method_39_code (3 : Nat) (Option.some Jvm.ClassFile.FieldType.int)) ∈ tb := tb_mem 981 (by decide +kernel) rfl
theorem tw_982 : (Jvm.Cond.methodLink "BallastTrainModel" (86 : Nat) ({ cls := "BallastTrainModel", name := "isWagon", desc := "(I)Z" } : Jvm.MethodName)) ∈ tb := tb_mem 982 (by decide +kernel) rfl
theorem tw_984 : (Jvm.Cond.instanceMethod ({ cls := "BallastTrainModel", name := "isWagon", desc := "(I)Z" } : Jvm.MethodName)) ∈ tb := tb_mem 984 (by decide +kernel) rfl
theorem tw_985 : (Jvm.Cond.code ({ cls := "BallastTrainModel", name := "isWagon", desc := "(I)Z" } : Jvm.MethodName) prog_9_method_4_code (2 : Nat) (Option.some Jvm.ClassFile.FieldType.boolean)) ∈ tb := tb_mem 985 (by decide +kernel) rfl
theorem tw_986 : (Jvm.Cond.methodLink "BallastTrainLaw" (44 : Nat) ({ cls := "BallastTrainModel", name := "door", desc := "(III)I" } : Jvm.MethodName)) ∈ tb := tb_mem 986 (by decide +kernel) rfl
theorem tw_987 : (Jvm.Cond.instanceMethod ({ cls := "BallastTrainModel", name := "door", desc := "(III)I" } : Jvm.MethodName)) ∈ tb := tb_mem 987 (by decide +kernel) rfl
theorem tw_988 : (Jvm.Cond.selects "BallastTrainModel" ({ cls := "BallastTrainModel", name := "door", desc := "(III)I" } : Jvm.MethodName) ({ cls := "BallastTrainModel", name := "door", desc := "(III)I" } : Jvm.MethodName)) ∈ tb := tb_mem 988 (by decide +kernel) rfl
theorem tw_989 : (Jvm.Cond.code ({ cls := "BallastTrainModel", name := "door", desc := "(III)I" } : Jvm.MethodName) prog_9_method_40_code (5 : Nat) (Option.some Jvm.ClassFile.FieldType.int)) ∈ tb := tb_mem 989 (by decide +kernel) rfl
theorem tw_990 : (Jvm.Cond.methodLink "BallastTrainModel" (130 : Nat) ({ cls := "BallastTrainModel", name := "isStrip", desc := "(I)Z" } : Jvm.MethodName)) ∈ tb := tb_mem 990 (by decide +kernel) rfl
theorem tw_991 : (Jvm.Cond.static ({ cls := "BallastTrainModel", name := "isStrip", desc := "(I)Z" } : Jvm.MethodName)) ∈ tb := tb_mem 991 (by decide +kernel) rfl
theorem tw_992 : (Jvm.Cond.code ({ cls := "BallastTrainModel", name := "isStrip", desc := "(I)Z" } : Jvm.MethodName) prog_9_method_5_code (1 : Nat) (Option.some Jvm.ClassFile.FieldType.boolean)) ∈ tb := tb_mem 992 (by decide +kernel) rfl
theorem tw_993 : (Jvm.Cond.methodLink "BallastTrainModel" (96 : Nat) ({ cls := "BallastTrainModel", name := "moves", desc := "(III)V" } : Jvm.MethodName)) ∈ tb := tb_mem 993 (by decide +kernel) rfl
theorem tw_995 : (Jvm.Cond.instanceMethod ({ cls := "BallastTrainModel", name := "moves", desc := "(III)V" } : Jvm.MethodName)) ∈ tb := tb_mem 995 (by decide +kernel) rfl
theorem tw_996 : (Jvm.Cond.code ({ cls := "BallastTrainModel", name := "moves", desc := "(III)V" } : Jvm.MethodName) prog_9_method_28_code (4 : Nat) (Option.none : Option Jvm.ClassFile.FieldType)) ∈ tb := tb_mem 996 (by decide +kernel) rfl
theorem tw_997 : (Jvm.Cond.methodLink "BallastTrainLaw" (48 : Nat) ({ cls := "BallastTrainModel", name := "wish", desc := "(I)I" } : Jvm.MethodName)) ∈ tb := tb_mem 997 (by decide +kernel) rfl
theorem tw_998 : (Jvm.Cond.instanceMethod ({ cls := "BallastTrainModel", name := "wish", desc := "(I)I" } : Jvm.MethodName)) ∈ tb := tb_mem 998 (by decide +kernel) rfl
theorem tw_999 : (Jvm.Cond.selects "BallastTrainModel" ({ cls := "BallastTrainModel", name := "wish", desc := "(I)I" } : Jvm.MethodName) ({ cls := "BallastTrainModel", name := "wish", desc := "(I)I" } : Jvm.MethodName)) ∈ tb := tb_mem 999 (by decide +kernel) rfl
theorem tw_1000 : (Jvm.Cond.code ({ cls := "BallastTrainModel", name := "wish", desc := "(I)I" } : Jvm.MethodName) prog_9_method_41_code (3 : Nat) (Option.some Jvm.ClassFile.FieldType.int)) ∈ tb := tb_mem 1000 (by decide +kernel) rfl
theorem tw_1001 : (Jvm.Cond.methodLink "BallastTrainLaw" (52 : Nat) ({ cls := "BallastTrainModel", name := "order", desc := "()I" } : Jvm.MethodName)) ∈ tb := tb_mem 1001 (by decide +kernel) rfl
theorem tw_1002 : (Jvm.Cond.instanceMethod ({ cls := "BallastTrainModel", name := "order", desc := "()I" } : Jvm.MethodName)) ∈ tb := tb_mem 1002 (by decide +kernel) rfl
theorem tw_1003 : (Jvm.Cond.selects "BallastTrainModel" ({ cls := "BallastTrainModel", name := "order", desc := "()I" } : Jvm.MethodName) ({ cls := "BallastTrainModel", name := "order", desc := "()I" } : Jvm.MethodName)) ∈ tb := tb_mem 1003 (by decide +kernel) rfl
theorem tw_1004 : (Jvm.Cond.code ({ cls := "BallastTrainModel", name := "order", desc := "()I" } : Jvm.MethodName) prog_9_method_42_code (2 : Nat) (Option.some Jvm.ClassFile.FieldType.int)) ∈ tb := tb_mem 1004 (by decide +kernel) rfl
theorem tw_1005 : (Jvm.Cond.methodLink "BallastTrainLaw" (56 : Nat) ({ cls := "BallastTrainModel", name := "cancel", desc := "(I)I" } : Jvm.MethodName)) ∈ tb := tb_mem 1005 (by decide +kernel) rfl
theorem tw_1006 : (Jvm.Cond.instanceMethod ({ cls := "BallastTrainModel", name := "cancel", desc := "(I)I" } : Jvm.MethodName)) ∈ tb := tb_mem 1006 (by decide +kernel) rfl
theorem tw_1007 : (Jvm.Cond.selects "BallastTrainModel" ({ cls := "BallastTrainModel", name := "cancel", desc := "(I)I" } : Jvm.MethodName) ({ cls := "BallastTrainModel", name := "cancel", desc := "(I)I" } : Jvm.MethodName)) ∈ tb := tb_mem 1007 (by decide +kernel) rfl
theorem tw_1008 : (Jvm.Cond.code ({ cls := "BallastTrainModel", name := "cancel", desc := "(I)I" } : Jvm.MethodName) prog_9_method_43_code (2 : Nat) (Option.some Jvm.ClassFile.FieldType.int)) ∈ tb := tb_mem 1008 (by decide +kernel) rfl
theorem tw_1009 : (Jvm.Cond.methodLink "BallastTrainModel" (99 : Nat) ({ cls := "BallastTrainModel", name := "dropsOrder", desc := "(I)V" } : Jvm.MethodName)) ∈ tb := tb_mem 1009 (by decide +kernel) rfl
theorem tw_1011 : (Jvm.Cond.instanceMethod ({ cls := "BallastTrainModel", name := "dropsOrder", desc := "(I)V" } : Jvm.MethodName)) ∈ tb := tb_mem 1011 (by decide +kernel) rfl
theorem tw_1012 : (Jvm.Cond.code ({ cls := "BallastTrainModel", name := "dropsOrder", desc := "(I)V" } : Jvm.MethodName) prog_9_method_29_code (3 : Nat) (Option.none : Option Jvm.ClassFile.FieldType)) ∈ tb := tb_mem 1012 (by decide +kernel) rfl
theorem tw_1013 : (Jvm.Cond.methodLink "BallastTrainLaw" (60 : Nat) ({ cls := "BallastTrainModel", name := "pass", desc := "(I)I" } : Jvm.MethodName)) ∈ tb := tb_mem 1013 (by decide +kernel) rfl
theorem tw_1014 : (Jvm.Cond.instanceMethod ({ cls := "BallastTrainModel", name := "pass", desc := "(I)I" } : Jvm.MethodName)) ∈ tb := tb_mem 1014 (by decide +kernel) rfl
theorem tw_1015 : (Jvm.Cond.selects "BallastTrainModel" ({ cls := "BallastTrainModel", name := "pass", desc := "(I)I" } : Jvm.MethodName) ({ cls := "BallastTrainModel", name := "pass", desc := "(I)I" } : Jvm.MethodName)) ∈ tb := tb_mem 1015 (by decide +kernel) rfl
theorem tw_1016 : (Jvm.Cond.code ({ cls := "BallastTrainModel", name := "pass", desc := "(I)I" } : Jvm.MethodName) prog_9_method_44_code (3 : Nat) (Option.some Jvm.ClassFile.FieldType.int)) ∈ tb := tb_mem 1016 (by decide +kernel) rfl
theorem tw_1017 : (Jvm.Cond.methodLink "BallastTrainModel" (133 : Nat) ({ cls := "BallastTrainModel", name := "second", desc := "()V" } : Jvm.MethodName)) ∈ tb := tb_mem 1017 (by decide +kernel) rfl
theorem tw_1019 : (Jvm.Cond.instanceMethod ({ cls := "BallastTrainModel", name := "second", desc := "()V" } : Jvm.MethodName)) ∈ tb := tb_mem 1019 (by decide +kernel) rfl
theorem tw_1020 : (Jvm.Cond.code ({ cls := "BallastTrainModel", name := "second", desc := "()V" } : Jvm.MethodName) prog_9_method_35_code (2 : Nat) (Option.none : Option Jvm.ClassFile.FieldType)) ∈ tb := tb_mem 1020 (by decide +kernel) rfl
theorem tw_1021 : (Jvm.Cond.methodLink "BallastTrainModel" (102 : Nat) ({ cls := "BallastTrainModel", name := "least", desc := "(II)I" } : Jvm.MethodName)) ∈ tb := tb_mem 1021 (by decide +kernel) rfl
theorem tw_1022 : (Jvm.Cond.static ({ cls := "BallastTrainModel", name := "least", desc := "(II)I" } : Jvm.MethodName)) ∈ tb := tb_mem 1022 (by decide +kernel) rfl
theorem tw_1023 : (Jvm.Cond.code ({ cls := "BallastTrainModel", name := "least", desc := "(II)I" } : Jvm.MethodName) prog_9_method_3_code (2 : Nat) (Option.some Jvm.ClassFile.FieldType.int)) ∈ tb := tb_mem 1023 (by decide +kernel) rfl
theorem tw_1024 : (Jvm.Cond.methodLink "BallastTrainModel" (108 : Nat) ({ cls := "BallastTrainModel", name := "ordersDue", desc := "()V" } : Jvm.MethodName)) ∈ tb := tb_mem 1024 (by decide +kernel) rfl
theorem tw_1026 : (Jvm.Cond.instanceMethod ({ cls := "BallastTrainModel", name := "ordersDue", desc := "()V" } : Jvm.MethodName)) ∈ tb := tb_mem 1026 (by decide +kernel) rfl
theorem tw_1027 : (Jvm.Cond.code ({ cls := "BallastTrainModel", name := "ordersDue", desc := "()V" } : Jvm.MethodName) prog_9_method_30_code (3 : Nat) (Option.none : Option Jvm.ClassFile.FieldType)) ∈ tb := tb_mem 1027 (by decide +kernel) rfl
theorem tw_1028 : (Jvm.Cond.methodLink "BallastTrainModel" (93 : Nat) ({ cls := "BallastTrainModel", name := "isDue", desc := "(I)Z" } : Jvm.MethodName)) ∈ tb := tb_mem 1028 (by decide +kernel) rfl
theorem tw_1030 : (Jvm.Cond.instanceMethod ({ cls := "BallastTrainModel", name := "isDue", desc := "(I)Z" } : Jvm.MethodName)) ∈ tb := tb_mem 1030 (by decide +kernel) rfl
theorem tw_1031 : (Jvm.Cond.code ({ cls := "BallastTrainModel", name := "isDue", desc := "(I)Z" } : Jvm.MethodName) prog_9_method_27_code (3 : Nat) (Option.some Jvm.ClassFile.FieldType.boolean)) ∈ tb := tb_mem 1031 (by decide +kernel) rfl
theorem tw_1032 : (Jvm.Cond.methodLink "BallastTrainModel" (111 : Nat) ({ cls := "BallastTrainModel", name := "falls", desc := "(II)V" } : Jvm.MethodName)) ∈ tb := tb_mem 1032 (by decide +kernel) rfl
theorem tw_1034 : (Jvm.Cond.instanceMethod ({ cls := "BallastTrainModel", name := "falls", desc := "(II)V" } : Jvm.MethodName)) ∈ tb := tb_mem 1034 (by decide +kernel) rfl
theorem tw_1035 : (Jvm.Cond.code ({ cls := "BallastTrainModel", name := "falls", desc := "(II)V" } : Jvm.MethodName) prog_9_method_31_code (5 : Nat) (Option.none : Option Jvm.ClassFile.FieldType)) ∈ tb := tb_mem 1035 (by decide +kernel) rfl
theorem tw_1036 : (Jvm.Cond.methodLink "BallastTrainModel" (105 : Nat) ({ cls := "BallastTrainModel", name := "isCell", desc := "(I)Z" } : Jvm.MethodName)) ∈ tb := tb_mem 1036 (by decide +kernel) rfl
theorem tw_1037 : (Jvm.Cond.static ({ cls := "BallastTrainModel", name := "isCell", desc := "(I)Z" } : Jvm.MethodName)) ∈ tb := tb_mem 1037 (by decide +kernel) rfl
theorem tw_1038 : (Jvm.Cond.code ({ cls := "BallastTrainModel", name := "isCell", desc := "(I)Z" } : Jvm.MethodName) prog_9_method_6_code (1 : Nat) (Option.some Jvm.ClassFile.FieldType.boolean)) ∈ tb := tb_mem 1038 (by decide +kernel) rfl
theorem tw_1039 : (Jvm.Cond.methodLink "BallastTrainModel" (115 : Nat) ({ cls := "BallastTrainModel", name := "slides", desc := "(II)V" } : Jvm.MethodName)) ∈ tb := tb_mem 1039 (by decide +kernel) rfl
theorem tw_1041 : (Jvm.Cond.instanceMethod ({ cls := "BallastTrainModel", name := "slides", desc := "(II)V" } : Jvm.MethodName)) ∈ tb := tb_mem 1041 (by decide +kernel) rfl
theorem tw_1042 : (Jvm.Cond.code ({ cls := "BallastTrainModel", name := "slides", desc := "(II)V" } : Jvm.MethodName) prog_9_method_32_code (5 : Nat) (Option.none : Option Jvm.ClassFile.FieldType)) ∈ tb := tb_mem 1042 (by decide +kernel) rfl
theorem tw_1043 : (Jvm.Cond.methodLink "BallastTrainModel" (118 : Nat) ({ cls := "BallastTrainModel", name := "spills", desc := "(II)V" } : Jvm.MethodName)) ∈ tb := tb_mem 1043 (by decide +kernel) rfl
theorem tw_1045 : (Jvm.Cond.instanceMethod ({ cls := "BallastTrainModel", name := "spills", desc := "(II)V" } : Jvm.MethodName)) ∈ tb := tb_mem 1045 (by decide +kernel) rfl
theorem tw_1046 : (Jvm.Cond.code ({ cls := "BallastTrainModel", name := "spills", desc := "(II)V" } : Jvm.MethodName) prog_9_method_33_code (4 : Nat) (Option.none : Option Jvm.ClassFile.FieldType)) ∈ tb := tb_mem 1046 (by decide +kernel) rfl
theorem tw_1047 : (Jvm.Cond.methodLink "BallastTrainModel" (121 : Nat) ({ cls := "BallastTrainModel", name := "closes", desc := "(II)V" } : Jvm.MethodName)) ∈ tb := tb_mem 1047 (by decide +kernel) rfl
theorem tw_1049 : (Jvm.Cond.instanceMethod ({ cls := "BallastTrainModel", name := "closes", desc := "(II)V" } : Jvm.MethodName)) ∈ tb := tb_mem 1049 (by decide +kernel) rfl
theorem tw_1050 : (Jvm.Cond.code ({ cls := "BallastTrainModel", name := "closes", desc := "(II)V" } : Jvm.MethodName) prog_9_method_34_code (5 : Nat) (Option.none : Option Jvm.ClassFile.FieldType)) ∈ tb := tb_mem 1050 (by decide +kernel) rfl
theorem tw_1051 : (Jvm.Cond.methodLink "BallastTrainLaw" (64 : Nat) ({ cls := "BallastTrainModel", name := "scrape", desc := "(III)I" } : Jvm.MethodName)) ∈ tb := tb_mem 1051 (by decide +kernel) rfl
theorem tw_1052 : (Jvm.Cond.instanceMethod ({ cls := "BallastTrainModel", name := "scrape", desc := "(III)I" } : Jvm.MethodName)) ∈ tb := tb_mem 1052 (by decide +kernel) rfl
theorem tw_1053 : (Jvm.Cond.selects "BallastTrainModel" ({ cls := "BallastTrainModel", name := "scrape", desc := "(III)I" } : Jvm.MethodName) ({ cls := "BallastTrainModel", name := "scrape", desc := "(III)I" } : Jvm.MethodName)) ∈ tb := tb_mem 1053 (by decide +kernel) rfl
theorem tw_1054 : (Jvm.Cond.code ({ cls := "BallastTrainModel", name := "scrape", desc := "(III)I" } : Jvm.MethodName) prog_9_method_45_code (5 : Nat) (Option.some Jvm.ClassFile.FieldType.int)) ∈ tb := tb_mem 1054 (by decide +kernel) rfl
theorem tw_1055 : (Jvm.Cond.methodLink "BallastTrainLaw" (72 : Nat) ({ cls := "BallastTrainModel", name := "wagon", desc := "(II)I" } : Jvm.MethodName)) ∈ tb := tb_mem 1055 (by decide +kernel) rfl
theorem tw_1056 : (Jvm.Cond.instanceMethod ({ cls := "BallastTrainModel", name := "wagon", desc := "(II)I" } : Jvm.MethodName)) ∈ tb := tb_mem 1056 (by decide +kernel) rfl
theorem tw_1057 : (Jvm.Cond.selects "BallastTrainModel" ({ cls := "BallastTrainModel", name := "wagon", desc := "(II)I" } : Jvm.MethodName) ({ cls := "BallastTrainModel", name := "wagon", desc := "(II)I" } : Jvm.MethodName)) ∈ tb := tb_mem 1057 (by decide +kernel) rfl
theorem tw_1058 : (Jvm.Cond.code ({ cls := "BallastTrainModel", name := "wagon", desc := "(II)I" } : Jvm.MethodName) prog_9_method_46_code (5 : Nat) (Option.some Jvm.ClassFile.FieldType.int)) ∈ tb := tb_mem 1058 (by decide +kernel) rfl
theorem tw_1059 : (Jvm.Cond.methodLink "BallastTrainLaw" (76 : Nat) ({ cls := "BallastTrainModel", name := "doorOf", desc := "(III)I" } : Jvm.MethodName)) ∈ tb := tb_mem 1059 (by decide +kernel) rfl
theorem tw_1060 : (Jvm.Cond.instanceMethod ({ cls := "BallastTrainModel", name := "doorOf", desc := "(III)I" } : Jvm.MethodName)) ∈ tb := tb_mem 1060 (by decide +kernel) rfl
theorem tw_1061 : (Jvm.Cond.selects "BallastTrainModel" ({ cls := "BallastTrainModel", name := "doorOf", desc := "(III)I" } : Jvm.MethodName) ({ cls := "BallastTrainModel", name := "doorOf", desc := "(III)I" } : Jvm.MethodName)) ∈ tb := tb_mem 1061 (by decide +kernel) rfl
theorem tw_1062 : (Jvm.Cond.code ({ cls := "BallastTrainModel", name := "doorOf", desc := "(III)I" } : Jvm.MethodName) prog_9_method_47_code (4 : Nat) (Option.some Jvm.ClassFile.FieldType.int)) ∈ tb := tb_mem 1062 (by decide +kernel) rfl
theorem tw_1063 : (Jvm.Cond.methodLink "BallastTrainLaw" (80 : Nat) ({ cls := "BallastTrainModel", name := "height", desc := "(II)I" } : Jvm.MethodName)) ∈ tb := tb_mem 1063 (by decide +kernel) rfl
theorem tw_1064 : (Jvm.Cond.instanceMethod ({ cls := "BallastTrainModel", name := "height", desc := "(II)I" } : Jvm.MethodName)) ∈ tb := tb_mem 1064 (by decide +kernel) rfl
theorem tw_1065 : (Jvm.Cond.selects "BallastTrainModel" ({ cls := "BallastTrainModel", name := "height", desc := "(II)I" } : Jvm.MethodName) ({ cls := "BallastTrainModel", name := "height", desc := "(II)I" } : Jvm.MethodName)) ∈ tb := tb_mem 1065 (by decide +kernel) rfl
theorem tw_1066 : (Jvm.Cond.code ({ cls := "BallastTrainModel", name := "height", desc := "(II)I" } : Jvm.MethodName) prog_9_method_48_code (3 : Nat) (Option.some Jvm.ClassFile.FieldType.int)) ∈ tb := tb_mem 1066 (by decide +kernel) rfl
theorem tw_1067 : (Jvm.Cond.methodLink "BallastTrainLaw" (84 : Nat) ({ cls := "BallastTrainModel", name := "profile", desc := "(II)I" } : Jvm.MethodName)) ∈ tb := tb_mem 1067 (by decide +kernel) rfl
theorem tw_1068 : (Jvm.Cond.instanceMethod ({ cls := "BallastTrainModel", name := "profile", desc := "(II)I" } : Jvm.MethodName)) ∈ tb := tb_mem 1068 (by decide +kernel) rfl
theorem tw_1069 : (Jvm.Cond.selects "BallastTrainModel" ({ cls := "BallastTrainModel", name := "profile", desc := "(II)I" } : Jvm.MethodName) ({ cls := "BallastTrainModel", name := "profile", desc := "(II)I" } : Jvm.MethodName)) ∈ tb := tb_mem 1069 (by decide +kernel) rfl
theorem tw_1070 : (Jvm.Cond.code ({ cls := "BallastTrainModel", name := "profile", desc := "(II)I" } : Jvm.MethodName) prog_9_method_53_code (3 : Nat) (Option.some Jvm.ClassFile.FieldType.int)) ∈ tb := tb_mem 1070 (by decide +kernel) rfl
theorem tw_1071 : (Jvm.Cond.methodLink "BallastTrainModel" (136 : Nat) ({ cls := "BallastTrainModel", name := "sum", desc := "(I)I" } : Jvm.MethodName)) ∈ tb := tb_mem 1071 (by decide +kernel) rfl
theorem tw_1073 : (Jvm.Cond.instanceMethod ({ cls := "BallastTrainModel", name := "sum", desc := "(I)I" } : Jvm.MethodName)) ∈ tb := tb_mem 1073 (by decide +kernel) rfl
theorem tw_1074 : (Jvm.Cond.code ({ cls := "BallastTrainModel", name := "sum", desc := "(I)I" } : Jvm.MethodName) prog_9_method_49_code (4 : Nat) (Option.some Jvm.ClassFile.FieldType.int)) ∈ tb := tb_mem 1074 (by decide +kernel) rfl
theorem tw_1075 : (Jvm.Cond.methodLink "BallastTrainModel" (140 : Nat) ({ cls := "BallastTrainModel", name := "highest", desc := "(I)I" } : Jvm.MethodName)) ∈ tb := tb_mem 1075 (by decide +kernel) rfl
theorem tw_1077 : (Jvm.Cond.instanceMethod ({ cls := "BallastTrainModel", name := "highest", desc := "(I)I" } : Jvm.MethodName)) ∈ tb := tb_mem 1077 (by decide +kernel) rfl
theorem tw_1078 : (Jvm.Cond.code ({ cls := "BallastTrainModel", name := "highest", desc := "(I)I" } : Jvm.MethodName) prog_9_method_50_code (4 : Nat) (Option.some Jvm.ClassFile.FieldType.int)) ∈ tb := tb_mem 1078 (by decide +kernel) rfl
theorem tw_1079 : (Jvm.Cond.methodLink "BallastTrainModel" (143 : Nat) ({ cls := "BallastTrainModel", name := "row", desc := "(IZ)I" } : Jvm.MethodName)) ∈ tb := tb_mem 1079 (by decide +kernel) rfl
theorem tw_1081 : (Jvm.Cond.instanceMethod ({ cls := "BallastTrainModel", name := "row", desc := "(IZ)I" } : Jvm.MethodName)) ∈ tb := tb_mem 1081 (by decide +kernel) rfl
theorem tw_1082 : (Jvm.Cond.code ({ cls := "BallastTrainModel", name := "row", desc := "(IZ)I" } : Jvm.MethodName) prog_9_method_51_code (8 : Nat) (Option.some Jvm.ClassFile.FieldType.int)) ∈ tb := tb_mem 1082 (by decide +kernel) rfl
theorem tw_1083 : (Jvm.Cond.methodLink "BallastTrainModel" (147 : Nat) ({ cls := "BallastTrainModel", name := "steepest", desc := "(I)I" } : Jvm.MethodName)) ∈ tb := tb_mem 1083 (by decide +kernel) rfl
theorem tw_1085 : (Jvm.Cond.instanceMethod ({ cls := "BallastTrainModel", name := "steepest", desc := "(I)I" } : Jvm.MethodName)) ∈ tb := tb_mem 1085 (by decide +kernel) rfl
theorem tw_1086 : (Jvm.Cond.code ({ cls := "BallastTrainModel", name := "steepest", desc := "(I)I" } : Jvm.MethodName) prog_9_method_52_code (5 : Nat) (Option.some Jvm.ClassFile.FieldType.int)) ∈ tb := tb_mem 1086 (by decide +kernel) rfl
theorem tw_1087 : (Jvm.Cond.methodLink "BallastTrainLaw" (88 : Nat) ({ cls := "BallastTrainModel", name := "lacking", desc := "(I)I" } : Jvm.MethodName)) ∈ tb := tb_mem 1087 (by decide +kernel) rfl
theorem tw_1088 : (Jvm.Cond.instanceMethod ({ cls := "BallastTrainModel", name := "lacking", desc := "(I)I" } : Jvm.MethodName)) ∈ tb := tb_mem 1088 (by decide +kernel) rfl
theorem tw_1089 : (Jvm.Cond.selects "BallastTrainModel" ({ cls := "BallastTrainModel", name := "lacking", desc := "(I)I" } : Jvm.MethodName) ({ cls := "BallastTrainModel", name := "lacking", desc := "(I)I" } : Jvm.MethodName)) ∈ tb := tb_mem 1089 (by decide +kernel) rfl
theorem tw_1090 : (Jvm.Cond.code ({ cls := "BallastTrainModel", name := "lacking", desc := "(I)I" } : Jvm.MethodName) prog_9_method_55_code (5 : Nat) (Option.some Jvm.ClassFile.FieldType.int)) ∈ tb := tb_mem 1090 (by decide +kernel) rfl
theorem tw_1091 : (Jvm.Cond.methodLink "BallastTrainModel" (150 : Nat) ({ cls := "BallastTrainModel", name := "lackingIn", desc := "(I)I" } : Jvm.MethodName)) ∈ tb := tb_mem 1091 (by decide +kernel) rfl
theorem tw_1093 : (Jvm.Cond.instanceMethod ({ cls := "BallastTrainModel", name := "lackingIn", desc := "(I)I" } : Jvm.MethodName)) ∈ tb := tb_mem 1093 (by decide +kernel) rfl
theorem tw_1094 : (Jvm.Cond.code ({ cls := "BallastTrainModel", name := "lackingIn", desc := "(I)I" } : Jvm.MethodName) prog_9_method_54_code (4 : Nat) (Option.some Jvm.ClassFile.FieldType.int)) ∈ tb := tb_mem 1094 (by decide +kernel) rfl
theorem tw_1095 : (Jvm.Cond.methodLink "BallastTrainLaw" (92 : Nat) ({ cls := "BallastTrainModel", name := "ordered", desc := "(II)I" } : Jvm.MethodName)) ∈ tb := tb_mem 1095 (by decide +kernel) rfl
theorem tw_1096 : (Jvm.Cond.instanceMethod ({ cls := "BallastTrainModel", name := "ordered", desc := "(II)I" } : Jvm.MethodName)) ∈ tb := tb_mem 1096 (by decide +kernel) rfl
theorem tw_1097 : (Jvm.Cond.selects "BallastTrainModel" ({ cls := "BallastTrainModel", name := "ordered", desc := "(II)I" } : Jvm.MethodName) ({ cls := "BallastTrainModel", name := "ordered", desc := "(II)I" } : Jvm.MethodName)) ∈ tb := tb_mem 1097 (by decide +kernel) rfl
theorem tw_1098 : (Jvm.Cond.code ({ cls := "BallastTrainModel", name := "ordered", desc := "(II)I" } : Jvm.MethodName) prog_9_method_56_code (3 : Nat) (Option.some Jvm.ClassFile.FieldType.int)) ∈ tb := tb_mem 1098 (by decide +kernel) rfl
theorem tw_1099 : (Jvm.Cond.methodLink "BallastTrainLaw" (96 : Nat) ({ cls := "BallastTrainModel", name := "foretell", desc := "(II)I" } : Jvm.MethodName)) ∈ tb := tb_mem 1099 (by decide +kernel) rfl
theorem tw_1100 : (Jvm.Cond.instanceMethod ({ cls := "BallastTrainModel", name := "foretell", desc := "(II)I" } : Jvm.MethodName)) ∈ tb := tb_mem 1100 (by decide +kernel) rfl
theorem tw_1101 : (Jvm.Cond.selects "BallastTrainModel" ({ cls := "BallastTrainModel", name := "foretell", desc := "(II)I" } : Jvm.MethodName) ({ cls := "BallastTrainModel", name := "foretell", desc := "(II)I" } : Jvm.MethodName)) ∈ tb := tb_mem 1101 (by decide +kernel) rfl
theorem tw_1102 : (Jvm.Cond.code ({ cls := "BallastTrainModel", name := "foretell", desc := "(II)I" } : Jvm.MethodName) prog_9_method_59_code (4 : Nat) (Option.some Jvm.ClassFile.FieldType.int)) ∈ tb := tb_mem 1102 (by decide +kernel) rfl
theorem tw_1103 : (Jvm.Cond.methodLink "BallastTrainModel" (159 : Nat) ({ cls := "BallastTrainModel", name := "keepsAside", desc := "()V" } : Jvm.MethodName)) ∈ tb := tb_mem 1103 (by decide +kernel) rfl
theorem tw_1105 : (Jvm.Cond.instanceMethod ({ cls := "BallastTrainModel", name := "keepsAside", desc := "()V" } : Jvm.MethodName)) ∈ tb := tb_mem 1105 (by decide +kernel) rfl
theorem tw_1106 : (Jvm.Cond.code ({ cls := "BallastTrainModel", name := "keepsAside", desc := "()V" } : Jvm.MethodName) prog_9_method_12_code (2 : Nat) (Option.none : Option Jvm.ClassFile.FieldType)) ∈ tb := tb_mem 1106 (by decide +kernel) rfl
theorem tw_1107 : (Jvm.Cond.methodLink "BallastTrainModel" (162 : Nat) ({ cls := "BallastTrainModel", name := "part", desc := "(I)I" } : Jvm.MethodName)) ∈ tb := tb_mem 1107 (by decide +kernel) rfl
theorem tw_1109 : (Jvm.Cond.instanceMethod ({ cls := "BallastTrainModel", name := "part", desc := "(I)I" } : Jvm.MethodName)) ∈ tb := tb_mem 1109 (by decide +kernel) rfl
theorem tw_1110 : (Jvm.Cond.code ({ cls := "BallastTrainModel", name := "part", desc := "(I)I" } : Jvm.MethodName) prog_9_method_58_code (2 : Nat) (Option.some Jvm.ClassFile.FieldType.int)) ∈ tb := tb_mem 1110 (by decide +kernel) rfl
theorem tw_1111 : (Jvm.Cond.methodLink "BallastTrainModel" (153 : Nat) ({ cls := "BallastTrainModel", name := "onTrack", desc := "()I" } : Jvm.MethodName)) ∈ tb := tb_mem 1111 (by decide +kernel) rfl
theorem tw_1113 : (Jvm.Cond.instanceMethod ({ cls := "BallastTrainModel", name := "onTrack", desc := "()I" } : Jvm.MethodName)) ∈ tb := tb_mem 1113 (by decide +kernel) rfl
theorem tw_1114 : (Jvm.Cond.code ({ cls := "BallastTrainModel", name := "onTrack", desc := "()I" } : Jvm.MethodName) prog_9_method_57_code (1 : Nat) (Option.some Jvm.ClassFile.FieldType.int)) ∈ tb := tb_mem 1114 (by decide +kernel) rfl
theorem tw_1115 : (Jvm.Cond.methodLink "BallastTrainModel" (156 : Nat) ({ cls := "BallastTrainModel", name := "lacking", desc := "(I)I" } : Jvm.MethodName)) ∈ tb := tb_mem 1115 (by decide +kernel) rfl
theorem tw_1116 : (Jvm.Cond.methodLink "BallastTrainModel" (165 : Nat) ({ cls := "BallastTrainModel", name := "returns", desc := "()V" } : Jvm.MethodName)) ∈ tb := tb_mem 1116 (by decide +kernel) rfl
theorem tw_1118 : (Jvm.Cond.instanceMethod ({ cls := "BallastTrainModel", name := "returns", desc := "()V" } : Jvm.MethodName)) ∈ tb := tb_mem 1118 (by decide +kernel) rfl
theorem tw_1119 : (Jvm.Cond.code ({ cls := "BallastTrainModel", name := "returns", desc := "()V" } : Jvm.MethodName) prog_9_method_13_code (2 : Nat) (Option.none : Option Jvm.ClassFile.FieldType)) ∈ tb := tb_mem 1119 (by decide +kernel) rfl
theorem tw_1120 : (Jvm.Cond.methodLink "BallastTrainLaw" (100 : Nat) ({ cls := "BallastTrainModel", name := "emptyAfter", desc := "()I" } : Jvm.MethodName)) ∈ tb := tb_mem 1120 (by decide +kernel) rfl
theorem tw_1121 : (Jvm.Cond.instanceMethod ({ cls := "BallastTrainModel", name := "emptyAfter", desc := "()I" } : Jvm.MethodName)) ∈ tb := tb_mem 1121 (by decide +kernel) rfl
theorem tw_1122 : (Jvm.Cond.selects "BallastTrainModel" ({ cls := "BallastTrainModel", name := "emptyAfter", desc := "()I" } : Jvm.MethodName) ({ cls := "BallastTrainModel", name := "emptyAfter", desc := "()I" } : Jvm.MethodName)) ∈ tb := tb_mem 1122 (by decide +kernel) rfl
theorem tw_1123 : (Jvm.Cond.code ({ cls := "BallastTrainModel", name := "emptyAfter", desc := "()I" } : Jvm.MethodName) prog_9_method_60_code (3 : Nat) (Option.some Jvm.ClassFile.FieldType.int)) ∈ tb := tb_mem 1123 (by decide +kernel) rfl
theorem tw_1124 : (Jvm.Cond.methodLink "BallastTrainLaw" (104 : Nat) ({ cls := "BallastTrainModel", name := "count", desc := "(I)I" } : Jvm.MethodName)) ∈ tb := tb_mem 1124 (by decide +kernel) rfl
theorem tw_1125 : (Jvm.Cond.instanceMethod ({ cls := "BallastTrainModel", name := "count", desc := "(I)I" } : Jvm.MethodName)) ∈ tb := tb_mem 1125 (by decide +kernel) rfl
theorem tw_1126 : (Jvm.Cond.selects "BallastTrainModel" ({ cls := "BallastTrainModel", name := "count", desc := "(I)I" } : Jvm.MethodName) ({ cls := "BallastTrainModel", name := "count", desc := "(I)I" } : Jvm.MethodName)) ∈ tb := tb_mem 1126 (by decide +kernel) rfl
theorem tw_1127 : (Jvm.Cond.code ({ cls := "BallastTrainModel", name := "count", desc := "(I)I" } : Jvm.MethodName) prog_9_method_61_code (2 : Nat) (Option.some Jvm.ClassFile.FieldType.int)) ∈ tb := tb_mem 1127 (by decide +kernel) rfl
theorem tw_1128 : (Jvm.Cond.methodLink "BallastTrainLaw" (109 : Nat) ({ cls := "BallastTrainModel", name := "digest", desc := "()J" } : Jvm.MethodName)) ∈ tb := tb_mem 1128 (by decide +kernel) rfl
theorem tw_1129 : (Jvm.Cond.instanceMethod ({ cls := "BallastTrainModel", name := "digest", desc := "()J" } : Jvm.MethodName)) ∈ tb := tb_mem 1129 (by decide +kernel) rfl
theorem tw_1130 : (Jvm.Cond.selects "BallastTrainModel" ({ cls := "BallastTrainModel", name := "digest", desc := "()J" } : Jvm.MethodName) ({ cls := "BallastTrainModel", name := "digest", desc := "()J" } : Jvm.MethodName)) ∈ tb := tb_mem 1130 (by decide +kernel) rfl
theorem tw_1131 : (Jvm.Cond.code ({ cls := "BallastTrainModel", name := "digest", desc := "()J" } : Jvm.MethodName) prog_9_method_64_code (2 : Nat) (Option.some Jvm.ClassFile.FieldType.long)) ∈ tb := tb_mem 1131 (by decide +kernel) rfl
theorem tw_1132 : (Jvm.Cond.constantLong "BallastTrainModel" (184 : Nat) (149 : Int64)) ∈ tb := tb_mem 1132 (by decide +kernel) rfl
theorem tw_1133 : (Jvm.Cond.methodLink "BallastTrainModel" (186 : Nat) ({ cls := "BallastTrainModel", name := "count", desc := "(I)I" } : Jvm.MethodName)) ∈ tb := tb_mem 1133 (by decide +kernel) rfl
theorem tw_1134 : (Jvm.Cond.methodLink "BallastTrainModel" (177 : Nat) ({ cls := "BallastTrainModel", name := "mixes", desc := "(I)V" } : Jvm.MethodName)) ∈ tb := tb_mem 1134 (by decide +kernel) rfl
theorem tw_1136 : (Jvm.Cond.instanceMethod ({ cls := "BallastTrainModel", name := "mixes", desc := "(I)V" } : Jvm.MethodName)) ∈ tb := tb_mem 1136 (by decide +kernel) rfl
theorem tw_1137 : (Jvm.Cond.code ({ cls := "BallastTrainModel", name := "mixes", desc := "(I)V" } : Jvm.MethodName) prog_9_method_62_code (2 : Nat) (Option.none : Option Jvm.ClassFile.FieldType)) ∈ tb := tb_mem 1137 (by decide +kernel) rfl
theorem tw_1138 : (Jvm.Cond.constantLong "BallastTrainModel" (168 : Nat) (31 : Int64)) ∈ tb := tb_mem 1138 (by decide +kernel) rfl
theorem tw_1139 : (Jvm.Cond.methodLink "BallastTrainModel" (189 : Nat) ({ cls := "BallastTrainModel", name := "mixesWagon", desc := "(I)V" } : Jvm.MethodName)) ∈ tb := tb_mem 1139 (by decide +kernel) rfl
theorem tw_1141 : (Jvm.Cond.instanceMethod ({ cls := "BallastTrainModel", name := "mixesWagon", desc := "(I)V" } : Jvm.MethodName)) ∈ tb := tb_mem 1141 (by decide +kernel) rfl
theorem tw_1142 : (Jvm.Cond.code ({ cls := "BallastTrainModel", name := "mixesWagon", desc := "(I)V" } : Jvm.MethodName) prog_9_method_63_code (3 : Nat) (Option.none : Option Jvm.ClassFile.FieldType)) ∈ tb := tb_mem 1142 (by decide +kernel) rfl
theorem tw_1143 : (Jvm.Cond.methodLink "BallastTrainModel" (174 : Nat) ({ cls := "BallastTrainModel", name := "wagon", desc := "(II)I" } : Jvm.MethodName)) ∈ tb := tb_mem 1143 (by decide +kernel) rfl
theorem tw_1144 : (Jvm.Cond.methodLink "BallastTrainModel" (180 : Nat) ({ cls := "BallastTrainModel", name := "doorOf", desc := "(III)I" } : Jvm.MethodName)) ∈ tb := tb_mem 1144 (by decide +kernel) rfl
theorem tw_1145 : (Jvm.Cond.methodLink "BallastTrainModel" (192 : Nat) ({ cls := "BallastTrainModel", name := "profile", desc := "(II)I" } : Jvm.MethodName)) ∈ tb := tb_mem 1145 (by decide +kernel) rfl
theorem tw_1146 : (Jvm.Cond.methodLink "BallastTrainModel" (195 : Nat) ({ cls := "BallastTrainModel", name := "foretell", desc := "(II)I" } : Jvm.MethodName)) ∈ tb := tb_mem 1146 (by decide +kernel) rfl
theorem tw_1147 : (Jvm.Cond.methodLink "BallastTrainModel" (198 : Nat) ({ cls := "BallastTrainModel", name := "emptyAfter", desc := "()I" } : Jvm.MethodName)) ∈ tb := tb_mem 1147 (by decide +kernel) rfl
theorem tw_1159 : (Jvm.Cond.selects "[Ljava/lang/Object;" ({ cls := "java/lang/Object", name := "getClass", desc := "()Ljava/lang/Class;" } : Jvm.MethodName) ({ cls := "java/lang/Object", name := "getClass", desc := "()Ljava/lang/Class;" } : Jvm.MethodName)) ∈ tb := tb_mem 1159 (by decide +kernel) rfl
theorem tw_1165 : (Jvm.Cond.fieldLink "java/lang/String" (15 : Nat) "java/lang/String" "coder" "B") ∈ tb := tb_mem 1165 (by decide +kernel) rfl
theorem tw_1166 : (Jvm.Cond.fieldLink "java/lang/String" (9 : Nat) "java/lang/String" "value" "[B") ∈ tb := tb_mem 1166 (by decide +kernel) rfl
theorem inb_Jx4a65c : ∀ w ∈ u_ws RJx4a65c TJx4a65c 3, w ∈ tb := by decide +kernel
theorem inb_X0 : ∀ w ∈ u_ws RX0 TX0 3, w ∈ tb := by decide +kernel
theorem inb_X1 : ∀ w ∈ u_ws RX1 TX1 5, w ∈ tb := by decide +kernel
theorem inb_X2 : ∀ w ∈ u_ws RX2 TX2 9, w ∈ tb := by decide +kernel
theorem inb_X3 : ∀ w ∈ u_ws RX3 TX3 5, w ∈ tb := by decide +kernel
theorem inb_X4 : ∀ w ∈ u_ws RX4 TX4 1, w ∈ tb := by decide +kernel
theorem inb_X5 : ∀ w ∈ u_ws RX5 TX5 8, w ∈ tb := by decide +kernel
theorem inb_X6 : ∀ w ∈ u_ws RX6 TX6 4, w ∈ tb := by decide +kernel
theorem inb_X7 : ∀ w ∈ u_ws RX7 TX7 11, w ∈ tb := by decide +kernel
theorem oi_X0_3 : Cond.methodLink "BallastTrain$History" 3 objectInit ∈ tb ∧ Cond.instanceMethod objectInit ∈ tb ∧ Cond.code objectInit ⟨#[0xb1]⟩ 1 none ∈ tb := ⟨tw_241, tw_83, by decide +kernel⟩
theorem cl_X0_9 : Cond.classLink "BallastTrain$History" 9 "BallastTrain$State" ∈ tb := tw_242
theorem fp_X0_11 : FP "BallastTrain$History" 11 1 0 true (.array (.object "BallastTrain$State")) := ⟨RX0, "BallastTrain$History", TX0, 3, tyX0, rfl, inb_X0, by decide, tw_245, Or.inl rfl, tyX0_ok, nmX0, rfl, fun _ => rfl, rfl⟩
theorem fp_X0_17 : FP "BallastTrain$History" 17 1 1 false .int := ⟨RX0, "BallastTrain$History", TX0, 3, tyX0, rfl, inb_X0, by decide, tw_246, Or.inl rfl, tyX0_ok, nmX0, rfl, (fun h => by cases h), rfl⟩
theorem fp_X0_21 : FP "BallastTrain$History" 21 1 2 false .int := ⟨RX0, "BallastTrain$History", TX0, 3, tyX0, rfl, inb_X0, by decide, tw_247, Or.inl rfl, tyX0_ok, nmX0, rfl, (fun h => by cases h), rfl⟩
theorem fd_X0_11 : FD "BallastTrain$History" 11 1 0 := ⟨RX0, "BallastTrain$History", TX0, 3, rfl, inb_X0, by decide, tw_245, Or.inl rfl⟩
theorem nd_X0_9 : ND "BallastTrain$History" 9 3 9 [.null, .null, .null, .null, .int 0, .int 0, .int 0, .int 0, .int 0] := ⟨RX2, TX2, tyX2, rfl, inb_X2, tyX2_ok, tw_242, tw_138, tw_61, fun j hj => by rcases (show j = 0 ∨ j = 1 ∨ j = 2 ∨ j = 3 ∨ j = 4 ∨ j = 5 ∨ j = 6 ∨ j = 7 ∨ j = 8 by omega) with rfl | rfl | rfl | rfl | rfl | rfl | rfl | rfl | rfl <;> rfl⟩
theorem min_X0_24 : MIN "BallastTrain$History" 24 yX2_init cX2_init 1 0 := ⟨⟨by decide +kernel, tw_140, rfl, tw_61, tw_141⟩, by decide, by decide, by decide +kernel⟩
theorem fd_X0_17 : FD "BallastTrain$History" 17 1 1 := ⟨RX0, "BallastTrain$History", TX0, 3, rfl, inb_X0, by decide, tw_246, Or.inl rfl⟩
theorem ms_X0_25 : MS "BallastTrain$History" 25 yJ9_floorMod_7cf53 cJ9_floorMod_7cf53 3 (some .int) 2 := ⟨⟨tw_506, tw_507, tw_69, tw_508⟩, by decide, by decide, by decide +kernel⟩
theorem mv_X0_31 : MV "BallastTrain$History" 31 yX2_copyFrom cX2_copyFrom 2 none 1 := ⟨⟨tw_509, tw_510, tw_511, tw_61, tw_512⟩, by decide, by decide, by decide +kernel⟩
theorem fd_X0_21 : FD "BallastTrain$History" 21 1 2 := ⟨RX0, "BallastTrain$History", TX0, 3, rfl, inb_X0, by decide, tw_247, Or.inl rfl⟩
theorem mm_X0_35 : Cond.methodLink "BallastTrain$History" 35 Lib.Math.min.name ∈ tb ∧ Cond.static Lib.Math.min.name ∈ tb ∧ Cond.initialized "java/lang/Math" ∈ tb ∧ Cond.code Lib.Math.min.name Lib.Math.min.code 2 (some .int) ∈ tb := ⟨tw_547, tw_345, tw_69, by decide +kernel⟩
theorem oi_X1_3 : Cond.methodLink "BallastTrain$Order" 3 objectInit ∈ tb ∧ Cond.instanceMethod objectInit ∈ tb ∧ Cond.code objectInit ⟨#[0xb1]⟩ 1 none ∈ tb := ⟨tw_424, tw_83, by decide +kernel⟩
theorem fp_X1_9 : FP "BallastTrain$Order" 9 2 0 true .int := ⟨RX1, "BallastTrain$Order", TX1, 5, tyX1, rfl, inb_X1, by decide, tw_425, Or.inl rfl, tyX1_ok, nmX1, rfl, fun _ => rfl, rfl⟩
theorem fp_X1_15 : FP "BallastTrain$Order" 15 2 1 true .int := ⟨RX1, "BallastTrain$Order", TX1, 5, tyX1, rfl, inb_X1, by decide, tw_426, Or.inl rfl, tyX1_ok, nmX1, rfl, fun _ => rfl, rfl⟩
theorem fp_X1_18 : FP "BallastTrain$Order" 18 2 2 true .int := ⟨RX1, "BallastTrain$Order", TX1, 5, tyX1, rfl, inb_X1, by decide, tw_427, Or.inl rfl, tyX1_ok, nmX1, rfl, fun _ => rfl, rfl⟩
theorem fp_X1_21 : FP "BallastTrain$Order" 21 2 3 true .int := ⟨RX1, "BallastTrain$Order", TX1, 5, tyX1, rfl, inb_X1, by decide, tw_428, Or.inl rfl, tyX1_ok, nmX1, rfl, fun _ => rfl, rfl⟩
theorem fp_X1_24 : FP "BallastTrain$Order" 24 2 4 true .int := ⟨RX1, "BallastTrain$Order", TX1, 5, tyX1, rfl, inb_X1, by decide, tw_429, Or.inl rfl, tyX1_ok, nmX1, rfl, fun _ => rfl, rfl⟩
theorem fd_X1_9 : FD "BallastTrain$Order" 9 2 0 := ⟨RX1, "BallastTrain$Order", TX1, 5, rfl, inb_X1, by decide, tw_425, Or.inl rfl⟩
theorem fd_X1_15 : FD "BallastTrain$Order" 15 2 1 := ⟨RX1, "BallastTrain$Order", TX1, 5, rfl, inb_X1, by decide, tw_426, Or.inl rfl⟩
theorem fd_X1_18 : FD "BallastTrain$Order" 18 2 2 := ⟨RX1, "BallastTrain$Order", TX1, 5, rfl, inb_X1, by decide, tw_427, Or.inl rfl⟩
theorem fd_X1_21 : FD "BallastTrain$Order" 21 2 3 := ⟨RX1, "BallastTrain$Order", TX1, 5, rfl, inb_X1, by decide, tw_428, Or.inl rfl⟩
theorem fd_X1_24 : FD "BallastTrain$Order" 24 2 4 := ⟨RX1, "BallastTrain$Order", TX1, 5, rfl, inb_X1, by decide, tw_429, Or.inl rfl⟩
theorem fd_X1_27 : FD "BallastTrain$Order" 27 6 1 := ⟨RX5, "BallastTrain$Train", TX5, 8, rfl, inb_X5, by decide, tw_167, Or.inl rfl⟩
theorem mv_X1_32 : MV "BallastTrain$Order" 32 yX5_hasDoor cX5_hasDoor 3 (some .boolean) 2 := ⟨⟨tw_638, tw_576, tw_577, tw_63, tw_578⟩, by decide, by decide, by decide +kernel⟩
theorem mv_X1_36 : MV "BallastTrain$Order" 36 yX5_cellBelow cX5_cellBelow 2 (some .int) 1 := ⟨⟨tw_639, tw_640, tw_641, tw_63, tw_642⟩, by decide, by decide, by decide +kernel⟩
theorem fp_X1_40 : FP "BallastTrain$Order" 40 6 3 false .int := ⟨RX5, "BallastTrain$Train", TX5, 8, tyX5, rfl, inb_X5, by decide, tw_172, Or.inl rfl, tyX5_ok, nmX5, rfl, (fun h => by cases h), rfl⟩
theorem mv_X1_43 : MV "BallastTrain$Order" 43 yX5_openDoor cX5_openDoor 4 none 3 := ⟨⟨tw_647, tw_589, tw_590, tw_63, tw_591⟩, by decide, by decide, by decide +kernel⟩
theorem mv_X1_47 : MV "BallastTrain$Order" 47 yX5_closeDoor cX5_closeDoor 4 none 3 := ⟨⟨tw_648, tw_585, tw_586, tw_63, tw_587⟩, by decide, by decide, by decide +kernel⟩
theorem oi_X2_3 : Cond.methodLink "BallastTrain$State" 3 objectInit ∈ tb ∧ Cond.instanceMethod objectInit ∈ tb ∧ Cond.code objectInit ⟨#[0xb1]⟩ 1 none ∈ tb := ⟨tw_142, tw_83, by decide +kernel⟩
theorem fp_X2_9 : FP "BallastTrain$State" 9 3 0 true (.array .int) := ⟨RX2, "BallastTrain$State", TX2, 9, tyX2, rfl, inb_X2, by decide, tw_199, Or.inl rfl, tyX2_ok, nmX2, rfl, fun _ => rfl, rfl⟩
theorem nd_X2_15 : ND "BallastTrain$State" 15 5 1 [.null] := ⟨RX4, TX4, tyX4, rfl, inb_X4, tyX4_ok, tw_143, tw_144, tw_62, fun j hj => by rcases (show j = 0 by omega) with rfl <;> rfl⟩
theorem min_X2_17 : MIN "BallastTrain$State" 17 yX4_init cX4_init 1 0 := ⟨⟨by decide +kernel, tw_146, rfl, tw_62, tw_147⟩, by decide, by decide, by decide +kernel⟩
theorem fp_X2_18 : FP "BallastTrain$State" 18 3 1 true (.object "BallastTrain$Track") := ⟨RX2, "BallastTrain$State", TX2, 9, tyX2, rfl, inb_X2, by decide, tw_201, Or.inl rfl, tyX2_ok, nmX2, rfl, fun _ => rfl, rfl⟩
theorem nd_X2_22 : ND "BallastTrain$State" 22 6 8 [.int 0, .int 0, .int 0, .int 0, .null, .null, .null, .null] := ⟨RX5, TX5, tyX5, rfl, inb_X5, tyX5_ok, tw_154, tw_155, tw_63, fun j hj => by rcases (show j = 0 ∨ j = 1 ∨ j = 2 ∨ j = 3 ∨ j = 4 ∨ j = 5 ∨ j = 6 ∨ j = 7 by omega) with rfl | rfl | rfl | rfl | rfl | rfl | rfl | rfl <;> rfl⟩
theorem mi_X2_24 : MI "BallastTrain$State" 24 yX5_init cX5_init 1 0 := ⟨⟨tw_156, tw_157, rfl, tw_63, tw_158⟩, by decide, by decide, by decide +kernel⟩
theorem fp_X2_25 : FP "BallastTrain$State" 25 3 2 true (.object "BallastTrain$Train") := ⟨RX2, "BallastTrain$State", TX2, 9, tyX2, rfl, inb_X2, by decide, tw_203, Or.inl rfl, tyX2_ok, nmX2, rfl, fun _ => rfl, rfl⟩
theorem nd_X2_29 : ND "BallastTrain$State" 29 0 3 [.int 0, .null, .int 0] := ⟨RJx4a65c, TJx4a65c, tyJx4a65c, rfl, inb_Jx4a65c, tyJx4a65c_ok, tw_197, tw_92, tw_60, fun j hj => by rcases (show j = 0 ∨ j = 1 ∨ j = 2 by omega) with rfl | rfl | rfl <;> rfl⟩
theorem mi_X2_31 : MI "BallastTrain$State" 31 yJx4a65c_init_da8c8 cJx4a65c_init_da8c8 1 0 := ⟨⟨tw_198, tw_94, rfl, tw_60, tw_95⟩, by decide, by decide, by decide +kernel⟩
theorem fp_X2_32 : FP "BallastTrain$State" 32 3 3 true (.object "java/util/ArrayList") := ⟨RX2, "BallastTrain$State", TX2, 9, tyX2, rfl, inb_X2, by decide, tw_205, Or.inl rfl, tyX2_ok, nmX2, rfl, fun _ => rfl, rfl⟩
theorem fp_X2_36 : FP "BallastTrain$State" 36 3 4 false .int := ⟨RX2, "BallastTrain$State", TX2, 9, tyX2, rfl, inb_X2, by decide, tw_207, Or.inl rfl, tyX2_ok, nmX2, rfl, (fun h => by cases h), rfl⟩
theorem fp_X2_40 : FP "BallastTrain$State" 40 3 5 false .int := ⟨RX2, "BallastTrain$State", TX2, 9, tyX2, rfl, inb_X2, by decide, tw_209, Or.inl rfl, tyX2_ok, nmX2, rfl, (fun h => by cases h), rfl⟩
theorem fp_X2_43 : FP "BallastTrain$State" 43 3 6 false .int := ⟨RX2, "BallastTrain$State", TX2, 9, tyX2, rfl, inb_X2, by decide, tw_211, Or.inl rfl, tyX2_ok, nmX2, rfl, (fun h => by cases h), rfl⟩
theorem fp_X2_46 : FP "BallastTrain$State" 46 3 7 false .int := ⟨RX2, "BallastTrain$State", TX2, 9, tyX2, rfl, inb_X2, by decide, tw_213, Or.inl rfl, tyX2_ok, nmX2, rfl, (fun h => by cases h), rfl⟩
theorem fp_X2_49 : FP "BallastTrain$State" 49 3 8 false .int := ⟨RX2, "BallastTrain$State", TX2, 9, tyX2, rfl, inb_X2, by decide, tw_215, Or.inl rfl, tyX2_ok, nmX2, rfl, (fun h => by cases h), rfl⟩
theorem fd_X2_9 : FD "BallastTrain$State" 9 3 0 := ⟨RX2, "BallastTrain$State", TX2, 9, rfl, inb_X2, by decide, tw_199, Or.inl rfl⟩
theorem msn_X2_52 : MSN "BallastTrain$State" 52 yX6_copyRow cX6_copyRow 2 none 2 := ⟨⟨by decide +kernel, tw_514, tw_56, tw_515⟩, by decide, by decide, by decide +kernel⟩
theorem fd_X2_18 : FD "BallastTrain$State" 18 3 1 := ⟨RX2, "BallastTrain$State", TX2, 9, rfl, inb_X2, by decide, tw_201, Or.inl rfl⟩
theorem fd_X2_56 : FD "BallastTrain$State" 56 5 0 := ⟨RX4, "BallastTrain$Track", TX4, 1, rfl, inb_X4, by decide, tw_150, Or.inl rfl⟩
theorem fd_X2_25 : FD "BallastTrain$State" 25 3 2 := ⟨RX2, "BallastTrain$State", TX2, 9, rfl, inb_X2, by decide, tw_203, Or.inl rfl⟩
theorem mv_X2_59 : MV "BallastTrain$State" 59 yX5_copyFrom cX5_copyFrom 2 none 1 := ⟨⟨tw_518, tw_519, tw_520, tw_63, tw_521⟩, by decide, by decide, by decide +kernel⟩
theorem fd_X2_32 : FD "BallastTrain$State" 32 3 3 := ⟨RX2, "BallastTrain$State", TX2, 9, rfl, inb_X2, by decide, tw_205, Or.inl rfl⟩
theorem mv_X2_63 : MV "BallastTrain$State" 63 yJx4a65c_clear_da8c8 cJx4a65c_clear_da8c8 4 none 0 := ⟨⟨tw_523, tw_293, tw_294, tw_60, tw_295⟩, by decide, by decide, by decide +kernel⟩
theorem msn_X2_66 : MSN "BallastTrain$State" 66 yX6_addAll cX6_addAll 3 none 2 := ⟨⟨by decide +kernel, tw_525, tw_56, tw_526⟩, by decide, by decide, by decide +kernel⟩
theorem fd_X2_36 : FD "BallastTrain$State" 36 3 4 := ⟨RX2, "BallastTrain$State", TX2, 9, rfl, inb_X2, by decide, tw_207, Or.inl rfl⟩
theorem fd_X2_40 : FD "BallastTrain$State" 40 3 5 := ⟨RX2, "BallastTrain$State", TX2, 9, rfl, inb_X2, by decide, tw_209, Or.inl rfl⟩
theorem fd_X2_43 : FD "BallastTrain$State" 43 3 6 := ⟨RX2, "BallastTrain$State", TX2, 9, rfl, inb_X2, by decide, tw_211, Or.inl rfl⟩
theorem fd_X2_46 : FD "BallastTrain$State" 46 3 7 := ⟨RX2, "BallastTrain$State", TX2, 9, rfl, inb_X2, by decide, tw_213, Or.inl rfl⟩
theorem fd_X2_49 : FD "BallastTrain$State" 49 3 8 := ⟨RX2, "BallastTrain$State", TX2, 9, rfl, inb_X2, by decide, tw_215, Or.inl rfl⟩
theorem mv_X2_70 : MV "BallastTrain$State" 70 yX5_move cX5_move 1 none 0 := ⟨⟨tw_622, tw_623, tw_624, tw_63, tw_625⟩, by decide, by decide, by decide +kernel⟩
theorem mv_X2_73 : MV "BallastTrain$State" 73 yX2_carryOutOrders cX2_carryOutOrders 4 none 0 := ⟨⟨tw_627, tw_629, tw_10, tw_61, tw_630⟩, by decide, by decide, by decide +kernel⟩
theorem mv_X2_76 : MV "BallastTrain$State" 76 yX2_unload cX2_unload 3 none 0 := ⟨⟨tw_654, tw_656, tw_11, tw_61, tw_657⟩, by decide, by decide, by decide +kernel⟩
theorem mv_X2_79 : MV "BallastTrain$State" 79 yX4_slide cX4_slide 4 none 1 := ⟨⟨tw_675, tw_676, tw_677, tw_62, tw_678⟩, by decide, by decide, by decide +kernel⟩
theorem mv_X2_83 : MV "BallastTrain$State" 83 yX4_cutShoulders cX4_cutShoulders 5 (some .int) 1 := ⟨⟨tw_679, tw_680, tw_681, tw_62, tw_682⟩, by decide, by decide, by decide +kernel⟩
theorem mv_X2_87 : MV "BallastTrain$State" 87 yX5_closeFurther cX5_closeFurther 5 (some .int) 1 := ⟨⟨tw_683, tw_684, tw_685, tw_63, tw_686⟩, by decide, by decide, by decide +kernel⟩
theorem fd_X2_90 : FD "BallastTrain$State" 90 6 0 := ⟨RX5, "BallastTrain$Train", TX5, 8, rfl, inb_X5, by decide, tw_164, Or.inl rfl⟩
theorem mv_X2_93 : MV "BallastTrain$State" 93 yX5_cellBelow cX5_cellBelow 2 (some .int) 1 := ⟨⟨tw_658, tw_640, tw_641, tw_63, tw_642⟩, by decide, by decide, by decide +kernel⟩
theorem mv_X2_96 : MV "BallastTrain$State" 96 yX5_drop cX5_drop 4 (some .int) 2 := ⟨⟨tw_659, tw_660, tw_661, tw_63, tw_662⟩, by decide, by decide, by decide +kernel⟩
theorem mv_X2_100 : MV "BallastTrain$State" 100 yX2_land cX2_land 4 none 3 := ⟨⟨tw_663, tw_665, tw_12, tw_61, tw_666⟩, by decide, by decide, by decide +kernel⟩
theorem ms_X2_104 : MS "BallastTrain$State" 104 yX4_has cX4_has 2 (some .boolean) 2 := ⟨⟨tw_667, tw_668, tw_62, tw_669⟩, by decide, by decide, by decide +kernel⟩
theorem mv_X2_108 : MV "BallastTrain$State" 108 yX4_add cX4_add 4 none 3 := ⟨⟨tw_670, tw_671, tw_672, tw_62, tw_673⟩, by decide, by decide, by decide +kernel⟩
theorem mv_X2_111 : MV "BallastTrain$State" 111 yJx4a65c_size_8abf5 cJx4a65c_size_8abf5 1 (some .int) 0 := ⟨⟨tw_631, tw_528, tw_529, tw_60, tw_530⟩, by decide, by decide, by decide +kernel⟩
theorem mv_X2_115 : MV "BallastTrain$State" 115 yJx4a65c_get_915e3 cJx4a65c_get_915e3 2 (some (.object "java/lang/Object")) 1 := ⟨⟨tw_632, tw_532, tw_533, tw_60, tw_534⟩, by decide, by decide, by decide +kernel⟩
theorem cl_X2_119 : Cond.classLink "BallastTrain$State" 119 "BallastTrain$Order" ∈ tb := tw_633
theorem mv_X2_121 : MV "BallastTrain$State" 121 yX1_isDue cX1_isDue 2 (some .boolean) 1 := ⟨⟨tw_634, tw_635, tw_636, tw_73, tw_637⟩, by decide, by decide, by decide +kernel⟩
theorem mv_X2_125 : MV "BallastTrain$State" 125 yX1_carryOut cX1_carryOut 3 none 2 := ⟨⟨tw_643, tw_644, tw_645, tw_73, tw_646⟩, by decide, by decide, by decide +kernel⟩
theorem mv_X2_129 : MV "BallastTrain$State" 129 yJx4a65c_set_bcc79 cJx4a65c_set_bcc79 4 (some (.object "java/lang/Object")) 2 := ⟨⟨tw_649, tw_650, tw_651, tw_60, tw_652⟩, by decide, by decide, by decide +kernel⟩
theorem mv_X2_133 : MV "BallastTrain$State" 133 yJx4a65c_remove_915e3 cJx4a65c_remove_915e3 4 (some (.object "java/lang/Object")) 1 := ⟨⟨tw_653, tw_606, tw_607, tw_60, tw_608⟩, by decide, by decide, by decide +kernel⟩
theorem oi_X3_3 : Cond.methodLink "BallastTrain$Text" 3 objectInit ∈ tb ∧ Cond.instanceMethod objectInit ∈ tb ∧ Cond.code objectInit ⟨#[0xb1]⟩ 1 none ∈ tb := ⟨tw_90, tw_83, by decide +kernel⟩
theorem fp_X3_9 : FP "BallastTrain$Text" 9 4 0 true (.array .int) := ⟨RX3, "BallastTrain$Text", TX3, 5, tyX3, rfl, inb_X3, by decide, tw_118, Or.inl rfl, tyX3_ok, nmX3, rfl, fun _ => rfl, rfl⟩
theorem fp_X3_15 : FP "BallastTrain$Text" 15 4 1 false .int := ⟨RX3, "BallastTrain$Text", TX3, 5, tyX3, rfl, inb_X3, by decide, tw_119, Or.inl rfl, tyX3_ok, nmX3, rfl, (fun h => by cases h), rfl⟩
theorem nd_X3_19 : ND "BallastTrain$Text" 19 0 3 [.int 0, .null, .int 0] := ⟨RJx4a65c, TJx4a65c, tyJx4a65c, rfl, inb_Jx4a65c, tyJx4a65c_ok, tw_91, tw_92, tw_60, fun j hj => by rcases (show j = 0 ∨ j = 1 ∨ j = 2 by omega) with rfl | rfl | rfl <;> rfl⟩
theorem mi_X3_21 : MI "BallastTrain$Text" 21 yJx4a65c_init_da8c8 cJx4a65c_init_da8c8 1 0 := ⟨⟨tw_93, tw_94, rfl, tw_60, tw_95⟩, by decide, by decide, by decide +kernel⟩
theorem fp_X3_22 : FP "BallastTrain$Text" 22 4 2 true (.object "java/util/ArrayList") := ⟨RX3, "BallastTrain$Text", TX3, 5, tyX3, rfl, inb_X3, by decide, tw_121, Or.inl rfl, tyX3_ok, nmX3, rfl, fun _ => rfl, rfl⟩
theorem fp_X3_26 : FP "BallastTrain$Text" 26 4 3 false .int := ⟨RX3, "BallastTrain$Text", TX3, 5, tyX3, rfl, inb_X3, by decide, tw_123, Or.inl rfl, tyX3_ok, nmX3, rfl, (fun h => by cases h), rfl⟩
theorem fp_X3_29 : FP "BallastTrain$Text" 29 4 4 false .int := ⟨RX3, "BallastTrain$Text", TX3, 5, tyX3, rfl, inb_X3, by decide, tw_125, Or.inl rfl, tyX3_ok, nmX3, rfl, (fun h => by cases h), rfl⟩
theorem fd_X3_15 : FD "BallastTrain$Text" 15 4 1 := ⟨RX3, "BallastTrain$Text", TX3, 5, rfl, inb_X3, by decide, tw_119, Or.inl rfl⟩
theorem fd_X3_9 : FD "BallastTrain$Text" 9 4 0 := ⟨RX3, "BallastTrain$Text", TX3, 5, rfl, inb_X3, by decide, tw_118, Or.inl rfl⟩
theorem fd_X3_22 : FD "BallastTrain$Text" 22 4 2 := ⟨RX3, "BallastTrain$Text", TX3, 5, rfl, inb_X3, by decide, tw_121, Or.inl rfl⟩
theorem mv_X3_32 : MV "BallastTrain$Text" 32 yJx4a65c_clear_da8c8 cJx4a65c_clear_da8c8 4 none 0 := ⟨⟨tw_292, tw_293, tw_294, tw_60, tw_295⟩, by decide, by decide, by decide +kernel⟩
theorem mv_X3_35 : MV "BallastTrain$Text" 35 yX3_skipBlanks cX3_skipBlanks 2 none 0 := ⟨⟨tw_296, tw_298, tw_0, tw_57, tw_299⟩, by decide, by decide, by decide +kernel⟩
theorem fd_X3_26 : FD "BallastTrain$Text" 26 4 3 := ⟨RX3, "BallastTrain$Text", TX3, 5, rfl, inb_X3, by decide, tw_123, Or.inl rfl⟩
theorem fd_X3_29 : FD "BallastTrain$Text" 29 4 4 := ⟨RX3, "BallastTrain$Text", TX3, 5, rfl, inb_X3, by decide, tw_125, Or.inl rfl⟩
theorem mv_X3_38 : MV "BallastTrain$Text" 38 yX3_readOrder cX3_readOrder 6 none 0 := ⟨⟨tw_304, tw_306, tw_1, tw_57, tw_307⟩, by decide, by decide, by decide +kernel⟩
theorem mv_X3_43 : MV "BallastTrain$Text" 43 yX3_takeOneOf cX3_takeOneOf 4 (some .int) 1 := ⟨⟨tw_309, tw_311, tw_2, tw_57, tw_312⟩, by decide, by decide, by decide +kernel⟩
theorem mv_X3_47 : MV "BallastTrain$Text" 47 yX3_takeCell cX3_takeCell 4 (some .int) 0 := ⟨⟨tw_405, tw_407, tw_4, tw_57, tw_408⟩, by decide, by decide, by decide +kernel⟩
theorem mv_X3_53 : MV "BallastTrain$Text" 53 yX3_takeDigit cX3_takeDigit 3 (some .int) 2 := ⟨⟨tw_413, tw_415, tw_5, tw_57, tw_416⟩, by decide, by decide, by decide +kernel⟩
theorem nd_X3_61 : ND "BallastTrain$Text" 61 2 5 [.int 0, .int 0, .int 0, .int 0, .int 0] := ⟨RX1, TX1, tyX1, rfl, inb_X1, tyX1_ok, tw_419, tw_420, tw_73, fun j hj => by rcases (show j = 0 ∨ j = 1 ∨ j = 2 ∨ j = 3 ∨ j = 4 by omega) with rfl | rfl | rfl | rfl | rfl <;> rfl⟩
theorem mi_X3_63 : MI "BallastTrain$Text" 63 yX1_init cX1_init 6 5 := ⟨⟨tw_421, tw_422, rfl, tw_73, tw_423⟩, by decide, by decide, by decide +kernel⟩
theorem mv_X3_66 : MV "BallastTrain$Text" 66 yJx4a65c_add_9ea2d cJx4a65c_add_9ea2d 2 (some .boolean) 1 := ⟨⟨tw_442, tw_443, tw_444, tw_60, tw_445⟩, by decide, by decide, by decide +kernel⟩
theorem mv_X3_70 : MV "BallastTrain$Text" 70 yX3_byteAt cX3_byteAt 2 (some .int) 1 := ⟨⟨tw_300, tw_301, tw_302, tw_57, tw_303⟩, by decide, by decide, by decide +kernel⟩
theorem mv_X3_74 : MV "BallastTrain$Text" 74 yJ0_indexOf_0f7a4 cJ0_indexOf_0f7a4 2 (some .int) 1 := ⟨⟨tw_313, tw_314, tw_315, tw_67, tw_316⟩, by decide, by decide, by decide +kernel⟩
theorem mv_X3_79 : MV "BallastTrain$Text" 79 yJ0_length_8abf5 cJ0_length_8abf5 1 (some .int) 0 := ⟨⟨tw_399, tw_328, tw_329, tw_67, tw_330⟩, by decide, by decide, by decide +kernel⟩
theorem mv_X3_81 : MV "BallastTrain$Text" 81 yX3_take cX3_take 4 (some .int) 3 := ⟨⟨tw_400, tw_402, tw_3, tw_57, tw_403⟩, by decide, by decide, by decide +kernel⟩
theorem msn_X3_85 : MSN "BallastTrain$Text" 85 yX6_isWithin cX6_isWithin 3 (some .boolean) 3 := ⟨⟨by decide +kernel, tw_274, tw_56, tw_275⟩, by decide, by decide, by decide +kernel⟩
theorem ms_X3_89 : MS "BallastTrain$Text" 89 yX3_isDigit cX3_isDigit 1 (some .boolean) 1 := ⟨⟨tw_409, tw_410, tw_57, tw_411⟩, by decide, by decide, by decide +kernel⟩
theorem oi_X4_3 : Cond.methodLink "BallastTrain$Track" 3 objectInit ∈ tb ∧ Cond.instanceMethod objectInit ∈ tb ∧ Cond.code objectInit ⟨#[0xb1]⟩ 1 none ∈ tb := ⟨tw_148, tw_83, by decide +kernel⟩
theorem fp_X4_9 : FP "BallastTrain$Track" 9 5 0 true (.array .int) := ⟨RX4, "BallastTrain$Track", TX4, 1, tyX4, rfl, inb_X4, by decide, tw_149, Or.inl rfl, tyX4_ok, nmX4, rfl, fun _ => rfl, rfl⟩
theorem ms_X4_15 : MS "BallastTrain$Track" 15 yX4_has cX4_has 2 (some .boolean) 2 := ⟨⟨tw_674, tw_668, tw_62, tw_669⟩, by decide, by decide, by decide +kernel⟩
theorem fd_X4_9 : FD "BallastTrain$Track" 9 5 0 := ⟨RX4, "BallastTrain$Track", TX4, 1, rfl, inb_X4, by decide, tw_149, Or.inl rfl⟩
theorem msn_X4_19 : MSN "BallastTrain$Track" 19 yX6_sum cX6_sum 6 (some .int) 1 := ⟨⟨by decide +kernel, tw_557, tw_56, tw_558⟩, by decide, by decide, by decide +kernel⟩
theorem mv_X4_23 : MV "BallastTrain$Track" 23 yX4_heightAt cX4_heightAt 3 (some .int) 2 := ⟨⟨tw_740, tw_693, tw_694, tw_62, tw_695⟩, by decide, by decide, by decide +kernel⟩
theorem mv_X4_27 : MV "BallastTrain$Track" 27 yX4_firstGreatestOn cX4_firstGreatestOn 4 (some .int) 1 := ⟨⟨tw_745, tw_746, tw_747, tw_62, tw_748⟩, by decide, by decide, by decide +kernel⟩
theorem mm_X4_31 : Cond.methodLink "BallastTrain$Track" 31 Lib.Math.max.name ∈ tb ∧ Cond.static Lib.Math.max.name ∈ tb ∧ Cond.initialized "java/lang/Math" ∈ tb ∧ Cond.code Lib.Math.max.name Lib.Math.max.code 2 (some .int) ∈ tb := ⟨tw_758, tw_342, tw_69, by decide +kernel⟩
theorem mm_X4_36 : Cond.methodLink "BallastTrain$Track" 36 Lib.Math.abs.name ∈ tb ∧ Cond.static Lib.Math.abs.name ∈ tb ∧ Cond.initialized "java/lang/Math" ∈ tb ∧ Cond.code Lib.Math.abs.name Lib.Math.abs.code 1 (some .int) ∈ tb := ⟨tw_763, tw_764, tw_69, by decide +kernel⟩
theorem mv_X4_39 : MV "BallastTrain$Track" 39 yX4_lowestIn cX4_lowestIn 4 (some .int) 1 := ⟨⟨tw_778, tw_780, tw_13, tw_62, tw_781⟩, by decide, by decide, by decide +kernel⟩
theorem mm_X4_42 : Cond.methodLink "BallastTrain$Track" 42 Lib.Math.min.name ∈ tb ∧ Cond.static Lib.Math.min.name ∈ tb ∧ Cond.initialized "java/lang/Math" ∈ tb ∧ Cond.code Lib.Math.min.name Lib.Math.min.code 2 (some .int) ∈ tb := ⟨tw_782, tw_345, tw_69, by decide +kernel⟩
theorem oi_X5_3 : Cond.methodLink "BallastTrain$Train" 3 objectInit ∈ tb ∧ Cond.instanceMethod objectInit ∈ tb ∧ Cond.code objectInit ⟨#[0xb1]⟩ 1 none ∈ tb := ⟨tw_159, tw_83, by decide +kernel⟩
theorem fp_X5_9 : FP "BallastTrain$Train" 9 6 0 false .int := ⟨RX5, "BallastTrain$Train", TX5, 8, tyX5, rfl, inb_X5, by decide, tw_163, Or.inl rfl, tyX5_ok, nmX5, rfl, (fun h => by cases h), rfl⟩
theorem fp_X5_15 : FP "BallastTrain$Train" 15 6 1 false .int := ⟨RX5, "BallastTrain$Train", TX5, 8, tyX5, rfl, inb_X5, by decide, tw_166, Or.inl rfl, tyX5_ok, nmX5, rfl, (fun h => by cases h), rfl⟩
theorem fp_X5_18 : FP "BallastTrain$Train" 18 6 2 false .int := ⟨RX5, "BallastTrain$Train", TX5, 8, tyX5, rfl, inb_X5, by decide, tw_169, Or.inl rfl, tyX5_ok, nmX5, rfl, (fun h => by cases h), rfl⟩
theorem fp_X5_21 : FP "BallastTrain$Train" 21 6 3 false .int := ⟨RX5, "BallastTrain$Train", TX5, 8, tyX5, rfl, inb_X5, by decide, tw_171, Or.inl rfl, tyX5_ok, nmX5, rfl, (fun h => by cases h), rfl⟩
theorem fp_X5_24 : FP "BallastTrain$Train" 24 6 4 true (.array .int) := ⟨RX5, "BallastTrain$Train", TX5, 8, tyX5, rfl, inb_X5, by decide, tw_174, Or.inl rfl, tyX5_ok, nmX5, rfl, fun _ => rfl, rfl⟩
theorem fp_X5_28 : FP "BallastTrain$Train" 28 6 5 true (.array .int) := ⟨RX5, "BallastTrain$Train", TX5, 8, tyX5, rfl, inb_X5, by decide, tw_176, Or.inl rfl, tyX5_ok, nmX5, rfl, fun _ => rfl, rfl⟩
theorem fp_X5_31 : FP "BallastTrain$Train" 31 6 6 true (.array .int) := ⟨RX5, "BallastTrain$Train", TX5, 8, tyX5, rfl, inb_X5, by decide, tw_178, Or.inl rfl, tyX5_ok, nmX5, rfl, fun _ => rfl, rfl⟩
theorem fp_X5_34 : FP "BallastTrain$Train" 34 6 7 true (.array .int) := ⟨RX5, "BallastTrain$Train", TX5, 8, tyX5, rfl, inb_X5, by decide, tw_179, Or.inl rfl, tyX5_ok, nmX5, rfl, fun _ => rfl, rfl⟩
theorem fd_X5_34 : FD "BallastTrain$Train" 34 6 7 := ⟨RX5, "BallastTrain$Train", TX5, 8, rfl, inb_X5, by decide, tw_179, Or.inl rfl⟩
theorem ms_X5_37 : MS "BallastTrain$Train" 37 yJ7_fill_53178 cJ7_fill_53178 4 none 2 := ⟨⟨tw_160, tw_161, tw_64, tw_162⟩, by decide, by decide, by decide +kernel⟩
theorem fd_X5_24 : FD "BallastTrain$Train" 24 6 4 := ⟨RX5, "BallastTrain$Train", TX5, 8, rfl, inb_X5, by decide, tw_174, Or.inl rfl⟩
theorem fd_X5_28 : FD "BallastTrain$Train" 28 6 5 := ⟨RX5, "BallastTrain$Train", TX5, 8, rfl, inb_X5, by decide, tw_176, Or.inl rfl⟩
theorem fd_X5_31 : FD "BallastTrain$Train" 31 6 6 := ⟨RX5, "BallastTrain$Train", TX5, 8, rfl, inb_X5, by decide, tw_178, Or.inl rfl⟩
theorem fd_X5_9 : FD "BallastTrain$Train" 9 6 0 := ⟨RX5, "BallastTrain$Train", TX5, 8, rfl, inb_X5, by decide, tw_163, Or.inl rfl⟩
theorem fd_X5_15 : FD "BallastTrain$Train" 15 6 1 := ⟨RX5, "BallastTrain$Train", TX5, 8, rfl, inb_X5, by decide, tw_166, Or.inl rfl⟩
theorem fd_X5_18 : FD "BallastTrain$Train" 18 6 2 := ⟨RX5, "BallastTrain$Train", TX5, 8, rfl, inb_X5, by decide, tw_169, Or.inl rfl⟩
theorem fd_X5_21 : FD "BallastTrain$Train" 21 6 3 := ⟨RX5, "BallastTrain$Train", TX5, 8, rfl, inb_X5, by decide, tw_171, Or.inl rfl⟩
theorem msn_X5_43 : MSN "BallastTrain$Train" 43 yX6_copyRow cX6_copyRow 2 none 2 := ⟨⟨by decide +kernel, tw_514, tw_56, tw_515⟩, by decide, by decide, by decide +kernel⟩
theorem mv_X5_47 : MV "BallastTrain$Train" 47 yX5_hasDoor cX5_hasDoor 3 (some .boolean) 2 := ⟨⟨tw_583, tw_576, tw_577, tw_63, tw_578⟩, by decide, by decide, by decide +kernel⟩
theorem msn_X5_51 : MSN "BallastTrain$Train" 51 yX6_sum cX6_sum 6 (some .int) 1 := ⟨⟨by decide +kernel, tw_557, tw_56, tw_558⟩, by decide, by decide, by decide +kernel⟩
theorem mv_X5_55 : MV "BallastTrain$Train" 55 yX5_levelOf cX5_levelOf 3 (some .int) 2 := ⟨⟨tw_714, tw_580, tw_581, tw_63, tw_582⟩, by decide, by decide, by decide +kernel⟩
theorem mv_X5_59 : MV "BallastTrain$Train" 59 yX5_restOf cX5_restOf 3 (some .int) 2 := ⟨⟨tw_719, tw_720, tw_721, tw_63, tw_722⟩, by decide, by decide, by decide +kernel⟩
theorem mm_X5_62 : Cond.methodLink "BallastTrain$Train" 62 Lib.Math.min.name ∈ tb ∧ Cond.static Lib.Math.min.name ∈ tb ∧ Cond.initialized "java/lang/Math" ∈ tb ∧ Cond.code Lib.Math.min.name Lib.Math.min.code 2 (some .int) ∈ tb := ⟨tw_626, tw_345, tw_69, by decide +kernel⟩
theorem oi_X6_1 : Cond.methodLink "BallastTrain" 1 objectInit ∈ tb ∧ Cond.instanceMethod objectInit ∈ tb ∧ Cond.code objectInit ⟨#[0xb1]⟩ 1 none ∈ tb := ⟨tw_82, tw_83, by decide +kernel⟩
theorem nd_X6_7 : ND "BallastTrain" 7 4 5 [.null, .int 0, .null, .int 0, .int 0] := ⟨RX3, TX3, tyX3, rfl, inb_X3, tyX3_ok, tw_85, tw_86, tw_57, fun j hj => by rcases (show j = 0 ∨ j = 1 ∨ j = 2 ∨ j = 3 ∨ j = 4 by omega) with rfl | rfl | rfl | rfl | rfl <;> rfl⟩
theorem min_X6_9 : MIN "BallastTrain" 9 yX3_init cX3_init 1 0 := ⟨⟨by decide +kernel, tw_88, rfl, tw_57, tw_89⟩, by decide, by decide, by decide +kernel⟩
theorem fp_X6_10 : FP "BallastTrain" 10 7 0 true (.object "BallastTrain$Text") := ⟨RX6, "BallastTrain", TX6, 4, tyX6, rfl, inb_X6, by decide, tw_256, Or.inl rfl, tyX6_ok, nmX6, rfl, fun _ => rfl, rfl⟩
theorem nd_X6_16 : ND "BallastTrain" 16 3 9 [.null, .null, .null, .null, .int 0, .int 0, .int 0, .int 0, .int 0] := ⟨RX2, TX2, tyX2, rfl, inb_X2, tyX2_ok, tw_137, tw_138, tw_61, fun j hj => by rcases (show j = 0 ∨ j = 1 ∨ j = 2 ∨ j = 3 ∨ j = 4 ∨ j = 5 ∨ j = 6 ∨ j = 7 ∨ j = 8 by omega) with rfl | rfl | rfl | rfl | rfl | rfl | rfl | rfl | rfl <;> rfl⟩
theorem min_X6_18 : MIN "BallastTrain" 18 yX2_init cX2_init 1 0 := ⟨⟨by decide +kernel, tw_140, rfl, tw_61, tw_141⟩, by decide, by decide, by decide +kernel⟩
theorem fp_X6_19 : FP "BallastTrain" 19 7 1 true (.object "BallastTrain$State") := ⟨RX6, "BallastTrain", TX6, 4, tyX6, rfl, inb_X6, by decide, tw_257, Or.inl rfl, tyX6_ok, nmX6, rfl, fun _ => rfl, rfl⟩
theorem fp_X6_23 : FP "BallastTrain" 23 7 2 true (.object "BallastTrain$State") := ⟨RX6, "BallastTrain", TX6, 4, tyX6, rfl, inb_X6, by decide, tw_258, Or.inl rfl, tyX6_ok, nmX6, rfl, fun _ => rfl, rfl⟩
theorem nd_X6_26 : ND "BallastTrain" 26 1 3 [.null, .int 0, .int 0] := ⟨RX0, TX0, tyX0, rfl, inb_X0, tyX0_ok, tw_236, tw_237, tw_65, fun j hj => by rcases (show j = 0 ∨ j = 1 ∨ j = 2 by omega) with rfl | rfl | rfl <;> rfl⟩
theorem mi_X6_28 : MI "BallastTrain" 28 yX0_init cX0_init 2 0 := ⟨⟨tw_238, tw_239, rfl, tw_65, tw_240⟩, by decide, by decide, by decide +kernel⟩
theorem fp_X6_29 : FP "BallastTrain" 29 7 3 true (.object "BallastTrain$History") := ⟨RX6, "BallastTrain", TX6, 4, tyX6, rfl, inb_X6, by decide, tw_259, Or.inl rfl, tyX6_ok, nmX6, rfl, fun _ => rfl, rfl⟩
theorem ms_X6_33 : MS "BallastTrain" 33 yX6_isWithin cX6_isWithin 3 (some .boolean) 3 := ⟨⟨tw_273, tw_274, tw_56, tw_275⟩, by decide, by decide, by decide +kernel⟩
theorem fd_X6_10 : FD "BallastTrain" 10 7 0 := ⟨RX6, "BallastTrain", TX6, 4, rfl, inb_X6, by decide, tw_256, Or.inl rfl⟩
theorem mv_X6_37 : MV "BallastTrain" 37 yX3_append cX3_append 2 (some .boolean) 1 := ⟨⟨tw_276, tw_277, tw_278, tw_57, tw_279⟩, by decide, by decide, by decide +kernel⟩
theorem fd_X6_41 : FD "BallastTrain" 41 4 1 := ⟨RX3, "BallastTrain$Text", TX3, 5, rfl, inb_X3, by decide, tw_120, Or.inl rfl⟩
theorem fp_X6_41 : FP "BallastTrain" 41 4 1 false .int := ⟨RX3, "BallastTrain$Text", TX3, 5, tyX3, rfl, inb_X3, by decide, tw_120, Or.inl rfl, tyX3_ok, nmX3, rfl, (fun h => by cases h), rfl⟩
theorem mv_X6_45 : MV "BallastTrain" 45 yX3_read cX3_read 2 none 0 := ⟨⟨tw_288, tw_289, tw_290, tw_57, tw_291⟩, by decide, by decide, by decide +kernel⟩
theorem fd_X6_48 : FD "BallastTrain" 48 4 3 := ⟨RX3, "BallastTrain$Text", TX3, 5, rfl, inb_X3, by decide, tw_124, Or.inl rfl⟩
theorem gs_X6_51 : Cond.fieldLink "BallastTrain" 51 "BallastTrain" "LEAST_SETTING" "[I" ∈ tb := tw_498
theorem gs_X6_55 : Cond.fieldLink "BallastTrain" 55 "BallastTrain" "MOST_SETTING" "[I" ∈ tb := tw_500
theorem fd_X6_29 : FD "BallastTrain" 29 7 3 := ⟨RX6, "BallastTrain", TX6, 4, rfl, inb_X6, by decide, tw_259, Or.inl rfl⟩
theorem fd_X6_19 : FD "BallastTrain" 19 7 1 := ⟨RX6, "BallastTrain", TX6, 4, rfl, inb_X6, by decide, tw_257, Or.inl rfl⟩
theorem mv_X6_58 : MV "BallastTrain" 58 yX0_keep cX0_keep 2 none 1 := ⟨⟨tw_502, tw_503, tw_504, tw_65, tw_505⟩, by decide, by decide, by decide +kernel⟩
theorem fd_X6_62 : FD "BallastTrain" 62 3 0 := ⟨RX2, "BallastTrain$State", TX2, 9, rfl, inb_X2, by decide, tw_200, Or.inl rfl⟩
theorem fd_X6_65 : FD "BallastTrain" 65 3 2 := ⟨RX2, "BallastTrain$State", TX2, 9, rfl, inb_X2, by decide, tw_204, Or.inl rfl⟩
theorem mv_X6_69 : MV "BallastTrain" 69 yX5_units cX5_units 1 (some .int) 0 := ⟨⟨tw_552, tw_553, tw_554, tw_63, tw_555⟩, by decide, by decide, by decide +kernel⟩
theorem mv_X6_75 : MV "BallastTrain" 75 yX5_replace cX5_replace 2 none 1 := ⟨⟨tw_559, tw_560, tw_561, tw_63, tw_562⟩, by decide, by decide, by decide +kernel⟩
theorem fd_X6_79 : FD "BallastTrain" 79 3 8 := ⟨RX2, "BallastTrain$State", TX2, 9, rfl, inb_X2, by decide, tw_216, Or.inl rfl⟩
theorem fp_X6_79 : FP "BallastTrain" 79 3 8 false .int := ⟨RX2, "BallastTrain$State", TX2, 9, tyX2, rfl, inb_X2, by decide, tw_216, Or.inl rfl, tyX2_ok, nmX2, rfl, (fun h => by cases h), rfl⟩
theorem mv_X6_82 : MV "BallastTrain" 82 yX5_hasWagon cX5_hasWagon 2 (some .boolean) 1 := ⟨⟨tw_567, tw_568, tw_569, tw_63, tw_570⟩, by decide, by decide, by decide +kernel⟩
theorem fd_X6_85 : FD "BallastTrain" 85 6 2 := ⟨RX5, "BallastTrain$Train", TX5, 8, rfl, inb_X5, by decide, tw_170, Or.inl rfl⟩
theorem fd_X6_88 : FD "BallastTrain" 88 6 4 := ⟨RX5, "BallastTrain$Train", TX5, 8, rfl, inb_X5, by decide, tw_175, Or.inl rfl⟩
theorem fd_X6_91 : FD "BallastTrain" 91 3 6 := ⟨RX2, "BallastTrain$State", TX2, 9, rfl, inb_X2, by decide, tw_212, Or.inl rfl⟩
theorem fp_X6_91 : FP "BallastTrain" 91 3 6 false .int := ⟨RX2, "BallastTrain$State", TX2, 9, tyX2, rfl, inb_X2, by decide, tw_212, Or.inl rfl, tyX2_ok, nmX2, rfl, (fun h => by cases h), rfl⟩
theorem mv_X6_94 : MV "BallastTrain" 94 yX5_hasDoor cX5_hasDoor 3 (some .boolean) 2 := ⟨⟨tw_575, tw_576, tw_577, tw_63, tw_578⟩, by decide, by decide, by decide +kernel⟩
theorem mv_X6_98 : MV "BallastTrain" 98 yX5_levelOf cX5_levelOf 3 (some .int) 2 := ⟨⟨tw_579, tw_580, tw_581, tw_63, tw_582⟩, by decide, by decide, by decide +kernel⟩
theorem mv_X6_102 : MV "BallastTrain" 102 yX5_closeDoor cX5_closeDoor 4 none 3 := ⟨⟨tw_584, tw_585, tw_586, tw_63, tw_587⟩, by decide, by decide, by decide +kernel⟩
theorem mv_X6_106 : MV "BallastTrain" 106 yX5_openDoor cX5_openDoor 4 none 3 := ⟨⟨tw_588, tw_589, tw_590, tw_63, tw_591⟩, by decide, by decide, by decide +kernel⟩
theorem fd_X6_109 : FD "BallastTrain" 109 6 3 := ⟨RX5, "BallastTrain$Train", TX5, 8, rfl, inb_X5, by decide, tw_173, Or.inl rfl⟩
theorem fp_X6_109 : FP "BallastTrain" 109 6 3 false .int := ⟨RX5, "BallastTrain$Train", TX5, 8, tyX5, rfl, inb_X5, by decide, tw_173, Or.inl rfl, tyX5_ok, nmX5, rfl, (fun h => by cases h), rfl⟩
theorem fd_X6_112 : FD "BallastTrain" 112 3 3 := ⟨RX2, "BallastTrain$State", TX2, 9, rfl, inb_X2, by decide, tw_206, Or.inl rfl⟩
theorem mv_X6_116 : MV "BallastTrain" 116 yJx4a65c_size_8abf5 cJx4a65c_size_8abf5 1 (some .int) 0 := ⟨⟨tw_527, tw_528, tw_529, tw_60, tw_530⟩, by decide, by decide, by decide +kernel⟩
theorem fd_X6_121 : FD "BallastTrain" 121 4 2 := ⟨RX3, "BallastTrain$Text", TX3, 5, rfl, inb_X3, by decide, tw_122, Or.inl rfl⟩
theorem ms_X6_122 : MS "BallastTrain" 122 yX6_addAll cX6_addAll 3 none 2 := ⟨⟨tw_600, tw_525, tw_56, tw_526⟩, by decide, by decide, by decide +kernel⟩
theorem mv_X6_126 : MV "BallastTrain" 126 yJx4a65c_remove_915e3 cJx4a65c_remove_915e3 4 (some (.object "java/lang/Object")) 1 := ⟨⟨tw_605, tw_606, tw_607, tw_60, tw_608⟩, by decide, by decide, by decide +kernel⟩
theorem fd_X6_130 : FD "BallastTrain" 130 3 4 := ⟨RX2, "BallastTrain$State", TX2, 9, rfl, inb_X2, by decide, tw_208, Or.inl rfl⟩
theorem mv_X6_133 : MV "BallastTrain" 133 yX2_passSecond cX2_passSecond 1 none 0 := ⟨⟨tw_618, tw_619, tw_620, tw_61, tw_621⟩, by decide, by decide, by decide +kernel⟩
theorem fd_X6_136 : FD "BallastTrain" 136 6 1 := ⟨RX5, "BallastTrain$Train", TX5, 8, rfl, inb_X5, by decide, tw_168, Or.inl rfl⟩
theorem ms_X6_139 : MS "BallastTrain" 139 yX4_has cX4_has 2 (some .boolean) 2 := ⟨⟨tw_691, tw_668, tw_62, tw_669⟩, by decide, by decide, by decide +kernel⟩
theorem fd_X6_144 : FD "BallastTrain" 144 3 1 := ⟨RX2, "BallastTrain$State", TX2, 9, rfl, inb_X2, by decide, tw_202, Or.inl rfl⟩
theorem mv_X6_148 : MV "BallastTrain" 148 yX4_heightAt cX4_heightAt 3 (some .int) 2 := ⟨⟨tw_692, tw_693, tw_694, tw_62, tw_695⟩, by decide, by decide, by decide +kernel⟩
theorem mm_X6_151 : Cond.methodLink "BallastTrain" 151 Lib.Math.min.name ∈ tb ∧ Cond.static Lib.Math.min.name ∈ tb ∧ Cond.initialized "java/lang/Math" ∈ tb ∧ Cond.code Lib.Math.min.name Lib.Math.min.code 2 (some .int) ∈ tb := ⟨tw_516, tw_345, tw_69, by decide +kernel⟩
theorem mv_X6_156 : MV "BallastTrain" 156 yX4_add cX4_add 4 none 3 := ⟨⟨tw_696, tw_671, tw_672, tw_62, tw_673⟩, by decide, by decide, by decide +kernel⟩
theorem fd_X6_159 : FD "BallastTrain" 159 1 2 := ⟨RX0, "BallastTrain$History", TX0, 3, rfl, inb_X0, by decide, tw_248, Or.inl rfl⟩
theorem mv_X6_161 : MV "BallastTrain" 161 yX0_restore cX0_restore 2 none 1 := ⟨⟨tw_701, tw_702, tw_703, tw_65, tw_704⟩, by decide, by decide, by decide +kernel⟩
theorem mv_X6_164 : MV "BallastTrain" 164 yX5_cellBelow cX5_cellBelow 2 (some .int) 1 := ⟨⟨tw_709, tw_640, tw_641, tw_63, tw_642⟩, by decide, by decide, by decide +kernel⟩
theorem mv_X6_168 : MV "BallastTrain" 168 yX5_sumOfLevels cX5_sumOfLevels 4 (some .int) 1 := ⟨⟨tw_710, tw_711, tw_712, tw_63, tw_713⟩, by decide, by decide, by decide +kernel⟩
theorem mv_X6_171 : MV "BallastTrain" 171 yX5_closingDoors cX5_closingDoors 4 (some .int) 1 := ⟨⟨tw_715, tw_716, tw_717, tw_63, tw_718⟩, by decide, by decide, by decide +kernel⟩
theorem fd_X6_174 : FD "BallastTrain" 174 6 5 := ⟨RX5, "BallastTrain$Train", TX5, 8, rfl, inb_X5, by decide, tw_177, Or.inl rfl⟩
theorem mv_X6_177 : MV "BallastTrain" 177 yX5_restOf cX5_restOf 3 (some .int) 2 := ⟨⟨tw_727, tw_720, tw_721, tw_63, tw_722⟩, by decide, by decide, by decide +kernel⟩
theorem mv_X6_180 : MV "BallastTrain" 180 yX4_sumOn cX4_sumOn 4 (some .int) 1 := ⟨⟨tw_736, tw_737, tw_738, tw_62, tw_739⟩, by decide, by decide, by decide +kernel⟩
theorem mv_X6_183 : MV "BallastTrain" 183 yX4_greatestOn cX4_greatestOn 2 (some .int) 1 := ⟨⟨tw_741, tw_742, tw_743, tw_62, tw_744⟩, by decide, by decide, by decide +kernel⟩
theorem mv_X6_186 : MV "BallastTrain" 186 yX4_firstGreatestOn cX4_firstGreatestOn 4 (some .int) 1 := ⟨⟨tw_749, tw_746, tw_747, tw_62, tw_748⟩, by decide, by decide, by decide +kernel⟩
theorem mv_X6_189 : MV "BallastTrain" 189 yX4_cellsReaching cX4_cellsReaching 5 (some .int) 2 := ⟨⟨tw_750, tw_751, tw_752, tw_62, tw_753⟩, by decide, by decide, by decide +kernel⟩
theorem mv_X6_192 : MV "BallastTrain" 192 yX4_longestRowReaching cX4_longestRowReaching 6 (some .int) 2 := ⟨⟨tw_754, tw_755, tw_756, tw_62, tw_757⟩, by decide, by decide, by decide +kernel⟩
theorem mv_X6_195 : MV "BallastTrain" 195 yX4_steepestOn cX4_steepestOn 5 (some .int) 1 := ⟨⟨tw_759, tw_760, tw_761, tw_62, tw_762⟩, by decide, by decide, by decide +kernel⟩
theorem mv_X6_198 : MV "BallastTrain" 198 yX4_unitsBelow cX4_unitsBelow 7 (some .int) 1 := ⟨⟨tw_770, tw_771, tw_772, tw_62, tw_773⟩, by decide, by decide, by decide +kernel⟩
theorem mv_X6_201 : MV "BallastTrain" 201 yX4_cellBelow cX4_cellBelow 5 (some .int) 2 := ⟨⟨tw_774, tw_775, tw_776, tw_62, tw_777⟩, by decide, by decide, by decide +kernel⟩
theorem mv_X6_203 : MV "BallastTrain" 203 yJx4a65c_get_915e3 cJx4a65c_get_915e3 2 (some (.object "java/lang/Object")) 1 := ⟨⟨tw_531, tw_532, tw_533, tw_60, tw_534⟩, by decide, by decide, by decide +kernel⟩
theorem cl_X6_206 : Cond.classLink "BallastTrain" 206 "BallastTrain$Order" ∈ tb := tw_545
theorem mv_X6_208 : MV "BallastTrain" 208 yX1_part cX1_part 2 (some .int) 1 := ⟨⟨tw_787, tw_788, tw_789, tw_73, tw_790⟩, by decide, by decide, by decide +kernel⟩
theorem mv_X6_211 : MV "BallastTrain" 211 yX6_lookAhead cX6_lookAhead 3 none 1 := ⟨⟨tw_795, tw_797, tw_14, tw_56, tw_798⟩, by decide, by decide, by decide +kernel⟩
theorem mv_X6_214 : MV "BallastTrain" 214 yX6_foretold cX6_foretold 2 (some .int) 1 := ⟨⟨tw_800, tw_802, tw_15, tw_56, tw_803⟩, by decide, by decide, by decide +kernel⟩
theorem fd_X6_23 : FD "BallastTrain" 23 7 2 := ⟨RX6, "BallastTrain", TX6, 4, rfl, inb_X6, by decide, tw_258, Or.inl rfl⟩
theorem mv_X6_217 : MV "BallastTrain" 217 yX2_copyFrom cX2_copyFrom 2 none 1 := ⟨⟨tw_799, tw_510, tw_511, tw_61, tw_512⟩, by decide, by decide, by decide +kernel⟩
theorem mv_X6_220 : MV "BallastTrain" 220 yX2_passSecondOfTrain cX2_passSecondOfTrain 1 none 0 := ⟨⟨tw_813, tw_814, tw_815, tw_61, tw_816⟩, by decide, by decide, by decide +kernel⟩
theorem fd_X6_223 : FD "BallastTrain" 223 6 0 := ⟨RX5, "BallastTrain$Train", TX5, 8, rfl, inb_X5, by decide, tw_165, Or.inl rfl⟩
theorem fd_X6_226 : FD "BallastTrain" 226 3 5 := ⟨RX2, "BallastTrain$State", TX2, 9, rfl, inb_X2, by decide, tw_210, Or.inl rfl⟩
theorem mv_X6_229 : MV "BallastTrain" 229 yX4_units cX4_units 1 (some .int) 0 := ⟨⟨tw_804, tw_805, tw_806, tw_62, tw_807⟩, by decide, by decide, by decide +kernel⟩
theorem fd_X6_230 : FD "BallastTrain" 230 3 7 := ⟨RX2, "BallastTrain$State", TX2, 9, rfl, inb_X2, by decide, tw_214, Or.inl rfl⟩
theorem kl_X6_233 : (Jvm.Cond.constantLong "BallastTrain" (233 : Nat) (149 : Int64)) ∈ tb := tw_825
theorem mv_X6_235 : MV "BallastTrain" 235 yX6_count cX6_count 2 (some .int) 1 := ⟨⟨tw_826, tw_818, tw_819, tw_56, tw_820⟩, by decide, by decide, by decide +kernel⟩
theorem ms_X6_238 : MS "BallastTrain" 238 yX6_mixed cX6_mixed 3 (some .long) 2 := ⟨⟨tw_827, tw_828, tw_56, tw_829⟩, by decide, by decide, by decide +kernel⟩
theorem mv_X6_242 : MV "BallastTrain" 242 yX6_mixedWithTrain cX6_mixedWithTrain 8 (some .long) 1 := ⟨⟨tw_831, tw_833, tw_16, tw_56, tw_834⟩, by decide, by decide, by decide +kernel⟩
theorem mv_X6_246 : MV "BallastTrain" 246 yX6_mixedWithTrack cX6_mixedWithTrack 7 (some .long) 1 := ⟨⟨tw_837, tw_839, tw_17, tw_56, tw_840⟩, by decide, by decide, by decide +kernel⟩
theorem mv_X6_249 : MV "BallastTrain" 249 yX6_mixedWithOrders cX6_mixedWithOrders 7 (some .long) 1 := ⟨⟨tw_844, tw_846, tw_18, tw_56, tw_847⟩, by decide, by decide, by decide +kernel⟩
theorem mv_X6_252 : MV "BallastTrain" 252 yX6_emptyAfter cX6_emptyAfter 2 (some .int) 0 := ⟨⟨tw_849, tw_810, tw_811, tw_56, tw_812⟩, by decide, by decide, by decide +kernel⟩
theorem mv_X6_255 : MV "BallastTrain" 255 yX3_byteAt cX3_byteAt 2 (some .int) 1 := ⟨⟨tw_850, tw_301, tw_302, tw_57, tw_303⟩, by decide, by decide, by decide +kernel⟩
theorem mv_X6_258 : MV "BallastTrain" 258 yX6_wagon cX6_wagon 3 (some .int) 2 := ⟨⟨tw_835, tw_706, tw_707, tw_56, tw_708⟩, by decide, by decide, by decide +kernel⟩
theorem mv_X6_261 : MV "BallastTrain" 261 yX6_doorOf cX6_doorOf 4 (some .int) 3 := ⟨⟨tw_836, tw_724, tw_725, tw_56, tw_726⟩, by decide, by decide, by decide +kernel⟩
theorem mv_X6_265 : MV "BallastTrain" 265 yX6_height cX6_height 3 (some .int) 2 := ⟨⟨tw_841, tw_729, tw_730, tw_56, tw_731⟩, by decide, by decide, by decide +kernel⟩
theorem mv_X6_268 : MV "BallastTrain" 268 yX6_profile cX6_profile 3 (some .int) 2 := ⟨⟨tw_842, tw_733, tw_734, tw_56, tw_735⟩, by decide, by decide, by decide +kernel⟩
theorem mv_X6_271 : MV "BallastTrain" 271 yX6_lacking cX6_lacking 3 (some .int) 1 := ⟨⟨tw_843, tw_767, tw_768, tw_56, tw_769⟩, by decide, by decide, by decide +kernel⟩
theorem mv_X6_274 : MV "BallastTrain" 274 yX6_ordered cX6_ordered 3 (some .int) 2 := ⟨⟨tw_848, tw_784, tw_785, tw_56, tw_786⟩, by decide, by decide, by decide +kernel⟩
theorem kl_X6_277 : (Jvm.Cond.constantLong "BallastTrain" (277 : Nat) (31 : Int64)) ∈ tb := tw_830
theorem ac_X6_279 : CpyW "BallastTrain" 279 := ⟨tw_517, tw_491, tw_490, tw_75⟩
theorem mv_X6_285 : MV "BallastTrain" 285 yJx4a65c_add_9ea2d cJx4a65c_add_9ea2d 2 (some .boolean) 1 := ⟨⟨tw_546, tw_443, tw_444, tw_60, tw_445⟩, by decide, by decide, by decide +kernel⟩
theorem oi_X7_1 : Cond.methodLink "BallastTrainModel" 1 objectInit ∈ tb ∧ Cond.instanceMethod objectInit ∈ tb ∧ Cond.code objectInit ⟨#[0xb1]⟩ 1 none ∈ tb := ⟨tw_856, tw_83, by decide +kernel⟩
theorem fp_X7_7 : FP "BallastTrainModel" 7 8 0 true (.array .int) := ⟨RX7, "BallastTrainModel", TX7, 11, tyX7, rfl, inb_X7, by decide, tw_865, Or.inl rfl, tyX7_ok, nmX7, rfl, fun _ => rfl, rfl⟩
theorem fp_X7_13 : FP "BallastTrainModel" 13 8 1 true (.array .int) := ⟨RX7, "BallastTrainModel", TX7, 11, tyX7, rfl, inb_X7, by decide, tw_866, Or.inl rfl, tyX7_ok, nmX7, rfl, fun _ => rfl, rfl⟩
theorem fp_X7_16 : FP "BallastTrainModel" 16 8 2 true (.array .int) := ⟨RX7, "BallastTrainModel", TX7, 11, tyX7, rfl, inb_X7, by decide, tw_867, Or.inl rfl, tyX7_ok, nmX7, rfl, fun _ => rfl, rfl⟩
theorem fp_X7_19 : FP "BallastTrainModel" 19 8 4 true (.array .int) := ⟨RX7, "BallastTrainModel", TX7, 11, tyX7, rfl, inb_X7, by decide, tw_869, Or.inl rfl, tyX7_ok, nmX7, rfl, fun _ => rfl, rfl⟩
theorem fp_X7_22 : FP "BallastTrainModel" 22 8 6 true (.array .int) := ⟨RX7, "BallastTrainModel", TX7, 11, tyX7, rfl, inb_X7, by decide, tw_871, Or.inl rfl, tyX7_ok, nmX7, rfl, fun _ => rfl, rfl⟩
theorem fd_X7_7 : FD "BallastTrainModel" 7 8 0 := ⟨RX7, "BallastTrainModel", TX7, 11, rfl, inb_X7, by decide, tw_865, Or.inl rfl⟩
theorem mv_X7_25 : MV "BallastTrainModel" 25 yX7_couples cX7_couples 4 none 1 := ⟨⟨tw_857, tw_859, tw_19, tw_66, tw_860⟩, by decide, by decide, by decide +kernel⟩
theorem ms_X7_29 : MS "BallastTrainModel" 29 yX7_in cX7_in 3 (some .boolean) 3 := ⟨⟨tw_907, tw_908, tw_66, tw_909⟩, by decide, by decide, by decide +kernel⟩
theorem mv_X7_33 : MV "BallastTrainModel" 33 yX7_put cX7_put 4 none 3 := ⟨⟨tw_861, tw_863, tw_20, tw_66, tw_864⟩, by decide, by decide, by decide +kernel⟩
theorem fd_X7_37 : FD "BallastTrainModel" 37 8 3 := ⟨RX7, "BallastTrainModel", TX7, 11, rfl, inb_X7, by decide, tw_868, Or.inl rfl⟩
theorem fd_X7_13 : FD "BallastTrainModel" 13 8 1 := ⟨RX7, "BallastTrainModel", TX7, 11, rfl, inb_X7, by decide, tw_866, Or.inl rfl⟩
theorem fp_X7_37 : FP "BallastTrainModel" 37 8 3 false .int := ⟨RX7, "BallastTrainModel", TX7, 11, tyX7, rfl, inb_X7, by decide, tw_868, Or.inl rfl, tyX7_ok, nmX7, rfl, (fun h => by cases h), rfl⟩
theorem fd_X7_16 : FD "BallastTrainModel" 16 8 2 := ⟨RX7, "BallastTrainModel", TX7, 11, rfl, inb_X7, by decide, tw_867, Or.inl rfl⟩
theorem fd_X7_41 : FD "BallastTrainModel" 41 8 5 := ⟨RX7, "BallastTrainModel", TX7, 11, rfl, inb_X7, by decide, tw_870, Or.inl rfl⟩
theorem fd_X7_19 : FD "BallastTrainModel" 19 8 4 := ⟨RX7, "BallastTrainModel", TX7, 11, rfl, inb_X7, by decide, tw_869, Or.inl rfl⟩
theorem fp_X7_41 : FP "BallastTrainModel" 41 8 5 false .int := ⟨RX7, "BallastTrainModel", TX7, 11, tyX7, rfl, inb_X7, by decide, tw_870, Or.inl rfl, tyX7_ok, nmX7, rfl, (fun h => by cases h), rfl⟩
theorem fd_X7_44 : FD "BallastTrainModel" 44 8 8 := ⟨RX7, "BallastTrainModel", TX7, 11, rfl, inb_X7, by decide, tw_873, Or.inl rfl⟩
theorem mv_X7_47 : MV "BallastTrainModel" 47 yX7_next cX7_next 1 (some .int) 0 := ⟨⟨tw_926, tw_928, tw_23, tw_66, tw_929⟩, by decide, by decide, by decide +kernel⟩
theorem fp_X7_44 : FP "BallastTrainModel" 44 8 8 false .int := ⟨RX7, "BallastTrainModel", TX7, 11, tyX7, rfl, inb_X7, by decide, tw_873, Or.inl rfl, tyX7_ok, nmX7, rfl, (fun h => by cases h), rfl⟩
theorem fd_X7_51 : FD "BallastTrainModel" 51 8 9 := ⟨RX7, "BallastTrainModel", TX7, 11, rfl, inb_X7, by decide, tw_874, Or.inl rfl⟩
theorem fp_X7_51 : FP "BallastTrainModel" 51 8 9 false .int := ⟨RX7, "BallastTrainModel", TX7, 11, tyX7, rfl, inb_X7, by decide, tw_874, Or.inl rfl, tyX7_ok, nmX7, rfl, (fun h => by cases h), rfl⟩
theorem mv_X7_54 : MV "BallastTrainModel" 54 yX7_blanks cX7_blanks 1 none 0 := ⟨⟨tw_922, tw_924, tw_22, tw_66, tw_925⟩, by decide, by decide, by decide +kernel⟩
theorem mv_X7_57 : MV "BallastTrainModel" 57 yX7_fails cX7_fails 2 none 1 := ⟨⟨tw_938, tw_940, tw_26, tw_66, tw_941⟩, by decide, by decide, by decide +kernel⟩
theorem mv_X7_60 : MV "BallastTrainModel" 60 yX7_needs cX7_needs 2 none 1 := ⟨⟨tw_934, tw_936, tw_25, tw_66, tw_937⟩, by decide, by decide, by decide +kernel⟩
theorem mv_X7_64 : MV "BallastTrainModel" 64 yX7_isDigit cX7_isDigit 1 (some .boolean) 0 := ⟨⟨tw_946, tw_948, tw_28, tw_66, tw_949⟩, by decide, by decide, by decide +kernel⟩
theorem fd_X7_68 : FD "BallastTrainModel" 68 8 7 := ⟨RX7, "BallastTrainModel", TX7, 11, rfl, inb_X7, by decide, tw_872, Or.inl rfl⟩
theorem fd_X7_22 : FD "BallastTrainModel" 22 8 6 := ⟨RX7, "BallastTrainModel", TX7, 11, rfl, inb_X7, by decide, tw_871, Or.inl rfl⟩
theorem mv_X7_71 : MV "BallastTrainModel" 71 yX7_cell cX7_cell 3 (some .int) 0 := ⟨⟨tw_942, tw_944, tw_27, tw_66, tw_945⟩, by decide, by decide, by decide +kernel⟩
theorem mv_X7_74 : MV "BallastTrainModel" 74 yX7_digit cX7_digit 4 (some .int) 2 := ⟨⟨tw_950, tw_952, tw_29, tw_66, tw_953⟩, by decide, by decide, by decide +kernel⟩
theorem mv_X7_78 : MV "BallastTrainModel" 78 yX7_doorAt cX7_doorAt 2 (some .int) 0 := ⟨⟨tw_954, tw_956, tw_30, tw_66, tw_957⟩, by decide, by decide, by decide +kernel⟩
theorem fp_X7_68 : FP "BallastTrainModel" 68 8 7 false .int := ⟨RX7, "BallastTrainModel", TX7, 11, tyX7, rfl, inb_X7, by decide, tw_872, Or.inl rfl, tyX7_ok, nmX7, rfl, (fun h => by cases h), rfl⟩
theorem mv_X7_81 : MV "BallastTrainModel" 81 yX7_readsOrder cX7_readsOrder 3 none 0 := ⟨⟨tw_930, tw_932, tw_24, tw_66, tw_933⟩, by decide, by decide, by decide +kernel⟩
theorem mv_X7_84 : MV "BallastTrainModel" 84 yX7_reads cX7_reads 1 none 0 := ⟨⟨tw_918, tw_920, tw_21, tw_66, tw_921⟩, by decide, by decide, by decide +kernel⟩
theorem mv_X7_86 : MV "BallastTrainModel" 86 yX7_isWagon cX7_isWagon 2 (some .boolean) 1 := ⟨⟨tw_982, tw_984, tw_34, tw_66, tw_985⟩, by decide, by decide, by decide +kernel⟩
theorem mv_X7_90 : MV "BallastTrainModel" 90 yX7_of cX7_of 3 (some .int) 2 := ⟨⟨tw_974, tw_976, tw_33, tw_66, tw_977⟩, by decide, by decide, by decide +kernel⟩
theorem mv_X7_93 : MV "BallastTrainModel" 93 yX7_isDue cX7_isDue 3 (some .boolean) 1 := ⟨⟨tw_1028, tw_1030, tw_39, tw_66, tw_1031⟩, by decide, by decide, by decide +kernel⟩
theorem mv_X7_96 : MV "BallastTrainModel" 96 yX7_moves cX7_moves 4 none 3 := ⟨⟨tw_993, tw_995, tw_35, tw_66, tw_996⟩, by decide, by decide, by decide +kernel⟩
theorem mv_X7_99 : MV "BallastTrainModel" 99 yX7_dropsOrder cX7_dropsOrder 3 none 1 := ⟨⟨tw_1009, tw_1011, tw_36, tw_66, tw_1012⟩, by decide, by decide, by decide +kernel⟩
theorem ms_X7_102 : MS "BallastTrainModel" 102 yX7_least cX7_least 2 (some .int) 2 := ⟨⟨tw_1021, tw_1022, tw_66, tw_1023⟩, by decide, by decide, by decide +kernel⟩
theorem ms_X7_105 : MS "BallastTrainModel" 105 yX7_isCell cX7_isCell 1 (some .boolean) 1 := ⟨⟨tw_1036, tw_1037, tw_66, tw_1038⟩, by decide, by decide, by decide +kernel⟩
theorem mv_X7_108 : MV "BallastTrainModel" 108 yX7_ordersDue cX7_ordersDue 3 none 0 := ⟨⟨tw_1024, tw_1026, tw_38, tw_66, tw_1027⟩, by decide, by decide, by decide +kernel⟩
theorem mv_X7_111 : MV "BallastTrainModel" 111 yX7_falls cX7_falls 5 none 2 := ⟨⟨tw_1032, tw_1034, tw_40, tw_66, tw_1035⟩, by decide, by decide, by decide +kernel⟩
theorem mv_X7_115 : MV "BallastTrainModel" 115 yX7_slides cX7_slides 5 none 2 := ⟨⟨tw_1039, tw_1041, tw_41, tw_66, tw_1042⟩, by decide, by decide, by decide +kernel⟩
theorem mv_X7_118 : MV "BallastTrainModel" 118 yX7_spills cX7_spills 4 none 2 := ⟨⟨tw_1043, tw_1045, tw_42, tw_66, tw_1046⟩, by decide, by decide, by decide +kernel⟩
theorem mv_X7_121 : MV "BallastTrainModel" 121 yX7_closes cX7_closes 5 none 2 := ⟨⟨tw_1047, tw_1049, tw_43, tw_66, tw_1050⟩, by decide, by decide, by decide +kernel⟩
theorem mv_X7_124 : MV "BallastTrainModel" 124 yX7_keeps cX7_keeps 2 none 0 := ⟨⟨tw_962, tw_964, tw_31, tw_66, tw_965⟩, by decide, by decide, by decide +kernel⟩
theorem mv_X7_127 : MV "BallastTrainModel" 127 yX7_inWagons cX7_inWagons 3 (some .int) 0 := ⟨⟨tw_970, tw_972, tw_32, tw_66, tw_973⟩, by decide, by decide, by decide +kernel⟩
theorem ms_X7_130 : MS "BallastTrainModel" 130 yX7_isStrip cX7_isStrip 1 (some .boolean) 1 := ⟨⟨tw_990, tw_991, tw_66, tw_992⟩, by decide, by decide, by decide +kernel⟩
theorem mv_X7_133 : MV "BallastTrainModel" 133 yX7_second cX7_second 2 none 0 := ⟨⟨tw_1017, tw_1019, tw_37, tw_66, tw_1020⟩, by decide, by decide, by decide +kernel⟩
theorem mv_X7_136 : MV "BallastTrainModel" 136 yX7_sum cX7_sum 4 (some .int) 1 := ⟨⟨tw_1071, tw_1073, tw_44, tw_66, tw_1074⟩, by decide, by decide, by decide +kernel⟩
theorem mv_X7_140 : MV "BallastTrainModel" 140 yX7_highest cX7_highest 4 (some .int) 1 := ⟨⟨tw_1075, tw_1077, tw_45, tw_66, tw_1078⟩, by decide, by decide, by decide +kernel⟩
theorem mv_X7_143 : MV "BallastTrainModel" 143 yX7_row cX7_row 8 (some .int) 2 := ⟨⟨tw_1079, tw_1081, tw_46, tw_66, tw_1082⟩, by decide, by decide, by decide +kernel⟩
theorem mv_X7_147 : MV "BallastTrainModel" 147 yX7_steepest cX7_steepest 5 (some .int) 1 := ⟨⟨tw_1083, tw_1085, tw_47, tw_66, tw_1086⟩, by decide, by decide, by decide +kernel⟩
theorem mv_X7_150 : MV "BallastTrainModel" 150 yX7_lackingIn cX7_lackingIn 4 (some .int) 1 := ⟨⟨tw_1091, tw_1093, tw_48, tw_66, tw_1094⟩, by decide, by decide, by decide +kernel⟩
theorem mv_X7_153 : MV "BallastTrainModel" 153 yX7_onTrack cX7_onTrack 1 (some .int) 0 := ⟨⟨tw_1111, tw_1113, tw_51, tw_66, tw_1114⟩, by decide, by decide, by decide +kernel⟩
theorem mv_X7_156 : MV "BallastTrainModel" 156 yX7_lacking cX7_lacking 5 (some .int) 1 := ⟨⟨tw_1115, tw_1088, tw_1089, tw_66, tw_1090⟩, by decide, by decide, by decide +kernel⟩
theorem mv_X7_159 : MV "BallastTrainModel" 159 yX7_keepsAside cX7_keepsAside 2 none 0 := ⟨⟨tw_1103, tw_1105, tw_49, tw_66, tw_1106⟩, by decide, by decide, by decide +kernel⟩
theorem mv_X7_162 : MV "BallastTrainModel" 162 yX7_part cX7_part 2 (some .int) 1 := ⟨⟨tw_1107, tw_1109, tw_50, tw_66, tw_1110⟩, by decide, by decide, by decide +kernel⟩
theorem mv_X7_165 : MV "BallastTrainModel" 165 yX7_returns cX7_returns 2 none 0 := ⟨⟨tw_1116, tw_1118, tw_52, tw_66, tw_1119⟩, by decide, by decide, by decide +kernel⟩
theorem kl_X7_168 : (Jvm.Cond.constantLong "BallastTrainModel" (168 : Nat) (31 : Int64)) ∈ tb := tw_1138
theorem fd_X7_170 : FD "BallastTrainModel" 170 8 10 := ⟨RX7, "BallastTrainModel", TX7, 11, rfl, inb_X7, by decide, tw_875, Or.inl rfl⟩
theorem fp_X7_170 : FP "BallastTrainModel" 170 8 10 false .long := ⟨RX7, "BallastTrainModel", TX7, 11, tyX7, rfl, inb_X7, by decide, tw_875, Or.inl rfl, tyX7_ok, nmX7, rfl, (fun h => by cases h), rfl⟩
theorem mv_X7_174 : MV "BallastTrainModel" 174 yX7_wagon cX7_wagon 5 (some .int) 2 := ⟨⟨tw_1143, tw_1056, tw_1057, tw_66, tw_1058⟩, by decide, by decide, by decide +kernel⟩
theorem mv_X7_177 : MV "BallastTrainModel" 177 yX7_mixes cX7_mixes 2 none 1 := ⟨⟨tw_1134, tw_1136, tw_53, tw_66, tw_1137⟩, by decide, by decide, by decide +kernel⟩
theorem mv_X7_180 : MV "BallastTrainModel" 180 yX7_doorOf cX7_doorOf 4 (some .int) 3 := ⟨⟨tw_1144, tw_1060, tw_1061, tw_66, tw_1062⟩, by decide, by decide, by decide +kernel⟩
theorem kl_X7_184 : (Jvm.Cond.constantLong "BallastTrainModel" (184 : Nat) (149 : Int64)) ∈ tb := tw_1132
theorem mv_X7_186 : MV "BallastTrainModel" 186 yX7_count cX7_count 2 (some .int) 1 := ⟨⟨tw_1133, tw_1125, tw_1126, tw_66, tw_1127⟩, by decide, by decide, by decide +kernel⟩
theorem mv_X7_189 : MV "BallastTrainModel" 189 yX7_mixesWagon cX7_mixesWagon 3 none 1 := ⟨⟨tw_1139, tw_1141, tw_54, tw_66, tw_1142⟩, by decide, by decide, by decide +kernel⟩
theorem mv_X7_192 : MV "BallastTrainModel" 192 yX7_profile cX7_profile 3 (some .int) 2 := ⟨⟨tw_1145, tw_1068, tw_1069, tw_66, tw_1070⟩, by decide, by decide, by decide +kernel⟩
theorem mv_X7_195 : MV "BallastTrainModel" 195 yX7_foretell cX7_foretell 4 (some .int) 2 := ⟨⟨tw_1146, tw_1100, tw_1101, tw_66, tw_1102⟩, by decide, by decide, by decide +kernel⟩
theorem mv_X7_198 : MV "BallastTrainModel" 198 yX7_emptyAfter cX7_emptyAfter 3 (some .int) 0 := ⟨⟨tw_1147, tw_1121, tw_1122, tw_66, tw_1123⟩, by decide, by decide, by decide +kernel⟩
theorem ki_J11_110 : (Jvm.Cond.constant "java/lang/Character" (110 : Nat) (55232 : Int32)) ∈ tb := tw_394
theorem ki_J11_76 : (Jvm.Cond.constant "java/lang/Character" (76 : Nat) (56320 : Int32)) ∈ tb := tw_398
theorem mv_J0_335 : MV "java/lang/String" 335 yJ0_coder_7d493 cJ0_coder_7d493 1 (some .byte) 0 := ⟨⟨tw_331, tw_332, tw_333, tw_67, tw_334⟩, by decide, by decide, by decide +kernel⟩
theorem mv_J0_633 : MV "java/lang/String" 633 yJ0_indexOf_7cf53 cJ0_indexOf_7cf53 3 (some .int) 2 := ⟨⟨tw_317, tw_318, tw_319, tw_67, tw_320⟩, by decide, by decide, by decide +kernel⟩
theorem mv_J0_492 : MV "java/lang/String" 492 yJ0_isLatin1_aae02 cJ0_isLatin1_aae02 1 (some .boolean) 0 := ⟨⟨tw_321, tw_322, tw_323, tw_67, tw_324⟩, by decide, by decide, by decide +kernel⟩
theorem mv_J0_505 : MV "java/lang/String" 505 yJ0_length_8abf5 cJ0_length_8abf5 1 (some .int) 0 := ⟨⟨tw_327, tw_328, tw_329, tw_67, tw_330⟩, by decide, by decide, by decide +kernel⟩
theorem ms_J0_637 : MS "java/lang/String" 637 yJ1_indexOf_4cfef cJ1_indexOf_4cfef 4 (some .int) 4 := ⟨⟨tw_335, tw_336, tw_68, tw_337⟩, by decide, by decide, by decide +kernel⟩
theorem ms_J0_640 : MS "java/lang/String" 640 yJ2_indexOf_4cfef cJ2_indexOf_4cfef 4 (some .int) 4 := ⟨⟨tw_350, tw_351, tw_70, tw_352⟩, by decide, by decide, by decide +kernel⟩
theorem gs_J0_38 : Cond.fieldLink "java/lang/String" 38 "java/lang/String" "COMPACT_STRINGS" "Z" ∈ tb := tw_325
theorem gs_J0_1053 : Cond.fieldLink "java/lang/String" 1053 "jdk/internal/util/Preconditions" "SIOOBE_FORMATTER" "Ljava/util/function/BiFunction;" ∈ tb := tw_368
theorem ms_J0_1062 : MS "java/lang/String" 1062 yJ3_checkFromToIndex_8c36e cJ3_checkFromToIndex_8c36e 4 (some .int) 4 := ⟨⟨tw_370, tw_371, tw_71, tw_372⟩, by decide, by decide, by decide +kernel⟩
theorem ms_J1_88 : MS "java/lang/StringLatin1" 88 yJ1_canEncode_9a6ad cJ1_canEncode_9a6ad 1 (some .boolean) 1 := ⟨⟨tw_338, tw_339, tw_68, tw_340⟩, by decide, by decide, by decide +kernel⟩
theorem mm_J1_92 : Cond.methodLink "java/lang/StringLatin1" 92 Lib.Math.max.name ∈ tb ∧ Cond.static Lib.Math.max.name ∈ tb ∧ Cond.initialized "java/lang/Math" ∈ tb ∧ Cond.code Lib.Math.max.name Lib.Math.max.code 2 (some .int) ∈ tb := ⟨tw_341, tw_342, tw_69, by decide +kernel⟩
theorem mm_J1_38 : Cond.methodLink "java/lang/StringLatin1" 38 Lib.Math.min.name ∈ tb ∧ Cond.static Lib.Math.min.name ∈ tb ∧ Cond.initialized "java/lang/Math" ∈ tb ∧ Cond.code Lib.Math.min.name Lib.Math.min.code 2 (some .int) ∈ tb := ⟨tw_344, tw_345, tw_69, by decide +kernel⟩
theorem ms_J1_95 : MS "java/lang/StringLatin1" 95 yJ1_indexOfChar_4cfef cJ1_indexOfChar_4cfef 6 (some .int) 4 := ⟨⟨tw_347, tw_348, tw_68, tw_349⟩, by decide, by decide, by decide +kernel⟩
theorem gs_J2_44 : Cond.fieldLink "java/lang/StringUTF16" 44 "java/lang/StringUTF16" "$assertionsDisabled" "Z" ∈ tb := tw_379
theorem ms_J2_48 : MS "java/lang/StringUTF16" 48 yJ2_length_9d52b cJ2_length_9d52b 1 (some .int) 1 := ⟨⟨tw_362, tw_363, tw_70, tw_364⟩, by decide, by decide, by decide +kernel⟩
theorem gs_J2_59 : Cond.fieldLink "java/lang/StringUTF16" 59 "java/lang/StringUTF16" "HI_BYTE_SHIFT" "I" ∈ tb := tw_381
theorem gs_J2_63 : Cond.fieldLink "java/lang/StringUTF16" 63 "java/lang/StringUTF16" "LO_BYTE_SHIFT" "I" ∈ tb := tw_383
theorem mm_J2_224 : Cond.methodLink "java/lang/StringUTF16" 224 Lib.Math.max.name ∈ tb ∧ Cond.static Lib.Math.max.name ∈ tb ∧ Cond.initialized "java/lang/Math" ∈ tb ∧ Cond.code Lib.Math.max.name Lib.Math.max.code 2 (some .int) ∈ tb := ⟨tw_353, tw_342, tw_69, by decide +kernel⟩
theorem mm_J2_183 : Cond.methodLink "java/lang/StringUTF16" 183 Lib.Math.min.name ∈ tb ∧ Cond.static Lib.Math.min.name ∈ tb ∧ Cond.initialized "java/lang/Math" ∈ tb ∧ Cond.code Lib.Math.min.name Lib.Math.min.code 2 (some .int) ∈ tb := ⟨tw_354, tw_345, tw_69, by decide +kernel⟩
theorem ki_J2_227 : (Jvm.Cond.constant "java/lang/StringUTF16" (227 : Nat) (65536 : Int32)) ∈ tb := tw_355
theorem ms_J2_228 : MS "java/lang/StringUTF16" 228 yJ2_indexOfChar_4cfef cJ2_indexOfChar_4cfef 4 (some .int) 4 := ⟨⟨tw_356, tw_357, tw_70, tw_358⟩, by decide, by decide, by decide +kernel⟩
theorem ms_J2_232 : MS "java/lang/StringUTF16" 232 yJ2_indexOfSupplementary_4cfef cJ2_indexOfSupplementary_4cfef 7 (some .int) 4 := ⟨⟨tw_385, tw_386, tw_70, tw_387⟩, by decide, by decide, by decide +kernel⟩
theorem ms_J2_96 : MS "java/lang/StringUTF16" 96 yJ2_checkBoundsBeginEnd_d044e cJ2_checkBoundsBeginEnd_d044e 3 none 3 := ⟨⟨tw_359, tw_360, tw_70, tw_361⟩, by decide, by decide, by decide +kernel⟩
theorem ms_J2_244 : MS "java/lang/StringUTF16" 244 yJ2_indexOfCharUnsafe_4cfef cJ2_indexOfCharUnsafe_4cfef 5 (some .int) 4 := ⟨⟨tw_373, tw_374, tw_70, tw_375⟩, by decide, by decide, by decide +kernel⟩
theorem ms_J2_71 : MS "java/lang/StringUTF16" 71 yJ2_getChar_3b067 cJ2_getChar_3b067 2 (some .char) 2 := ⟨⟨tw_376, tw_377, tw_70, tw_378⟩, by decide, by decide, by decide +kernel⟩
theorem ms_J2_164 : MS "java/lang/StringUTF16" 164 yJ11_isValidCodePoint_9a6ad cJ11_isValidCodePoint_9a6ad 2 (some .boolean) 1 := ⟨⟨tw_388, tw_389, tw_72, tw_390⟩, by decide, by decide, by decide +kernel⟩
theorem ms_J2_157 : MS "java/lang/StringUTF16" 157 yJ11_highSurrogate_5068e cJ11_highSurrogate_5068e 1 (some .char) 1 := ⟨⟨tw_391, tw_392, tw_72, tw_393⟩, by decide, by decide, by decide +kernel⟩
theorem ms_J2_161 : MS "java/lang/StringUTF16" 161 yJ11_lowSurrogate_5068e cJ11_lowSurrogate_5068e 1 (some .char) 1 := ⟨⟨tw_395, tw_396, tw_72, tw_397⟩, by decide, by decide, by decide +kernel⟩
theorem ms_J2_241 : MS "java/lang/StringUTF16" 241 yJ0_checkBoundsBeginEnd_23922 cJ0_checkBoundsBeginEnd_23922 3 none 3 := ⟨⟨tw_365, tw_366, tw_67, tw_367⟩, by decide, by decide, by decide +kernel⟩
theorem oi_Jxa1e45_1 : Cond.methodLink "java/util/AbstractCollection" 1 objectInit ∈ tb ∧ Cond.instanceMethod objectInit ∈ tb ∧ Cond.code objectInit ⟨#[0xb1]⟩ 1 none ∈ tb := ⟨tw_102, tw_83, by decide +kernel⟩
theorem mi_Jxc12de_1 : MI "java/util/AbstractList" 1 yJxa1e45_init_da8c8 cJxa1e45_init_da8c8 1 0 := ⟨⟨tw_99, tw_100, rfl, tw_58, tw_101⟩, by decide, by decide, by decide +kernel⟩
theorem fp_Jxc12de_7 : FP "java/util/AbstractList" 7 0 0 false .int := ⟨RJx4a65c, "java/util/AbstractList", TJx4a65c, 3, tyJx4a65c, rfl, inb_Jx4a65c, by decide, tw_107, Or.inl rfl, tyJx4a65c_ok, nmJx4a65c, rfl, (fun h => by cases h), rfl⟩
theorem mi_Jx4a65c_1 : MI "java/util/ArrayList" 1 yJxc12de_init_da8c8 cJxc12de_init_da8c8 1 0 := ⟨⟨tw_96, tw_97, rfl, tw_59, tw_98⟩, by decide, by decide, by decide +kernel⟩
theorem gs_Jx4a65c_39 : Cond.fieldLink "java/util/ArrayList" 39 "java/util/ArrayList" "DEFAULTCAPACITY_EMPTY_ELEMENTDATA" "[Ljava/lang/Object;" ∈ tb := tw_103
theorem fp_Jx4a65c_9 : FP "java/util/ArrayList" 9 0 1 false (.array (.object "java/lang/Object")) := ⟨RJx4a65c, "java/util/ArrayList", TJx4a65c, 3, tyJx4a65c, rfl, inb_Jx4a65c, by decide, tw_105, Or.inl rfl, tyJx4a65c_ok, nmJx4a65c, rfl, (fun h => by cases h), rfl⟩
theorem fd_Jx4a65c_9 : FD "java/util/ArrayList" 9 0 1 := ⟨RJx4a65c, "java/util/ArrayList", TJx4a65c, 3, rfl, inb_Jx4a65c, by decide, tw_105, Or.inl rfl⟩
theorem ms_Jx4a65c_73 : MS "java/util/ArrayList" 73 yJ8_newLength_cabcc cJ8_newLength_cabcc 4 (some .int) 3 := ⟨⟨tw_458, tw_459, tw_74, tw_460⟩, by decide, by decide, by decide +kernel⟩
theorem ms_Jx4a65c_66 : MS "java/util/ArrayList" 66 yJ7_copyOf_1904c cJ7_copyOf_1904c 2 (some (.array (.object "java/lang/Object"))) 2 := ⟨⟨tw_466, tw_467, tw_64, tw_468⟩, by decide, by decide, by decide +kernel⟩
theorem mm_Jx4a65c_79 : Cond.methodLink "java/util/ArrayList" 79 Lib.Math.max.name ∈ tb ∧ Cond.static Lib.Math.max.name ∈ tb ∧ Cond.initialized "java/lang/Math" ∈ tb ∧ Cond.code Lib.Math.max.name Lib.Math.max.code 2 (some .int) ∈ tb := ⟨tw_492, tw_342, tw_69, by decide +kernel⟩
theorem cl_Jx4a65c_7 : Cond.classLink "java/util/ArrayList" 7 "java/lang/Object" ∈ tb := tw_493
theorem fd_Jx4a65c_48 : FD "java/util/ArrayList" 48 0 2 := ⟨RJx4a65c, "java/util/ArrayList", TJx4a65c, 3, rfl, inb_Jx4a65c, by decide, tw_106, Or.inl rfl⟩
theorem mv_Jx4a65c_69 : MV "java/util/ArrayList" 69 yJx4a65c_grow_92f84 cJx4a65c_grow_92f84 4 (some (.array (.object "java/lang/Object"))) 1 := ⟨⟨tw_454, tw_456, tw_8, tw_60, tw_457⟩, by decide, by decide, by decide +kernel⟩
theorem ms_Jx4a65c_118 : MS "java/util/ArrayList" 118 yJ15_checkIndex_7cf53 cJ15_checkIndex_7cf53 2 (some .int) 2 := ⟨⟨tw_535, tw_536, tw_76, tw_537⟩, by decide, by decide, by decide +kernel⟩
theorem mv_Jx4a65c_123 : MV "java/util/ArrayList" 123 yJx4a65c_elementData_915e3 cJx4a65c_elementData_915e3 2 (some (.object "java/lang/Object")) 1 := ⟨⟨tw_541, tw_542, tw_543, tw_60, tw_544⟩, by decide, by decide, by decide +kernel⟩
theorem mv_Jx4a65c_129 : MV "java/util/ArrayList" 129 yJx4a65c_grow_d5877 cJx4a65c_grow_d5877 1 (some (.array (.object "java/lang/Object"))) 0 := ⟨⟨tw_450, tw_452, tw_7, tw_60, tw_453⟩, by decide, by decide, by decide +kernel⟩
theorem fp_Jx4a65c_48 : FP "java/util/ArrayList" 48 0 2 false .int := ⟨RJx4a65c, "java/util/ArrayList", TJx4a65c, 3, tyJx4a65c, rfl, inb_Jx4a65c, by decide, tw_106, Or.inl rfl, tyJx4a65c_ok, nmJx4a65c, rfl, (fun h => by cases h), rfl⟩
theorem fd_Jx4a65c_63 : FD "java/util/ArrayList" 63 0 0 := ⟨RJx4a65c, "java/util/ArrayList", TJx4a65c, 3, rfl, inb_Jx4a65c, by decide, tw_108, Or.inr tw_109⟩
theorem fp_Jx4a65c_63 : FP "java/util/ArrayList" 63 0 0 false .int := ⟨RJx4a65c, "java/util/ArrayList", TJx4a65c, 3, tyJx4a65c, rfl, inb_Jx4a65c, by decide, tw_108, Or.inr tw_109, tyJx4a65c_ok, nmJx4a65c, rfl, (fun h => by cases h), rfl⟩
theorem mv_Jx4a65c_131 : MV "java/util/ArrayList" 131 yJx4a65c_add_72be8 cJx4a65c_add_72be8 4 none 3 := ⟨⟨tw_446, tw_448, tw_6, tw_60, tw_449⟩, by decide, by decide, by decide +kernel⟩
theorem mv_Jx4a65c_144 : MV "java/util/ArrayList" 144 yJx4a65c_fastRemove_b59b0 cJx4a65c_fastRemove_b59b0 4 none 2 := ⟨⟨tw_609, tw_611, tw_9, tw_60, tw_612⟩, by decide, by decide, by decide +kernel⟩
theorem ac_Jx4a65c_112 : CpyW "java/util/ArrayList" 112 := ⟨tw_613, tw_491, tw_490, tw_75⟩
theorem gc_J7_86 : Cond.methodLink "java/util/Arrays" 86 yGC ∈ tb ∧ Cond.selects "[Ljava/lang/Object;" yGC yGC ∈ tb ∧ Cond.instanceMethod yGC ∈ tb ∧ Cond.native yGC ∈ tb := ⟨tw_469, tw_1159, tw_470, tw_481⟩
theorem ms_J7_300 : MS "java/util/Arrays" 300 yJ7_copyOf_6403c cJ7_copyOf_6403c 4 (some (.array (.object "java/lang/Object"))) 3 := ⟨⟨tw_482, tw_483, tw_64, tw_484⟩, by decide, by decide, by decide +kernel⟩
theorem cl_J7_110 : Cond.classLink "java/util/Arrays" 110 "[Ljava/lang/Object;" ∈ tb := tw_485
theorem cl_J7_2 : Cond.classLink "java/util/Arrays" 2 "java/lang/Object" ∈ tb := tw_487
theorem mm_J7_304 : Cond.methodLink "java/util/Arrays" 304 Lib.Math.min.name ∈ tb ∧ Cond.static Lib.Math.min.name ∈ tb ∧ Cond.initialized "java/lang/Math" ∈ tb ∧ Cond.code Lib.Math.min.name Lib.Math.min.code 2 (some .int) ∈ tb := ⟨tw_488, tw_345, tw_69, by decide +kernel⟩
theorem ac_J7_150 : CpyW "java/util/Arrays" 150 := ⟨tw_489, tw_491, tw_490, tw_75⟩
theorem ms_J15_105 : MS "java/util/Objects" 105 yJ3_checkIndex_8e157 cJ3_checkIndex_8e157 3 (some .int) 3 := ⟨⟨tw_538, tw_539, tw_71, tw_540⟩, by decide, by decide, by decide +kernel⟩
theorem mm_J8_194 : Cond.methodLink "jdk/internal/util/ArraysSupport" 194 Lib.Math.max.name ∈ tb ∧ Cond.static Lib.Math.max.name ∈ tb ∧ Cond.initialized "java/lang/Math" ∈ tb ∧ Cond.code Lib.Math.max.name Lib.Math.max.code 2 (some .int) ∈ tb := ⟨tw_461, tw_342, tw_69, by decide +kernel⟩
theorem ki_J8_200 : (Jvm.Cond.constant "jdk/internal/util/ArraysSupport" (200 : Nat) (2147483639 : Int32)) ∈ tb := tw_462
theorem ms_J8_201 : MS "jdk/internal/util/ArraysSupport" 201 yJ8_hugeLength_7cf53 cJ8_hugeLength_7cf53 3 (some .int) 2 := ⟨⟨tw_463, tw_464, tw_74, tw_465⟩, by decide, by decide, by decide +kernel⟩
theorem nd_L_7 : ND "BallastTrainLaw" 7 7 4 [.null, .null, .null, .null] := ⟨RX6, TX6, tyX6, rfl, inb_X6, tyX6_ok, tw_77, tw_78, tw_56, fun j hj => by rcases (show j = 0 ∨ j = 1 ∨ j = 2 ∨ j = 3 by omega) with rfl | rfl | rfl | rfl <;> rfl⟩
theorem mi_L_9 : MI "BallastTrainLaw" 9 yX6_init cX6_init 1 0 := ⟨⟨tw_79, tw_80, rfl, tw_56, tw_81⟩, by decide, by decide, by decide +kernel⟩
theorem nd_L_10 : ND "BallastTrainLaw" 10 8 11 [.null, .null, .null, .int 0, .null, .int 0, .null, .int 0, .int 0, .int 0, .long 0] := ⟨RX7, TX7, tyX7, rfl, inb_X7, tyX7_ok, tw_851, tw_852, tw_66, fun j hj => by rcases (show j = 0 ∨ j = 1 ∨ j = 2 ∨ j = 3 ∨ j = 4 ∨ j = 5 ∨ j = 6 ∨ j = 7 ∨ j = 8 ∨ j = 9 ∨ j = 10 by omega) with rfl | rfl | rfl | rfl | rfl | rfl | rfl | rfl | rfl | rfl | rfl <;> rfl⟩
theorem mi_L_12 : MI "BallastTrainLaw" 12 yX7_init cX7_init 1 0 := ⟨⟨tw_853, tw_854, rfl, tw_66, tw_855⟩, by decide, by decide, by decide +kernel⟩
theorem mv_L_13 : MV "BallastTrainLaw" 13 yX6_type cX6_type 2 (some .int) 1 := ⟨⟨tw_269, tw_270, tw_271, tw_56, tw_272⟩, by decide, by decide, by decide +kernel⟩
theorem mv_L_17 : MV "BallastTrainLaw" 17 yX7_type cX7_type 2 (some .int) 1 := ⟨⟨tw_903, tw_904, tw_905, tw_66, tw_906⟩, by decide, by decide, by decide +kernel⟩
theorem mv_L_18 : MV "BallastTrainLaw" 18 yX6_clearText cX6_clearText 2 (some .int) 0 := ⟨⟨tw_280, tw_281, tw_282, tw_56, tw_283⟩, by decide, by decide, by decide +kernel⟩
theorem mv_L_22 : MV "BallastTrainLaw" 22 yX7_clearText cX7_clearText 2 (some .int) 0 := ⟨⟨tw_910, tw_911, tw_912, tw_66, tw_913⟩, by decide, by decide, by decide +kernel⟩
theorem mv_L_23 : MV "BallastTrainLaw" 23 yX6_fault cX6_fault 1 (some .int) 0 := ⟨⟨tw_284, tw_285, tw_286, tw_56, tw_287⟩, by decide, by decide, by decide +kernel⟩
theorem mv_L_26 : MV "BallastTrainLaw" 26 yX7_fault cX7_fault 1 (some .int) 0 := ⟨⟨tw_914, tw_915, tw_916, tw_66, tw_917⟩, by decide, by decide, by decide +kernel⟩
theorem mv_L_27 : MV "BallastTrainLaw" 27 yX6_set cX6_set 4 (some .int) 2 := ⟨⟨tw_494, tw_495, tw_496, tw_56, tw_497⟩, by decide, by decide, by decide +kernel⟩
theorem mv_L_31 : MV "BallastTrainLaw" 31 yX7_set cX7_set 5 (some .int) 2 := ⟨⟨tw_958, tw_959, tw_960, tw_66, tw_961⟩, by decide, by decide, by decide +kernel⟩
theorem mv_L_32 : MV "BallastTrainLaw" 32 yX6_setTrain cX6_setTrain 3 (some .int) 1 := ⟨⟨tw_548, tw_549, tw_550, tw_56, tw_551⟩, by decide, by decide, by decide +kernel⟩
theorem mv_L_35 : MV "BallastTrainLaw" 35 yX7_setTrain cX7_setTrain 3 (some .int) 1 := ⟨⟨tw_966, tw_967, tw_968, tw_66, tw_969⟩, by decide, by decide, by decide +kernel⟩
theorem mv_L_36 : MV "BallastTrainLaw" 36 yX6_load cX6_load 3 (some .int) 2 := ⟨⟨tw_563, tw_564, tw_565, tw_56, tw_566⟩, by decide, by decide, by decide +kernel⟩
theorem mv_L_39 : MV "BallastTrainLaw" 39 yX7_load cX7_load 3 (some .int) 2 := ⟨⟨tw_978, tw_979, tw_980, tw_66, tw_981⟩, by decide, by decide, by decide +kernel⟩
theorem mv_L_40 : MV "BallastTrainLaw" 40 yX6_door cX6_door 5 (some .int) 3 := ⟨⟨tw_571, tw_572, tw_573, tw_56, tw_574⟩, by decide, by decide, by decide +kernel⟩
theorem mv_L_44 : MV "BallastTrainLaw" 44 yX7_door cX7_door 5 (some .int) 3 := ⟨⟨tw_986, tw_987, tw_988, tw_66, tw_989⟩, by decide, by decide, by decide +kernel⟩
theorem mv_L_45 : MV "BallastTrainLaw" 45 yX6_wish cX6_wish 3 (some .int) 1 := ⟨⟨tw_592, tw_593, tw_594, tw_56, tw_595⟩, by decide, by decide, by decide +kernel⟩
theorem mv_L_48 : MV "BallastTrainLaw" 48 yX7_wish cX7_wish 3 (some .int) 1 := ⟨⟨tw_997, tw_998, tw_999, tw_66, tw_1000⟩, by decide, by decide, by decide +kernel⟩
theorem mv_L_49 : MV "BallastTrainLaw" 49 yX6_order cX6_order 1 (some .int) 0 := ⟨⟨tw_596, tw_597, tw_598, tw_56, tw_599⟩, by decide, by decide, by decide +kernel⟩
theorem mv_L_52 : MV "BallastTrainLaw" 52 yX7_order cX7_order 2 (some .int) 0 := ⟨⟨tw_1001, tw_1002, tw_1003, tw_66, tw_1004⟩, by decide, by decide, by decide +kernel⟩
theorem mv_L_53 : MV "BallastTrainLaw" 53 yX6_cancel cX6_cancel 2 (some .int) 1 := ⟨⟨tw_601, tw_602, tw_603, tw_56, tw_604⟩, by decide, by decide, by decide +kernel⟩
theorem mv_L_56 : MV "BallastTrainLaw" 56 yX7_cancel cX7_cancel 2 (some .int) 1 := ⟨⟨tw_1005, tw_1006, tw_1007, tw_66, tw_1008⟩, by decide, by decide, by decide +kernel⟩
theorem mv_L_57 : MV "BallastTrainLaw" 57 yX6_pass cX6_pass 3 (some .int) 1 := ⟨⟨tw_614, tw_615, tw_616, tw_56, tw_617⟩, by decide, by decide, by decide +kernel⟩
theorem mv_L_60 : MV "BallastTrainLaw" 60 yX7_pass cX7_pass 3 (some .int) 1 := ⟨⟨tw_1013, tw_1014, tw_1015, tw_66, tw_1016⟩, by decide, by decide, by decide +kernel⟩
theorem mv_L_61 : MV "BallastTrainLaw" 61 yX6_scrape cX6_scrape 5 (some .int) 3 := ⟨⟨tw_687, tw_688, tw_689, tw_56, tw_690⟩, by decide, by decide, by decide +kernel⟩
theorem mv_L_64 : MV "BallastTrainLaw" 64 yX7_scrape cX7_scrape 5 (some .int) 3 := ⟨⟨tw_1051, tw_1052, tw_1053, tw_66, tw_1054⟩, by decide, by decide, by decide +kernel⟩
theorem mv_L_65 : MV "BallastTrainLaw" 65 yX6_undo cX6_undo 1 (some .int) 0 := ⟨⟨tw_697, tw_698, tw_699, tw_56, tw_700⟩, by decide, by decide, by decide +kernel⟩
theorem mv_L_68 : MV "BallastTrainLaw" 68 yX7_undo cX7_undo 2 (some .int) 0 := ⟨⟨tw_899, tw_900, tw_901, tw_66, tw_902⟩, by decide, by decide, by decide +kernel⟩
theorem mv_L_69 : MV "BallastTrainLaw" 69 yX6_wagon cX6_wagon 3 (some .int) 2 := ⟨⟨tw_705, tw_706, tw_707, tw_56, tw_708⟩, by decide, by decide, by decide +kernel⟩
theorem mv_L_72 : MV "BallastTrainLaw" 72 yX7_wagon cX7_wagon 5 (some .int) 2 := ⟨⟨tw_1055, tw_1056, tw_1057, tw_66, tw_1058⟩, by decide, by decide, by decide +kernel⟩
theorem mv_L_73 : MV "BallastTrainLaw" 73 yX6_doorOf cX6_doorOf 4 (some .int) 3 := ⟨⟨tw_723, tw_724, tw_725, tw_56, tw_726⟩, by decide, by decide, by decide +kernel⟩
theorem mv_L_76 : MV "BallastTrainLaw" 76 yX7_doorOf cX7_doorOf 4 (some .int) 3 := ⟨⟨tw_1059, tw_1060, tw_1061, tw_66, tw_1062⟩, by decide, by decide, by decide +kernel⟩
theorem mv_L_77 : MV "BallastTrainLaw" 77 yX6_height cX6_height 3 (some .int) 2 := ⟨⟨tw_728, tw_729, tw_730, tw_56, tw_731⟩, by decide, by decide, by decide +kernel⟩
theorem mv_L_80 : MV "BallastTrainLaw" 80 yX7_height cX7_height 3 (some .int) 2 := ⟨⟨tw_1063, tw_1064, tw_1065, tw_66, tw_1066⟩, by decide, by decide, by decide +kernel⟩
theorem mv_L_81 : MV "BallastTrainLaw" 81 yX6_profile cX6_profile 3 (some .int) 2 := ⟨⟨tw_732, tw_733, tw_734, tw_56, tw_735⟩, by decide, by decide, by decide +kernel⟩
theorem mv_L_84 : MV "BallastTrainLaw" 84 yX7_profile cX7_profile 3 (some .int) 2 := ⟨⟨tw_1067, tw_1068, tw_1069, tw_66, tw_1070⟩, by decide, by decide, by decide +kernel⟩
theorem mv_L_85 : MV "BallastTrainLaw" 85 yX6_lacking cX6_lacking 3 (some .int) 1 := ⟨⟨tw_766, tw_767, tw_768, tw_56, tw_769⟩, by decide, by decide, by decide +kernel⟩
theorem mv_L_88 : MV "BallastTrainLaw" 88 yX7_lacking cX7_lacking 5 (some .int) 1 := ⟨⟨tw_1087, tw_1088, tw_1089, tw_66, tw_1090⟩, by decide, by decide, by decide +kernel⟩
theorem mv_L_89 : MV "BallastTrainLaw" 89 yX6_ordered cX6_ordered 3 (some .int) 2 := ⟨⟨tw_783, tw_784, tw_785, tw_56, tw_786⟩, by decide, by decide, by decide +kernel⟩
theorem mv_L_92 : MV "BallastTrainLaw" 92 yX7_ordered cX7_ordered 3 (some .int) 2 := ⟨⟨tw_1095, tw_1096, tw_1097, tw_66, tw_1098⟩, by decide, by decide, by decide +kernel⟩
theorem mv_L_93 : MV "BallastTrainLaw" 93 yX6_foretell cX6_foretell 3 (some .int) 2 := ⟨⟨tw_791, tw_792, tw_793, tw_56, tw_794⟩, by decide, by decide, by decide +kernel⟩
theorem mv_L_96 : MV "BallastTrainLaw" 96 yX7_foretell cX7_foretell 4 (some .int) 2 := ⟨⟨tw_1099, tw_1100, tw_1101, tw_66, tw_1102⟩, by decide, by decide, by decide +kernel⟩
theorem mv_L_97 : MV "BallastTrainLaw" 97 yX6_emptyAfter cX6_emptyAfter 2 (some .int) 0 := ⟨⟨tw_809, tw_810, tw_811, tw_56, tw_812⟩, by decide, by decide, by decide +kernel⟩
theorem mv_L_100 : MV "BallastTrainLaw" 100 yX7_emptyAfter cX7_emptyAfter 3 (some .int) 0 := ⟨⟨tw_1120, tw_1121, tw_1122, tw_66, tw_1123⟩, by decide, by decide, by decide +kernel⟩
theorem mv_L_101 : MV "BallastTrainLaw" 101 yX6_count cX6_count 2 (some .int) 1 := ⟨⟨tw_817, tw_818, tw_819, tw_56, tw_820⟩, by decide, by decide, by decide +kernel⟩
theorem mv_L_104 : MV "BallastTrainLaw" 104 yX7_count cX7_count 2 (some .int) 1 := ⟨⟨tw_1124, tw_1125, tw_1126, tw_66, tw_1127⟩, by decide, by decide, by decide +kernel⟩
theorem mv_L_105 : MV "BallastTrainLaw" 105 yX6_digest cX6_digest 4 (some .long) 0 := ⟨⟨tw_821, tw_822, tw_823, tw_56, tw_824⟩, by decide, by decide, by decide +kernel⟩
theorem mv_L_109 : MV "BallastTrainLaw" 109 yX7_digest cX7_digest 2 (some .long) 0 := ⟨⟨tw_1128, tw_1129, tw_1130, tw_66, tw_1131⟩, by decide, by decide, by decide +kernel⟩
theorem sf_J0_15 : Cond.fieldLink "java/lang/String" 15 "java/lang/String" "coder" "B" ∈ tb := tw_1165
theorem sf_J0_9 : Cond.fieldLink "java/lang/String" 9 "java/lang/String" "value" "[B" ∈ tb := tw_1166
theorem ac_int : Cond.arrayClass .int ∈ tb := tb_mem 117 (by decide +kernel) rfl
end
