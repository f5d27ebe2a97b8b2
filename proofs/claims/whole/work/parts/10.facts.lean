theorem tw_0 : (Jvm.Cond.selects "BallastTrain$Text" ({ cls := "BallastTrain$Text", name := "skipBlanks", desc := "()V" } : Jvm.MethodName) ({ cls := "BallastTrain$Text", name := "skipBlanks", desc := "()V" } : Jvm.MethodName)) ∈ tb := tb_mem 0 (by decide +kernel) rfl
theorem tw_1 : (Jvm.Cond.selects "BallastTrain$Text" ({ cls := "BallastTrain$Text", name := "readOrder", desc := "()V" } : Jvm.MethodName) ({ cls := "BallastTrain$Text", name := "readOrder", desc := "()V" } : Jvm.MethodName)) ∈ tb := tb_mem 1 (by decide +kernel) rfl
theorem tw_2 : (Jvm.Cond.selects "BallastTrain$Text" ({ cls := "BallastTrain$Text", name := "takeOneOf", desc := "(Ljava/lang/String;)I" } : Jvm.MethodName) ({ cls := "BallastTrain$Text", name := "takeOneOf", desc := "(Ljava/lang/String;)I" } : Jvm.MethodName)) ∈ tb := tb_mem 2 (by decide +kernel) rfl
theorem tw_3 : (Jvm.Cond.selects "BallastTrain$Text" ({ cls := "BallastTrain$Text", name := "take", desc := "(III)I" } : Jvm.MethodName) ({ cls := "BallastTrain$Text", name := "take", desc := "(III)I" } : Jvm.MethodName)) ∈ tb := tb_mem 3 (by decide +kernel) rfl
theorem tw_4 : (Jvm.Cond.selects "BallastTrain$Text" ({ cls := "BallastTrain$Text", name := "takeCell", desc := "()I" } : Jvm.MethodName) ({ cls := "BallastTrain$Text", name := "takeCell", desc := "()I" } : Jvm.MethodName)) ∈ tb := tb_mem 4 (by decide +kernel) rfl
theorem tw_5 : (Jvm.Cond.selects "BallastTrain$Text" ({ cls := "BallastTrain$Text", name := "takeDigit", desc := "(II)I" } : Jvm.MethodName) ({ cls := "BallastTrain$Text", name := "takeDigit", desc := "(II)I" } : Jvm.MethodName)) ∈ tb := tb_mem 5 (by decide +kernel) rfl
theorem tw_6 : (Jvm.Cond.selects "java/util/ArrayList" ({ cls := "java/util/ArrayList", name := "add", desc := "(Ljava/lang/Object;[Ljava/lang/Object;I)V" } : Jvm.MethodName) ({ cls := "java/util/ArrayList", name := "add", desc := "(Ljava/lang/Object;[Ljava/lang/Object;I)V" } : Jvm.MethodName)) ∈ tb := tb_mem 6 (by decide +kernel) rfl
theorem tw_7 : (Jvm.Cond.selects "java/util/ArrayList" ({ cls := "java/util/ArrayList", name := "grow", desc := "()[Ljava/lang/Object;" } : Jvm.MethodName) ({ cls := "java/util/ArrayList", name := "grow", desc := "()[Ljava/lang/Object;" } : Jvm.MethodName)) ∈ tb := tb_mem 7 (by decide +kernel) rfl
theorem tw_8 : (Jvm.Cond.selects "java/util/ArrayList" ({ cls := "java/util/ArrayList", name := "grow", desc := "(I)[Ljava/lang/Object;" } : Jvm.MethodName) ({ cls := "java/util/ArrayList", name := "grow", desc := "(I)[Ljava/lang/Object;" } : Jvm.MethodName)) ∈ tb := tb_mem 8 (by decide +kernel) rfl
theorem tw_9 : (Jvm.Cond.selects "java/util/ArrayList" ({ cls := "java/util/ArrayList", name := "fastRemove", desc := "([Ljava/lang/Object;I)V" } : Jvm.MethodName) ({ cls := "java/util/ArrayList", name := "fastRemove", desc := "([Ljava/lang/Object;I)V" } : Jvm.MethodName)) ∈ tb := tb_mem 9 (by decide +kernel) rfl
theorem tw_10 : (Jvm.Cond.selects "BallastTrain$State" ({ cls := "BallastTrain$State", name := "carryOutOrders", desc := "()V" } : Jvm.MethodName) ({ cls := "BallastTrain$State", name := "carryOutOrders", desc := "()V" } : Jvm.MethodName)) ∈ tb := tb_mem 10 (by decide +kernel) rfl
theorem tw_11 : (Jvm.Cond.selects "BallastTrain$State" ({ cls := "BallastTrain$State", name := "unload", desc := "()V" } : Jvm.MethodName) ({ cls := "BallastTrain$State", name := "unload", desc := "()V" } : Jvm.MethodName)) ∈ tb := tb_mem 11 (by decide +kernel) rfl
theorem tw_12 : (Jvm.Cond.selects "BallastTrain$State" ({ cls := "BallastTrain$State", name := "land", desc := "(III)V" } : Jvm.MethodName) ({ cls := "BallastTrain$State", name := "land", desc := "(III)V" } : Jvm.MethodName)) ∈ tb := tb_mem 12 (by decide +kernel) rfl
theorem tw_13 : (Jvm.Cond.selects "BallastTrain$Track" ({ cls := "BallastTrain$Track", name := "lowestIn", desc := "(I)I" } : Jvm.MethodName) ({ cls := "BallastTrain$Track", name := "lowestIn", desc := "(I)I" } : Jvm.MethodName)) ∈ tb := tb_mem 13 (by decide +kernel) rfl
theorem tw_14 : (Jvm.Cond.selects "BallastTrain" ({ cls := "BallastTrain", name := "lookAhead", desc := "(I)V" } : Jvm.MethodName) ({ cls := "BallastTrain", name := "lookAhead", desc := "(I)V" } : Jvm.MethodName)) ∈ tb := tb_mem 14 (by decide +kernel) rfl
theorem tw_15 : (Jvm.Cond.selects "BallastTrain" ({ cls := "BallastTrain", name := "foretold", desc := "(I)I" } : Jvm.MethodName) ({ cls := "BallastTrain", name := "foretold", desc := "(I)I" } : Jvm.MethodName)) ∈ tb := tb_mem 15 (by decide +kernel) rfl
theorem tw_16 : (Jvm.Cond.selects "BallastTrain" ({ cls := "BallastTrain", name := "mixedWithTrain", desc := "(J)J" } : Jvm.MethodName) ({ cls := "BallastTrain", name := "mixedWithTrain", desc := "(J)J" } : Jvm.MethodName)) ∈ tb := tb_mem 16 (by decide +kernel) rfl
theorem tw_17 : (Jvm.Cond.selects "BallastTrain" ({ cls := "BallastTrain", name := "mixedWithTrack", desc := "(J)J" } : Jvm.MethodName) ({ cls := "BallastTrain", name := "mixedWithTrack", desc := "(J)J" } : Jvm.MethodName)) ∈ tb := tb_mem 17 (by decide +kernel) rfl
theorem tw_18 : (Jvm.Cond.selects "BallastTrain" ({ cls := "BallastTrain", name := "mixedWithOrders", desc := "(J)J" } : Jvm.MethodName) ({ cls := "BallastTrain", name := "mixedWithOrders", desc := "(J)J" } : Jvm.MethodName)) ∈ tb := tb_mem 18 (by decide +kernel) rfl
theorem tw_19 : (Jvm.Cond.selects "BallastTrainModel" ({ cls := "BallastTrainModel", name := "couples", desc := "(I)V" } : Jvm.MethodName) ({ cls := "BallastTrainModel", name := "couples", desc := "(I)V" } : Jvm.MethodName)) ∈ tb := tb_mem 19 (by decide +kernel) rfl
theorem tw_20 : (Jvm.Cond.selects "BallastTrainModel" ({ cls := "BallastTrainModel", name := "put", desc := "(III)V" } : Jvm.MethodName) ({ cls := "BallastTrainModel", name := "put", desc := "(III)V" } : Jvm.MethodName)) ∈ tb := tb_mem 20 (by decide +kernel) rfl
theorem tw_21 : (Jvm.Cond.selects "BallastTrainModel" ({ cls := "BallastTrainModel", name := "reads", desc := "()V" } : Jvm.MethodName) ({ cls := "BallastTrainModel", name := "reads", desc := "()V" } : Jvm.MethodName)) ∈ tb := tb_mem 21 (by decide +kernel) rfl
theorem tw_22 : (Jvm.Cond.selects "BallastTrainModel" ({ cls := "BallastTrainModel", name := "blanks", desc := "()V" } : Jvm.MethodName) ({ cls := "BallastTrainModel", name := "blanks", desc := "()V" } : Jvm.MethodName)) ∈ tb := tb_mem 22 (by decide +kernel) rfl
theorem tw_23 : (Jvm.Cond.selects "BallastTrainModel" ({ cls := "BallastTrainModel", name := "next", desc := "()I" } : Jvm.MethodName) ({ cls := "BallastTrainModel", name := "next", desc := "()I" } : Jvm.MethodName)) ∈ tb := tb_mem 23 (by decide +kernel) rfl
theorem tw_24 : (Jvm.Cond.selects "BallastTrainModel" ({ cls := "BallastTrainModel", name := "readsOrder", desc := "()V" } : Jvm.MethodName) ({ cls := "BallastTrainModel", name := "readsOrder", desc := "()V" } : Jvm.MethodName)) ∈ tb := tb_mem 24 (by decide +kernel) rfl
theorem tw_25 : (Jvm.Cond.selects "BallastTrainModel" ({ cls := "BallastTrainModel", name := "needs", desc := "(Z)V" } : Jvm.MethodName) ({ cls := "BallastTrainModel", name := "needs", desc := "(Z)V" } : Jvm.MethodName)) ∈ tb := tb_mem 25 (by decide +kernel) rfl
theorem tw_26 : (Jvm.Cond.selects "BallastTrainModel" ({ cls := "BallastTrainModel", name := "fails", desc := "(I)V" } : Jvm.MethodName) ({ cls := "BallastTrainModel", name := "fails", desc := "(I)V" } : Jvm.MethodName)) ∈ tb := tb_mem 26 (by decide +kernel) rfl
theorem tw_27 : (Jvm.Cond.selects "BallastTrainModel" ({ cls := "BallastTrainModel", name := "cell", desc := "()I" } : Jvm.MethodName) ({ cls := "BallastTrainModel", name := "cell", desc := "()I" } : Jvm.MethodName)) ∈ tb := tb_mem 27 (by decide +kernel) rfl
theorem tw_28 : (Jvm.Cond.selects "BallastTrainModel" ({ cls := "BallastTrainModel", name := "isDigit", desc := "()Z" } : Jvm.MethodName) ({ cls := "BallastTrainModel", name := "isDigit", desc := "()Z" } : Jvm.MethodName)) ∈ tb := tb_mem 28 (by decide +kernel) rfl
theorem tw_29 : (Jvm.Cond.selects "BallastTrainModel" ({ cls := "BallastTrainModel", name := "digit", desc := "(II)I" } : Jvm.MethodName) ({ cls := "BallastTrainModel", name := "digit", desc := "(II)I" } : Jvm.MethodName)) ∈ tb := tb_mem 29 (by decide +kernel) rfl
theorem tw_30 : (Jvm.Cond.selects "BallastTrainModel" ({ cls := "BallastTrainModel", name := "doorAt", desc := "()I" } : Jvm.MethodName) ({ cls := "BallastTrainModel", name := "doorAt", desc := "()I" } : Jvm.MethodName)) ∈ tb := tb_mem 30 (by decide +kernel) rfl
theorem tw_31 : (Jvm.Cond.selects "BallastTrainModel" ({ cls := "BallastTrainModel", name := "keeps", desc := "()V" } : Jvm.MethodName) ({ cls := "BallastTrainModel", name := "keeps", desc := "()V" } : Jvm.MethodName)) ∈ tb := tb_mem 31 (by decide +kernel) rfl
theorem tw_32 : (Jvm.Cond.selects "BallastTrainModel" ({ cls := "BallastTrainModel", name := "inWagons", desc := "()I" } : Jvm.MethodName) ({ cls := "BallastTrainModel", name := "inWagons", desc := "()I" } : Jvm.MethodName)) ∈ tb := tb_mem 32 (by decide +kernel) rfl
theorem tw_33 : (Jvm.Cond.selects "BallastTrainModel" ({ cls := "BallastTrainModel", name := "of", desc := "(II)I" } : Jvm.MethodName) ({ cls := "BallastTrainModel", name := "of", desc := "(II)I" } : Jvm.MethodName)) ∈ tb := tb_mem 33 (by decide +kernel) rfl
theorem tw_34 : (Jvm.Cond.selects "BallastTrainModel" ({ cls := "BallastTrainModel", name := "isWagon", desc := "(I)Z" } : Jvm.MethodName) ({ cls := "BallastTrainModel", name := "isWagon", desc := "(I)Z" } : Jvm.MethodName)) ∈ tb := tb_mem 34 (by decide +kernel) rfl
theorem tw_35 : (Jvm.Cond.selects "BallastTrainModel" ({ cls := "BallastTrainModel", name := "moves", desc := "(III)V" } : Jvm.MethodName) ({ cls := "BallastTrainModel", name := "moves", desc := "(III)V" } : Jvm.MethodName)) ∈ tb := tb_mem 35 (by decide +kernel) rfl
theorem tw_36 : (Jvm.Cond.selects "BallastTrainModel" ({ cls := "BallastTrainModel", name := "dropsOrder", desc := "(I)V" } : Jvm.MethodName) ({ cls := "BallastTrainModel", name := "dropsOrder", desc := "(I)V" } : Jvm.MethodName)) ∈ tb := tb_mem 36 (by decide +kernel) rfl
theorem tw_37 : (Jvm.Cond.selects "BallastTrainModel" ({ cls := "BallastTrainModel", name := "second", desc := "()V" } : Jvm.MethodName) ({ cls := "BallastTrainModel", name := "second", desc := "()V" } : Jvm.MethodName)) ∈ tb := tb_mem 37 (by decide +kernel) rfl
theorem tw_38 : (Jvm.Cond.selects "BallastTrainModel" ({ cls := "BallastTrainModel", name := "ordersDue", desc := "()V" } : Jvm.MethodName) ({ cls := "BallastTrainModel", name := "ordersDue", desc := "()V" } : Jvm.MethodName)) ∈ tb := tb_mem 38 (by decide +kernel) rfl
theorem tw_39 : (Jvm.Cond.selects "BallastTrainModel" ({ cls := "BallastTrainModel", name := "isDue", desc := "(I)Z" } : Jvm.MethodName) ({ cls := "BallastTrainModel", name := "isDue", desc := "(I)Z" } : Jvm.MethodName)) ∈ tb := tb_mem 39 (by decide +kernel) rfl
theorem tw_40 : (Jvm.Cond.selects "BallastTrainModel" ({ cls := "BallastTrainModel", name := "falls", desc := "(II)V" } : Jvm.MethodName) ({ cls := "BallastTrainModel", name := "falls", desc := "(II)V" } : Jvm.MethodName)) ∈ tb := tb_mem 40 (by decide +kernel) rfl
theorem tw_41 : (Jvm.Cond.selects "BallastTrainModel" ({ cls := "BallastTrainModel", name := "slides", desc := "(II)V" } : Jvm.MethodName) ({ cls := "BallastTrainModel", name := "slides", desc := "(II)V" } : Jvm.MethodName)) ∈ tb := tb_mem 41 (by decide +kernel) rfl
theorem tw_42 : (Jvm.Cond.selects "BallastTrainModel" ({ cls := "BallastTrainModel", name := "spills", desc := "(II)V" } : Jvm.MethodName) ({ cls := "BallastTrainModel", name := "spills", desc := "(II)V" } : Jvm.MethodName)) ∈ tb := tb_mem 42 (by decide +kernel) rfl
theorem tw_43 : (Jvm.Cond.selects "BallastTrainModel" ({ cls := "BallastTrainModel", name := "closes", desc := "(II)V" } : Jvm.MethodName) ({ cls := "BallastTrainModel", name := "closes", desc := "(II)V" } : Jvm.MethodName)) ∈ tb := tb_mem 43 (by decide +kernel) rfl
theorem tw_44 : (Jvm.Cond.selects "BallastTrainModel" ({ cls := "BallastTrainModel", name := "sum", desc := "(I)I" } : Jvm.MethodName) ({ cls := "BallastTrainModel", name := "sum", desc := "(I)I" } : Jvm.MethodName)) ∈ tb := tb_mem 44 (by decide +kernel) rfl
theorem tw_45 : (Jvm.Cond.selects "BallastTrainModel" ({ cls := "BallastTrainModel", name := "highest", desc := "(I)I" } : Jvm.MethodName) ({ cls := "BallastTrainModel", name := "highest", desc := "(I)I" } : Jvm.MethodName)) ∈ tb := tb_mem 45 (by decide +kernel) rfl
theorem tw_46 : (Jvm.Cond.selects "BallastTrainModel" ({ cls := "BallastTrainModel", name := "row", desc := "(IZ)I" } : Jvm.MethodName) ({ cls := "BallastTrainModel", name := "row", desc := "(IZ)I" } : Jvm.MethodName)) ∈ tb := tb_mem 46 (by decide +kernel) rfl
theorem tw_47 : (Jvm.Cond.selects "BallastTrainModel" ({ cls := "BallastTrainModel", name := "steepest", desc := "(I)I" } : Jvm.MethodName) ({ cls := "BallastTrainModel", name := "steepest", desc := "(I)I" } : Jvm.MethodName)) ∈ tb := tb_mem 47 (by decide +kernel) rfl
theorem tw_48 : (Jvm.Cond.selects "BallastTrainModel" ({ cls := "BallastTrainModel", name := "lackingIn", desc := "(I)I" } : Jvm.MethodName) ({ cls := "BallastTrainModel", name := "lackingIn", desc := "(I)I" } : Jvm.MethodName)) ∈ tb := tb_mem 48 (by decide +kernel) rfl
theorem tw_49 : (Jvm.Cond.selects "BallastTrainModel" ({ cls := "BallastTrainModel", name := "keepsAside", desc := "()V" } : Jvm.MethodName) ({ cls := "BallastTrainModel", name := "keepsAside", desc := "()V" } : Jvm.MethodName)) ∈ tb := tb_mem 49 (by decide +kernel) rfl
theorem tw_50 : (Jvm.Cond.selects "BallastTrainModel" ({ cls := "BallastTrainModel", name := "part", desc := "(I)I" } : Jvm.MethodName) ({ cls := "BallastTrainModel", name := "part", desc := "(I)I" } : Jvm.MethodName)) ∈ tb := tb_mem 50 (by decide +kernel) rfl
theorem tw_51 : (Jvm.Cond.selects "BallastTrainModel" ({ cls := "BallastTrainModel", name := "onTrack", desc := "()I" } : Jvm.MethodName) ({ cls := "BallastTrainModel", name := "onTrack", desc := "()I" } : Jvm.MethodName)) ∈ tb := tb_mem 51 (by decide +kernel) rfl
theorem tw_52 : (Jvm.Cond.selects "BallastTrainModel" ({ cls := "BallastTrainModel", name := "returns", desc := "()V" } : Jvm.MethodName) ({ cls := "BallastTrainModel", name := "returns", desc := "()V" } : Jvm.MethodName)) ∈ tb := tb_mem 52 (by decide +kernel) rfl
theorem tw_53 : (Jvm.Cond.selects "BallastTrainModel" ({ cls := "BallastTrainModel", name := "mixes", desc := "(I)V" } : Jvm.MethodName) ({ cls := "BallastTrainModel", name := "mixes", desc := "(I)V" } : Jvm.MethodName)) ∈ tb := tb_mem 53 (by decide +kernel) rfl
theorem tw_54 : (Jvm.Cond.selects "BallastTrainModel" ({ cls := "BallastTrainModel", name := "mixesWagon", desc := "(I)V" } : Jvm.MethodName) ({ cls := "BallastTrainModel", name := "mixesWagon", desc := "(I)V" } : Jvm.MethodName)) ∈ tb := tb_mem 54 (by decide +kernel) rfl
theorem tw_56 : (Jvm.Cond.initialized "BallastTrain") ∈ tb := tb_mem 56 (by decide +kernel) rfl
theorem tw_57 : (Jvm.Cond.initialized "BallastTrain$Text") ∈ tb := tb_mem 57 (by decide +kernel) rfl
theorem tw_58 : (Jvm.Cond.initialized "java/util/AbstractCollection") ∈ tb := tb_mem 58 (by decide +kernel) rfl
theorem tw_59 : (Jvm.Cond.initialized "java/util/AbstractList") ∈ tb := tb_mem 59 (by decide +kernel) rfl
theorem tw_60 : (Jvm.Cond.initialized "java/util/ArrayList") ∈ tb := tb_mem 60 (by decide +kernel) rfl
theorem tw_61 : (Jvm.Cond.initialized "BallastTrain$State") ∈ tb := tb_mem 61 (by decide +kernel) rfl
theorem tw_62 : (Jvm.Cond.initialized "BallastTrain$Track") ∈ tb := tb_mem 62 (by decide +kernel) rfl
theorem tw_63 : (Jvm.Cond.initialized "BallastTrain$Train") ∈ tb := tb_mem 63 (by decide +kernel) rfl
theorem tw_64 : (Jvm.Cond.initialized "java/util/Arrays") ∈ tb := tb_mem 64 (by decide +kernel) rfl
theorem tw_65 : (Jvm.Cond.initialized "BallastTrain$History") ∈ tb := tb_mem 65 (by decide +kernel) rfl
theorem tw_66 : (Jvm.Cond.initialized "BallastTrainModel") ∈ tb := tb_mem 66 (by decide +kernel) rfl
theorem tw_67 : (Jvm.Cond.initialized "java/lang/String") ∈ tb := tb_mem 67 (by decide +kernel) rfl
theorem tw_68 : (Jvm.Cond.initialized "java/lang/StringLatin1") ∈ tb := tb_mem 68 (by decide +kernel) rfl
theorem tw_69 : (Jvm.Cond.initialized "java/lang/Math") ∈ tb := tb_mem 69 (by decide +kernel) rfl
theorem tw_70 : (Jvm.Cond.initialized "java/lang/StringUTF16") ∈ tb := tb_mem 70 (by decide +kernel) rfl
theorem tw_71 : (Jvm.Cond.initialized "jdk/internal/util/Preconditions") ∈ tb := tb_mem 71 (by decide +kernel) rfl
theorem tw_72 : (Jvm.Cond.initialized "java/lang/Character") ∈ tb := tb_mem 72 (by decide +kernel) rfl
theorem tw_73 : (Jvm.Cond.initialized "BallastTrain$Order") ∈ tb := tb_mem 73 (by decide +kernel) rfl
theorem tw_74 : (Jvm.Cond.initialized "jdk/internal/util/ArraysSupport") ∈ tb := tb_mem 74 (by decide +kernel) rfl
theorem tw_75 : (Jvm.Cond.initialized "java/lang/System") ∈ tb := tb_mem 75 (by decide +kernel) rfl
theorem tw_76 : (Jvm.Cond.initialized "java/util/Objects") ∈ tb := tb_mem 76 (by decide +kernel) rfl
theorem tw_77 : (Jvm.Cond.classLink "BallastTrainLaw" (7 : Nat) "BallastTrain") ∈ tb := tb_mem 77 (by decide +kernel) rfl
theorem tw_78 : (Jvm.Cond.instantiable "BallastTrain" (4 : Nat)) ∈ tb := tb_mem 78 (by decide +kernel) rfl
theorem tw_79 : (Jvm.Cond.methodLink "BallastTrainLaw" (9 : Nat) ({ cls := "BallastTrain", name := "<init>", desc := "()V" } : Jvm.MethodName)) ∈ tb := tb_mem 79 (by decide +kernel) rfl
theorem tw_80 : (Jvm.Cond.instanceMethod ({ cls := "BallastTrain", name := "<init>", desc := "()V" } : Jvm.MethodName)) ∈ tb := tb_mem 80 (by decide +kernel) rfl
theorem tw_81 : (Jvm.Cond.code ({ cls := "BallastTrain", name := "<init>", desc := "()V" } : Jvm.MethodName) prog_1_method_1_code (1 : Nat) (Option.none : Option Jvm.ClassFile.FieldType)) ∈ tb := tb_mem 81 (by decide +kernel) rfl
theorem tw_82 : (Jvm.Cond.methodLink "BallastTrain" (1 : Nat) ({ cls := "java/lang/Object", name := "<init>", desc := "()V" } : Jvm.MethodName)) ∈ tb := tb_mem 82 (by decide +kernel) rfl
theorem tw_83 : (Jvm.Cond.instanceMethod ({ cls := "java/lang/Object", name := "<init>", desc := "()V" } : Jvm.MethodName)) ∈ tb := tb_mem 83 (by decide +kernel) rfl
theorem tw_85 : (Jvm.Cond.classLink "BallastTrain" (7 : Nat) "BallastTrain$Text") ∈ tb := tb_mem 85 (by decide +kernel) rfl
theorem tw_86 : (Jvm.Cond.instantiable "BallastTrain$Text" (5 : Nat)) ∈ tb := tb_mem 86 (by decide +kernel) rfl
theorem tw_88 : (Jvm.Cond.instanceMethod ({ cls := "BallastTrain$Text", name := "<init>", desc := "()V" } : Jvm.MethodName)) ∈ tb := tb_mem 88 (by decide +kernel) rfl
theorem tw_89 : (Jvm.Cond.code ({ cls := "BallastTrain$Text", name := "<init>", desc := "()V" } : Jvm.MethodName) prog_5_method_1_code (1 : Nat) (Option.none : Option Jvm.ClassFile.FieldType)) ∈ tb := tb_mem 89 (by decide +kernel) rfl
theorem tw_90 : (Jvm.Cond.methodLink "BallastTrain$Text" (3 : Nat) ({ cls := "java/lang/Object", name := "<init>", desc := "()V" } : Jvm.MethodName)) ∈ tb := tb_mem 90 (by decide +kernel) rfl
theorem tw_91 : (Jvm.Cond.classLink "BallastTrain$Text" (19 : Nat) "java/util/ArrayList") ∈ tb := tb_mem 91 (by decide +kernel) rfl
theorem tw_92 : (Jvm.Cond.instantiable "java/util/ArrayList" (3 : Nat)) ∈ tb := tb_mem 92 (by decide +kernel) rfl
theorem tw_93 : (Jvm.Cond.methodLink "BallastTrain$Text" (21 : Nat) ({ cls := "java/util/ArrayList", name := "<init>", desc := "()V" } : Jvm.MethodName)) ∈ tb := tb_mem 93 (by decide +kernel) rfl
theorem tw_94 : (Jvm.Cond.instanceMethod ({ cls := "java/util/ArrayList", name := "<init>", desc := "()V" } : Jvm.MethodName)) ∈ tb := tb_mem 94 (by decide +kernel) rfl
theorem tw_95 : (Jvm.Cond.code ({ cls := "java/util/ArrayList", name := "<init>", desc := "()V" } : Jvm.MethodName) prog_25_method_2_code (1 : Nat) (Option.none : Option Jvm.ClassFile.FieldType)) ∈ tb := tb_mem 95 (by decide +kernel) rfl
theorem tw_96 : (Jvm.Cond.methodLink "java/util/ArrayList" (1 : Nat) ({ cls := "java/util/AbstractList", name := "<init>", desc := "()V" } : Jvm.MethodName)) ∈ tb := tb_mem 96 (by decide +kernel) rfl
theorem tw_97 : (Jvm.Cond.instanceMethod ({ cls := "java/util/AbstractList", name := "<init>", desc := "()V" } : Jvm.MethodName)) ∈ tb := tb_mem 97 (by decide +kernel) rfl
theorem tw_98 : (Jvm.Cond.code ({ cls := "java/util/AbstractList", name := "<init>", desc := "()V" } : Jvm.MethodName) prog_24_method_1_code (1 : Nat) (Option.none : Option Jvm.ClassFile.FieldType)) ∈ tb := tb_mem 98 (by decide +kernel) rfl
theorem tw_99 : (Jvm.Cond.methodLink "java/util/AbstractList" (1 : Nat) ({ cls := "java/util/AbstractCollection", name := "<init>", desc := "()V" } : Jvm.MethodName)) ∈ tb := tb_mem 99 (by decide +kernel) rfl
theorem tw_100 : (Jvm.Cond.instanceMethod ({ cls := "java/util/AbstractCollection", name := "<init>", desc := "()V" } : Jvm.MethodName)) ∈ tb := tb_mem 100 (by decide +kernel) rfl
theorem tw_101 : (Jvm.Cond.code ({ cls := "java/util/AbstractCollection", name := "<init>", desc := "()V" } : Jvm.MethodName) prog_23_method_1_code (1 : Nat) (Option.none : Option Jvm.ClassFile.FieldType)) ∈ tb := tb_mem 101 (by decide +kernel) rfl
theorem tw_102 : (Jvm.Cond.methodLink "java/util/AbstractCollection" (1 : Nat) ({ cls := "java/lang/Object", name := "<init>", desc := "()V" } : Jvm.MethodName)) ∈ tb := tb_mem 102 (by decide +kernel) rfl
theorem tw_103 : (Jvm.Cond.fieldLink "java/util/ArrayList" (39 : Nat) "java/util/ArrayList" "DEFAULTCAPACITY_EMPTY_ELEMENTDATA" "[Ljava/lang/Object;") ∈ tb := tb_mem 103 (by decide +kernel) rfl
theorem tw_105 : (Jvm.Cond.fieldLink "java/util/ArrayList" (9 : Nat) "java/util/ArrayList" "elementData" "[Ljava/lang/Object;") ∈ tb := tb_mem 105 (by decide +kernel) rfl
theorem tw_106 : (Jvm.Cond.fieldLink "java/util/ArrayList" (48 : Nat) "java/util/ArrayList" "size" "I") ∈ tb := tb_mem 106 (by decide +kernel) rfl
theorem tw_107 : (Jvm.Cond.fieldLink "java/util/AbstractList" (7 : Nat) "java/util/AbstractList" "modCount" "I") ∈ tb := tb_mem 107 (by decide +kernel) rfl
theorem tw_108 : (Jvm.Cond.fieldLink "java/util/ArrayList" (63 : Nat) "java/util/ArrayList" "modCount" "I") ∈ tb := tb_mem 108 (by decide +kernel) rfl
theorem tw_109 : (Jvm.Cond.sameField "java/util/ArrayList" "java/util/AbstractList" "modCount" "I") ∈ tb := tb_mem 109 (by decide +kernel) rfl
theorem tw_118 : (Jvm.Cond.fieldLink "BallastTrain$Text" (9 : Nat) "BallastTrain$Text" "bytes" "[I") ∈ tb := tb_mem 118 (by decide +kernel) rfl
theorem tw_119 : (Jvm.Cond.fieldLink "BallastTrain$Text" (15 : Nat) "BallastTrain$Text" "length" "I") ∈ tb := tb_mem 119 (by decide +kernel) rfl
theorem tw_120 : (Jvm.Cond.fieldLink "BallastTrain" (41 : Nat) "BallastTrain$Text" "length" "I") ∈ tb := tb_mem 120 (by decide +kernel) rfl
theorem tw_121 : (Jvm.Cond.fieldLink "BallastTrain$Text" (22 : Nat) "BallastTrain$Text" "orders" "Ljava/util/ArrayList;") ∈ tb := tb_mem 121 (by decide +kernel) rfl
theorem tw_122 : (Jvm.Cond.fieldLink "BallastTrain" (121 : Nat) "BallastTrain$Text" "orders" "Ljava/util/ArrayList;") ∈ tb := tb_mem 122 (by decide +kernel) rfl
theorem tw_123 : (Jvm.Cond.fieldLink "BallastTrain$Text" (26 : Nat) "BallastTrain$Text" "fault" "I") ∈ tb := tb_mem 123 (by decide +kernel) rfl
theorem tw_124 : (Jvm.Cond.fieldLink "BallastTrain" (48 : Nat) "BallastTrain$Text" "fault" "I") ∈ tb := tb_mem 124 (by decide +kernel) rfl
theorem tw_125 : (Jvm.Cond.fieldLink "BallastTrain$Text" (29 : Nat) "BallastTrain$Text" "at" "I") ∈ tb := tb_mem 125 (by decide +kernel) rfl
theorem tw_137 : (Jvm.Cond.classLink "BallastTrain" (16 : Nat) "BallastTrain$State") ∈ tb := tb_mem 137 (by decide +kernel) rfl
theorem tw_138 : (Jvm.Cond.instantiable "BallastTrain$State" (9 : Nat)) ∈ tb := tb_mem 138 (by decide +kernel) rfl
theorem tw_140 : (Jvm.Cond.instanceMethod ({ cls := "BallastTrain$State", name := "<init>", desc := "()V" } : Jvm.MethodName)) ∈ tb := tb_mem 140 (by decide +kernel) rfl
theorem tw_141 : (Jvm.Cond.code ({ cls := "BallastTrain$State", name := "<init>", desc := "()V" } : Jvm.MethodName) prog_4_method_1_code (1 : Nat) (Option.none : Option Jvm.ClassFile.FieldType)) ∈ tb := tb_mem 141 (by decide +kernel) rfl
theorem tw_142 : (Jvm.Cond.methodLink "BallastTrain$State" (3 : Nat) ({ cls := "java/lang/Object", name := "<init>", desc := "()V" } : Jvm.MethodName)) ∈ tb := tb_mem 142 (by decide +kernel) rfl
theorem tw_143 : (Jvm.Cond.classLink "BallastTrain$State" (15 : Nat) "BallastTrain$Track") ∈ tb := tb_mem 143 (by decide +kernel) rfl
theorem tw_144 : (Jvm.Cond.instantiable "BallastTrain$Track" (1 : Nat)) ∈ tb := tb_mem 144 (by decide +kernel) rfl
theorem tw_146 : (Jvm.Cond.instanceMethod ({ cls := "BallastTrain$Track", name := "<init>", desc := "()V" } : Jvm.MethodName)) ∈ tb := tb_mem 146 (by decide +kernel) rfl
theorem tw_147 : (Jvm.Cond.code ({ cls := "BallastTrain$Track", name := "<init>", desc := "()V" } : Jvm.MethodName) prog_6_method_1_code (1 : Nat) (Option.none : Option Jvm.ClassFile.FieldType)) ∈ tb := tb_mem 147 (by decide +kernel) rfl
theorem tw_148 : (Jvm.Cond.methodLink "BallastTrain$Track" (3 : Nat) ({ cls := "java/lang/Object", name := "<init>", desc := "()V" } : Jvm.MethodName)) ∈ tb := tb_mem 148 (by decide +kernel) rfl
theorem tw_149 : (Jvm.Cond.fieldLink "BallastTrain$Track" (9 : Nat) "BallastTrain$Track" "heights" "[I") ∈ tb := tb_mem 149 (by decide +kernel) rfl
theorem tw_150 : (Jvm.Cond.fieldLink "BallastTrain$State" (56 : Nat) "BallastTrain$Track" "heights" "[I") ∈ tb := tb_mem 150 (by decide +kernel) rfl
theorem tw_154 : (Jvm.Cond.classLink "BallastTrain$State" (22 : Nat) "BallastTrain$Train") ∈ tb := tb_mem 154 (by decide +kernel) rfl
theorem tw_155 : (Jvm.Cond.instantiable "BallastTrain$Train" (8 : Nat)) ∈ tb := tb_mem 155 (by decide +kernel) rfl
theorem tw_156 : (Jvm.Cond.methodLink "BallastTrain$State" (24 : Nat) ({ cls := "BallastTrain$Train", name := "<init>", desc := "()V" } : Jvm.MethodName)) ∈ tb := tb_mem 156 (by decide +kernel) rfl
theorem tw_157 : (Jvm.Cond.instanceMethod ({ cls := "BallastTrain$Train", name := "<init>", desc := "()V" } : Jvm.MethodName)) ∈ tb := tb_mem 157 (by decide +kernel) rfl
theorem tw_158 : (Jvm.Cond.code ({ cls := "BallastTrain$Train", name := "<init>", desc := "()V" } : Jvm.MethodName) prog_7_method_1_code (1 : Nat) (Option.none : Option Jvm.ClassFile.FieldType)) ∈ tb := tb_mem 158 (by decide +kernel) rfl
theorem tw_159 : (Jvm.Cond.methodLink "BallastTrain$Train" (3 : Nat) ({ cls := "java/lang/Object", name := "<init>", desc := "()V" } : Jvm.MethodName)) ∈ tb := tb_mem 159 (by decide +kernel) rfl
theorem tw_160 : (Jvm.Cond.methodLink "BallastTrain$Train" (37 : Nat) ({ cls := "java/util/Arrays", name := "fill", desc := "([II)V" } : Jvm.MethodName)) ∈ tb := tb_mem 160 (by decide +kernel) rfl
theorem tw_161 : (Jvm.Cond.static ({ cls := "java/util/Arrays", name := "fill", desc := "([II)V" } : Jvm.MethodName)) ∈ tb := tb_mem 161 (by decide +kernel) rfl
theorem tw_162 : (Jvm.Cond.code ({ cls := "java/util/Arrays", name := "fill", desc := "([II)V" } : Jvm.MethodName) prog_26_method_103_code (4 : Nat) (Option.none : Option Jvm.ClassFile.FieldType)) ∈ tb := tb_mem 162 (by decide +kernel) rfl
theorem tw_163 : (Jvm.Cond.fieldLink "BallastTrain$Train" (9 : Nat) "BallastTrain$Train" "wagons" "I") ∈ tb := tb_mem 163 (by decide +kernel) rfl
theorem tw_164 : (Jvm.Cond.fieldLink "BallastTrain$State" (90 : Nat) "BallastTrain$Train" "wagons" "I") ∈ tb := tb_mem 164 (by decide +kernel) rfl
theorem tw_165 : (Jvm.Cond.fieldLink "BallastTrain" (223 : Nat) "BallastTrain$Train" "wagons" "I") ∈ tb := tb_mem 165 (by decide +kernel) rfl
theorem tw_166 : (Jvm.Cond.fieldLink "BallastTrain$Train" (15 : Nat) "BallastTrain$Train" "place" "I") ∈ tb := tb_mem 166 (by decide +kernel) rfl
theorem tw_167 : (Jvm.Cond.fieldLink "BallastTrain$Order" (27 : Nat) "BallastTrain$Train" "place" "I") ∈ tb := tb_mem 167 (by decide +kernel) rfl
theorem tw_168 : (Jvm.Cond.fieldLink "BallastTrain" (136 : Nat) "BallastTrain$Train" "place" "I") ∈ tb := tb_mem 168 (by decide +kernel) rfl
theorem tw_169 : (Jvm.Cond.fieldLink "BallastTrain$Train" (18 : Nat) "BallastTrain$Train" "speed" "I") ∈ tb := tb_mem 169 (by decide +kernel) rfl
theorem tw_170 : (Jvm.Cond.fieldLink "BallastTrain" (85 : Nat) "BallastTrain$Train" "speed" "I") ∈ tb := tb_mem 170 (by decide +kernel) rfl
theorem tw_171 : (Jvm.Cond.fieldLink "BallastTrain$Train" (21 : Nat) "BallastTrain$Train" "wish" "I") ∈ tb := tb_mem 171 (by decide +kernel) rfl
theorem tw_172 : (Jvm.Cond.fieldLink "BallastTrain$Order" (40 : Nat) "BallastTrain$Train" "wish" "I") ∈ tb := tb_mem 172 (by decide +kernel) rfl
theorem tw_173 : (Jvm.Cond.fieldLink "BallastTrain" (109 : Nat) "BallastTrain$Train" "wish" "I") ∈ tb := tb_mem 173 (by decide +kernel) rfl
theorem tw_174 : (Jvm.Cond.fieldLink "BallastTrain$Train" (24 : Nat) "BallastTrain$Train" "load" "[I") ∈ tb := tb_mem 174 (by decide +kernel) rfl
theorem tw_175 : (Jvm.Cond.fieldLink "BallastTrain" (88 : Nat) "BallastTrain$Train" "load" "[I") ∈ tb := tb_mem 175 (by decide +kernel) rfl
theorem tw_176 : (Jvm.Cond.fieldLink "BallastTrain$Train" (28 : Nat) "BallastTrain$Train" "left" "[I") ∈ tb := tb_mem 176 (by decide +kernel) rfl
theorem tw_177 : (Jvm.Cond.fieldLink "BallastTrain" (174 : Nat) "BallastTrain$Train" "left" "[I") ∈ tb := tb_mem 177 (by decide +kernel) rfl
theorem tw_178 : (Jvm.Cond.fieldLink "BallastTrain$Train" (31 : Nat) "BallastTrain$Train" "level" "[I") ∈ tb := tb_mem 178 (by decide +kernel) rfl
theorem tw_179 : (Jvm.Cond.fieldLink "BallastTrain$Train" (34 : Nat) "BallastTrain$Train" "rest" "[I") ∈ tb := tb_mem 179 (by decide +kernel) rfl
theorem tw_197 : (Jvm.Cond.classLink "BallastTrain$State" (29 : Nat) "java/util/ArrayList") ∈ tb := tb_mem 197 (by decide +kernel) rfl
theorem tw_198 : (Jvm.Cond.methodLink "BallastTrain$State" (31 : Nat) ({ cls := "java/util/ArrayList", name := "<init>", desc := "()V" } : Jvm.MethodName)) ∈ tb := tb_mem 198 (by decide +kernel) rfl
theorem tw_199 : (Jvm.Cond.fieldLink "BallastTrain$State" (9 : Nat) "BallastTrain$State" "settings" "[I") ∈ tb := tb_mem 199 (by decide +kernel) rfl
theorem tw_200 : (Jvm.Cond.fieldLink "BallastTrain" (62 : Nat) "BallastTrain$State" "settings" "[I") ∈ tb := tb_mem 200 (by decide +kernel) rfl
theorem tw_201 : (Jvm.Cond.fieldLink "BallastTrain$State" (18 : Nat) "BallastTrain$State" "track" "LBallastTrain$Track;") ∈ tb := tb_mem 201 (by decide +kernel) rfl
theorem tw_202 : (Jvm.Cond.fieldLink "BallastTrain" (144 : Nat) "BallastTrain$State" "track" "LBallastTrain$Track;") ∈ tb := tb_mem 202 (by decide +kernel) rfl
theorem tw_203 : (Jvm.Cond.fieldLink "BallastTrain$State" (25 : Nat) "BallastTrain$State" "train" "LBallastTrain$Train;") ∈ tb := tb_mem 203 (by decide +kernel) rfl
theorem tw_204 : (Jvm.Cond.fieldLink "BallastTrain" (65 : Nat) "BallastTrain$State" "train" "LBallastTrain$Train;") ∈ tb := tb_mem 204 (by decide +kernel) rfl
theorem tw_205 : (Jvm.Cond.fieldLink "BallastTrain$State" (32 : Nat) "BallastTrain$State" "orders" "Ljava/util/ArrayList;") ∈ tb := tb_mem 205 (by decide +kernel) rfl
theorem tw_206 : (Jvm.Cond.fieldLink "BallastTrain" (112 : Nat) "BallastTrain$State" "orders" "Ljava/util/ArrayList;") ∈ tb := tb_mem 206 (by decide +kernel) rfl
theorem tw_207 : (Jvm.Cond.fieldLink "BallastTrain$State" (36 : Nat) "BallastTrain$State" "time" "I") ∈ tb := tb_mem 207 (by decide +kernel) rfl
theorem tw_208 : (Jvm.Cond.fieldLink "BallastTrain" (130 : Nat) "BallastTrain$State" "time" "I") ∈ tb := tb_mem 208 (by decide +kernel) rfl
theorem tw_209 : (Jvm.Cond.fieldLink "BallastTrain$State" (40 : Nat) "BallastTrain$State" "jams" "I") ∈ tb := tb_mem 209 (by decide +kernel) rfl
theorem tw_210 : (Jvm.Cond.fieldLink "BallastTrain" (226 : Nat) "BallastTrain$State" "jams" "I") ∈ tb := tb_mem 210 (by decide +kernel) rfl
theorem tw_211 : (Jvm.Cond.fieldLink "BallastTrain$State" (43 : Nat) "BallastTrain$State" "loaded" "I") ∈ tb := tb_mem 211 (by decide +kernel) rfl
theorem tw_212 : (Jvm.Cond.fieldLink "BallastTrain" (91 : Nat) "BallastTrain$State" "loaded" "I") ∈ tb := tb_mem 212 (by decide +kernel) rfl
theorem tw_213 : (Jvm.Cond.fieldLink "BallastTrain$State" (46 : Nat) "BallastTrain$State" "lost" "I") ∈ tb := tb_mem 213 (by decide +kernel) rfl
theorem tw_214 : (Jvm.Cond.fieldLink "BallastTrain" (230 : Nat) "BallastTrain$State" "lost" "I") ∈ tb := tb_mem 214 (by decide +kernel) rfl
theorem tw_215 : (Jvm.Cond.fieldLink "BallastTrain$State" (49 : Nat) "BallastTrain$State" "taken" "I") ∈ tb := tb_mem 215 (by decide +kernel) rfl
theorem tw_216 : (Jvm.Cond.fieldLink "BallastTrain" (79 : Nat) "BallastTrain$State" "taken" "I") ∈ tb := tb_mem 216 (by decide +kernel) rfl
theorem tw_236 : (Jvm.Cond.classLink "BallastTrain" (26 : Nat) "BallastTrain$History") ∈ tb := tb_mem 236 (by decide +kernel) rfl
theorem tw_237 : (Jvm.Cond.instantiable "BallastTrain$History" (3 : Nat)) ∈ tb := tb_mem 237 (by decide +kernel) rfl
theorem tw_238 : (Jvm.Cond.methodLink "BallastTrain" (28 : Nat) ({ cls := "BallastTrain$History", name := "<init>", desc := "()V" } : Jvm.MethodName)) ∈ tb := tb_mem 238 (by decide +kernel) rfl
theorem tw_239 : (Jvm.Cond.instanceMethod ({ cls := "BallastTrain$History", name := "<init>", desc := "()V" } : Jvm.MethodName)) ∈ tb := tb_mem 239 (by decide +kernel) rfl
theorem tw_240 : (Jvm.Cond.code ({ cls := "BallastTrain$History", name := "<init>", desc := "()V" } : Jvm.MethodName) prog_2_method_1_code (2 : Nat) (Option.none : Option Jvm.ClassFile.FieldType)) ∈ tb := tb_mem 240 (by decide +kernel) rfl
theorem tw_241 : (Jvm.Cond.methodLink "BallastTrain$History" (3 : Nat) ({ cls := "java/lang/Object", name := "<init>", desc := "()V" } : Jvm.MethodName)) ∈ tb := tb_mem 241 (by decide +kernel) rfl
theorem tw_242 : (Jvm.Cond.classLink "BallastTrain$History" (9 : Nat) "BallastTrain$State") ∈ tb := tb_mem 242 (by decide +kernel) rfl
theorem tw_245 : (Jvm.Cond.fieldLink "BallastTrain$History" (11 : Nat) "BallastTrain$History" "states" "[LBallastTrain$State;") ∈ tb := tb_mem 245 (by decide +kernel) rfl
theorem tw_246 : (Jvm.Cond.fieldLink "BallastTrain$History" (17 : Nat) "BallastTrain$History" "next" "I") ∈ tb := tb_mem 246 (by decide +kernel) rfl
theorem tw_247 : (Jvm.Cond.fieldLink "BallastTrain$History" (21 : Nat) "BallastTrain$History" "size" "I") ∈ tb := tb_mem 247 (by decide +kernel) rfl
theorem tw_248 : (Jvm.Cond.fieldLink "BallastTrain" (159 : Nat) "BallastTrain$History" "size" "I") ∈ tb := tb_mem 248 (by decide +kernel) rfl
theorem tw_256 : (Jvm.Cond.fieldLink "BallastTrain" (10 : Nat) "BallastTrain" "text" "LBallastTrain$Text;") ∈ tb := tb_mem 256 (by decide +kernel) rfl
theorem tw_257 : (Jvm.Cond.fieldLink "BallastTrain" (19 : Nat) "BallastTrain" "now" "LBallastTrain$State;") ∈ tb := tb_mem 257 (by decide +kernel) rfl
theorem tw_258 : (Jvm.Cond.fieldLink "BallastTrain" (23 : Nat) "BallastTrain" "ahead" "LBallastTrain$State;") ∈ tb := tb_mem 258 (by decide +kernel) rfl
theorem tw_259 : (Jvm.Cond.fieldLink "BallastTrain" (29 : Nat) "BallastTrain" "history" "LBallastTrain$History;") ∈ tb := tb_mem 259 (by decide +kernel) rfl
theorem tw_269 : (Jvm.Cond.methodLink "BallastTrainLaw" (13 : Nat) ({ cls := "BallastTrain", name := "type", desc := "(I)I" } : Jvm.MethodName)) ∈ tb := tb_mem 269 (by decide +kernel) rfl
theorem tw_270 : (Jvm.Cond.instanceMethod ({ cls := "BallastTrain", name := "type", desc := "(I)I" } : Jvm.MethodName)) ∈ tb := tb_mem 270 (by decide +kernel) rfl
theorem tw_271 : (Jvm.Cond.selects "BallastTrain" ({ cls := "BallastTrain", name := "type", desc := "(I)I" } : Jvm.MethodName) ({ cls := "BallastTrain", name := "type", desc := "(I)I" } : Jvm.MethodName)) ∈ tb := tb_mem 271 (by decide +kernel) rfl
theorem tw_272 : (Jvm.Cond.code ({ cls := "BallastTrain", name := "type", desc := "(I)I" } : Jvm.MethodName) prog_1_method_2_code (2 : Nat) (Option.some Jvm.ClassFile.FieldType.int)) ∈ tb := tb_mem 272 (by decide +kernel) rfl
theorem tw_273 : (Jvm.Cond.methodLink "BallastTrain" (33 : Nat) ({ cls := "BallastTrain", name := "isWithin", desc := "(III)Z" } : Jvm.MethodName)) ∈ tb := tb_mem 273 (by decide +kernel) rfl
theorem tw_274 : (Jvm.Cond.static ({ cls := "BallastTrain", name := "isWithin", desc := "(III)Z" } : Jvm.MethodName)) ∈ tb := tb_mem 274 (by decide +kernel) rfl
theorem tw_275 : (Jvm.Cond.code ({ cls := "BallastTrain", name := "isWithin", desc := "(III)Z" } : Jvm.MethodName) prog_1_method_31_code (3 : Nat) (Option.some Jvm.ClassFile.FieldType.boolean)) ∈ tb := tb_mem 275 (by decide +kernel) rfl
theorem tw_276 : (Jvm.Cond.methodLink "BallastTrain" (37 : Nat) ({ cls := "BallastTrain$Text", name := "append", desc := "(I)Z" } : Jvm.MethodName)) ∈ tb := tb_mem 276 (by decide +kernel) rfl
theorem tw_277 : (Jvm.Cond.instanceMethod ({ cls := "BallastTrain$Text", name := "append", desc := "(I)Z" } : Jvm.MethodName)) ∈ tb := tb_mem 277 (by decide +kernel) rfl
theorem tw_278 : (Jvm.Cond.selects "BallastTrain$Text" ({ cls := "BallastTrain$Text", name := "append", desc := "(I)Z" } : Jvm.MethodName) ({ cls := "BallastTrain$Text", name := "append", desc := "(I)Z" } : Jvm.MethodName)) ∈ tb := tb_mem 278 (by decide +kernel) rfl
theorem tw_279 : (Jvm.Cond.code ({ cls := "BallastTrain$Text", name := "append", desc := "(I)Z" } : Jvm.MethodName) prog_5_method_2_code (2 : Nat) (Option.some Jvm.ClassFile.FieldType.boolean)) ∈ tb := tb_mem 279 (by decide +kernel) rfl
theorem tw_280 : (Jvm.Cond.methodLink "BallastTrainLaw" (18 : Nat) ({ cls := "BallastTrain", name := "clearText", desc := "()I" } : Jvm.MethodName)) ∈ tb := tb_mem 280 (by decide +kernel) rfl
theorem tw_281 : (Jvm.Cond.instanceMethod ({ cls := "BallastTrain", name := "clearText", desc := "()I" } : Jvm.MethodName)) ∈ tb := tb_mem 281 (by decide +kernel) rfl
theorem tw_282 : (Jvm.Cond.selects "BallastTrain" ({ cls := "BallastTrain", name := "clearText", desc := "()I" } : Jvm.MethodName) ({ cls := "BallastTrain", name := "clearText", desc := "()I" } : Jvm.MethodName)) ∈ tb := tb_mem 282 (by decide +kernel) rfl
theorem tw_283 : (Jvm.Cond.code ({ cls := "BallastTrain", name := "clearText", desc := "()I" } : Jvm.MethodName) prog_1_method_3_code (2 : Nat) (Option.some Jvm.ClassFile.FieldType.int)) ∈ tb := tb_mem 283 (by decide +kernel) rfl
theorem tw_284 : (Jvm.Cond.methodLink "BallastTrainLaw" (23 : Nat) ({ cls := "BallastTrain", name := "fault", desc := "()I" } : Jvm.MethodName)) ∈ tb := tb_mem 284 (by decide +kernel) rfl
theorem tw_285 : (Jvm.Cond.instanceMethod ({ cls := "BallastTrain", name := "fault", desc := "()I" } : Jvm.MethodName)) ∈ tb := tb_mem 285 (by decide +kernel) rfl
theorem tw_286 : (Jvm.Cond.selects "BallastTrain" ({ cls := "BallastTrain", name := "fault", desc := "()I" } : Jvm.MethodName) ({ cls := "BallastTrain", name := "fault", desc := "()I" } : Jvm.MethodName)) ∈ tb := tb_mem 286 (by decide +kernel) rfl
theorem tw_287 : (Jvm.Cond.code ({ cls := "BallastTrain", name := "fault", desc := "()I" } : Jvm.MethodName) prog_1_method_4_code (1 : Nat) (Option.some Jvm.ClassFile.FieldType.int)) ∈ tb := tb_mem 287 (by decide +kernel) rfl
theorem tw_288 : (Jvm.Cond.methodLink "BallastTrain" (45 : Nat) ({ cls := "BallastTrain$Text", name := "read", desc := "()V" } : Jvm.MethodName)) ∈ tb := tb_mem 288 (by decide +kernel) rfl
theorem tw_289 : (Jvm.Cond.instanceMethod ({ cls := "BallastTrain$Text", name := "read", desc := "()V" } : Jvm.MethodName)) ∈ tb := tb_mem 289 (by decide +kernel) rfl
theorem tw_290 : (Jvm.Cond.selects "BallastTrain$Text" ({ cls := "BallastTrain$Text", name := "read", desc := "()V" } : Jvm.MethodName) ({ cls := "BallastTrain$Text", name := "read", desc := "()V" } : Jvm.MethodName)) ∈ tb := tb_mem 290 (by decide +kernel) rfl
theorem tw_291 : (Jvm.Cond.code ({ cls := "BallastTrain$Text", name := "read", desc := "()V" } : Jvm.MethodName) prog_5_method_4_code (2 : Nat) (Option.none : Option Jvm.ClassFile.FieldType)) ∈ tb := tb_mem 291 (by decide +kernel) rfl
theorem tw_292 : (Jvm.Cond.methodLink "BallastTrain$Text" (32 : Nat) ({ cls := "java/util/ArrayList", name := "clear", desc := "()V" } : Jvm.MethodName)) ∈ tb := tb_mem 292 (by decide +kernel) rfl
theorem tw_293 : (Jvm.Cond.instanceMethod ({ cls := "java/util/ArrayList", name := "clear", desc := "()V" } : Jvm.MethodName)) ∈ tb := tb_mem 293 (by decide +kernel) rfl
theorem tw_294 : (Jvm.Cond.selects "java/util/ArrayList" ({ cls := "java/util/ArrayList", name := "clear", desc := "()V" } : Jvm.MethodName) ({ cls := "java/util/ArrayList", name := "clear", desc := "()V" } : Jvm.MethodName)) ∈ tb := tb_mem 294 (by decide +kernel) rfl
theorem tw_295 : (Jvm.Cond.code ({ cls := "java/util/ArrayList", name := "clear", desc := "()V" } : Jvm.MethodName) prog_25_method_40_code (4 : Nat) (Option.none : Option Jvm.ClassFile.FieldType)) ∈ tb := tb_mem 295 (by decide +kernel) rfl
theorem tw_296 : (Jvm.Cond.methodLink "BallastTrain$Text" (35 : Nat) ({ cls := "BallastTrain$Text", name := "skipBlanks", desc := "()V" } : Jvm.MethodName)) ∈ tb := tb_mem 296 (by decide +kernel) rfl
theorem tw_298 : (Jvm.Cond.instanceMethod ({ cls := "BallastTrain$Text", name := "skipBlanks", desc := "()V" } : Jvm.MethodName)) ∈ tb := tb_mem 298 (by decide +kernel) rfl
theorem tw_299 : (Jvm.Cond.code ({ cls := "BallastTrain$Text", name := "skipBlanks", desc := "()V" } : Jvm.MethodName) prog_5_method_10_code (2 : Nat) (Option.none : Option Jvm.ClassFile.FieldType)) ∈ tb := tb_mem 299 (by decide +kernel) rfl
theorem tw_300 : (Jvm.Cond.methodLink "BallastTrain$Text" (70 : Nat) ({ cls := "BallastTrain$Text", name := "byteAt", desc := "(I)I" } : Jvm.MethodName)) ∈ tb := tb_mem 300 (by decide +kernel) rfl
theorem tw_301 : (Jvm.Cond.instanceMethod ({ cls := "BallastTrain$Text", name := "byteAt", desc := "(I)I" } : Jvm.MethodName)) ∈ tb := tb_mem 301 (by decide +kernel) rfl
theorem tw_302 : (Jvm.Cond.selects "BallastTrain$Text" ({ cls := "BallastTrain$Text", name := "byteAt", desc := "(I)I" } : Jvm.MethodName) ({ cls := "BallastTrain$Text", name := "byteAt", desc := "(I)I" } : Jvm.MethodName)) ∈ tb := tb_mem 302 (by decide +kernel) rfl
theorem tw_303 : (Jvm.Cond.code ({ cls := "BallastTrain$Text", name := "byteAt", desc := "(I)I" } : Jvm.MethodName) prog_5_method_3_code (2 : Nat) (Option.some Jvm.ClassFile.FieldType.int)) ∈ tb := tb_mem 303 (by decide +kernel) rfl
theorem tw_304 : (Jvm.Cond.methodLink "BallastTrain$Text" (38 : Nat) ({ cls := "BallastTrain$Text", name := "readOrder", desc := "()V" } : Jvm.MethodName)) ∈ tb := tb_mem 304 (by decide +kernel) rfl
theorem tw_306 : (Jvm.Cond.instanceMethod ({ cls := "BallastTrain$Text", name := "readOrder", desc := "()V" } : Jvm.MethodName)) ∈ tb := tb_mem 306 (by decide +kernel) rfl
theorem tw_307 : (Jvm.Cond.code ({ cls := "BallastTrain$Text", name := "readOrder", desc := "()V" } : Jvm.MethodName) prog_5_method_5_code (6 : Nat) (Option.none : Option Jvm.ClassFile.FieldType)) ∈ tb := tb_mem 307 (by decide +kernel) rfl
theorem tw_309 : (Jvm.Cond.methodLink "BallastTrain$Text" (43 : Nat) ({ cls := "BallastTrain$Text", name := "takeOneOf", desc := "(Ljava/lang/String;)I" } : Jvm.MethodName)) ∈ tb := tb_mem 309 (by decide +kernel) rfl
theorem tw_311 : (Jvm.Cond.instanceMethod ({ cls := "BallastTrain$Text", name := "takeOneOf", desc := "(Ljava/lang/String;)I" } : Jvm.MethodName)) ∈ tb := tb_mem 311 (by decide +kernel) rfl
theorem tw_312 : (Jvm.Cond.code ({ cls := "BallastTrain$Text", name := "takeOneOf", desc := "(Ljava/lang/String;)I" } : Jvm.MethodName) prog_5_method_6_code (4 : Nat) (Option.some Jvm.ClassFile.FieldType.int)) ∈ tb := tb_mem 312 (by decide +kernel) rfl
theorem tw_313 : (Jvm.Cond.methodLink "BallastTrain$Text" (74 : Nat) ({ cls := "java/lang/String", name := "indexOf", desc := "(I)I" } : Jvm.MethodName)) ∈ tb := tb_mem 313 (by decide +kernel) rfl
theorem tw_314 : (Jvm.Cond.instanceMethod ({ cls := "java/lang/String", name := "indexOf", desc := "(I)I" } : Jvm.MethodName)) ∈ tb := tb_mem 314 (by decide +kernel) rfl
theorem tw_315 : (Jvm.Cond.selects "java/lang/String" ({ cls := "java/lang/String", name := "indexOf", desc := "(I)I" } : Jvm.MethodName) ({ cls := "java/lang/String", name := "indexOf", desc := "(I)I" } : Jvm.MethodName)) ∈ tb := tb_mem 315 (by decide +kernel) rfl
theorem tw_316 : (Jvm.Cond.code ({ cls := "java/lang/String", name := "indexOf", desc := "(I)I" } : Jvm.MethodName) prog_17_method_79_code (2 : Nat) (Option.some Jvm.ClassFile.FieldType.int)) ∈ tb := tb_mem 316 (by decide +kernel) rfl
theorem tw_317 : (Jvm.Cond.methodLink "java/lang/String" (633 : Nat) ({ cls := "java/lang/String", name := "indexOf", desc := "(II)I" } : Jvm.MethodName)) ∈ tb := tb_mem 317 (by decide +kernel) rfl
theorem tw_318 : (Jvm.Cond.instanceMethod ({ cls := "java/lang/String", name := "indexOf", desc := "(II)I" } : Jvm.MethodName)) ∈ tb := tb_mem 318 (by decide +kernel) rfl
theorem tw_319 : (Jvm.Cond.selects "java/lang/String" ({ cls := "java/lang/String", name := "indexOf", desc := "(II)I" } : Jvm.MethodName) ({ cls := "java/lang/String", name := "indexOf", desc := "(II)I" } : Jvm.MethodName)) ∈ tb := tb_mem 319 (by decide +kernel) rfl
theorem tw_320 : (Jvm.Cond.code ({ cls := "java/lang/String", name := "indexOf", desc := "(II)I" } : Jvm.MethodName) prog_17_method_80_code (3 : Nat) (Option.some Jvm.ClassFile.FieldType.int)) ∈ tb := tb_mem 320 (by decide +kernel) rfl
theorem tw_321 : (Jvm.Cond.methodLink "java/lang/String" (492 : Nat) ({ cls := "java/lang/String", name := "isLatin1", desc := "()Z" } : Jvm.MethodName)) ∈ tb := tb_mem 321 (by decide +kernel) rfl
theorem tw_322 : (Jvm.Cond.instanceMethod ({ cls := "java/lang/String", name := "isLatin1", desc := "()Z" } : Jvm.MethodName)) ∈ tb := tb_mem 322 (by decide +kernel) rfl
theorem tw_323 : (Jvm.Cond.selects "java/lang/String" ({ cls := "java/lang/String", name := "isLatin1", desc := "()Z" } : Jvm.MethodName) ({ cls := "java/lang/String", name := "isLatin1", desc := "()Z" } : Jvm.MethodName)) ∈ tb := tb_mem 323 (by decide +kernel) rfl
theorem tw_324 : (Jvm.Cond.code ({ cls := "java/lang/String", name := "isLatin1", desc := "()Z" } : Jvm.MethodName) prog_17_method_154_code (1 : Nat) (Option.some Jvm.ClassFile.FieldType.boolean)) ∈ tb := tb_mem 324 (by decide +kernel) rfl
theorem tw_325 : (Jvm.Cond.fieldLink "java/lang/String" (38 : Nat) "java/lang/String" "COMPACT_STRINGS" "Z") ∈ tb := tb_mem 325 (by decide +kernel) rfl
theorem tw_327 : (Jvm.Cond.methodLink "java/lang/String" (505 : Nat) ({ cls := "java/lang/String", name := "length", desc := "()I" } : Jvm.MethodName)) ∈ tb := tb_mem 327 (by decide +kernel) rfl
theorem tw_328 : (Jvm.Cond.instanceMethod ({ cls := "java/lang/String", name := "length", desc := "()I" } : Jvm.MethodName)) ∈ tb := tb_mem 328 (by decide +kernel) rfl
theorem tw_329 : (Jvm.Cond.selects "java/lang/String" ({ cls := "java/lang/String", name := "length", desc := "()I" } : Jvm.MethodName) ({ cls := "java/lang/String", name := "length", desc := "()I" } : Jvm.MethodName)) ∈ tb := tb_mem 329 (by decide +kernel) rfl
theorem tw_330 : (Jvm.Cond.code ({ cls := "java/lang/String", name := "length", desc := "()I" } : Jvm.MethodName) prog_17_method_54_code (1 : Nat) (Option.some Jvm.ClassFile.FieldType.int)) ∈ tb := tb_mem 330 (by decide +kernel) rfl
theorem tw_331 : (Jvm.Cond.methodLink "java/lang/String" (335 : Nat) ({ cls := "java/lang/String", name := "coder", desc := "()B" } : Jvm.MethodName)) ∈ tb := tb_mem 331 (by decide +kernel) rfl
theorem tw_332 : (Jvm.Cond.instanceMethod ({ cls := "java/lang/String", name := "coder", desc := "()B" } : Jvm.MethodName)) ∈ tb := tb_mem 332 (by decide +kernel) rfl
theorem tw_333 : (Jvm.Cond.selects "java/lang/String" ({ cls := "java/lang/String", name := "coder", desc := "()B" } : Jvm.MethodName) ({ cls := "java/lang/String", name := "coder", desc := "()B" } : Jvm.MethodName)) ∈ tb := tb_mem 333 (by decide +kernel) rfl
theorem tw_334 : (Jvm.Cond.code ({ cls := "java/lang/String", name := "coder", desc := "()B" } : Jvm.MethodName) prog_17_method_152_code (1 : Nat) (Option.some Jvm.ClassFile.FieldType.byte)) ∈ tb := tb_mem 334 (by decide +kernel) rfl
theorem tw_335 : (Jvm.Cond.methodLink "java/lang/String" (637 : Nat) ({ cls := "java/lang/StringLatin1", name := "indexOf", desc := "([BIII)I" } : Jvm.MethodName)) ∈ tb := tb_mem 335 (by decide +kernel) rfl
theorem tw_336 : (Jvm.Cond.static ({ cls := "java/lang/StringLatin1", name := "indexOf", desc := "([BIII)I" } : Jvm.MethodName)) ∈ tb := tb_mem 336 (by decide +kernel) rfl
theorem tw_337 : (Jvm.Cond.code ({ cls := "java/lang/StringLatin1", name := "indexOf", desc := "([BIII)I" } : Jvm.MethodName) prog_18_method_22_code (4 : Nat) (Option.some Jvm.ClassFile.FieldType.int)) ∈ tb := tb_mem 337 (by decide +kernel) rfl
theorem tw_338 : (Jvm.Cond.methodLink "java/lang/StringLatin1" (88 : Nat) ({ cls := "java/lang/StringLatin1", name := "canEncode", desc := "(I)Z" } : Jvm.MethodName)) ∈ tb := tb_mem 338 (by decide +kernel) rfl
theorem tw_339 : (Jvm.Cond.static ({ cls := "java/lang/StringLatin1", name := "canEncode", desc := "(I)Z" } : Jvm.MethodName)) ∈ tb := tb_mem 339 (by decide +kernel) rfl
theorem tw_340 : (Jvm.Cond.code ({ cls := "java/lang/StringLatin1", name := "canEncode", desc := "(I)Z" } : Jvm.MethodName) prog_18_method_4_code (1 : Nat) (Option.some Jvm.ClassFile.FieldType.boolean)) ∈ tb := tb_mem 340 (by decide +kernel) rfl
theorem tw_341 : (Jvm.Cond.methodLink "java/lang/StringLatin1" (92 : Nat) ({ cls := "java/lang/Math", name := "max", desc := "(II)I" } : Jvm.MethodName)) ∈ tb := tb_mem 341 (by decide +kernel) rfl
theorem tw_342 : (Jvm.Cond.static ({ cls := "java/lang/Math", name := "max", desc := "(II)I" } : Jvm.MethodName)) ∈ tb := tb_mem 342 (by decide +kernel) rfl
theorem tw_344 : (Jvm.Cond.methodLink "java/lang/StringLatin1" (38 : Nat) ({ cls := "java/lang/Math", name := "min", desc := "(II)I" } : Jvm.MethodName)) ∈ tb := tb_mem 344 (by decide +kernel) rfl
theorem tw_345 : (Jvm.Cond.static ({ cls := "java/lang/Math", name := "min", desc := "(II)I" } : Jvm.MethodName)) ∈ tb := tb_mem 345 (by decide +kernel) rfl
theorem tw_347 : (Jvm.Cond.methodLink "java/lang/StringLatin1" (95 : Nat) ({ cls := "java/lang/StringLatin1", name := "indexOfChar", desc := "([BIII)I" } : Jvm.MethodName)) ∈ tb := tb_mem 347 (by decide +kernel) rfl
theorem tw_348 : (Jvm.Cond.static ({ cls := "java/lang/StringLatin1", name := "indexOfChar", desc := "([BIII)I" } : Jvm.MethodName)) ∈ tb := tb_mem 348 (by decide +kernel) rfl
theorem tw_349 : (Jvm.Cond.code ({ cls := "java/lang/StringLatin1", name := "indexOfChar", desc := "([BIII)I" } : Jvm.MethodName) prog_18_method_23_code (6 : Nat) (Option.some Jvm.ClassFile.FieldType.int)) ∈ tb := tb_mem 349 (by decide +kernel) rfl
theorem tw_350 : (Jvm.Cond.methodLink "java/lang/String" (640 : Nat) ({ cls := "java/lang/StringUTF16", name := "indexOf", desc := "([BIII)I" } : Jvm.MethodName)) ∈ tb := tb_mem 350 (by decide +kernel) rfl
theorem tw_351 : (Jvm.Cond.static ({ cls := "java/lang/StringUTF16", name := "indexOf", desc := "([BIII)I" } : Jvm.MethodName)) ∈ tb := tb_mem 351 (by decide +kernel) rfl
theorem tw_352 : (Jvm.Cond.code ({ cls := "java/lang/StringUTF16", name := "indexOf", desc := "([BIII)I" } : Jvm.MethodName) prog_19_method_40_code (4 : Nat) (Option.some Jvm.ClassFile.FieldType.int)) ∈ tb := tb_mem 352 (by decide +kernel) rfl
theorem tw_353 : (Jvm.Cond.methodLink "java/lang/StringUTF16" (224 : Nat) ({ cls := "java/lang/Math", name := "max", desc := "(II)I" } : Jvm.MethodName)) ∈ tb := tb_mem 353 (by decide +kernel) rfl
theorem tw_354 : (Jvm.Cond.methodLink "java/lang/StringUTF16" (183 : Nat) ({ cls := "java/lang/Math", name := "min", desc := "(II)I" } : Jvm.MethodName)) ∈ tb := tb_mem 354 (by decide +kernel) rfl
theorem tw_355 : (Jvm.Cond.constant "java/lang/StringUTF16" (227 : Nat) (65536 : Int32)) ∈ tb := tb_mem 355 (by decide +kernel) rfl
theorem tw_356 : (Jvm.Cond.methodLink "java/lang/StringUTF16" (228 : Nat) ({ cls := "java/lang/StringUTF16", name := "indexOfChar", desc := "([BIII)I" } : Jvm.MethodName)) ∈ tb := tb_mem 356 (by decide +kernel) rfl
theorem tw_357 : (Jvm.Cond.static ({ cls := "java/lang/StringUTF16", name := "indexOfChar", desc := "([BIII)I" } : Jvm.MethodName)) ∈ tb := tb_mem 357 (by decide +kernel) rfl
theorem tw_358 : (Jvm.Cond.code ({ cls := "java/lang/StringUTF16", name := "indexOfChar", desc := "([BIII)I" } : Jvm.MethodName) prog_19_method_47_code (4 : Nat) (Option.some Jvm.ClassFile.FieldType.int)) ∈ tb := tb_mem 358 (by decide +kernel) rfl
theorem tw_359 : (Jvm.Cond.methodLink "java/lang/StringUTF16" (96 : Nat) ({ cls := "java/lang/StringUTF16", name := "checkBoundsBeginEnd", desc := "(II[B)V" } : Jvm.MethodName)) ∈ tb := tb_mem 359 (by decide +kernel) rfl
theorem tw_360 : (Jvm.Cond.static ({ cls := "java/lang/StringUTF16", name := "checkBoundsBeginEnd", desc := "(II[B)V" } : Jvm.MethodName)) ∈ tb := tb_mem 360 (by decide +kernel) rfl
theorem tw_361 : (Jvm.Cond.code ({ cls := "java/lang/StringUTF16", name := "checkBoundsBeginEnd", desc := "(II[B)V" } : Jvm.MethodName) prog_19_method_93_code (3 : Nat) (Option.none : Option Jvm.ClassFile.FieldType)) ∈ tb := tb_mem 361 (by decide +kernel) rfl
theorem tw_362 : (Jvm.Cond.methodLink "java/lang/StringUTF16" (48 : Nat) ({ cls := "java/lang/StringUTF16", name := "length", desc := "([B)I" } : Jvm.MethodName)) ∈ tb := tb_mem 362 (by decide +kernel) rfl
theorem tw_363 : (Jvm.Cond.static ({ cls := "java/lang/StringUTF16", name := "length", desc := "([B)I" } : Jvm.MethodName)) ∈ tb := tb_mem 363 (by decide +kernel) rfl
theorem tw_364 : (Jvm.Cond.code ({ cls := "java/lang/StringUTF16", name := "length", desc := "([B)I" } : Jvm.MethodName) prog_19_method_6_code (1 : Nat) (Option.some Jvm.ClassFile.FieldType.int)) ∈ tb := tb_mem 364 (by decide +kernel) rfl
theorem tw_365 : (Jvm.Cond.methodLink "java/lang/StringUTF16" (241 : Nat) ({ cls := "java/lang/String", name := "checkBoundsBeginEnd", desc := "(III)V" } : Jvm.MethodName)) ∈ tb := tb_mem 365 (by decide +kernel) rfl
theorem tw_366 : (Jvm.Cond.static ({ cls := "java/lang/String", name := "checkBoundsBeginEnd", desc := "(III)V" } : Jvm.MethodName)) ∈ tb := tb_mem 366 (by decide +kernel) rfl
theorem tw_367 : (Jvm.Cond.code ({ cls := "java/lang/String", name := "checkBoundsBeginEnd", desc := "(III)V" } : Jvm.MethodName) prog_17_method_158_code (3 : Nat) (Option.none : Option Jvm.ClassFile.FieldType)) ∈ tb := tb_mem 367 (by decide +kernel) rfl
theorem tw_368 : (Jvm.Cond.fieldLink "java/lang/String" (1053 : Nat) "jdk/internal/util/Preconditions" "SIOOBE_FORMATTER" "Ljava/util/function/BiFunction;") ∈ tb := tb_mem 368 (by decide +kernel) rfl
theorem tw_370 : (Jvm.Cond.methodLink "java/lang/String" (1062 : Nat) ({ cls := "jdk/internal/util/Preconditions", name := "checkFromToIndex", desc := "(IIILjava/util/function/BiFunction;)I" } : Jvm.MethodName)) ∈ tb := tb_mem 370 (by decide +kernel) rfl
theorem tw_371 : (Jvm.Cond.static ({ cls := "jdk/internal/util/Preconditions", name := "checkFromToIndex", desc := "(IIILjava/util/function/BiFunction;)I" } : Jvm.MethodName)) ∈ tb := tb_mem 371 (by decide +kernel) rfl
theorem tw_372 : (Jvm.Cond.code ({ cls := "jdk/internal/util/Preconditions", name := "checkFromToIndex", desc := "(IIILjava/util/function/BiFunction;)I" } : Jvm.MethodName) prog_33_method_12_code (4 : Nat) (Option.some Jvm.ClassFile.FieldType.int)) ∈ tb := tb_mem 372 (by decide +kernel) rfl
theorem tw_373 : (Jvm.Cond.methodLink "java/lang/StringUTF16" (244 : Nat) ({ cls := "java/lang/StringUTF16", name := "indexOfCharUnsafe", desc := "([BIII)I" } : Jvm.MethodName)) ∈ tb := tb_mem 373 (by decide +kernel) rfl
theorem tw_374 : (Jvm.Cond.static ({ cls := "java/lang/StringUTF16", name := "indexOfCharUnsafe", desc := "([BIII)I" } : Jvm.MethodName)) ∈ tb := tb_mem 374 (by decide +kernel) rfl
theorem tw_375 : (Jvm.Cond.code ({ cls := "java/lang/StringUTF16", name := "indexOfCharUnsafe", desc := "([BIII)I" } : Jvm.MethodName) prog_19_method_48_code (5 : Nat) (Option.some Jvm.ClassFile.FieldType.int)) ∈ tb := tb_mem 375 (by decide +kernel) rfl
theorem tw_376 : (Jvm.Cond.methodLink "java/lang/StringUTF16" (71 : Nat) ({ cls := "java/lang/StringUTF16", name := "getChar", desc := "([BI)C" } : Jvm.MethodName)) ∈ tb := tb_mem 376 (by decide +kernel) rfl
theorem tw_377 : (Jvm.Cond.static ({ cls := "java/lang/StringUTF16", name := "getChar", desc := "([BI)C" } : Jvm.MethodName)) ∈ tb := tb_mem 377 (by decide +kernel) rfl
theorem tw_378 : (Jvm.Cond.code ({ cls := "java/lang/StringUTF16", name := "getChar", desc := "([BI)C" } : Jvm.MethodName) prog_19_method_5_code (2 : Nat) (Option.some Jvm.ClassFile.FieldType.char)) ∈ tb := tb_mem 378 (by decide +kernel) rfl
theorem tw_379 : (Jvm.Cond.fieldLink "java/lang/StringUTF16" (44 : Nat) "java/lang/StringUTF16" "$assertionsDisabled" "Z") ∈ tb := tb_mem 379 (by decide +kernel) rfl
theorem tw_381 : (Jvm.Cond.fieldLink "java/lang/StringUTF16" (59 : Nat) "java/lang/StringUTF16" "HI_BYTE_SHIFT" "I") ∈ tb := tb_mem 381 (by decide +kernel) rfl
theorem tw_383 : (Jvm.Cond.fieldLink "java/lang/StringUTF16" (63 : Nat) "java/lang/StringUTF16" "LO_BYTE_SHIFT" "I") ∈ tb := tb_mem 383 (by decide +kernel) rfl
theorem tw_385 : (Jvm.Cond.methodLink "java/lang/StringUTF16" (232 : Nat) ({ cls := "java/lang/StringUTF16", name := "indexOfSupplementary", desc := "([BIII)I" } : Jvm.MethodName)) ∈ tb := tb_mem 385 (by decide +kernel) rfl
theorem tw_386 : (Jvm.Cond.static ({ cls := "java/lang/StringUTF16", name := "indexOfSupplementary", desc := "([BIII)I" } : Jvm.MethodName)) ∈ tb := tb_mem 386 (by decide +kernel) rfl
theorem tw_387 : (Jvm.Cond.code ({ cls := "java/lang/StringUTF16", name := "indexOfSupplementary", desc := "([BIII)I" } : Jvm.MethodName) prog_19_method_49_code (7 : Nat) (Option.some Jvm.ClassFile.FieldType.int)) ∈ tb := tb_mem 387 (by decide +kernel) rfl
theorem tw_388 : (Jvm.Cond.methodLink "java/lang/StringUTF16" (164 : Nat) ({ cls := "java/lang/Character", name := "isValidCodePoint", desc := "(I)Z" } : Jvm.MethodName)) ∈ tb := tb_mem 388 (by decide +kernel) rfl
theorem tw_389 : (Jvm.Cond.static ({ cls := "java/lang/Character", name := "isValidCodePoint", desc := "(I)Z" } : Jvm.MethodName)) ∈ tb := tb_mem 389 (by decide +kernel) rfl
theorem tw_390 : (Jvm.Cond.code ({ cls := "java/lang/Character", name := "isValidCodePoint", desc := "(I)Z" } : Jvm.MethodName) prog_12_method_11_code (2 : Nat) (Option.some Jvm.ClassFile.FieldType.boolean)) ∈ tb := tb_mem 390 (by decide +kernel) rfl
theorem tw_391 : (Jvm.Cond.methodLink "java/lang/StringUTF16" (157 : Nat) ({ cls := "java/lang/Character", name := "highSurrogate", desc := "(I)C" } : Jvm.MethodName)) ∈ tb := tb_mem 391 (by decide +kernel) rfl
theorem tw_392 : (Jvm.Cond.static ({ cls := "java/lang/Character", name := "highSurrogate", desc := "(I)C" } : Jvm.MethodName)) ∈ tb := tb_mem 392 (by decide +kernel) rfl
theorem tw_393 : (Jvm.Cond.code ({ cls := "java/lang/Character", name := "highSurrogate", desc := "(I)C" } : Jvm.MethodName) prog_12_method_28_code (1 : Nat) (Option.some Jvm.ClassFile.FieldType.char)) ∈ tb := tb_mem 393 (by decide +kernel) rfl
theorem tw_394 : (Jvm.Cond.constant "java/lang/Character" (110 : Nat) (55232 : Int32)) ∈ tb := tb_mem 394 (by decide +kernel) rfl
theorem tw_395 : (Jvm.Cond.methodLink "java/lang/StringUTF16" (161 : Nat) ({ cls := "java/lang/Character", name := "lowSurrogate", desc := "(I)C" } : Jvm.MethodName)) ∈ tb := tb_mem 395 (by decide +kernel) rfl
theorem tw_396 : (Jvm.Cond.static ({ cls := "java/lang/Character", name := "lowSurrogate", desc := "(I)C" } : Jvm.MethodName)) ∈ tb := tb_mem 396 (by decide +kernel) rfl
theorem tw_397 : (Jvm.Cond.code ({ cls := "java/lang/Character", name := "lowSurrogate", desc := "(I)C" } : Jvm.MethodName) prog_12_method_29_code (1 : Nat) (Option.some Jvm.ClassFile.FieldType.char)) ∈ tb := tb_mem 397 (by decide +kernel) rfl
theorem tw_398 : (Jvm.Cond.constant "java/lang/Character" (76 : Nat) (56320 : Int32)) ∈ tb := tb_mem 398 (by decide +kernel) rfl
theorem tw_399 : (Jvm.Cond.methodLink "BallastTrain$Text" (79 : Nat) ({ cls := "java/lang/String", name := "length", desc := "()I" } : Jvm.MethodName)) ∈ tb := tb_mem 399 (by decide +kernel) rfl
theorem tw_400 : (Jvm.Cond.methodLink "BallastTrain$Text" (81 : Nat) ({ cls := "BallastTrain$Text", name := "take", desc := "(III)I" } : Jvm.MethodName)) ∈ tb := tb_mem 400 (by decide +kernel) rfl
theorem tw_402 : (Jvm.Cond.instanceMethod ({ cls := "BallastTrain$Text", name := "take", desc := "(III)I" } : Jvm.MethodName)) ∈ tb := tb_mem 402 (by decide +kernel) rfl
theorem tw_403 : (Jvm.Cond.code ({ cls := "BallastTrain$Text", name := "take", desc := "(III)I" } : Jvm.MethodName) prog_5_method_8_code (4 : Nat) (Option.some Jvm.ClassFile.FieldType.int)) ∈ tb := tb_mem 403 (by decide +kernel) rfl
theorem tw_405 : (Jvm.Cond.methodLink "BallastTrain$Text" (47 : Nat) ({ cls := "BallastTrain$Text", name := "takeCell", desc := "()I" } : Jvm.MethodName)) ∈ tb := tb_mem 405 (by decide +kernel) rfl
theorem tw_407 : (Jvm.Cond.instanceMethod ({ cls := "BallastTrain$Text", name := "takeCell", desc := "()I" } : Jvm.MethodName)) ∈ tb := tb_mem 407 (by decide +kernel) rfl
theorem tw_408 : (Jvm.Cond.code ({ cls := "BallastTrain$Text", name := "takeCell", desc := "()I" } : Jvm.MethodName) prog_5_method_9_code (4 : Nat) (Option.some Jvm.ClassFile.FieldType.int)) ∈ tb := tb_mem 408 (by decide +kernel) rfl
theorem tw_409 : (Jvm.Cond.methodLink "BallastTrain$Text" (89 : Nat) ({ cls := "BallastTrain$Text", name := "isDigit", desc := "(I)Z" } : Jvm.MethodName)) ∈ tb := tb_mem 409 (by decide +kernel) rfl
theorem tw_410 : (Jvm.Cond.static ({ cls := "BallastTrain$Text", name := "isDigit", desc := "(I)Z" } : Jvm.MethodName)) ∈ tb := tb_mem 410 (by decide +kernel) rfl
theorem tw_411 : (Jvm.Cond.code ({ cls := "BallastTrain$Text", name := "isDigit", desc := "(I)Z" } : Jvm.MethodName) prog_5_method_11_code (1 : Nat) (Option.some Jvm.ClassFile.FieldType.boolean)) ∈ tb := tb_mem 411 (by decide +kernel) rfl
theorem tw_413 : (Jvm.Cond.methodLink "BallastTrain$Text" (53 : Nat) ({ cls := "BallastTrain$Text", name := "takeDigit", desc := "(II)I" } : Jvm.MethodName)) ∈ tb := tb_mem 413 (by decide +kernel) rfl
theorem tw_415 : (Jvm.Cond.instanceMethod ({ cls := "BallastTrain$Text", name := "takeDigit", desc := "(II)I" } : Jvm.MethodName)) ∈ tb := tb_mem 415 (by decide +kernel) rfl
theorem tw_416 : (Jvm.Cond.code ({ cls := "BallastTrain$Text", name := "takeDigit", desc := "(II)I" } : Jvm.MethodName) prog_5_method_7_code (3 : Nat) (Option.some Jvm.ClassFile.FieldType.int)) ∈ tb := tb_mem 416 (by decide +kernel) rfl
theorem tw_419 : (Jvm.Cond.classLink "BallastTrain$Text" (61 : Nat) "BallastTrain$Order") ∈ tb := tb_mem 419 (by decide +kernel) rfl
theorem tw_420 : (Jvm.Cond.instantiable "BallastTrain$Order" (5 : Nat)) ∈ tb := tb_mem 420 (by decide +kernel) rfl
theorem tw_421 : (Jvm.Cond.methodLink "BallastTrain$Text" (63 : Nat) ({ cls := "BallastTrain$Order", name := "<init>", desc := "(IIIII)V" } : Jvm.MethodName)) ∈ tb := tb_mem 421 (by decide +kernel) rfl
theorem tw_422 : (Jvm.Cond.instanceMethod ({ cls := "BallastTrain$Order", name := "<init>", desc := "(IIIII)V" } : Jvm.MethodName)) ∈ tb := tb_mem 422 (by decide +kernel) rfl
theorem tw_423 : (Jvm.Cond.code ({ cls := "BallastTrain$Order", name := "<init>", desc := "(IIIII)V" } : Jvm.MethodName) prog_3_method_1_code (6 : Nat) (Option.none : Option Jvm.ClassFile.FieldType)) ∈ tb := tb_mem 423 (by decide +kernel) rfl
theorem tw_424 : (Jvm.Cond.methodLink "BallastTrain$Order" (3 : Nat) ({ cls := "java/lang/Object", name := "<init>", desc := "()V" } : Jvm.MethodName)) ∈ tb := tb_mem 424 (by decide +kernel) rfl
theorem tw_425 : (Jvm.Cond.fieldLink "BallastTrain$Order" (9 : Nat) "BallastTrain$Order" "cell" "I") ∈ tb := tb_mem 425 (by decide +kernel) rfl
theorem tw_426 : (Jvm.Cond.fieldLink "BallastTrain$Order" (15 : Nat) "BallastTrain$Order" "kind" "I") ∈ tb := tb_mem 426 (by decide +kernel) rfl
theorem tw_427 : (Jvm.Cond.fieldLink "BallastTrain$Order" (18 : Nat) "BallastTrain$Order" "wagon" "I") ∈ tb := tb_mem 427 (by decide +kernel) rfl
theorem tw_428 : (Jvm.Cond.fieldLink "BallastTrain$Order" (21 : Nat) "BallastTrain$Order" "door" "I") ∈ tb := tb_mem 428 (by decide +kernel) rfl
theorem tw_429 : (Jvm.Cond.fieldLink "BallastTrain$Order" (24 : Nat) "BallastTrain$Order" "level" "I") ∈ tb := tb_mem 429 (by decide +kernel) rfl
theorem tw_442 : (Jvm.Cond.methodLink "BallastTrain$Text" (66 : Nat) ({ cls := "java/util/ArrayList", name := "add", desc := "(Ljava/lang/Object;)Z" } : Jvm.MethodName)) ∈ tb := tb_mem 442 (by decide +kernel) rfl
theorem tw_443 : (Jvm.Cond.instanceMethod ({ cls := "java/util/ArrayList", name := "add", desc := "(Ljava/lang/Object;)Z" } : Jvm.MethodName)) ∈ tb := tb_mem 443 (by decide +kernel) rfl
theorem tw_444 : (Jvm.Cond.selects "java/util/ArrayList" ({ cls := "java/util/ArrayList", name := "add", desc := "(Ljava/lang/Object;)Z" } : Jvm.MethodName) ({ cls := "java/util/ArrayList", name := "add", desc := "(Ljava/lang/Object;)Z" } : Jvm.MethodName)) ∈ tb := tb_mem 444 (by decide +kernel) rfl
theorem tw_445 : (Jvm.Cond.code ({ cls := "java/util/ArrayList", name := "add", desc := "(Ljava/lang/Object;)Z" } : Jvm.MethodName) prog_25_method_25_code (2 : Nat) (Option.some Jvm.ClassFile.FieldType.boolean)) ∈ tb := tb_mem 445 (by decide +kernel) rfl
theorem tw_446 : (Jvm.Cond.methodLink "java/util/ArrayList" (131 : Nat) ({ cls := "java/util/ArrayList", name := "add", desc := "(Ljava/lang/Object;[Ljava/lang/Object;I)V" } : Jvm.MethodName)) ∈ tb := tb_mem 446 (by decide +kernel) rfl
theorem tw_448 : (Jvm.Cond.instanceMethod ({ cls := "java/util/ArrayList", name := "add", desc := "(Ljava/lang/Object;[Ljava/lang/Object;I)V" } : Jvm.MethodName)) ∈ tb := tb_mem 448 (by decide +kernel) rfl
theorem tw_449 : (Jvm.Cond.code ({ cls := "java/util/ArrayList", name := "add", desc := "(Ljava/lang/Object;[Ljava/lang/Object;I)V" } : Jvm.MethodName) prog_25_method_24_code (4 : Nat) (Option.none : Option Jvm.ClassFile.FieldType)) ∈ tb := tb_mem 449 (by decide +kernel) rfl
theorem tw_450 : (Jvm.Cond.methodLink "java/util/ArrayList" (129 : Nat) ({ cls := "java/util/ArrayList", name := "grow", desc := "()[Ljava/lang/Object;" } : Jvm.MethodName)) ∈ tb := tb_mem 450 (by decide +kernel) rfl
theorem tw_452 : (Jvm.Cond.instanceMethod ({ cls := "java/util/ArrayList", name := "grow", desc := "()[Ljava/lang/Object;" } : Jvm.MethodName)) ∈ tb := tb_mem 452 (by decide +kernel) rfl
theorem tw_453 : (Jvm.Cond.code ({ cls := "java/util/ArrayList", name := "grow", desc := "()[Ljava/lang/Object;" } : Jvm.MethodName) prog_25_method_7_code (1 : Nat) (Option.some (Jvm.ClassFile.FieldType.array (Jvm.ClassFile.FieldType.object "java/lang/Object")))) ∈ tb := tb_mem 453 (by decide +kernel) rfl
theorem tw_454 : (Jvm.Cond.methodLink "java/util/ArrayList" (69 : Nat) ({ cls := "java/util/ArrayList", name := "grow", desc := "(I)[Ljava/lang/Object;" } : Jvm.MethodName)) ∈ tb := tb_mem 454 (by decide +kernel) rfl
theorem tw_456 : (Jvm.Cond.instanceMethod ({ cls := "java/util/ArrayList", name := "grow", desc := "(I)[Ljava/lang/Object;" } : Jvm.MethodName)) ∈ tb := tb_mem 456 (by decide +kernel) rfl
theorem tw_457 : (Jvm.Cond.code ({ cls := "java/util/ArrayList", name := "grow", desc := "(I)[Ljava/lang/Object;" } : Jvm.MethodName) prog_25_method_6_code (4 : Nat) (Option.some (Jvm.ClassFile.FieldType.array (Jvm.ClassFile.FieldType.object "java/lang/Object")))) ∈ tb := tb_mem 457 (by decide +kernel) rfl
theorem tw_458 : (Jvm.Cond.methodLink "java/util/ArrayList" (73 : Nat) ({ cls := "jdk/internal/util/ArraysSupport", name := "newLength", desc := "(III)I" } : Jvm.MethodName)) ∈ tb := tb_mem 458 (by decide +kernel) rfl
theorem tw_459 : (Jvm.Cond.static ({ cls := "jdk/internal/util/ArraysSupport", name := "newLength", desc := "(III)I" } : Jvm.MethodName)) ∈ tb := tb_mem 459 (by decide +kernel) rfl
theorem tw_460 : (Jvm.Cond.code ({ cls := "jdk/internal/util/ArraysSupport", name := "newLength", desc := "(III)I" } : Jvm.MethodName) prog_32_method_27_code (4 : Nat) (Option.some Jvm.ClassFile.FieldType.int)) ∈ tb := tb_mem 460 (by decide +kernel) rfl
theorem tw_461 : (Jvm.Cond.methodLink "jdk/internal/util/ArraysSupport" (194 : Nat) ({ cls := "java/lang/Math", name := "max", desc := "(II)I" } : Jvm.MethodName)) ∈ tb := tb_mem 461 (by decide +kernel) rfl
theorem tw_462 : (Jvm.Cond.constant "jdk/internal/util/ArraysSupport" (200 : Nat) (2147483639 : Int32)) ∈ tb := tb_mem 462 (by decide +kernel) rfl
theorem tw_463 : (Jvm.Cond.methodLink "jdk/internal/util/ArraysSupport" (201 : Nat) ({ cls := "jdk/internal/util/ArraysSupport", name := "hugeLength", desc := "(II)I" } : Jvm.MethodName)) ∈ tb := tb_mem 463 (by decide +kernel) rfl
theorem tw_464 : (Jvm.Cond.static ({ cls := "jdk/internal/util/ArraysSupport", name := "hugeLength", desc := "(II)I" } : Jvm.MethodName)) ∈ tb := tb_mem 464 (by decide +kernel) rfl
theorem tw_465 : (Jvm.Cond.code ({ cls := "jdk/internal/util/ArraysSupport", name := "hugeLength", desc := "(II)I" } : Jvm.MethodName) prog_32_method_28_code (3 : Nat) (Option.some Jvm.ClassFile.FieldType.int)) ∈ tb := tb_mem 465 (by decide +kernel) rfl
theorem tw_466 : (Jvm.Cond.methodLink "java/util/ArrayList" (66 : Nat) ({ cls := "java/util/Arrays", name := "copyOf", desc := "([Ljava/lang/Object;I)[Ljava/lang/Object;" } : Jvm.MethodName)) ∈ tb := tb_mem 466 (by decide +kernel) rfl
theorem tw_467 : (Jvm.Cond.static ({ cls := "java/util/Arrays", name := "copyOf", desc := "([Ljava/lang/Object;I)[Ljava/lang/Object;" } : Jvm.MethodName)) ∈ tb := tb_mem 467 (by decide +kernel) rfl
theorem tw_468 : (Jvm.Cond.code ({ cls := "java/util/Arrays", name := "copyOf", desc := "([Ljava/lang/Object;I)[Ljava/lang/Object;" } : Jvm.MethodName) prog_26_method_119_code (2 : Nat) (Option.some (Jvm.ClassFile.FieldType.array (Jvm.ClassFile.FieldType.object "java/lang/Object")))) ∈ tb := tb_mem 468 (by decide +kernel) rfl
theorem tw_469 : (Jvm.Cond.methodLink "java/util/Arrays" (86 : Nat) ({ cls := "java/lang/Object", name := "getClass", desc := "()Ljava/lang/Class;" } : Jvm.MethodName)) ∈ tb := tb_mem 469 (by decide +kernel) rfl
theorem tw_470 : (Jvm.Cond.instanceMethod ({ cls := "java/lang/Object", name := "getClass", desc := "()Ljava/lang/Class;" } : Jvm.MethodName)) ∈ tb := tb_mem 470 (by decide +kernel) rfl
theorem tw_481 : (Jvm.Cond.native ({ cls := "java/lang/Object", name := "getClass", desc := "()Ljava/lang/Class;" } : Jvm.MethodName)) ∈ tb := tb_mem 481 (by decide +kernel) rfl
theorem tw_482 : (Jvm.Cond.methodLink "java/util/Arrays" (300 : Nat) ({ cls := "java/util/Arrays", name := "copyOf", desc := "([Ljava/lang/Object;ILjava/lang/Class;)[Ljava/lang/Object;" } : Jvm.MethodName)) ∈ tb := tb_mem 482 (by decide +kernel) rfl
theorem tw_483 : (Jvm.Cond.static ({ cls := "java/util/Arrays", name := "copyOf", desc := "([Ljava/lang/Object;ILjava/lang/Class;)[Ljava/lang/Object;" } : Jvm.MethodName)) ∈ tb := tb_mem 483 (by decide +kernel) rfl
theorem tw_484 : (Jvm.Cond.code ({ cls := "java/util/Arrays", name := "copyOf", desc := "([Ljava/lang/Object;ILjava/lang/Class;)[Ljava/lang/Object;" } : Jvm.MethodName) prog_26_method_120_code (4 : Nat) (Option.some (Jvm.ClassFile.FieldType.array (Jvm.ClassFile.FieldType.object "java/lang/Object")))) ∈ tb := tb_mem 484 (by decide +kernel) rfl
theorem tw_485 : (Jvm.Cond.classLink "java/util/Arrays" (110 : Nat) "[Ljava/lang/Object;") ∈ tb := tb_mem 485 (by decide +kernel) rfl
theorem tw_487 : (Jvm.Cond.classLink "java/util/Arrays" (2 : Nat) "java/lang/Object") ∈ tb := tb_mem 487 (by decide +kernel) rfl
theorem tw_488 : (Jvm.Cond.methodLink "java/util/Arrays" (304 : Nat) ({ cls := "java/lang/Math", name := "min", desc := "(II)I" } : Jvm.MethodName)) ∈ tb := tb_mem 488 (by decide +kernel) rfl
theorem tw_489 : (Jvm.Cond.methodLink "java/util/Arrays" (150 : Nat) ({ cls := "java/lang/System", name := "arraycopy", desc := "(Ljava/lang/Object;ILjava/lang/Object;II)V" } : Jvm.MethodName)) ∈ tb := tb_mem 489 (by decide +kernel) rfl
theorem tw_490 : (Jvm.Cond.static ({ cls := "java/lang/System", name := "arraycopy", desc := "(Ljava/lang/Object;ILjava/lang/Object;II)V" } : Jvm.MethodName)) ∈ tb := tb_mem 490 (by decide +kernel) rfl
theorem tw_491 : (Jvm.Cond.native ({ cls := "java/lang/System", name := "arraycopy", desc := "(Ljava/lang/Object;ILjava/lang/Object;II)V" } : Jvm.MethodName)) ∈ tb := tb_mem 491 (by decide +kernel) rfl
theorem tw_492 : (Jvm.Cond.methodLink "java/util/ArrayList" (79 : Nat) ({ cls := "java/lang/Math", name := "max", desc := "(II)I" } : Jvm.MethodName)) ∈ tb := tb_mem 492 (by decide +kernel) rfl
theorem tw_493 : (Jvm.Cond.classLink "java/util/ArrayList" (7 : Nat) "java/lang/Object") ∈ tb := tb_mem 493 (by decide +kernel) rfl
theorem tw_494 : (Jvm.Cond.methodLink "BallastTrainLaw" (27 : Nat) ({ cls := "BallastTrain", name := "set", desc := "(II)I" } : Jvm.MethodName)) ∈ tb := tb_mem 494 (by decide +kernel) rfl
theorem tw_495 : (Jvm.Cond.instanceMethod ({ cls := "BallastTrain", name := "set", desc := "(II)I" } : Jvm.MethodName)) ∈ tb := tb_mem 495 (by decide +kernel) rfl
theorem tw_496 : (Jvm.Cond.selects "BallastTrain" ({ cls := "BallastTrain", name := "set", desc := "(II)I" } : Jvm.MethodName) ({ cls := "BallastTrain", name := "set", desc := "(II)I" } : Jvm.MethodName)) ∈ tb := tb_mem 496 (by decide +kernel) rfl
theorem tw_497 : (Jvm.Cond.code ({ cls := "BallastTrain", name := "set", desc := "(II)I" } : Jvm.MethodName) prog_1_method_5_code (4 : Nat) (Option.some Jvm.ClassFile.FieldType.int)) ∈ tb := tb_mem 497 (by decide +kernel) rfl
theorem tw_498 : (Jvm.Cond.fieldLink "BallastTrain" (51 : Nat) "BallastTrain" "LEAST_SETTING" "[I") ∈ tb := tb_mem 498 (by decide +kernel) rfl
theorem tw_500 : (Jvm.Cond.fieldLink "BallastTrain" (55 : Nat) "BallastTrain" "MOST_SETTING" "[I") ∈ tb := tb_mem 500 (by decide +kernel) rfl
theorem tw_502 : (Jvm.Cond.methodLink "BallastTrain" (58 : Nat) ({ cls := "BallastTrain$History", name := "keep", desc := "(LBallastTrain$State;)V" } : Jvm.MethodName)) ∈ tb := tb_mem 502 (by decide +kernel) rfl
theorem tw_503 : (Jvm.Cond.instanceMethod ({ cls := "BallastTrain$History", name := "keep", desc := "(LBallastTrain$State;)V" } : Jvm.MethodName)) ∈ tb := tb_mem 503 (by decide +kernel) rfl
theorem tw_504 : (Jvm.Cond.selects "BallastTrain$History" ({ cls := "BallastTrain$History", name := "keep", desc := "(LBallastTrain$State;)V" } : Jvm.MethodName) ({ cls := "BallastTrain$History", name := "keep", desc := "(LBallastTrain$State;)V" } : Jvm.MethodName)) ∈ tb := tb_mem 504 (by decide +kernel) rfl
theorem tw_505 : (Jvm.Cond.code ({ cls := "BallastTrain$History", name := "keep", desc := "(LBallastTrain$State;)V" } : Jvm.MethodName) prog_2_method_2_code (2 : Nat) (Option.none : Option Jvm.ClassFile.FieldType)) ∈ tb := tb_mem 505 (by decide +kernel) rfl
theorem tw_506 : (Jvm.Cond.methodLink "BallastTrain$History" (25 : Nat) ({ cls := "java/lang/Math", name := "floorMod", desc := "(II)I" } : Jvm.MethodName)) ∈ tb := tb_mem 506 (by decide +kernel) rfl
theorem tw_507 : (Jvm.Cond.static ({ cls := "java/lang/Math", name := "floorMod", desc := "(II)I" } : Jvm.MethodName)) ∈ tb := tb_mem 507 (by decide +kernel) rfl
theorem tw_508 : (Jvm.Cond.code ({ cls := "java/lang/Math", name := "floorMod", desc := "(II)I" } : Jvm.MethodName) prog_16_method_50_code (3 : Nat) (Option.some Jvm.ClassFile.FieldType.int)) ∈ tb := tb_mem 508 (by decide +kernel) rfl
theorem tw_509 : (Jvm.Cond.methodLink "BallastTrain$History" (31 : Nat) ({ cls := "BallastTrain$State", name := "copyFrom", desc := "(LBallastTrain$State;)V" } : Jvm.MethodName)) ∈ tb := tb_mem 509 (by decide +kernel) rfl
theorem tw_510 : (Jvm.Cond.instanceMethod ({ cls := "BallastTrain$State", name := "copyFrom", desc := "(LBallastTrain$State;)V" } : Jvm.MethodName)) ∈ tb := tb_mem 510 (by decide +kernel) rfl
theorem tw_511 : (Jvm.Cond.selects "BallastTrain$State" ({ cls := "BallastTrain$State", name := "copyFrom", desc := "(LBallastTrain$State;)V" } : Jvm.MethodName) ({ cls := "BallastTrain$State", name := "copyFrom", desc := "(LBallastTrain$State;)V" } : Jvm.MethodName)) ∈ tb := tb_mem 511 (by decide +kernel) rfl
theorem tw_512 : (Jvm.Cond.code ({ cls := "BallastTrain$State", name := "copyFrom", desc := "(LBallastTrain$State;)V" } : Jvm.MethodName) prog_4_method_2_code (2 : Nat) (Option.none : Option Jvm.ClassFile.FieldType)) ∈ tb := tb_mem 512 (by decide +kernel) rfl
theorem tw_514 : (Jvm.Cond.static ({ cls := "BallastTrain", name := "copyRow", desc := "([I[I)V" } : Jvm.MethodName)) ∈ tb := tb_mem 514 (by decide +kernel) rfl
theorem tw_515 : (Jvm.Cond.code ({ cls := "BallastTrain", name := "copyRow", desc := "([I[I)V" } : Jvm.MethodName) prog_1_method_33_code (2 : Nat) (Option.none : Option Jvm.ClassFile.FieldType)) ∈ tb := tb_mem 515 (by decide +kernel) rfl
theorem tw_516 : (Jvm.Cond.methodLink "BallastTrain" (151 : Nat) ({ cls := "java/lang/Math", name := "min", desc := "(II)I" } : Jvm.MethodName)) ∈ tb := tb_mem 516 (by decide +kernel) rfl
theorem tw_517 : (Jvm.Cond.methodLink "BallastTrain" (279 : Nat) ({ cls := "java/lang/System", name := "arraycopy", desc := "(Ljava/lang/Object;ILjava/lang/Object;II)V" } : Jvm.MethodName)) ∈ tb := tb_mem 517 (by decide +kernel) rfl
theorem tw_518 : (Jvm.Cond.methodLink "BallastTrain$State" (59 : Nat) ({ cls := "BallastTrain$Train", name := "copyFrom", desc := "(LBallastTrain$Train;)V" } : Jvm.MethodName)) ∈ tb := tb_mem 518 (by decide +kernel) rfl
theorem tw_519 : (Jvm.Cond.instanceMethod ({ cls := "BallastTrain$Train", name := "copyFrom", desc := "(LBallastTrain$Train;)V" } : Jvm.MethodName)) ∈ tb := tb_mem 519 (by decide +kernel) rfl
theorem tw_520 : (Jvm.Cond.selects "BallastTrain$Train" ({ cls := "BallastTrain$Train", name := "copyFrom", desc := "(LBallastTrain$Train;)V" } : Jvm.MethodName) ({ cls := "BallastTrain$Train", name := "copyFrom", desc := "(LBallastTrain$Train;)V" } : Jvm.MethodName)) ∈ tb := tb_mem 520 (by decide +kernel) rfl
theorem tw_521 : (Jvm.Cond.code ({ cls := "BallastTrain$Train", name := "copyFrom", desc := "(LBallastTrain$Train;)V" } : Jvm.MethodName) prog_7_method_3_code (2 : Nat) (Option.none : Option Jvm.ClassFile.FieldType)) ∈ tb := tb_mem 521 (by decide +kernel) rfl
theorem tw_523 : (Jvm.Cond.methodLink "BallastTrain$State" (63 : Nat) ({ cls := "java/util/ArrayList", name := "clear", desc := "()V" } : Jvm.MethodName)) ∈ tb := tb_mem 523 (by decide +kernel) rfl
theorem tw_525 : (Jvm.Cond.static ({ cls := "BallastTrain", name := "addAll", desc := "(Ljava/util/ArrayList;Ljava/util/ArrayList;)V" } : Jvm.MethodName)) ∈ tb := tb_mem 525 (by decide +kernel) rfl
theorem tw_526 : (Jvm.Cond.code ({ cls := "BallastTrain", name := "addAll", desc := "(Ljava/util/ArrayList;Ljava/util/ArrayList;)V" } : Jvm.MethodName) prog_1_method_34_code (3 : Nat) (Option.none : Option Jvm.ClassFile.FieldType)) ∈ tb := tb_mem 526 (by decide +kernel) rfl
theorem tw_527 : (Jvm.Cond.methodLink "BallastTrain" (116 : Nat) ({ cls := "java/util/ArrayList", name := "size", desc := "()I" } : Jvm.MethodName)) ∈ tb := tb_mem 527 (by decide +kernel) rfl
theorem tw_528 : (Jvm.Cond.instanceMethod ({ cls := "java/util/ArrayList", name := "size", desc := "()I" } : Jvm.MethodName)) ∈ tb := tb_mem 528 (by decide +kernel) rfl
theorem tw_529 : (Jvm.Cond.selects "java/util/ArrayList" ({ cls := "java/util/ArrayList", name := "size", desc := "()I" } : Jvm.MethodName) ({ cls := "java/util/ArrayList", name := "size", desc := "()I" } : Jvm.MethodName)) ∈ tb := tb_mem 529 (by decide +kernel) rfl
theorem tw_530 : (Jvm.Cond.code ({ cls := "java/util/ArrayList", name := "size", desc := "()I" } : Jvm.MethodName) prog_25_method_8_code (1 : Nat) (Option.some Jvm.ClassFile.FieldType.int)) ∈ tb := tb_mem 530 (by decide +kernel) rfl
theorem tw_531 : (Jvm.Cond.methodLink "BallastTrain" (203 : Nat) ({ cls := "java/util/ArrayList", name := "get", desc := "(I)Ljava/lang/Object;" } : Jvm.MethodName)) ∈ tb := tb_mem 531 (by decide +kernel) rfl
theorem tw_532 : (Jvm.Cond.instanceMethod ({ cls := "java/util/ArrayList", name := "get", desc := "(I)Ljava/lang/Object;" } : Jvm.MethodName)) ∈ tb := tb_mem 532 (by decide +kernel) rfl
theorem tw_533 : (Jvm.Cond.selects "java/util/ArrayList" ({ cls := "java/util/ArrayList", name := "get", desc := "(I)Ljava/lang/Object;" } : Jvm.MethodName) ({ cls := "java/util/ArrayList", name := "get", desc := "(I)Ljava/lang/Object;" } : Jvm.MethodName)) ∈ tb := tb_mem 533 (by decide +kernel) rfl
theorem tw_534 : (Jvm.Cond.code ({ cls := "java/util/ArrayList", name := "get", desc := "(I)Ljava/lang/Object;" } : Jvm.MethodName) prog_25_method_20_code (2 : Nat) (Option.some (Jvm.ClassFile.FieldType.object "java/lang/Object"))) ∈ tb := tb_mem 534 (by decide +kernel) rfl
theorem tw_535 : (Jvm.Cond.methodLink "java/util/ArrayList" (118 : Nat) ({ cls := "java/util/Objects", name := "checkIndex", desc := "(II)I" } : Jvm.MethodName)) ∈ tb := tb_mem 535 (by decide +kernel) rfl
theorem tw_536 : (Jvm.Cond.static ({ cls := "java/util/Objects", name := "checkIndex", desc := "(II)I" } : Jvm.MethodName)) ∈ tb := tb_mem 536 (by decide +kernel) rfl
theorem tw_537 : (Jvm.Cond.code ({ cls := "java/util/Objects", name := "checkIndex", desc := "(II)I" } : Jvm.MethodName) prog_29_method_17_code (2 : Nat) (Option.some Jvm.ClassFile.FieldType.int)) ∈ tb := tb_mem 537 (by decide +kernel) rfl
theorem tw_538 : (Jvm.Cond.methodLink "java/util/Objects" (105 : Nat) ({ cls := "jdk/internal/util/Preconditions", name := "checkIndex", desc := "(IILjava/util/function/BiFunction;)I" } : Jvm.MethodName)) ∈ tb := tb_mem 538 (by decide +kernel) rfl
theorem tw_539 : (Jvm.Cond.static ({ cls := "jdk/internal/util/Preconditions", name := "checkIndex", desc := "(IILjava/util/function/BiFunction;)I" } : Jvm.MethodName)) ∈ tb := tb_mem 539 (by decide +kernel) rfl
theorem tw_540 : (Jvm.Cond.code ({ cls := "jdk/internal/util/Preconditions", name := "checkIndex", desc := "(IILjava/util/function/BiFunction;)I" } : Jvm.MethodName) prog_33_method_11_code (3 : Nat) (Option.some Jvm.ClassFile.FieldType.int)) ∈ tb := tb_mem 540 (by decide +kernel) rfl
theorem tw_541 : (Jvm.Cond.methodLink "java/util/ArrayList" (123 : Nat) ({ cls := "java/util/ArrayList", name := "elementData", desc := "(I)Ljava/lang/Object;" } : Jvm.MethodName)) ∈ tb := tb_mem 541 (by decide +kernel) rfl
theorem tw_542 : (Jvm.Cond.instanceMethod ({ cls := "java/util/ArrayList", name := "elementData", desc := "(I)Ljava/lang/Object;" } : Jvm.MethodName)) ∈ tb := tb_mem 542 (by decide +kernel) rfl
theorem tw_543 : (Jvm.Cond.selects "java/util/ArrayList" ({ cls := "java/util/ArrayList", name := "elementData", desc := "(I)Ljava/lang/Object;" } : Jvm.MethodName) ({ cls := "java/util/ArrayList", name := "elementData", desc := "(I)Ljava/lang/Object;" } : Jvm.MethodName)) ∈ tb := tb_mem 543 (by decide +kernel) rfl
theorem tw_544 : (Jvm.Cond.code ({ cls := "java/util/ArrayList", name := "elementData", desc := "(I)Ljava/lang/Object;" } : Jvm.MethodName) prog_25_method_18_code (2 : Nat) (Option.some (Jvm.ClassFile.FieldType.object "java/lang/Object"))) ∈ tb := tb_mem 544 (by decide +kernel) rfl
theorem tw_545 : (Jvm.Cond.classLink "BallastTrain" (206 : Nat) "BallastTrain$Order") ∈ tb := tb_mem 545 (by decide +kernel) rfl
theorem tw_546 : (Jvm.Cond.methodLink "BallastTrain" (285 : Nat) ({ cls := "java/util/ArrayList", name := "add", desc := "(Ljava/lang/Object;)Z" } : Jvm.MethodName)) ∈ tb := tb_mem 546 (by decide +kernel) rfl
theorem tw_547 : (Jvm.Cond.methodLink "BallastTrain$History" (35 : Nat) ({ cls := "java/lang/Math", name := "min", desc := "(II)I" } : Jvm.MethodName)) ∈ tb := tb_mem 547 (by decide +kernel) rfl
theorem tw_548 : (Jvm.Cond.methodLink "BallastTrainLaw" (32 : Nat) ({ cls := "BallastTrain", name := "setTrain", desc := "(I)I" } : Jvm.MethodName)) ∈ tb := tb_mem 548 (by decide +kernel) rfl
theorem tw_549 : (Jvm.Cond.instanceMethod ({ cls := "BallastTrain", name := "setTrain", desc := "(I)I" } : Jvm.MethodName)) ∈ tb := tb_mem 549 (by decide +kernel) rfl
theorem tw_550 : (Jvm.Cond.selects "BallastTrain" ({ cls := "BallastTrain", name := "setTrain", desc := "(I)I" } : Jvm.MethodName) ({ cls := "BallastTrain", name := "setTrain", desc := "(I)I" } : Jvm.MethodName)) ∈ tb := tb_mem 550 (by decide +kernel) rfl
theorem tw_551 : (Jvm.Cond.code ({ cls := "BallastTrain", name := "setTrain", desc := "(I)I" } : Jvm.MethodName) prog_1_method_6_code (3 : Nat) (Option.some Jvm.ClassFile.FieldType.int)) ∈ tb := tb_mem 551 (by decide +kernel) rfl
theorem tw_552 : (Jvm.Cond.methodLink "BallastTrain" (69 : Nat) ({ cls := "BallastTrain$Train", name := "units", desc := "()I" } : Jvm.MethodName)) ∈ tb := tb_mem 552 (by decide +kernel) rfl
theorem tw_553 : (Jvm.Cond.instanceMethod ({ cls := "BallastTrain$Train", name := "units", desc := "()I" } : Jvm.MethodName)) ∈ tb := tb_mem 553 (by decide +kernel) rfl
theorem tw_554 : (Jvm.Cond.selects "BallastTrain$Train" ({ cls := "BallastTrain$Train", name := "units", desc := "()I" } : Jvm.MethodName) ({ cls := "BallastTrain$Train", name := "units", desc := "()I" } : Jvm.MethodName)) ∈ tb := tb_mem 554 (by decide +kernel) rfl
theorem tw_555 : (Jvm.Cond.code ({ cls := "BallastTrain$Train", name := "units", desc := "()I" } : Jvm.MethodName) prog_7_method_9_code (1 : Nat) (Option.some Jvm.ClassFile.FieldType.int)) ∈ tb := tb_mem 555 (by decide +kernel) rfl
theorem tw_557 : (Jvm.Cond.static ({ cls := "BallastTrain", name := "sum", desc := "([I)I" } : Jvm.MethodName)) ∈ tb := tb_mem 557 (by decide +kernel) rfl
theorem tw_558 : (Jvm.Cond.code ({ cls := "BallastTrain", name := "sum", desc := "([I)I" } : Jvm.MethodName) prog_1_method_32_code (6 : Nat) (Option.some Jvm.ClassFile.FieldType.int)) ∈ tb := tb_mem 558 (by decide +kernel) rfl
theorem tw_559 : (Jvm.Cond.methodLink "BallastTrain" (75 : Nat) ({ cls := "BallastTrain$Train", name := "replace", desc := "(I)V" } : Jvm.MethodName)) ∈ tb := tb_mem 559 (by decide +kernel) rfl
theorem tw_560 : (Jvm.Cond.instanceMethod ({ cls := "BallastTrain$Train", name := "replace", desc := "(I)V" } : Jvm.MethodName)) ∈ tb := tb_mem 560 (by decide +kernel) rfl
theorem tw_561 : (Jvm.Cond.selects "BallastTrain$Train" ({ cls := "BallastTrain$Train", name := "replace", desc := "(I)V" } : Jvm.MethodName) ({ cls := "BallastTrain$Train", name := "replace", desc := "(I)V" } : Jvm.MethodName)) ∈ tb := tb_mem 561 (by decide +kernel) rfl
theorem tw_562 : (Jvm.Cond.code ({ cls := "BallastTrain$Train", name := "replace", desc := "(I)V" } : Jvm.MethodName) prog_7_method_2_code (2 : Nat) (Option.none : Option Jvm.ClassFile.FieldType)) ∈ tb := tb_mem 562 (by decide +kernel) rfl
theorem tw_563 : (Jvm.Cond.methodLink "BallastTrainLaw" (36 : Nat) ({ cls := "BallastTrain", name := "load", desc := "(II)I" } : Jvm.MethodName)) ∈ tb := tb_mem 563 (by decide +kernel) rfl
theorem tw_564 : (Jvm.Cond.instanceMethod ({ cls := "BallastTrain", name := "load", desc := "(II)I" } : Jvm.MethodName)) ∈ tb := tb_mem 564 (by decide +kernel) rfl
theorem tw_565 : (Jvm.Cond.selects "BallastTrain" ({ cls := "BallastTrain", name := "load", desc := "(II)I" } : Jvm.MethodName) ({ cls := "BallastTrain", name := "load", desc := "(II)I" } : Jvm.MethodName)) ∈ tb := tb_mem 565 (by decide +kernel) rfl
theorem tw_566 : (Jvm.Cond.code ({ cls := "BallastTrain", name := "load", desc := "(II)I" } : Jvm.MethodName) prog_1_method_7_code (3 : Nat) (Option.some Jvm.ClassFile.FieldType.int)) ∈ tb := tb_mem 566 (by decide +kernel) rfl
theorem tw_567 : (Jvm.Cond.methodLink "BallastTrain" (82 : Nat) ({ cls := "BallastTrain$Train", name := "hasWagon", desc := "(I)Z" } : Jvm.MethodName)) ∈ tb := tb_mem 567 (by decide +kernel) rfl
theorem tw_568 : (Jvm.Cond.instanceMethod ({ cls := "BallastTrain$Train", name := "hasWagon", desc := "(I)Z" } : Jvm.MethodName)) ∈ tb := tb_mem 568 (by decide +kernel) rfl
theorem tw_569 : (Jvm.Cond.selects "BallastTrain$Train" ({ cls := "BallastTrain$Train", name := "hasWagon", desc := "(I)Z" } : Jvm.MethodName) ({ cls := "BallastTrain$Train", name := "hasWagon", desc := "(I)Z" } : Jvm.MethodName)) ∈ tb := tb_mem 569 (by decide +kernel) rfl
theorem tw_570 : (Jvm.Cond.code ({ cls := "BallastTrain$Train", name := "hasWagon", desc := "(I)Z" } : Jvm.MethodName) prog_7_method_4_code (2 : Nat) (Option.some Jvm.ClassFile.FieldType.boolean)) ∈ tb := tb_mem 570 (by decide +kernel) rfl
theorem tw_571 : (Jvm.Cond.methodLink "BallastTrainLaw" (40 : Nat) ({ cls := "BallastTrain", name := "door", desc := "(III)I" } : Jvm.MethodName)) ∈ tb := tb_mem 571 (by decide +kernel) rfl
theorem tw_572 : (Jvm.Cond.instanceMethod ({ cls := "BallastTrain", name := "door", desc := "(III)I" } : Jvm.MethodName)) ∈ tb := tb_mem 572 (by decide +kernel) rfl
theorem tw_573 : (Jvm.Cond.selects "BallastTrain" ({ cls := "BallastTrain", name := "door", desc := "(III)I" } : Jvm.MethodName) ({ cls := "BallastTrain", name := "door", desc := "(III)I" } : Jvm.MethodName)) ∈ tb := tb_mem 573 (by decide +kernel) rfl
theorem tw_574 : (Jvm.Cond.code ({ cls := "BallastTrain", name := "door", desc := "(III)I" } : Jvm.MethodName) prog_1_method_8_code (5 : Nat) (Option.some Jvm.ClassFile.FieldType.int)) ∈ tb := tb_mem 574 (by decide +kernel) rfl
theorem tw_575 : (Jvm.Cond.methodLink "BallastTrain" (94 : Nat) ({ cls := "BallastTrain$Train", name := "hasDoor", desc := "(II)Z" } : Jvm.MethodName)) ∈ tb := tb_mem 575 (by decide +kernel) rfl
theorem tw_576 : (Jvm.Cond.instanceMethod ({ cls := "BallastTrain$Train", name := "hasDoor", desc := "(II)Z" } : Jvm.MethodName)) ∈ tb := tb_mem 576 (by decide +kernel) rfl
theorem tw_577 : (Jvm.Cond.selects "BallastTrain$Train" ({ cls := "BallastTrain$Train", name := "hasDoor", desc := "(II)Z" } : Jvm.MethodName) ({ cls := "BallastTrain$Train", name := "hasDoor", desc := "(II)Z" } : Jvm.MethodName)) ∈ tb := tb_mem 577 (by decide +kernel) rfl
theorem tw_578 : (Jvm.Cond.code ({ cls := "BallastTrain$Train", name := "hasDoor", desc := "(II)Z" } : Jvm.MethodName) prog_7_method_5_code (3 : Nat) (Option.some Jvm.ClassFile.FieldType.boolean)) ∈ tb := tb_mem 578 (by decide +kernel) rfl
theorem tw_579 : (Jvm.Cond.methodLink "BallastTrain" (98 : Nat) ({ cls := "BallastTrain$Train", name := "levelOf", desc := "(II)I" } : Jvm.MethodName)) ∈ tb := tb_mem 579 (by decide +kernel) rfl
theorem tw_580 : (Jvm.Cond.instanceMethod ({ cls := "BallastTrain$Train", name := "levelOf", desc := "(II)I" } : Jvm.MethodName)) ∈ tb := tb_mem 580 (by decide +kernel) rfl
theorem tw_581 : (Jvm.Cond.selects "BallastTrain$Train" ({ cls := "BallastTrain$Train", name := "levelOf", desc := "(II)I" } : Jvm.MethodName) ({ cls := "BallastTrain$Train", name := "levelOf", desc := "(II)I" } : Jvm.MethodName)) ∈ tb := tb_mem 581 (by decide +kernel) rfl
theorem tw_582 : (Jvm.Cond.code ({ cls := "BallastTrain$Train", name := "levelOf", desc := "(II)I" } : Jvm.MethodName) prog_7_method_6_code (3 : Nat) (Option.some Jvm.ClassFile.FieldType.int)) ∈ tb := tb_mem 582 (by decide +kernel) rfl
theorem tw_583 : (Jvm.Cond.methodLink "BallastTrain$Train" (47 : Nat) ({ cls := "BallastTrain$Train", name := "hasDoor", desc := "(II)Z" } : Jvm.MethodName)) ∈ tb := tb_mem 583 (by decide +kernel) rfl
theorem tw_584 : (Jvm.Cond.methodLink "BallastTrain" (102 : Nat) ({ cls := "BallastTrain$Train", name := "closeDoor", desc := "(III)V" } : Jvm.MethodName)) ∈ tb := tb_mem 584 (by decide +kernel) rfl
theorem tw_585 : (Jvm.Cond.instanceMethod ({ cls := "BallastTrain$Train", name := "closeDoor", desc := "(III)V" } : Jvm.MethodName)) ∈ tb := tb_mem 585 (by decide +kernel) rfl
theorem tw_586 : (Jvm.Cond.selects "BallastTrain$Train" ({ cls := "BallastTrain$Train", name := "closeDoor", desc := "(III)V" } : Jvm.MethodName) ({ cls := "BallastTrain$Train", name := "closeDoor", desc := "(III)V" } : Jvm.MethodName)) ∈ tb := tb_mem 586 (by decide +kernel) rfl
theorem tw_587 : (Jvm.Cond.code ({ cls := "BallastTrain$Train", name := "closeDoor", desc := "(III)V" } : Jvm.MethodName) prog_7_method_13_code (4 : Nat) (Option.none : Option Jvm.ClassFile.FieldType)) ∈ tb := tb_mem 587 (by decide +kernel) rfl
theorem tw_588 : (Jvm.Cond.methodLink "BallastTrain" (106 : Nat) ({ cls := "BallastTrain$Train", name := "openDoor", desc := "(III)V" } : Jvm.MethodName)) ∈ tb := tb_mem 588 (by decide +kernel) rfl
theorem tw_589 : (Jvm.Cond.instanceMethod ({ cls := "BallastTrain$Train", name := "openDoor", desc := "(III)V" } : Jvm.MethodName)) ∈ tb := tb_mem 589 (by decide +kernel) rfl
theorem tw_590 : (Jvm.Cond.selects "BallastTrain$Train" ({ cls := "BallastTrain$Train", name := "openDoor", desc := "(III)V" } : Jvm.MethodName) ({ cls := "BallastTrain$Train", name := "openDoor", desc := "(III)V" } : Jvm.MethodName)) ∈ tb := tb_mem 590 (by decide +kernel) rfl
theorem tw_591 : (Jvm.Cond.code ({ cls := "BallastTrain$Train", name := "openDoor", desc := "(III)V" } : Jvm.MethodName) prog_7_method_12_code (4 : Nat) (Option.none : Option Jvm.ClassFile.FieldType)) ∈ tb := tb_mem 591 (by decide +kernel) rfl
theorem tw_592 : (Jvm.Cond.methodLink "BallastTrainLaw" (45 : Nat) ({ cls := "BallastTrain", name := "wish", desc := "(I)I" } : Jvm.MethodName)) ∈ tb := tb_mem 592 (by decide +kernel) rfl
theorem tw_593 : (Jvm.Cond.instanceMethod ({ cls := "BallastTrain", name := "wish", desc := "(I)I" } : Jvm.MethodName)) ∈ tb := tb_mem 593 (by decide +kernel) rfl
theorem tw_594 : (Jvm.Cond.selects "BallastTrain" ({ cls := "BallastTrain", name := "wish", desc := "(I)I" } : Jvm.MethodName) ({ cls := "BallastTrain", name := "wish", desc := "(I)I" } : Jvm.MethodName)) ∈ tb := tb_mem 594 (by decide +kernel) rfl
theorem tw_595 : (Jvm.Cond.code ({ cls := "BallastTrain", name := "wish", desc := "(I)I" } : Jvm.MethodName) prog_1_method_9_code (3 : Nat) (Option.some Jvm.ClassFile.FieldType.int)) ∈ tb := tb_mem 595 (by decide +kernel) rfl
theorem tw_596 : (Jvm.Cond.methodLink "BallastTrainLaw" (49 : Nat) ({ cls := "BallastTrain", name := "order", desc := "()I" } : Jvm.MethodName)) ∈ tb := tb_mem 596 (by decide +kernel) rfl
theorem tw_597 : (Jvm.Cond.instanceMethod ({ cls := "BallastTrain", name := "order", desc := "()I" } : Jvm.MethodName)) ∈ tb := tb_mem 597 (by decide +kernel) rfl
theorem tw_598 : (Jvm.Cond.selects "BallastTrain" ({ cls := "BallastTrain", name := "order", desc := "()I" } : Jvm.MethodName) ({ cls := "BallastTrain", name := "order", desc := "()I" } : Jvm.MethodName)) ∈ tb := tb_mem 598 (by decide +kernel) rfl
theorem tw_599 : (Jvm.Cond.code ({ cls := "BallastTrain", name := "order", desc := "()I" } : Jvm.MethodName) prog_1_method_10_code (1 : Nat) (Option.some Jvm.ClassFile.FieldType.int)) ∈ tb := tb_mem 599 (by decide +kernel) rfl
theorem tw_600 : (Jvm.Cond.methodLink "BallastTrain" (122 : Nat) ({ cls := "BallastTrain", name := "addAll", desc := "(Ljava/util/ArrayList;Ljava/util/ArrayList;)V" } : Jvm.MethodName)) ∈ tb := tb_mem 600 (by decide +kernel) rfl
theorem tw_601 : (Jvm.Cond.methodLink "BallastTrainLaw" (53 : Nat) ({ cls := "BallastTrain", name := "cancel", desc := "(I)I" } : Jvm.MethodName)) ∈ tb := tb_mem 601 (by decide +kernel) rfl
theorem tw_602 : (Jvm.Cond.instanceMethod ({ cls := "BallastTrain", name := "cancel", desc := "(I)I" } : Jvm.MethodName)) ∈ tb := tb_mem 602 (by decide +kernel) rfl
theorem tw_603 : (Jvm.Cond.selects "BallastTrain" ({ cls := "BallastTrain", name := "cancel", desc := "(I)I" } : Jvm.MethodName) ({ cls := "BallastTrain", name := "cancel", desc := "(I)I" } : Jvm.MethodName)) ∈ tb := tb_mem 603 (by decide +kernel) rfl
theorem tw_604 : (Jvm.Cond.code ({ cls := "BallastTrain", name := "cancel", desc := "(I)I" } : Jvm.MethodName) prog_1_method_11_code (2 : Nat) (Option.some Jvm.ClassFile.FieldType.int)) ∈ tb := tb_mem 604 (by decide +kernel) rfl
theorem tw_605 : (Jvm.Cond.methodLink "BallastTrain" (126 : Nat) ({ cls := "java/util/ArrayList", name := "remove", desc := "(I)Ljava/lang/Object;" } : Jvm.MethodName)) ∈ tb := tb_mem 605 (by decide +kernel) rfl
theorem tw_606 : (Jvm.Cond.instanceMethod ({ cls := "java/util/ArrayList", name := "remove", desc := "(I)Ljava/lang/Object;" } : Jvm.MethodName)) ∈ tb := tb_mem 606 (by decide +kernel) rfl
theorem tw_607 : (Jvm.Cond.selects "java/util/ArrayList" ({ cls := "java/util/ArrayList", name := "remove", desc := "(I)Ljava/lang/Object;" } : Jvm.MethodName) ({ cls := "java/util/ArrayList", name := "remove", desc := "(I)Ljava/lang/Object;" } : Jvm.MethodName)) ∈ tb := tb_mem 607 (by decide +kernel) rfl
theorem tw_608 : (Jvm.Cond.code ({ cls := "java/util/ArrayList", name := "remove", desc := "(I)Ljava/lang/Object;" } : Jvm.MethodName) prog_25_method_29_code (4 : Nat) (Option.some (Jvm.ClassFile.FieldType.object "java/lang/Object"))) ∈ tb := tb_mem 608 (by decide +kernel) rfl
theorem tw_609 : (Jvm.Cond.methodLink "java/util/ArrayList" (144 : Nat) ({ cls := "java/util/ArrayList", name := "fastRemove", desc := "([Ljava/lang/Object;I)V" } : Jvm.MethodName)) ∈ tb := tb_mem 609 (by decide +kernel) rfl
theorem tw_611 : (Jvm.Cond.instanceMethod ({ cls := "java/util/ArrayList", name := "fastRemove", desc := "([Ljava/lang/Object;I)V" } : Jvm.MethodName)) ∈ tb := tb_mem 611 (by decide +kernel) rfl
theorem tw_612 : (Jvm.Cond.code ({ cls := "java/util/ArrayList", name := "fastRemove", desc := "([Ljava/lang/Object;I)V" } : Jvm.MethodName) prog_25_method_39_code (4 : Nat) (Option.none : Option Jvm.ClassFile.FieldType)) ∈ tb := tb_mem 612 (by decide +kernel) rfl
theorem tw_613 : (Jvm.Cond.methodLink "java/util/ArrayList" (112 : Nat) ({ cls := "java/lang/System", name := "arraycopy", desc := "(Ljava/lang/Object;ILjava/lang/Object;II)V" } : Jvm.MethodName)) ∈ tb := tb_mem 613 (by decide +kernel) rfl
theorem tw_614 : (Jvm.Cond.methodLink "BallastTrainLaw" (57 : Nat) ({ cls := "BallastTrain", name := "pass", desc := "(I)I" } : Jvm.MethodName)) ∈ tb := tb_mem 614 (by decide +kernel) rfl
theorem tw_615 : (Jvm.Cond.instanceMethod ({ cls := "BallastTrain", name := "pass", desc := "(I)I" } : Jvm.MethodName)) ∈ tb := tb_mem 615 (by decide +kernel) rfl
theorem tw_616 : (Jvm.Cond.selects "BallastTrain" ({ cls := "BallastTrain", name := "pass", desc := "(I)I" } : Jvm.MethodName) ({ cls := "BallastTrain", name := "pass", desc := "(I)I" } : Jvm.MethodName)) ∈ tb := tb_mem 616 (by decide +kernel) rfl
theorem tw_617 : (Jvm.Cond.code ({ cls := "BallastTrain", name := "pass", desc := "(I)I" } : Jvm.MethodName) prog_1_method_12_code (3 : Nat) (Option.some Jvm.ClassFile.FieldType.int)) ∈ tb := tb_mem 617 (by decide +kernel) rfl
theorem tw_618 : (Jvm.Cond.methodLink "BallastTrain" (133 : Nat) ({ cls := "BallastTrain$State", name := "passSecond", desc := "()V" } : Jvm.MethodName)) ∈ tb := tb_mem 618 (by decide +kernel) rfl
theorem tw_619 : (Jvm.Cond.instanceMethod ({ cls := "BallastTrain$State", name := "passSecond", desc := "()V" } : Jvm.MethodName)) ∈ tb := tb_mem 619 (by decide +kernel) rfl
theorem tw_620 : (Jvm.Cond.selects "BallastTrain$State" ({ cls := "BallastTrain$State", name := "passSecond", desc := "()V" } : Jvm.MethodName) ({ cls := "BallastTrain$State", name := "passSecond", desc := "()V" } : Jvm.MethodName)) ∈ tb := tb_mem 620 (by decide +kernel) rfl
theorem tw_621 : (Jvm.Cond.code ({ cls := "BallastTrain$State", name := "passSecond", desc := "()V" } : Jvm.MethodName) prog_4_method_3_code (1 : Nat) (Option.none : Option Jvm.ClassFile.FieldType)) ∈ tb := tb_mem 621 (by decide +kernel) rfl
theorem tw_622 : (Jvm.Cond.methodLink "BallastTrain$State" (70 : Nat) ({ cls := "BallastTrain$Train", name := "move", desc := "()V" } : Jvm.MethodName)) ∈ tb := tb_mem 622 (by decide +kernel) rfl
theorem tw_623 : (Jvm.Cond.instanceMethod ({ cls := "BallastTrain$Train", name := "move", desc := "()V" } : Jvm.MethodName)) ∈ tb := tb_mem 623 (by decide +kernel) rfl
theorem tw_624 : (Jvm.Cond.selects "BallastTrain$Train" ({ cls := "BallastTrain$Train", name := "move", desc := "()V" } : Jvm.MethodName) ({ cls := "BallastTrain$Train", name := "move", desc := "()V" } : Jvm.MethodName)) ∈ tb := tb_mem 624 (by decide +kernel) rfl
theorem tw_625 : (Jvm.Cond.code ({ cls := "BallastTrain$Train", name := "move", desc := "()V" } : Jvm.MethodName) prog_7_method_14_code (1 : Nat) (Option.none : Option Jvm.ClassFile.FieldType)) ∈ tb := tb_mem 625 (by decide +kernel) rfl
theorem tw_626 : (Jvm.Cond.methodLink "BallastTrain$Train" (62 : Nat) ({ cls := "java/lang/Math", name := "min", desc := "(II)I" } : Jvm.MethodName)) ∈ tb := tb_mem 626 (by decide +kernel) rfl
theorem tw_627 : (Jvm.Cond.methodLink "BallastTrain$State" (73 : Nat) ({ cls := "BallastTrain$State", name := "carryOutOrders", desc := "()V" } : Jvm.MethodName)) ∈ tb := tb_mem 627 (by decide +kernel) rfl
theorem tw_629 : (Jvm.Cond.instanceMethod ({ cls := "BallastTrain$State", name := "carryOutOrders", desc := "()V" } : Jvm.MethodName)) ∈ tb := tb_mem 629 (by decide +kernel) rfl
theorem tw_630 : (Jvm.Cond.code ({ cls := "BallastTrain$State", name := "carryOutOrders", desc := "()V" } : Jvm.MethodName) prog_4_method_7_code (4 : Nat) (Option.none : Option Jvm.ClassFile.FieldType)) ∈ tb := tb_mem 630 (by decide +kernel) rfl
theorem tw_631 : (Jvm.Cond.methodLink "BallastTrain$State" (111 : Nat) ({ cls := "java/util/ArrayList", name := "size", desc := "()I" } : Jvm.MethodName)) ∈ tb := tb_mem 631 (by decide +kernel) rfl
theorem tw_632 : (Jvm.Cond.methodLink "BallastTrain$State" (115 : Nat) ({ cls := "java/util/ArrayList", name := "get", desc := "(I)Ljava/lang/Object;" } : Jvm.MethodName)) ∈ tb := tb_mem 632 (by decide +kernel) rfl
theorem tw_633 : (Jvm.Cond.classLink "BallastTrain$State" (119 : Nat) "BallastTrain$Order") ∈ tb := tb_mem 633 (by decide +kernel) rfl
theorem tw_634 : (Jvm.Cond.methodLink "BallastTrain$State" (121 : Nat) ({ cls := "BallastTrain$Order", name := "isDue", desc := "(LBallastTrain$Train;)Z" } : Jvm.MethodName)) ∈ tb := tb_mem 634 (by decide +kernel) rfl
theorem tw_635 : (Jvm.Cond.instanceMethod ({ cls := "BallastTrain$Order", name := "isDue", desc := "(LBallastTrain$Train;)Z" } : Jvm.MethodName)) ∈ tb := tb_mem 635 (by decide +kernel) rfl
theorem tw_636 : (Jvm.Cond.selects "BallastTrain$Order" ({ cls := "BallastTrain$Order", name := "isDue", desc := "(LBallastTrain$Train;)Z" } : Jvm.MethodName) ({ cls := "BallastTrain$Order", name := "isDue", desc := "(LBallastTrain$Train;)Z" } : Jvm.MethodName)) ∈ tb := tb_mem 636 (by decide +kernel) rfl
theorem tw_637 : (Jvm.Cond.code ({ cls := "BallastTrain$Order", name := "isDue", desc := "(LBallastTrain$Train;)Z" } : Jvm.MethodName) prog_3_method_3_code (2 : Nat) (Option.some Jvm.ClassFile.FieldType.boolean)) ∈ tb := tb_mem 637 (by decide +kernel) rfl
theorem tw_638 : (Jvm.Cond.methodLink "BallastTrain$Order" (32 : Nat) ({ cls := "BallastTrain$Train", name := "hasDoor", desc := "(II)Z" } : Jvm.MethodName)) ∈ tb := tb_mem 638 (by decide +kernel) rfl
theorem tw_639 : (Jvm.Cond.methodLink "BallastTrain$Order" (36 : Nat) ({ cls := "BallastTrain$Train", name := "cellBelow", desc := "(I)I" } : Jvm.MethodName)) ∈ tb := tb_mem 639 (by decide +kernel) rfl
theorem tw_640 : (Jvm.Cond.instanceMethod ({ cls := "BallastTrain$Train", name := "cellBelow", desc := "(I)I" } : Jvm.MethodName)) ∈ tb := tb_mem 640 (by decide +kernel) rfl
theorem tw_641 : (Jvm.Cond.selects "BallastTrain$Train" ({ cls := "BallastTrain$Train", name := "cellBelow", desc := "(I)I" } : Jvm.MethodName) ({ cls := "BallastTrain$Train", name := "cellBelow", desc := "(I)I" } : Jvm.MethodName)) ∈ tb := tb_mem 641 (by decide +kernel) rfl
theorem tw_642 : (Jvm.Cond.code ({ cls := "BallastTrain$Train", name := "cellBelow", desc := "(I)I" } : Jvm.MethodName) prog_7_method_8_code (2 : Nat) (Option.some Jvm.ClassFile.FieldType.int)) ∈ tb := tb_mem 642 (by decide +kernel) rfl
theorem tw_643 : (Jvm.Cond.methodLink "BallastTrain$State" (125 : Nat) ({ cls := "BallastTrain$Order", name := "carryOut", desc := "(LBallastTrain$Train;I)V" } : Jvm.MethodName)) ∈ tb := tb_mem 643 (by decide +kernel) rfl
theorem tw_644 : (Jvm.Cond.instanceMethod ({ cls := "BallastTrain$Order", name := "carryOut", desc := "(LBallastTrain$Train;I)V" } : Jvm.MethodName)) ∈ tb := tb_mem 644 (by decide +kernel) rfl
theorem tw_645 : (Jvm.Cond.selects "BallastTrain$Order" ({ cls := "BallastTrain$Order", name := "carryOut", desc := "(LBallastTrain$Train;I)V" } : Jvm.MethodName) ({ cls := "BallastTrain$Order", name := "carryOut", desc := "(LBallastTrain$Train;I)V" } : Jvm.MethodName)) ∈ tb := tb_mem 645 (by decide +kernel) rfl
theorem tw_646 : (Jvm.Cond.code ({ cls := "BallastTrain$Order", name := "carryOut", desc := "(LBallastTrain$Train;I)V" } : Jvm.MethodName) prog_3_method_4_code (3 : Nat) (Option.none : Option Jvm.ClassFile.FieldType)) ∈ tb := tb_mem 646 (by decide +kernel) rfl
theorem tw_647 : (Jvm.Cond.methodLink "BallastTrain$Order" (43 : Nat) ({ cls := "BallastTrain$Train", name := "openDoor", desc := "(III)V" } : Jvm.MethodName)) ∈ tb := tb_mem 647 (by decide +kernel) rfl
theorem tw_648 : (Jvm.Cond.methodLink "BallastTrain$Order" (47 : Nat) ({ cls := "BallastTrain$Train", name := "closeDoor", desc := "(III)V" } : Jvm.MethodName)) ∈ tb := tb_mem 648 (by decide +kernel) rfl
theorem tw_649 : (Jvm.Cond.methodLink "BallastTrain$State" (129 : Nat) ({ cls := "java/util/ArrayList", name := "set", desc := "(ILjava/lang/Object;)Ljava/lang/Object;" } : Jvm.MethodName)) ∈ tb := tb_mem 649 (by decide +kernel) rfl
theorem tw_650 : (Jvm.Cond.instanceMethod ({ cls := "java/util/ArrayList", name := "set", desc := "(ILjava/lang/Object;)Ljava/lang/Object;" } : Jvm.MethodName)) ∈ tb := tb_mem 650 (by decide +kernel) rfl
theorem tw_651 : (Jvm.Cond.selects "java/util/ArrayList" ({ cls := "java/util/ArrayList", name := "set", desc := "(ILjava/lang/Object;)Ljava/lang/Object;" } : Jvm.MethodName) ({ cls := "java/util/ArrayList", name := "set", desc := "(ILjava/lang/Object;)Ljava/lang/Object;" } : Jvm.MethodName)) ∈ tb := tb_mem 651 (by decide +kernel) rfl
theorem tw_652 : (Jvm.Cond.code ({ cls := "java/util/ArrayList", name := "set", desc := "(ILjava/lang/Object;)Ljava/lang/Object;" } : Jvm.MethodName) prog_25_method_23_code (4 : Nat) (Option.some (Jvm.ClassFile.FieldType.object "java/lang/Object"))) ∈ tb := tb_mem 652 (by decide +kernel) rfl
theorem tw_653 : (Jvm.Cond.methodLink "BallastTrain$State" (133 : Nat) ({ cls := "java/util/ArrayList", name := "remove", desc := "(I)Ljava/lang/Object;" } : Jvm.MethodName)) ∈ tb := tb_mem 653 (by decide +kernel) rfl
theorem tw_654 : (Jvm.Cond.methodLink "BallastTrain$State" (76 : Nat) ({ cls := "BallastTrain$State", name := "unload", desc := "()V" } : Jvm.MethodName)) ∈ tb := tb_mem 654 (by decide +kernel) rfl
theorem tw_656 : (Jvm.Cond.instanceMethod ({ cls := "BallastTrain$State", name := "unload", desc := "()V" } : Jvm.MethodName)) ∈ tb := tb_mem 656 (by decide +kernel) rfl
theorem tw_657 : (Jvm.Cond.code ({ cls := "BallastTrain$State", name := "unload", desc := "()V" } : Jvm.MethodName) prog_4_method_5_code (3 : Nat) (Option.none : Option Jvm.ClassFile.FieldType)) ∈ tb := tb_mem 657 (by decide +kernel) rfl
theorem tw_658 : (Jvm.Cond.methodLink "BallastTrain$State" (93 : Nat) ({ cls := "BallastTrain$Train", name := "cellBelow", desc := "(I)I" } : Jvm.MethodName)) ∈ tb := tb_mem 658 (by decide +kernel) rfl
theorem tw_659 : (Jvm.Cond.methodLink "BallastTrain$State" (96 : Nat) ({ cls := "BallastTrain$Train", name := "drop", desc := "(II)I" } : Jvm.MethodName)) ∈ tb := tb_mem 659 (by decide +kernel) rfl
theorem tw_660 : (Jvm.Cond.instanceMethod ({ cls := "BallastTrain$Train", name := "drop", desc := "(II)I" } : Jvm.MethodName)) ∈ tb := tb_mem 660 (by decide +kernel) rfl
theorem tw_661 : (Jvm.Cond.selects "BallastTrain$Train" ({ cls := "BallastTrain$Train", name := "drop", desc := "(II)I" } : Jvm.MethodName) ({ cls := "BallastTrain$Train", name := "drop", desc := "(II)I" } : Jvm.MethodName)) ∈ tb := tb_mem 661 (by decide +kernel) rfl
theorem tw_662 : (Jvm.Cond.code ({ cls := "BallastTrain$Train", name := "drop", desc := "(II)I" } : Jvm.MethodName) prog_7_method_15_code (4 : Nat) (Option.some Jvm.ClassFile.FieldType.int)) ∈ tb := tb_mem 662 (by decide +kernel) rfl
theorem tw_663 : (Jvm.Cond.methodLink "BallastTrain$State" (100 : Nat) ({ cls := "BallastTrain$State", name := "land", desc := "(III)V" } : Jvm.MethodName)) ∈ tb := tb_mem 663 (by decide +kernel) rfl
theorem tw_665 : (Jvm.Cond.instanceMethod ({ cls := "BallastTrain$State", name := "land", desc := "(III)V" } : Jvm.MethodName)) ∈ tb := tb_mem 665 (by decide +kernel) rfl
theorem tw_666 : (Jvm.Cond.code ({ cls := "BallastTrain$State", name := "land", desc := "(III)V" } : Jvm.MethodName) prog_4_method_6_code (4 : Nat) (Option.none : Option Jvm.ClassFile.FieldType)) ∈ tb := tb_mem 666 (by decide +kernel) rfl
theorem tw_667 : (Jvm.Cond.methodLink "BallastTrain$State" (104 : Nat) ({ cls := "BallastTrain$Track", name := "has", desc := "(II)Z" } : Jvm.MethodName)) ∈ tb := tb_mem 667 (by decide +kernel) rfl
theorem tw_668 : (Jvm.Cond.static ({ cls := "BallastTrain$Track", name := "has", desc := "(II)Z" } : Jvm.MethodName)) ∈ tb := tb_mem 668 (by decide +kernel) rfl
theorem tw_669 : (Jvm.Cond.code ({ cls := "BallastTrain$Track", name := "has", desc := "(II)Z" } : Jvm.MethodName) prog_6_method_2_code (2 : Nat) (Option.some Jvm.ClassFile.FieldType.boolean)) ∈ tb := tb_mem 669 (by decide +kernel) rfl
theorem tw_670 : (Jvm.Cond.methodLink "BallastTrain$State" (108 : Nat) ({ cls := "BallastTrain$Track", name := "add", desc := "(III)V" } : Jvm.MethodName)) ∈ tb := tb_mem 670 (by decide +kernel) rfl
theorem tw_671 : (Jvm.Cond.instanceMethod ({ cls := "BallastTrain$Track", name := "add", desc := "(III)V" } : Jvm.MethodName)) ∈ tb := tb_mem 671 (by decide +kernel) rfl
theorem tw_672 : (Jvm.Cond.selects "BallastTrain$Track" ({ cls := "BallastTrain$Track", name := "add", desc := "(III)V" } : Jvm.MethodName) ({ cls := "BallastTrain$Track", name := "add", desc := "(III)V" } : Jvm.MethodName)) ∈ tb := tb_mem 672 (by decide +kernel) rfl
theorem tw_673 : (Jvm.Cond.code ({ cls := "BallastTrain$Track", name := "add", desc := "(III)V" } : Jvm.MethodName) prog_6_method_4_code (4 : Nat) (Option.none : Option Jvm.ClassFile.FieldType)) ∈ tb := tb_mem 673 (by decide +kernel) rfl
theorem tw_674 : (Jvm.Cond.methodLink "BallastTrain$Track" (15 : Nat) ({ cls := "BallastTrain$Track", name := "has", desc := "(II)Z" } : Jvm.MethodName)) ∈ tb := tb_mem 674 (by decide +kernel) rfl
theorem tw_675 : (Jvm.Cond.methodLink "BallastTrain$State" (79 : Nat) ({ cls := "BallastTrain$Track", name := "slide", desc := "(I)V" } : Jvm.MethodName)) ∈ tb := tb_mem 675 (by decide +kernel) rfl
theorem tw_676 : (Jvm.Cond.instanceMethod ({ cls := "BallastTrain$Track", name := "slide", desc := "(I)V" } : Jvm.MethodName)) ∈ tb := tb_mem 676 (by decide +kernel) rfl
theorem tw_677 : (Jvm.Cond.selects "BallastTrain$Track" ({ cls := "BallastTrain$Track", name := "slide", desc := "(I)V" } : Jvm.MethodName) ({ cls := "BallastTrain$Track", name := "slide", desc := "(I)V" } : Jvm.MethodName)) ∈ tb := tb_mem 677 (by decide +kernel) rfl
theorem tw_678 : (Jvm.Cond.code ({ cls := "BallastTrain$Track", name := "slide", desc := "(I)V" } : Jvm.MethodName) prog_6_method_5_code (4 : Nat) (Option.none : Option Jvm.ClassFile.FieldType)) ∈ tb := tb_mem 678 (by decide +kernel) rfl
theorem tw_679 : (Jvm.Cond.methodLink "BallastTrain$State" (83 : Nat) ({ cls := "BallastTrain$Track", name := "cutShoulders", desc := "(I)I" } : Jvm.MethodName)) ∈ tb := tb_mem 679 (by decide +kernel) rfl
theorem tw_680 : (Jvm.Cond.instanceMethod ({ cls := "BallastTrain$Track", name := "cutShoulders", desc := "(I)I" } : Jvm.MethodName)) ∈ tb := tb_mem 680 (by decide +kernel) rfl
theorem tw_681 : (Jvm.Cond.selects "BallastTrain$Track" ({ cls := "BallastTrain$Track", name := "cutShoulders", desc := "(I)I" } : Jvm.MethodName) ({ cls := "BallastTrain$Track", name := "cutShoulders", desc := "(I)I" } : Jvm.MethodName)) ∈ tb := tb_mem 681 (by decide +kernel) rfl
theorem tw_682 : (Jvm.Cond.code ({ cls := "BallastTrain$Track", name := "cutShoulders", desc := "(I)I" } : Jvm.MethodName) prog_6_method_6_code (5 : Nat) (Option.some Jvm.ClassFile.FieldType.int)) ∈ tb := tb_mem 682 (by decide +kernel) rfl
theorem tw_683 : (Jvm.Cond.methodLink "BallastTrain$State" (87 : Nat) ({ cls := "BallastTrain$Train", name := "closeFurther", desc := "(I)I" } : Jvm.MethodName)) ∈ tb := tb_mem 683 (by decide +kernel) rfl
theorem tw_684 : (Jvm.Cond.instanceMethod ({ cls := "BallastTrain$Train", name := "closeFurther", desc := "(I)I" } : Jvm.MethodName)) ∈ tb := tb_mem 684 (by decide +kernel) rfl
theorem tw_685 : (Jvm.Cond.selects "BallastTrain$Train" ({ cls := "BallastTrain$Train", name := "closeFurther", desc := "(I)I" } : Jvm.MethodName) ({ cls := "BallastTrain$Train", name := "closeFurther", desc := "(I)I" } : Jvm.MethodName)) ∈ tb := tb_mem 685 (by decide +kernel) rfl
theorem tw_686 : (Jvm.Cond.code ({ cls := "BallastTrain$Train", name := "closeFurther", desc := "(I)I" } : Jvm.MethodName) prog_7_method_16_code (5 : Nat) (Option.some Jvm.ClassFile.FieldType.int)) ∈ tb := tb_mem 686 (by decide +kernel) rfl
theorem tw_687 : (Jvm.Cond.methodLink "BallastTrainLaw" (61 : Nat) ({ cls := "BallastTrain", name := "scrape", desc := "(III)I" } : Jvm.MethodName)) ∈ tb := tb_mem 687 (by decide +kernel) rfl
theorem tw_688 : (Jvm.Cond.instanceMethod ({ cls := "BallastTrain", name := "scrape", desc := "(III)I" } : Jvm.MethodName)) ∈ tb := tb_mem 688 (by decide +kernel) rfl
theorem tw_689 : (Jvm.Cond.selects "BallastTrain" ({ cls := "BallastTrain", name := "scrape", desc := "(III)I" } : Jvm.MethodName) ({ cls := "BallastTrain", name := "scrape", desc := "(III)I" } : Jvm.MethodName)) ∈ tb := tb_mem 689 (by decide +kernel) rfl
theorem tw_690 : (Jvm.Cond.code ({ cls := "BallastTrain", name := "scrape", desc := "(III)I" } : Jvm.MethodName) prog_1_method_13_code (5 : Nat) (Option.some Jvm.ClassFile.FieldType.int)) ∈ tb := tb_mem 690 (by decide +kernel) rfl
theorem tw_691 : (Jvm.Cond.methodLink "BallastTrain" (139 : Nat) ({ cls := "BallastTrain$Track", name := "has", desc := "(II)Z" } : Jvm.MethodName)) ∈ tb := tb_mem 691 (by decide +kernel) rfl
theorem tw_692 : (Jvm.Cond.methodLink "BallastTrain" (148 : Nat) ({ cls := "BallastTrain$Track", name := "heightAt", desc := "(II)I" } : Jvm.MethodName)) ∈ tb := tb_mem 692 (by decide +kernel) rfl
theorem tw_693 : (Jvm.Cond.instanceMethod ({ cls := "BallastTrain$Track", name := "heightAt", desc := "(II)I" } : Jvm.MethodName)) ∈ tb := tb_mem 693 (by decide +kernel) rfl
theorem tw_694 : (Jvm.Cond.selects "BallastTrain$Track" ({ cls := "BallastTrain$Track", name := "heightAt", desc := "(II)I" } : Jvm.MethodName) ({ cls := "BallastTrain$Track", name := "heightAt", desc := "(II)I" } : Jvm.MethodName)) ∈ tb := tb_mem 694 (by decide +kernel) rfl
theorem tw_695 : (Jvm.Cond.code ({ cls := "BallastTrain$Track", name := "heightAt", desc := "(II)I" } : Jvm.MethodName) prog_6_method_3_code (3 : Nat) (Option.some Jvm.ClassFile.FieldType.int)) ∈ tb := tb_mem 695 (by decide +kernel) rfl
theorem tw_696 : (Jvm.Cond.methodLink "BallastTrain" (156 : Nat) ({ cls := "BallastTrain$Track", name := "add", desc := "(III)V" } : Jvm.MethodName)) ∈ tb := tb_mem 696 (by decide +kernel) rfl
theorem tw_697 : (Jvm.Cond.methodLink "BallastTrainLaw" (65 : Nat) ({ cls := "BallastTrain", name := "undo", desc := "()I" } : Jvm.MethodName)) ∈ tb := tb_mem 697 (by decide +kernel) rfl
theorem tw_698 : (Jvm.Cond.instanceMethod ({ cls := "BallastTrain", name := "undo", desc := "()I" } : Jvm.MethodName)) ∈ tb := tb_mem 698 (by decide +kernel) rfl
theorem tw_699 : (Jvm.Cond.selects "BallastTrain" ({ cls := "BallastTrain", name := "undo", desc := "()I" } : Jvm.MethodName) ({ cls := "BallastTrain", name := "undo", desc := "()I" } : Jvm.MethodName)) ∈ tb := tb_mem 699 (by decide +kernel) rfl
theorem tw_700 : (Jvm.Cond.code ({ cls := "BallastTrain", name := "undo", desc := "()I" } : Jvm.MethodName) prog_1_method_14_code (1 : Nat) (Option.some Jvm.ClassFile.FieldType.int)) ∈ tb := tb_mem 700 (by decide +kernel) rfl
theorem tw_701 : (Jvm.Cond.methodLink "BallastTrain" (161 : Nat) ({ cls := "BallastTrain$History", name := "restore", desc := "(LBallastTrain$State;)V" } : Jvm.MethodName)) ∈ tb := tb_mem 701 (by decide +kernel) rfl
theorem tw_702 : (Jvm.Cond.instanceMethod ({ cls := "BallastTrain$History", name := "restore", desc := "(LBallastTrain$State;)V" } : Jvm.MethodName)) ∈ tb := tb_mem 702 (by decide +kernel) rfl
theorem tw_703 : (Jvm.Cond.selects "BallastTrain$History" ({ cls := "BallastTrain$History", name := "restore", desc := "(LBallastTrain$State;)V" } : Jvm.MethodName) ({ cls := "BallastTrain$History", name := "restore", desc := "(LBallastTrain$State;)V" } : Jvm.MethodName)) ∈ tb := tb_mem 703 (by decide +kernel) rfl
theorem tw_704 : (Jvm.Cond.code ({ cls := "BallastTrain$History", name := "restore", desc := "(LBallastTrain$State;)V" } : Jvm.MethodName) prog_2_method_3_code (2 : Nat) (Option.none : Option Jvm.ClassFile.FieldType)) ∈ tb := tb_mem 704 (by decide +kernel) rfl
theorem tw_705 : (Jvm.Cond.methodLink "BallastTrainLaw" (69 : Nat) ({ cls := "BallastTrain", name := "wagon", desc := "(II)I" } : Jvm.MethodName)) ∈ tb := tb_mem 705 (by decide +kernel) rfl
theorem tw_706 : (Jvm.Cond.instanceMethod ({ cls := "BallastTrain", name := "wagon", desc := "(II)I" } : Jvm.MethodName)) ∈ tb := tb_mem 706 (by decide +kernel) rfl
theorem tw_707 : (Jvm.Cond.selects "BallastTrain" ({ cls := "BallastTrain", name := "wagon", desc := "(II)I" } : Jvm.MethodName) ({ cls := "BallastTrain", name := "wagon", desc := "(II)I" } : Jvm.MethodName)) ∈ tb := tb_mem 707 (by decide +kernel) rfl
theorem tw_708 : (Jvm.Cond.code ({ cls := "BallastTrain", name := "wagon", desc := "(II)I" } : Jvm.MethodName) prog_1_method_15_code (3 : Nat) (Option.some Jvm.ClassFile.FieldType.int)) ∈ tb := tb_mem 708 (by decide +kernel) rfl
theorem tw_709 : (Jvm.Cond.methodLink "BallastTrain" (164 : Nat) ({ cls := "BallastTrain$Train", name := "cellBelow", desc := "(I)I" } : Jvm.MethodName)) ∈ tb := tb_mem 709 (by decide +kernel) rfl
theorem tw_710 : (Jvm.Cond.methodLink "BallastTrain" (168 : Nat) ({ cls := "BallastTrain$Train", name := "sumOfLevels", desc := "(I)I" } : Jvm.MethodName)) ∈ tb := tb_mem 710 (by decide +kernel) rfl
theorem tw_711 : (Jvm.Cond.instanceMethod ({ cls := "BallastTrain$Train", name := "sumOfLevels", desc := "(I)I" } : Jvm.MethodName)) ∈ tb := tb_mem 711 (by decide +kernel) rfl
theorem tw_712 : (Jvm.Cond.selects "BallastTrain$Train" ({ cls := "BallastTrain$Train", name := "sumOfLevels", desc := "(I)I" } : Jvm.MethodName) ({ cls := "BallastTrain$Train", name := "sumOfLevels", desc := "(I)I" } : Jvm.MethodName)) ∈ tb := tb_mem 712 (by decide +kernel) rfl
theorem tw_713 : (Jvm.Cond.code ({ cls := "BallastTrain$Train", name := "sumOfLevels", desc := "(I)I" } : Jvm.MethodName) prog_7_method_10_code (4 : Nat) (Option.some Jvm.ClassFile.FieldType.int)) ∈ tb := tb_mem 713 (by decide +kernel) rfl
theorem tw_714 : (Jvm.Cond.methodLink "BallastTrain$Train" (55 : Nat) ({ cls := "BallastTrain$Train", name := "levelOf", desc := "(II)I" } : Jvm.MethodName)) ∈ tb := tb_mem 714 (by decide +kernel) rfl
theorem tw_715 : (Jvm.Cond.methodLink "BallastTrain" (171 : Nat) ({ cls := "BallastTrain$Train", name := "closingDoors", desc := "(I)I" } : Jvm.MethodName)) ∈ tb := tb_mem 715 (by decide +kernel) rfl
theorem tw_716 : (Jvm.Cond.instanceMethod ({ cls := "BallastTrain$Train", name := "closingDoors", desc := "(I)I" } : Jvm.MethodName)) ∈ tb := tb_mem 716 (by decide +kernel) rfl
theorem tw_717 : (Jvm.Cond.selects "BallastTrain$Train" ({ cls := "BallastTrain$Train", name := "closingDoors", desc := "(I)I" } : Jvm.MethodName) ({ cls := "BallastTrain$Train", name := "closingDoors", desc := "(I)I" } : Jvm.MethodName)) ∈ tb := tb_mem 717 (by decide +kernel) rfl
theorem tw_718 : (Jvm.Cond.code ({ cls := "BallastTrain$Train", name := "closingDoors", desc := "(I)I" } : Jvm.MethodName) prog_7_method_11_code (4 : Nat) (Option.some Jvm.ClassFile.FieldType.int)) ∈ tb := tb_mem 718 (by decide +kernel) rfl
theorem tw_719 : (Jvm.Cond.methodLink "BallastTrain$Train" (59 : Nat) ({ cls := "BallastTrain$Train", name := "restOf", desc := "(II)I" } : Jvm.MethodName)) ∈ tb := tb_mem 719 (by decide +kernel) rfl
theorem tw_720 : (Jvm.Cond.instanceMethod ({ cls := "BallastTrain$Train", name := "restOf", desc := "(II)I" } : Jvm.MethodName)) ∈ tb := tb_mem 720 (by decide +kernel) rfl
theorem tw_721 : (Jvm.Cond.selects "BallastTrain$Train" ({ cls := "BallastTrain$Train", name := "restOf", desc := "(II)I" } : Jvm.MethodName) ({ cls := "BallastTrain$Train", name := "restOf", desc := "(II)I" } : Jvm.MethodName)) ∈ tb := tb_mem 721 (by decide +kernel) rfl
theorem tw_722 : (Jvm.Cond.code ({ cls := "BallastTrain$Train", name := "restOf", desc := "(II)I" } : Jvm.MethodName) prog_7_method_7_code (3 : Nat) (Option.some Jvm.ClassFile.FieldType.int)) ∈ tb := tb_mem 722 (by decide +kernel) rfl
theorem tw_723 : (Jvm.Cond.methodLink "BallastTrainLaw" (73 : Nat) ({ cls := "BallastTrain", name := "doorOf", desc := "(III)I" } : Jvm.MethodName)) ∈ tb := tb_mem 723 (by decide +kernel) rfl
theorem tw_724 : (Jvm.Cond.instanceMethod ({ cls := "BallastTrain", name := "doorOf", desc := "(III)I" } : Jvm.MethodName)) ∈ tb := tb_mem 724 (by decide +kernel) rfl
theorem tw_725 : (Jvm.Cond.selects "BallastTrain" ({ cls := "BallastTrain", name := "doorOf", desc := "(III)I" } : Jvm.MethodName) ({ cls := "BallastTrain", name := "doorOf", desc := "(III)I" } : Jvm.MethodName)) ∈ tb := tb_mem 725 (by decide +kernel) rfl
theorem tw_726 : (Jvm.Cond.code ({ cls := "BallastTrain", name := "doorOf", desc := "(III)I" } : Jvm.MethodName) prog_1_method_16_code (4 : Nat) (Option.some Jvm.ClassFile.FieldType.int)) ∈ tb := tb_mem 726 (by decide +kernel) rfl
theorem tw_727 : (Jvm.Cond.methodLink "BallastTrain" (177 : Nat) ({ cls := "BallastTrain$Train", name := "restOf", desc := "(II)I" } : Jvm.MethodName)) ∈ tb := tb_mem 727 (by decide +kernel) rfl
theorem tw_728 : (Jvm.Cond.methodLink "BallastTrainLaw" (77 : Nat) ({ cls := "BallastTrain", name := "height", desc := "(II)I" } : Jvm.MethodName)) ∈ tb := tb_mem 728 (by decide +kernel) rfl
theorem tw_729 : (Jvm.Cond.instanceMethod ({ cls := "BallastTrain", name := "height", desc := "(II)I" } : Jvm.MethodName)) ∈ tb := tb_mem 729 (by decide +kernel) rfl
theorem tw_730 : (Jvm.Cond.selects "BallastTrain" ({ cls := "BallastTrain", name := "height", desc := "(II)I" } : Jvm.MethodName) ({ cls := "BallastTrain", name := "height", desc := "(II)I" } : Jvm.MethodName)) ∈ tb := tb_mem 730 (by decide +kernel) rfl
theorem tw_731 : (Jvm.Cond.code ({ cls := "BallastTrain", name := "height", desc := "(II)I" } : Jvm.MethodName) prog_1_method_17_code (3 : Nat) (Option.some Jvm.ClassFile.FieldType.int)) ∈ tb := tb_mem 731 (by decide +kernel) rfl
theorem tw_732 : (Jvm.Cond.methodLink "BallastTrainLaw" (81 : Nat) ({ cls := "BallastTrain", name := "profile", desc := "(II)I" } : Jvm.MethodName)) ∈ tb := tb_mem 732 (by decide +kernel) rfl
theorem tw_733 : (Jvm.Cond.instanceMethod ({ cls := "BallastTrain", name := "profile", desc := "(II)I" } : Jvm.MethodName)) ∈ tb := tb_mem 733 (by decide +kernel) rfl
theorem tw_734 : (Jvm.Cond.selects "BallastTrain" ({ cls := "BallastTrain", name := "profile", desc := "(II)I" } : Jvm.MethodName) ({ cls := "BallastTrain", name := "profile", desc := "(II)I" } : Jvm.MethodName)) ∈ tb := tb_mem 734 (by decide +kernel) rfl
theorem tw_735 : (Jvm.Cond.code ({ cls := "BallastTrain", name := "profile", desc := "(II)I" } : Jvm.MethodName) prog_1_method_18_code (3 : Nat) (Option.some Jvm.ClassFile.FieldType.int)) ∈ tb := tb_mem 735 (by decide +kernel) rfl
theorem tw_736 : (Jvm.Cond.methodLink "BallastTrain" (180 : Nat) ({ cls := "BallastTrain$Track", name := "sumOn", desc := "(I)I" } : Jvm.MethodName)) ∈ tb := tb_mem 736 (by decide +kernel) rfl
theorem tw_737 : (Jvm.Cond.instanceMethod ({ cls := "BallastTrain$Track", name := "sumOn", desc := "(I)I" } : Jvm.MethodName)) ∈ tb := tb_mem 737 (by decide +kernel) rfl
theorem tw_738 : (Jvm.Cond.selects "BallastTrain$Track" ({ cls := "BallastTrain$Track", name := "sumOn", desc := "(I)I" } : Jvm.MethodName) ({ cls := "BallastTrain$Track", name := "sumOn", desc := "(I)I" } : Jvm.MethodName)) ∈ tb := tb_mem 738 (by decide +kernel) rfl
theorem tw_739 : (Jvm.Cond.code ({ cls := "BallastTrain$Track", name := "sumOn", desc := "(I)I" } : Jvm.MethodName) prog_6_method_8_code (4 : Nat) (Option.some Jvm.ClassFile.FieldType.int)) ∈ tb := tb_mem 739 (by decide +kernel) rfl
theorem tw_740 : (Jvm.Cond.methodLink "BallastTrain$Track" (23 : Nat) ({ cls := "BallastTrain$Track", name := "heightAt", desc := "(II)I" } : Jvm.MethodName)) ∈ tb := tb_mem 740 (by decide +kernel) rfl
theorem tw_741 : (Jvm.Cond.methodLink "BallastTrain" (183 : Nat) ({ cls := "BallastTrain$Track", name := "greatestOn", desc := "(I)I" } : Jvm.MethodName)) ∈ tb := tb_mem 741 (by decide +kernel) rfl
theorem tw_742 : (Jvm.Cond.instanceMethod ({ cls := "BallastTrain$Track", name := "greatestOn", desc := "(I)I" } : Jvm.MethodName)) ∈ tb := tb_mem 742 (by decide +kernel) rfl
theorem tw_743 : (Jvm.Cond.selects "BallastTrain$Track" ({ cls := "BallastTrain$Track", name := "greatestOn", desc := "(I)I" } : Jvm.MethodName) ({ cls := "BallastTrain$Track", name := "greatestOn", desc := "(I)I" } : Jvm.MethodName)) ∈ tb := tb_mem 743 (by decide +kernel) rfl
theorem tw_744 : (Jvm.Cond.code ({ cls := "BallastTrain$Track", name := "greatestOn", desc := "(I)I" } : Jvm.MethodName) prog_6_method_9_code (2 : Nat) (Option.some Jvm.ClassFile.FieldType.int)) ∈ tb := tb_mem 744 (by decide +kernel) rfl
theorem tw_745 : (Jvm.Cond.methodLink "BallastTrain$Track" (27 : Nat) ({ cls := "BallastTrain$Track", name := "firstGreatestOn", desc := "(I)I" } : Jvm.MethodName)) ∈ tb := tb_mem 745 (by decide +kernel) rfl
theorem tw_746 : (Jvm.Cond.instanceMethod ({ cls := "BallastTrain$Track", name := "firstGreatestOn", desc := "(I)I" } : Jvm.MethodName)) ∈ tb := tb_mem 746 (by decide +kernel) rfl
theorem tw_747 : (Jvm.Cond.selects "BallastTrain$Track" ({ cls := "BallastTrain$Track", name := "firstGreatestOn", desc := "(I)I" } : Jvm.MethodName) ({ cls := "BallastTrain$Track", name := "firstGreatestOn", desc := "(I)I" } : Jvm.MethodName)) ∈ tb := tb_mem 747 (by decide +kernel) rfl
theorem tw_748 : (Jvm.Cond.code ({ cls := "BallastTrain$Track", name := "firstGreatestOn", desc := "(I)I" } : Jvm.MethodName) prog_6_method_10_code (4 : Nat) (Option.some Jvm.ClassFile.FieldType.int)) ∈ tb := tb_mem 748 (by decide +kernel) rfl
theorem tw_749 : (Jvm.Cond.methodLink "BallastTrain" (186 : Nat) ({ cls := "BallastTrain$Track", name := "firstGreatestOn", desc := "(I)I" } : Jvm.MethodName)) ∈ tb := tb_mem 749 (by decide +kernel) rfl
theorem tw_750 : (Jvm.Cond.methodLink "BallastTrain" (189 : Nat) ({ cls := "BallastTrain$Track", name := "cellsReaching", desc := "(II)I" } : Jvm.MethodName)) ∈ tb := tb_mem 750 (by decide +kernel) rfl
theorem tw_751 : (Jvm.Cond.instanceMethod ({ cls := "BallastTrain$Track", name := "cellsReaching", desc := "(II)I" } : Jvm.MethodName)) ∈ tb := tb_mem 751 (by decide +kernel) rfl
theorem tw_752 : (Jvm.Cond.selects "BallastTrain$Track" ({ cls := "BallastTrain$Track", name := "cellsReaching", desc := "(II)I" } : Jvm.MethodName) ({ cls := "BallastTrain$Track", name := "cellsReaching", desc := "(II)I" } : Jvm.MethodName)) ∈ tb := tb_mem 752 (by decide +kernel) rfl
theorem tw_753 : (Jvm.Cond.code ({ cls := "BallastTrain$Track", name := "cellsReaching", desc := "(II)I" } : Jvm.MethodName) prog_6_method_11_code (5 : Nat) (Option.some Jvm.ClassFile.FieldType.int)) ∈ tb := tb_mem 753 (by decide +kernel) rfl
theorem tw_754 : (Jvm.Cond.methodLink "BallastTrain" (192 : Nat) ({ cls := "BallastTrain$Track", name := "longestRowReaching", desc := "(II)I" } : Jvm.MethodName)) ∈ tb := tb_mem 754 (by decide +kernel) rfl
theorem tw_755 : (Jvm.Cond.instanceMethod ({ cls := "BallastTrain$Track", name := "longestRowReaching", desc := "(II)I" } : Jvm.MethodName)) ∈ tb := tb_mem 755 (by decide +kernel) rfl
theorem tw_756 : (Jvm.Cond.selects "BallastTrain$Track" ({ cls := "BallastTrain$Track", name := "longestRowReaching", desc := "(II)I" } : Jvm.MethodName) ({ cls := "BallastTrain$Track", name := "longestRowReaching", desc := "(II)I" } : Jvm.MethodName)) ∈ tb := tb_mem 756 (by decide +kernel) rfl
theorem tw_757 : (Jvm.Cond.code ({ cls := "BallastTrain$Track", name := "longestRowReaching", desc := "(II)I" } : Jvm.MethodName) prog_6_method_12_code (6 : Nat) (Option.some Jvm.ClassFile.FieldType.int)) ∈ tb := tb_mem 757 (by decide +kernel) rfl
theorem tw_758 : (Jvm.Cond.methodLink "BallastTrain$Track" (31 : Nat) ({ cls := "java/lang/Math", name := "max", desc := "(II)I" } : Jvm.MethodName)) ∈ tb := tb_mem 758 (by decide +kernel) rfl
theorem tw_759 : (Jvm.Cond.methodLink "BallastTrain" (195 : Nat) ({ cls := "BallastTrain$Track", name := "steepestOn", desc := "(I)I" } : Jvm.MethodName)) ∈ tb := tb_mem 759 (by decide +kernel) rfl
theorem tw_760 : (Jvm.Cond.instanceMethod ({ cls := "BallastTrain$Track", name := "steepestOn", desc := "(I)I" } : Jvm.MethodName)) ∈ tb := tb_mem 760 (by decide +kernel) rfl
theorem tw_761 : (Jvm.Cond.selects "BallastTrain$Track" ({ cls := "BallastTrain$Track", name := "steepestOn", desc := "(I)I" } : Jvm.MethodName) ({ cls := "BallastTrain$Track", name := "steepestOn", desc := "(I)I" } : Jvm.MethodName)) ∈ tb := tb_mem 761 (by decide +kernel) rfl
theorem tw_762 : (Jvm.Cond.code ({ cls := "BallastTrain$Track", name := "steepestOn", desc := "(I)I" } : Jvm.MethodName) prog_6_method_13_code (5 : Nat) (Option.some Jvm.ClassFile.FieldType.int)) ∈ tb := tb_mem 762 (by decide +kernel) rfl
theorem tw_763 : (Jvm.Cond.methodLink "BallastTrain$Track" (36 : Nat) ({ cls := "java/lang/Math", name := "abs", desc := "(I)I" } : Jvm.MethodName)) ∈ tb := tb_mem 763 (by decide +kernel) rfl
theorem tw_764 : (Jvm.Cond.static ({ cls := "java/lang/Math", name := "abs", desc := "(I)I" } : Jvm.MethodName)) ∈ tb := tb_mem 764 (by decide +kernel) rfl
theorem tw_766 : (Jvm.Cond.methodLink "BallastTrainLaw" (85 : Nat) ({ cls := "BallastTrain", name := "lacking", desc := "(I)I" } : Jvm.MethodName)) ∈ tb := tb_mem 766 (by decide +kernel) rfl
theorem tw_767 : (Jvm.Cond.instanceMethod ({ cls := "BallastTrain", name := "lacking", desc := "(I)I" } : Jvm.MethodName)) ∈ tb := tb_mem 767 (by decide +kernel) rfl
theorem tw_768 : (Jvm.Cond.selects "BallastTrain" ({ cls := "BallastTrain", name := "lacking", desc := "(I)I" } : Jvm.MethodName) ({ cls := "BallastTrain", name := "lacking", desc := "(I)I" } : Jvm.MethodName)) ∈ tb := tb_mem 768 (by decide +kernel) rfl
theorem tw_769 : (Jvm.Cond.code ({ cls := "BallastTrain", name := "lacking", desc := "(I)I" } : Jvm.MethodName) prog_1_method_19_code (3 : Nat) (Option.some Jvm.ClassFile.FieldType.int)) ∈ tb := tb_mem 769 (by decide +kernel) rfl
theorem tw_770 : (Jvm.Cond.methodLink "BallastTrain" (198 : Nat) ({ cls := "BallastTrain$Track", name := "unitsBelow", desc := "(I)I" } : Jvm.MethodName)) ∈ tb := tb_mem 770 (by decide +kernel) rfl
theorem tw_771 : (Jvm.Cond.instanceMethod ({ cls := "BallastTrain$Track", name := "unitsBelow", desc := "(I)I" } : Jvm.MethodName)) ∈ tb := tb_mem 771 (by decide +kernel) rfl
theorem tw_772 : (Jvm.Cond.selects "BallastTrain$Track" ({ cls := "BallastTrain$Track", name := "unitsBelow", desc := "(I)I" } : Jvm.MethodName) ({ cls := "BallastTrain$Track", name := "unitsBelow", desc := "(I)I" } : Jvm.MethodName)) ∈ tb := tb_mem 772 (by decide +kernel) rfl
theorem tw_773 : (Jvm.Cond.code ({ cls := "BallastTrain$Track", name := "unitsBelow", desc := "(I)I" } : Jvm.MethodName) prog_6_method_14_code (7 : Nat) (Option.some Jvm.ClassFile.FieldType.int)) ∈ tb := tb_mem 773 (by decide +kernel) rfl
theorem tw_774 : (Jvm.Cond.methodLink "BallastTrain" (201 : Nat) ({ cls := "BallastTrain$Track", name := "cellBelow", desc := "(II)I" } : Jvm.MethodName)) ∈ tb := tb_mem 774 (by decide +kernel) rfl
theorem tw_775 : (Jvm.Cond.instanceMethod ({ cls := "BallastTrain$Track", name := "cellBelow", desc := "(II)I" } : Jvm.MethodName)) ∈ tb := tb_mem 775 (by decide +kernel) rfl
theorem tw_776 : (Jvm.Cond.selects "BallastTrain$Track" ({ cls := "BallastTrain$Track", name := "cellBelow", desc := "(II)I" } : Jvm.MethodName) ({ cls := "BallastTrain$Track", name := "cellBelow", desc := "(II)I" } : Jvm.MethodName)) ∈ tb := tb_mem 776 (by decide +kernel) rfl
theorem tw_777 : (Jvm.Cond.code ({ cls := "BallastTrain$Track", name := "cellBelow", desc := "(II)I" } : Jvm.MethodName) prog_6_method_15_code (5 : Nat) (Option.some Jvm.ClassFile.FieldType.int)) ∈ tb := tb_mem 777 (by decide +kernel) rfl
theorem tw_778 : (Jvm.Cond.methodLink "BallastTrain$Track" (39 : Nat) ({ cls := "BallastTrain$Track", name := "lowestIn", desc := "(I)I" } : Jvm.MethodName)) ∈ tb := tb_mem 778 (by decide +kernel) rfl
theorem tw_780 : (Jvm.Cond.instanceMethod ({ cls := "BallastTrain$Track", name := "lowestIn", desc := "(I)I" } : Jvm.MethodName)) ∈ tb := tb_mem 780 (by decide +kernel) rfl
theorem tw_781 : (Jvm.Cond.code ({ cls := "BallastTrain$Track", name := "lowestIn", desc := "(I)I" } : Jvm.MethodName) prog_6_method_16_code (4 : Nat) (Option.some Jvm.ClassFile.FieldType.int)) ∈ tb := tb_mem 781 (by decide +kernel) rfl
theorem tw_782 : (Jvm.Cond.methodLink "BallastTrain$Track" (42 : Nat) ({ cls := "java/lang/Math", name := "min", desc := "(II)I" } : Jvm.MethodName)) ∈ tb := tb_mem 782 (by decide +kernel) rfl
theorem tw_783 : (Jvm.Cond.methodLink "BallastTrainLaw" (89 : Nat) ({ cls := "BallastTrain", name := "ordered", desc := "(II)I" } : Jvm.MethodName)) ∈ tb := tb_mem 783 (by decide +kernel) rfl
theorem tw_784 : (Jvm.Cond.instanceMethod ({ cls := "BallastTrain", name := "ordered", desc := "(II)I" } : Jvm.MethodName)) ∈ tb := tb_mem 784 (by decide +kernel) rfl
theorem tw_785 : (Jvm.Cond.selects "BallastTrain" ({ cls := "BallastTrain", name := "ordered", desc := "(II)I" } : Jvm.MethodName) ({ cls := "BallastTrain", name := "ordered", desc := "(II)I" } : Jvm.MethodName)) ∈ tb := tb_mem 785 (by decide +kernel) rfl
theorem tw_786 : (Jvm.Cond.code ({ cls := "BallastTrain", name := "ordered", desc := "(II)I" } : Jvm.MethodName) prog_1_method_20_code (3 : Nat) (Option.some Jvm.ClassFile.FieldType.int)) ∈ tb := tb_mem 786 (by decide +kernel) rfl
theorem tw_787 : (Jvm.Cond.methodLink "BallastTrain" (208 : Nat) ({ cls := "BallastTrain$Order", name := "part", desc := "(I)I" } : Jvm.MethodName)) ∈ tb := tb_mem 787 (by decide +kernel) rfl
theorem tw_788 : (Jvm.Cond.instanceMethod ({ cls := "BallastTrain$Order", name := "part", desc := "(I)I" } : Jvm.MethodName)) ∈ tb := tb_mem 788 (by decide +kernel) rfl
theorem tw_789 : (Jvm.Cond.selects "BallastTrain$Order" ({ cls := "BallastTrain$Order", name := "part", desc := "(I)I" } : Jvm.MethodName) ({ cls := "BallastTrain$Order", name := "part", desc := "(I)I" } : Jvm.MethodName)) ∈ tb := tb_mem 789 (by decide +kernel) rfl
theorem tw_790 : (Jvm.Cond.code ({ cls := "BallastTrain$Order", name := "part", desc := "(I)I" } : Jvm.MethodName) prog_3_method_2_code (2 : Nat) (Option.some Jvm.ClassFile.FieldType.int)) ∈ tb := tb_mem 790 (by decide +kernel) rfl
theorem tw_791 : (Jvm.Cond.methodLink "BallastTrainLaw" (93 : Nat) ({ cls := "BallastTrain", name := "foretell", desc := "(II)I" } : Jvm.MethodName)) ∈ tb := tb_mem 791 (by decide +kernel) rfl
theorem tw_792 : (Jvm.Cond.instanceMethod ({ cls := "BallastTrain", name := "foretell", desc := "(II)I" } : Jvm.MethodName)) ∈ tb := tb_mem 792 (by decide +kernel) rfl
theorem tw_793 : (Jvm.Cond.selects "BallastTrain" ({ cls := "BallastTrain", name := "foretell", desc := "(II)I" } : Jvm.MethodName) ({ cls := "BallastTrain", name := "foretell", desc := "(II)I" } : Jvm.MethodName)) ∈ tb := tb_mem 793 (by decide +kernel) rfl
theorem tw_794 : (Jvm.Cond.code ({ cls := "BallastTrain", name := "foretell", desc := "(II)I" } : Jvm.MethodName) prog_1_method_21_code (3 : Nat) (Option.some Jvm.ClassFile.FieldType.int)) ∈ tb := tb_mem 794 (by decide +kernel) rfl
theorem tw_795 : (Jvm.Cond.methodLink "BallastTrain" (211 : Nat) ({ cls := "BallastTrain", name := "lookAhead", desc := "(I)V" } : Jvm.MethodName)) ∈ tb := tb_mem 795 (by decide +kernel) rfl
theorem tw_797 : (Jvm.Cond.instanceMethod ({ cls := "BallastTrain", name := "lookAhead", desc := "(I)V" } : Jvm.MethodName)) ∈ tb := tb_mem 797 (by decide +kernel) rfl
theorem tw_798 : (Jvm.Cond.code ({ cls := "BallastTrain", name := "lookAhead", desc := "(I)V" } : Jvm.MethodName) prog_1_method_29_code (3 : Nat) (Option.none : Option Jvm.ClassFile.FieldType)) ∈ tb := tb_mem 798 (by decide +kernel) rfl
theorem tw_799 : (Jvm.Cond.methodLink "BallastTrain" (217 : Nat) ({ cls := "BallastTrain$State", name := "copyFrom", desc := "(LBallastTrain$State;)V" } : Jvm.MethodName)) ∈ tb := tb_mem 799 (by decide +kernel) rfl
theorem tw_800 : (Jvm.Cond.methodLink "BallastTrain" (214 : Nat) ({ cls := "BallastTrain", name := "foretold", desc := "(I)I" } : Jvm.MethodName)) ∈ tb := tb_mem 800 (by decide +kernel) rfl
theorem tw_802 : (Jvm.Cond.instanceMethod ({ cls := "BallastTrain", name := "foretold", desc := "(I)I" } : Jvm.MethodName)) ∈ tb := tb_mem 802 (by decide +kernel) rfl
theorem tw_803 : (Jvm.Cond.code ({ cls := "BallastTrain", name := "foretold", desc := "(I)I" } : Jvm.MethodName) prog_1_method_30_code (2 : Nat) (Option.some Jvm.ClassFile.FieldType.int)) ∈ tb := tb_mem 803 (by decide +kernel) rfl
theorem tw_804 : (Jvm.Cond.methodLink "BallastTrain" (229 : Nat) ({ cls := "BallastTrain$Track", name := "units", desc := "()I" } : Jvm.MethodName)) ∈ tb := tb_mem 804 (by decide +kernel) rfl
theorem tw_805 : (Jvm.Cond.instanceMethod ({ cls := "BallastTrain$Track", name := "units", desc := "()I" } : Jvm.MethodName)) ∈ tb := tb_mem 805 (by decide +kernel) rfl
theorem tw_806 : (Jvm.Cond.selects "BallastTrain$Track" ({ cls := "BallastTrain$Track", name := "units", desc := "()I" } : Jvm.MethodName) ({ cls := "BallastTrain$Track", name := "units", desc := "()I" } : Jvm.MethodName)) ∈ tb := tb_mem 806 (by decide +kernel) rfl
theorem tw_807 : (Jvm.Cond.code ({ cls := "BallastTrain$Track", name := "units", desc := "()I" } : Jvm.MethodName) prog_6_method_7_code (1 : Nat) (Option.some Jvm.ClassFile.FieldType.int)) ∈ tb := tb_mem 807 (by decide +kernel) rfl
theorem tw_809 : (Jvm.Cond.methodLink "BallastTrainLaw" (97 : Nat) ({ cls := "BallastTrain", name := "emptyAfter", desc := "()I" } : Jvm.MethodName)) ∈ tb := tb_mem 809 (by decide +kernel) rfl
theorem tw_810 : (Jvm.Cond.instanceMethod ({ cls := "BallastTrain", name := "emptyAfter", desc := "()I" } : Jvm.MethodName)) ∈ tb := tb_mem 810 (by decide +kernel) rfl
theorem tw_811 : (Jvm.Cond.selects "BallastTrain" ({ cls := "BallastTrain", name := "emptyAfter", desc := "()I" } : Jvm.MethodName) ({ cls := "BallastTrain", name := "emptyAfter", desc := "()I" } : Jvm.MethodName)) ∈ tb := tb_mem 811 (by decide +kernel) rfl
theorem tw_812 : (Jvm.Cond.code ({ cls := "BallastTrain", name := "emptyAfter", desc := "()I" } : Jvm.MethodName) prog_1_method_22_code (2 : Nat) (Option.some Jvm.ClassFile.FieldType.int)) ∈ tb := tb_mem 812 (by decide +kernel) rfl
theorem tw_813 : (Jvm.Cond.methodLink "BallastTrain" (220 : Nat) ({ cls := "BallastTrain$State", name := "passSecondOfTrain", desc := "()V" } : Jvm.MethodName)) ∈ tb := tb_mem 813 (by decide +kernel) rfl
theorem tw_814 : (Jvm.Cond.instanceMethod ({ cls := "BallastTrain$State", name := "passSecondOfTrain", desc := "()V" } : Jvm.MethodName)) ∈ tb := tb_mem 814 (by decide +kernel) rfl
theorem tw_815 : (Jvm.Cond.selects "BallastTrain$State" ({ cls := "BallastTrain$State", name := "passSecondOfTrain", desc := "()V" } : Jvm.MethodName) ({ cls := "BallastTrain$State", name := "passSecondOfTrain", desc := "()V" } : Jvm.MethodName)) ∈ tb := tb_mem 815 (by decide +kernel) rfl
theorem tw_816 : (Jvm.Cond.code ({ cls := "BallastTrain$State", name := "passSecondOfTrain", desc := "()V" } : Jvm.MethodName) prog_4_method_4_code (1 : Nat) (Option.none : Option Jvm.ClassFile.FieldType)) ∈ tb := tb_mem 816 (by decide +kernel) rfl
theorem tw_817 : (Jvm.Cond.methodLink "BallastTrainLaw" (101 : Nat) ({ cls := "BallastTrain", name := "count", desc := "(I)I" } : Jvm.MethodName)) ∈ tb := tb_mem 817 (by decide +kernel) rfl
theorem tw_818 : (Jvm.Cond.instanceMethod ({ cls := "BallastTrain", name := "count", desc := "(I)I" } : Jvm.MethodName)) ∈ tb := tb_mem 818 (by decide +kernel) rfl
theorem tw_819 : (Jvm.Cond.selects "BallastTrain" ({ cls := "BallastTrain", name := "count", desc := "(I)I" } : Jvm.MethodName) ({ cls := "BallastTrain", name := "count", desc := "(I)I" } : Jvm.MethodName)) ∈ tb := tb_mem 819 (by decide +kernel) rfl
theorem tw_820 : (Jvm.Cond.code ({ cls := "BallastTrain", name := "count", desc := "(I)I" } : Jvm.MethodName) prog_1_method_23_code (2 : Nat) (Option.some Jvm.ClassFile.FieldType.int)) ∈ tb := tb_mem 820 (by decide +kernel) rfl
theorem tw_821 : (Jvm.Cond.methodLink "BallastTrainLaw" (105 : Nat) ({ cls := "BallastTrain", name := "digest", desc := "()J" } : Jvm.MethodName)) ∈ tb := tb_mem 821 (by decide +kernel) rfl
theorem tw_822 : (Jvm.Cond.instanceMethod ({ cls := "BallastTrain", name := "digest", desc := "()J" } : Jvm.MethodName)) ∈ tb := tb_mem 822 (by decide +kernel) rfl
theorem tw_823 : (Jvm.Cond.selects "BallastTrain" ({ cls := "BallastTrain", name := "digest", desc := "()J" } : Jvm.MethodName) ({ cls := "BallastTrain", name := "digest", desc := "()J" } : Jvm.MethodName)) ∈ tb := tb_mem 823 (by decide +kernel) rfl
theorem tw_824 : (Jvm.Cond.code ({ cls := "BallastTrain", name := "digest", desc := "()J" } : Jvm.MethodName) prog_1_method_24_code (4 : Nat) (Option.some Jvm.ClassFile.FieldType.long)) ∈ tb := tb_mem 824 (by decide +kernel) rfl
theorem tw_825 : (Jvm.Cond.constantLong "BallastTrain" (233 : Nat) (149 : Int64)) ∈ tb := tb_mem 825 (by decide +kernel) rfl
theorem tw_826 : (Jvm.Cond.methodLink "BallastTrain" (235 : Nat) ({ cls := "BallastTrain", name := "count", desc := "(I)I" } : Jvm.MethodName)) ∈ tb := tb_mem 826 (by decide +kernel) rfl
theorem tw_827 : (Jvm.Cond.methodLink "BallastTrain" (238 : Nat) ({ cls := "BallastTrain", name := "mixed", desc := "(JI)J" } : Jvm.MethodName)) ∈ tb := tb_mem 827 (by decide +kernel) rfl
theorem tw_828 : (Jvm.Cond.static ({ cls := "BallastTrain", name := "mixed", desc := "(JI)J" } : Jvm.MethodName)) ∈ tb := tb_mem 828 (by decide +kernel) rfl
theorem tw_829 : (Jvm.Cond.code ({ cls := "BallastTrain", name := "mixed", desc := "(JI)J" } : Jvm.MethodName) prog_1_method_28_code (3 : Nat) (Option.some Jvm.ClassFile.FieldType.long)) ∈ tb := tb_mem 829 (by decide +kernel) rfl
theorem tw_830 : (Jvm.Cond.constantLong "BallastTrain" (277 : Nat) (31 : Int64)) ∈ tb := tb_mem 830 (by decide +kernel) rfl
theorem tw_831 : (Jvm.Cond.methodLink "BallastTrain" (242 : Nat) ({ cls := "BallastTrain", name := "mixedWithTrain", desc := "(J)J" } : Jvm.MethodName)) ∈ tb := tb_mem 831 (by decide +kernel) rfl
theorem tw_833 : (Jvm.Cond.instanceMethod ({ cls := "BallastTrain", name := "mixedWithTrain", desc := "(J)J" } : Jvm.MethodName)) ∈ tb := tb_mem 833 (by decide +kernel) rfl
theorem tw_834 : (Jvm.Cond.code ({ cls := "BallastTrain", name := "mixedWithTrain", desc := "(J)J" } : Jvm.MethodName) prog_1_method_25_code (8 : Nat) (Option.some Jvm.ClassFile.FieldType.long)) ∈ tb := tb_mem 834 (by decide +kernel) rfl
theorem tw_835 : (Jvm.Cond.methodLink "BallastTrain" (258 : Nat) ({ cls := "BallastTrain", name := "wagon", desc := "(II)I" } : Jvm.MethodName)) ∈ tb := tb_mem 835 (by decide +kernel) rfl
theorem tw_836 : (Jvm.Cond.methodLink "BallastTrain" (261 : Nat) ({ cls := "BallastTrain", name := "doorOf", desc := "(III)I" } : Jvm.MethodName)) ∈ tb := tb_mem 836 (by decide +kernel) rfl
theorem tw_837 : (Jvm.Cond.methodLink "BallastTrain" (246 : Nat) ({ cls := "BallastTrain", name := "mixedWithTrack", desc := "(J)J" } : Jvm.MethodName)) ∈ tb := tb_mem 837 (by decide +kernel) rfl
theorem tw_839 : (Jvm.Cond.instanceMethod ({ cls := "BallastTrain", name := "mixedWithTrack", desc := "(J)J" } : Jvm.MethodName)) ∈ tb := tb_mem 839 (by decide +kernel) rfl
theorem tw_840 : (Jvm.Cond.code ({ cls := "BallastTrain", name := "mixedWithTrack", desc := "(J)J" } : Jvm.MethodName) prog_1_method_26_code (7 : Nat) (Option.some Jvm.ClassFile.FieldType.long)) ∈ tb := tb_mem 840 (by decide +kernel) rfl
theorem tw_841 : (Jvm.Cond.methodLink "BallastTrain" (265 : Nat) ({ cls := "BallastTrain", name := "height", desc := "(II)I" } : Jvm.MethodName)) ∈ tb := tb_mem 841 (by decide +kernel) rfl
theorem tw_842 : (Jvm.Cond.methodLink "BallastTrain" (268 : Nat) ({ cls := "BallastTrain", name := "profile", desc := "(II)I" } : Jvm.MethodName)) ∈ tb := tb_mem 842 (by decide +kernel) rfl
theorem tw_843 : (Jvm.Cond.methodLink "BallastTrain" (271 : Nat) ({ cls := "BallastTrain", name := "lacking", desc := "(I)I" } : Jvm.MethodName)) ∈ tb := tb_mem 843 (by decide +kernel) rfl
theorem tw_844 : (Jvm.Cond.methodLink "BallastTrain" (249 : Nat) ({ cls := "BallastTrain", name := "mixedWithOrders", desc := "(J)J" } : Jvm.MethodName)) ∈ tb := tb_mem 844 (by decide +kernel) rfl
theorem tw_846 : (Jvm.Cond.instanceMethod ({ cls := "BallastTrain", name := "mixedWithOrders", desc := "(J)J" } : Jvm.MethodName)) ∈ tb := tb_mem 846 (by decide +kernel) rfl
theorem tw_847 : (Jvm.Cond.code ({ cls := "BallastTrain", name := "mixedWithOrders", desc := "(J)J" } : Jvm.MethodName) prog_1_method_27_code (7 : Nat) (Option.some Jvm.ClassFile.FieldType.long)) ∈ tb := tb_mem 847 (by decide +kernel) rfl
theorem tw_848 : (Jvm.Cond.methodLink "BallastTrain" (274 : Nat) ({ cls := "BallastTrain", name := "ordered", desc := "(II)I" } : Jvm.MethodName)) ∈ tb := tb_mem 848 (by decide +kernel) rfl
theorem tw_849 : (Jvm.Cond.methodLink "BallastTrain" (252 : Nat) ({ cls := "BallastTrain", name := "emptyAfter", desc := "()I" } : Jvm.MethodName)) ∈ tb := tb_mem 849 (by decide +kernel) rfl
theorem tw_850 : (Jvm.Cond.methodLink "BallastTrain" (255 : Nat) ({ cls := "BallastTrain$Text", name := "byteAt", desc := "(I)I" } : Jvm.MethodName)) ∈ tb := tb_mem 850 (by decide +kernel) rfl
theorem tw_851 : (Jvm.Cond.classLink "BallastTrainLaw" (10 : Nat) "BallastTrainModel") ∈ tb := tb_mem 851 (by decide +kernel) rfl
theorem tw_852 : (Jvm.Cond.instantiable "BallastTrainModel" (11 : Nat)) ∈ tb := tb_mem 852 (by decide +kernel) rfl
theorem tw_853 : (Jvm.Cond.methodLink "BallastTrainLaw" (12 : Nat) ({ cls := "BallastTrainModel", name := "<init>", desc := "()V" } : Jvm.MethodName)) ∈ tb := tb_mem 853 (by decide +kernel) rfl
theorem tw_854 : (Jvm.Cond.instanceMethod ({ cls := "BallastTrainModel", name := "<init>", desc := "()V" } : Jvm.MethodName)) ∈ tb := tb_mem 854 (by decide +kernel) rfl
theorem tw_855 : (Jvm.Cond.code ({ cls := "BallastTrainModel", name := "<init>", desc := "()V" } : Jvm.MethodName) prog_9_method_1_code (1 : Nat) (Option.none : Option Jvm.ClassFile.FieldType)) ∈ tb := tb_mem 855 (by decide +kernel) rfl
theorem tw_856 : (Jvm.Cond.methodLink "BallastTrainModel" (1 : Nat) ({ cls := "java/lang/Object", name := "<init>", desc := "()V" } : Jvm.MethodName)) ∈ tb := tb_mem 856 (by decide +kernel) rfl
theorem tw_857 : (Jvm.Cond.methodLink "BallastTrainModel" (25 : Nat) ({ cls := "BallastTrainModel", name := "couples", desc := "(I)V" } : Jvm.MethodName)) ∈ tb := tb_mem 857 (by decide +kernel) rfl
theorem tw_859 : (Jvm.Cond.instanceMethod ({ cls := "BallastTrainModel", name := "couples", desc := "(I)V" } : Jvm.MethodName)) ∈ tb := tb_mem 859 (by decide +kernel) rfl
theorem tw_860 : (Jvm.Cond.code ({ cls := "BallastTrainModel", name := "couples", desc := "(I)V" } : Jvm.MethodName) prog_9_method_9_code (4 : Nat) (Option.none : Option Jvm.ClassFile.FieldType)) ∈ tb := tb_mem 860 (by decide +kernel) rfl
theorem tw_861 : (Jvm.Cond.methodLink "BallastTrainModel" (33 : Nat) ({ cls := "BallastTrainModel", name := "put", desc := "(III)V" } : Jvm.MethodName)) ∈ tb := tb_mem 861 (by decide +kernel) rfl
theorem tw_863 : (Jvm.Cond.instanceMethod ({ cls := "BallastTrainModel", name := "put", desc := "(III)V" } : Jvm.MethodName)) ∈ tb := tb_mem 863 (by decide +kernel) rfl
theorem tw_864 : (Jvm.Cond.code ({ cls := "BallastTrainModel", name := "put", desc := "(III)V" } : Jvm.MethodName) prog_9_method_8_code (4 : Nat) (Option.none : Option Jvm.ClassFile.FieldType)) ∈ tb := tb_mem 864 (by decide +kernel) rfl
theorem tw_865 : (Jvm.Cond.fieldLink "BallastTrainModel" (7 : Nat) "BallastTrainModel" "m" "[I") ∈ tb := tb_mem 865 (by decide +kernel) rfl
theorem tw_866 : (Jvm.Cond.fieldLink "BallastTrainModel" (13 : Nat) "BallastTrainModel" "past" "[I") ∈ tb := tb_mem 866 (by decide +kernel) rfl
theorem tw_867 : (Jvm.Cond.fieldLink "BallastTrainModel" (16 : Nat) "BallastTrainModel" "aside" "[I") ∈ tb := tb_mem 867 (by decide +kernel) rfl
theorem tw_868 : (Jvm.Cond.fieldLink "BallastTrainModel" (37 : Nat) "BallastTrainModel" "undos" "I") ∈ tb := tb_mem 868 (by decide +kernel) rfl
theorem tw_869 : (Jvm.Cond.fieldLink "BallastTrainModel" (19 : Nat) "BallastTrainModel" "text" "[I") ∈ tb := tb_mem 869 (by decide +kernel) rfl
theorem tw_870 : (Jvm.Cond.fieldLink "BallastTrainModel" (41 : Nat) "BallastTrainModel" "textLength" "I") ∈ tb := tb_mem 870 (by decide +kernel) rfl
theorem tw_871 : (Jvm.Cond.fieldLink "BallastTrainModel" (22 : Nat) "BallastTrainModel" "read" "[I") ∈ tb := tb_mem 871 (by decide +kernel) rfl
theorem tw_872 : (Jvm.Cond.fieldLink "BallastTrainModel" (68 : Nat) "BallastTrainModel" "reads" "I") ∈ tb := tb_mem 872 (by decide +kernel) rfl
theorem tw_873 : (Jvm.Cond.fieldLink "BallastTrainModel" (44 : Nat) "BallastTrainModel" "at" "I") ∈ tb := tb_mem 873 (by decide +kernel) rfl
theorem tw_874 : (Jvm.Cond.fieldLink "BallastTrainModel" (51 : Nat) "BallastTrainModel" "fault" "I") ∈ tb := tb_mem 874 (by decide +kernel) rfl
theorem tw_875 : (Jvm.Cond.fieldLink "BallastTrainModel" (170 : Nat) "BallastTrainModel" "hash" "J") ∈ tb := tb_mem 875 (by decide +kernel) rfl
theorem tw_899 : (Jvm.Cond.methodLink "BallastTrainLaw" (68 : Nat) ({ cls := "BallastTrainModel", name := "undo", desc := "()I" } : Jvm.MethodName)) ∈ tb := tb_mem 899 (by decide +kernel) rfl
theorem tw_900 : (Jvm.Cond.instanceMethod ({ cls := "BallastTrainModel", name := "undo", desc := "()I" } : Jvm.MethodName)) ∈ tb := tb_mem 900 (by decide +kernel) rfl
theorem tw_901 : (Jvm.Cond.selects "BallastTrainModel" ({ cls := "BallastTrainModel", name := "undo", desc := "()I" } : Jvm.MethodName) ({ cls := "BallastTrainModel", name := "undo", desc := "()I" } : Jvm.MethodName)) ∈ tb := tb_mem 901 (by decide +kernel) rfl
theorem tw_902 : (Jvm.Cond.code ({ cls := "BallastTrainModel", name := "undo", desc := "()I" } : Jvm.MethodName) prog_9_method_11_code (2 : Nat) (Option.some Jvm.ClassFile.FieldType.int)) ∈ tb := tb_mem 902 (by decide +kernel) rfl
theorem tw_903 : (Jvm.Cond.methodLink "BallastTrainLaw" (17 : Nat) ({ cls := "BallastTrainModel", name := "type", desc := "(I)I" } : Jvm.MethodName)) ∈ tb := tb_mem 903 (by decide +kernel) rfl
theorem tw_904 : (Jvm.Cond.instanceMethod ({ cls := "BallastTrainModel", name := "type", desc := "(I)I" } : Jvm.MethodName)) ∈ tb := tb_mem 904 (by decide +kernel) rfl
theorem tw_905 : (Jvm.Cond.selects "BallastTrainModel" ({ cls := "BallastTrainModel", name := "type", desc := "(I)I" } : Jvm.MethodName) ({ cls := "BallastTrainModel", name := "type", desc := "(I)I" } : Jvm.MethodName)) ∈ tb := tb_mem 905 (by decide +kernel) rfl
theorem tw_906 : (Jvm.Cond.code ({ cls := "BallastTrainModel", name := "type", desc := "(I)I" } : Jvm.MethodName) prog_9_method_14_code (2 : Nat) (Option.some Jvm.ClassFile.FieldType.int)) ∈ tb := tb_mem 906 (by decide +kernel) rfl
theorem tw_907 : (Jvm.Cond.methodLink "BallastTrainModel" (29 : Nat) ({ cls := "BallastTrainModel", name := "in", desc := "(III)Z" } : Jvm.MethodName)) ∈ tb := tb_mem 907 (by decide +kernel) rfl
theorem tw_908 : (Jvm.Cond.static ({ cls := "BallastTrainModel", name := "in", desc := "(III)Z" } : Jvm.MethodName)) ∈ tb := tb_mem 908 (by decide +kernel) rfl
theorem tw_909 : (Jvm.Cond.code ({ cls := "BallastTrainModel", name := "in", desc := "(III)Z" } : Jvm.MethodName) prog_9_method_2_code (3 : Nat) (Option.some Jvm.ClassFile.FieldType.boolean)) ∈ tb := tb_mem 909 (by decide +kernel) rfl
theorem tw_910 : (Jvm.Cond.methodLink "BallastTrainLaw" (22 : Nat) ({ cls := "BallastTrainModel", name := "clearText", desc := "()I" } : Jvm.MethodName)) ∈ tb := tb_mem 910 (by decide +kernel) rfl
theorem tw_911 : (Jvm.Cond.instanceMethod ({ cls := "BallastTrainModel", name := "clearText", desc := "()I" } : Jvm.MethodName)) ∈ tb := tb_mem 911 (by decide +kernel) rfl
theorem tw_912 : (Jvm.Cond.selects "BallastTrainModel" ({ cls := "BallastTrainModel", name := "clearText", desc := "()I" } : Jvm.MethodName) ({ cls := "BallastTrainModel", name := "clearText", desc := "()I" } : Jvm.MethodName)) ∈ tb := tb_mem 912 (by decide +kernel) rfl
theorem tw_913 : (Jvm.Cond.code ({ cls := "BallastTrainModel", name := "clearText", desc := "()I" } : Jvm.MethodName) prog_9_method_15_code (2 : Nat) (Option.some Jvm.ClassFile.FieldType.int)) ∈ tb := tb_mem 913 (by decide +kernel) rfl
theorem tw_914 : (Jvm.Cond.methodLink "BallastTrainLaw" (26 : Nat) ({ cls := "BallastTrainModel", name := "fault", desc := "()I" } : Jvm.MethodName)) ∈ tb := tb_mem 914 (by decide +kernel) rfl
theorem tw_915 : (Jvm.Cond.instanceMethod ({ cls := "BallastTrainModel", name := "fault", desc := "()I" } : Jvm.MethodName)) ∈ tb := tb_mem 915 (by decide +kernel) rfl
theorem tw_916 : (Jvm.Cond.selects "BallastTrainModel" ({ cls := "BallastTrainModel", name := "fault", desc := "()I" } : Jvm.MethodName) ({ cls := "BallastTrainModel", name := "fault", desc := "()I" } : Jvm.MethodName)) ∈ tb := tb_mem 916 (by decide +kernel) rfl
theorem tw_917 : (Jvm.Cond.code ({ cls := "BallastTrainModel", name := "fault", desc := "()I" } : Jvm.MethodName) prog_9_method_26_code (1 : Nat) (Option.some Jvm.ClassFile.FieldType.int)) ∈ tb := tb_mem 917 (by decide +kernel) rfl
theorem tw_918 : (Jvm.Cond.methodLink "BallastTrainModel" (84 : Nat) ({ cls := "BallastTrainModel", name := "reads", desc := "()V" } : Jvm.MethodName)) ∈ tb := tb_mem 918 (by decide +kernel) rfl
theorem tw_920 : (Jvm.Cond.instanceMethod ({ cls := "BallastTrainModel", name := "reads", desc := "()V" } : Jvm.MethodName)) ∈ tb := tb_mem 920 (by decide +kernel) rfl
theorem tw_921 : (Jvm.Cond.code ({ cls := "BallastTrainModel", name := "reads", desc := "()V" } : Jvm.MethodName) prog_9_method_25_code (1 : Nat) (Option.none : Option Jvm.ClassFile.FieldType)) ∈ tb := tb_mem 921 (by decide +kernel) rfl
theorem tw_922 : (Jvm.Cond.methodLink "BallastTrainModel" (54 : Nat) ({ cls := "BallastTrainModel", name := "blanks", desc := "()V" } : Jvm.MethodName)) ∈ tb := tb_mem 922 (by decide +kernel) rfl
theorem tw_924 : (Jvm.Cond.instanceMethod ({ cls := "BallastTrainModel", name := "blanks", desc := "()V" } : Jvm.MethodName)) ∈ tb := tb_mem 924 (by decide +kernel) rfl
theorem tw_925 : (Jvm.Cond.code ({ cls := "BallastTrainModel", name := "blanks", desc := "()V" } : Jvm.MethodName) prog_9_method_18_code (1 : Nat) (Option.none : Option Jvm.ClassFile.FieldType)) ∈ tb := tb_mem 925 (by decide +kernel) rfl
theorem tw_926 : (Jvm.Cond.methodLink "BallastTrainModel" (47 : Nat) ({ cls := "BallastTrainModel", name := "next", desc := "()I" } : Jvm.MethodName)) ∈ tb := tb_mem 926 (by decide +kernel) rfl
theorem tw_928 : (Jvm.Cond.instanceMethod ({ cls := "BallastTrainModel", name := "next", desc := "()I" } : Jvm.MethodName)) ∈ tb := tb_mem 928 (by decide +kernel) rfl
theorem tw_929 : (Jvm.Cond.code ({ cls := "BallastTrainModel", name := "next", desc := "()I" } : Jvm.MethodName) prog_9_method_16_code (1 : Nat) (Option.some Jvm.ClassFile.FieldType.int)) ∈ tb := tb_mem 929 (by decide +kernel) rfl
theorem tw_930 : (Jvm.Cond.methodLink "BallastTrainModel" (81 : Nat) ({ cls := "BallastTrainModel", name := "readsOrder", desc := "()V" } : Jvm.MethodName)) ∈ tb := tb_mem 930 (by decide +kernel) rfl
theorem tw_932 : (Jvm.Cond.instanceMethod ({ cls := "BallastTrainModel", name := "readsOrder", desc := "()V" } : Jvm.MethodName)) ∈ tb := tb_mem 932 (by decide +kernel) rfl
theorem tw_933 : (Jvm.Cond.code ({ cls := "BallastTrainModel", name := "readsOrder", desc := "()V" } : Jvm.MethodName) prog_9_method_24_code (3 : Nat) (Option.none : Option Jvm.ClassFile.FieldType)) ∈ tb := tb_mem 933 (by decide +kernel) rfl
theorem tw_934 : (Jvm.Cond.methodLink "BallastTrainModel" (60 : Nat) ({ cls := "BallastTrainModel", name := "needs", desc := "(Z)V" } : Jvm.MethodName)) ∈ tb := tb_mem 934 (by decide +kernel) rfl
theorem tw_936 : (Jvm.Cond.instanceMethod ({ cls := "BallastTrainModel", name := "needs", desc := "(Z)V" } : Jvm.MethodName)) ∈ tb := tb_mem 936 (by decide +kernel) rfl
theorem tw_937 : (Jvm.Cond.code ({ cls := "BallastTrainModel", name := "needs", desc := "(Z)V" } : Jvm.MethodName) prog_9_method_20_code (2 : Nat) (Option.none : Option Jvm.ClassFile.FieldType)) ∈ tb := tb_mem 937 (by decide +kernel) rfl
theorem tw_938 : (Jvm.Cond.methodLink "BallastTrainModel" (57 : Nat) ({ cls := "BallastTrainModel", name := "fails", desc := "(I)V" } : Jvm.MethodName)) ∈ tb := tb_mem 938 (by decide +kernel) rfl
theorem tw_940 : (Jvm.Cond.instanceMethod ({ cls := "BallastTrainModel", name := "fails", desc := "(I)V" } : Jvm.MethodName)) ∈ tb := tb_mem 940 (by decide +kernel) rfl
theorem tw_941 : (Jvm.Cond.code ({ cls := "BallastTrainModel", name := "fails", desc := "(I)V" } : Jvm.MethodName) prog_9_method_19_code (2 : Nat) (Option.none : Option Jvm.ClassFile.FieldType)) ∈ tb := tb_mem 941 (by decide +kernel) rfl
theorem tw_942 : (Jvm.Cond.methodLink "BallastTrainModel" (71 : Nat) ({ cls := "BallastTrainModel", name := "cell", desc := "()I" } : Jvm.MethodName)) ∈ tb := tb_mem 942 (by decide +kernel) rfl
theorem tw_944 : (Jvm.Cond.instanceMethod ({ cls := "BallastTrainModel", name := "cell", desc := "()I" } : Jvm.MethodName)) ∈ tb := tb_mem 944 (by decide +kernel) rfl
theorem tw_945 : (Jvm.Cond.code ({ cls := "BallastTrainModel", name := "cell", desc := "()I" } : Jvm.MethodName) prog_9_method_23_code (3 : Nat) (Option.some Jvm.ClassFile.FieldType.int)) ∈ tb := tb_mem 945 (by decide +kernel) rfl
theorem tw_946 : (Jvm.Cond.methodLink "BallastTrainModel" (64 : Nat) ({ cls := "BallastTrainModel", name := "isDigit", desc := "()Z" } : Jvm.MethodName)) ∈ tb := tb_mem 946 (by decide +kernel) rfl
theorem tw_948 : (Jvm.Cond.instanceMethod ({ cls := "BallastTrainModel", name := "isDigit", desc := "()Z" } : Jvm.MethodName)) ∈ tb := tb_mem 948 (by decide +kernel) rfl
theorem tw_949 : (Jvm.Cond.code ({ cls := "BallastTrainModel", name := "isDigit", desc := "()Z" } : Jvm.MethodName) prog_9_method_17_code (1 : Nat) (Option.some Jvm.ClassFile.FieldType.boolean)) ∈ tb := tb_mem 949 (by decide +kernel) rfl
theorem tw_950 : (Jvm.Cond.methodLink "BallastTrainModel" (74 : Nat) ({ cls := "BallastTrainModel", name := "digit", desc := "(II)I" } : Jvm.MethodName)) ∈ tb := tb_mem 950 (by decide +kernel) rfl
theorem tw_952 : (Jvm.Cond.instanceMethod ({ cls := "BallastTrainModel", name := "digit", desc := "(II)I" } : Jvm.MethodName)) ∈ tb := tb_mem 952 (by decide +kernel) rfl
theorem tw_953 : (Jvm.Cond.code ({ cls := "BallastTrainModel", name := "digit", desc := "(II)I" } : Jvm.MethodName) prog_9_method_21_code (4 : Nat) (Option.some Jvm.ClassFile.FieldType.int)) ∈ tb := tb_mem 953 (by decide +kernel) rfl
theorem tw_954 : (Jvm.Cond.methodLink "BallastTrainModel" (78 : Nat) ({ cls := "BallastTrainModel", name := "doorAt", desc := "()I" } : Jvm.MethodName)) ∈ tb := tb_mem 954 (by decide +kernel) rfl
theorem tw_956 : (Jvm.Cond.instanceMethod ({ cls := "BallastTrainModel", name := "doorAt", desc := "()I" } : Jvm.MethodName)) ∈ tb := tb_mem 956 (by decide +kernel) rfl
theorem tw_957 : (Jvm.Cond.code ({ cls := "BallastTrainModel", name := "doorAt", desc := "()I" } : Jvm.MethodName) prog_9_method_22_code (2 : Nat) (Option.some Jvm.ClassFile.FieldType.int)) ∈ tb := tb_mem 957 (by decide +kernel) rfl
theorem tw_958 : (Jvm.Cond.methodLink "BallastTrainLaw" (31 : Nat) ({ cls := "BallastTrainModel", name := "set", desc := "(II)I" } : Jvm.MethodName)) ∈ tb := tb_mem 958 (by decide +kernel) rfl
theorem tw_959 : (Jvm.Cond.instanceMethod ({ cls := "BallastTrainModel", name := "set", desc := "(II)I" } : Jvm.MethodName)) ∈ tb := tb_mem 959 (by decide +kernel) rfl
theorem tw_960 : (Jvm.Cond.selects "BallastTrainModel" ({ cls := "BallastTrainModel", name := "set", desc := "(II)I" } : Jvm.MethodName) ({ cls := "BallastTrainModel", name := "set", desc := "(II)I" } : Jvm.MethodName)) ∈ tb := tb_mem 960 (by decide +kernel) rfl
theorem tw_961 : (Jvm.Cond.code ({ cls := "BallastTrainModel", name := "set", desc := "(II)I" } : Jvm.MethodName) prog_9_method_36_code (5 : Nat) (Option.some Jvm.ClassFile.FieldType.int)) ∈ tb := tb_mem 961 (by decide +kernel) rfl
theorem tw_962 : (Jvm.Cond.methodLink "BallastTrainModel" (124 : Nat) ({ cls := "BallastTrainModel", name := "keeps", desc := "()V" } : Jvm.MethodName)) ∈ tb := tb_mem 962 (by decide +kernel) rfl
theorem tw_964 : (Jvm.Cond.instanceMethod ({ cls := "BallastTrainModel", name := "keeps", desc := "()V" } : Jvm.MethodName)) ∈ tb := tb_mem 964 (by decide +kernel) rfl
theorem tw_965 : (Jvm.Cond.code ({ cls := "BallastTrainModel", name := "keeps", desc := "()V" } : Jvm.MethodName) prog_9_method_10_code (2 : Nat) (Option.none : Option Jvm.ClassFile.FieldType)) ∈ tb := tb_mem 965 (by decide +kernel) rfl
theorem tw_966 : (Jvm.Cond.methodLink "BallastTrainLaw" (35 : Nat) ({ cls := "BallastTrainModel", name := "setTrain", desc := "(I)I" } : Jvm.MethodName)) ∈ tb := tb_mem 966 (by decide +kernel) rfl
theorem tw_967 : (Jvm.Cond.instanceMethod ({ cls := "BallastTrainModel", name := "setTrain", desc := "(I)I" } : Jvm.MethodName)) ∈ tb := tb_mem 967 (by decide +kernel) rfl
theorem tw_968 : (Jvm.Cond.selects "BallastTrainModel" ({ cls := "BallastTrainModel", name := "setTrain", desc := "(I)I" } : Jvm.MethodName) ({ cls := "BallastTrainModel", name := "setTrain", desc := "(I)I" } : Jvm.MethodName)) ∈ tb := tb_mem 968 (by decide +kernel) rfl
theorem tw_969 : (Jvm.Cond.code ({ cls := "BallastTrainModel", name := "setTrain", desc := "(I)I" } : Jvm.MethodName) prog_9_method_38_code (3 : Nat) (Option.some Jvm.ClassFile.FieldType.int)) ∈ tb := tb_mem 969 (by decide +kernel) rfl
theorem tw_970 : (Jvm.Cond.methodLink "BallastTrainModel" (127 : Nat) ({ cls := "BallastTrainModel", name := "inWagons", desc := "()I" } : Jvm.MethodName)) ∈ tb := tb_mem 970 (by decide +kernel) rfl
theorem tw_972 : (Jvm.Cond.instanceMethod ({ cls := "BallastTrainModel", name := "inWagons", desc := "()I" } : Jvm.MethodName)) ∈ tb := tb_mem 972 (by decide +kernel) rfl
theorem tw_973 : (Jvm.Cond.code ({ cls := "BallastTrainModel", name := "inWagons", desc := "()I" } : Jvm.MethodName) prog_9_method_37_code (3 : Nat) (Option.some Jvm.ClassFile.FieldType.int)) ∈ tb := tb_mem 973 (by decide +kernel) rfl
theorem tw_974 : (Jvm.Cond.methodLink "BallastTrainModel" (90 : Nat) ({ cls := "BallastTrainModel", name := "of", desc := "(II)I" } : Jvm.MethodName)) ∈ tb := tb_mem 974 (by decide +kernel) rfl
theorem tw_976 : (Jvm.Cond.instanceMethod ({ cls := "BallastTrainModel", name := "of", desc := "(II)I" } : Jvm.MethodName)) ∈ tb := tb_mem 976 (by decide +kernel) rfl
theorem tw_977 : (Jvm.Cond.code ({ cls := "BallastTrainModel", name := "of", desc := "(II)I" } : Jvm.MethodName) prog_9_method_7_code (3 : Nat) (Option.some Jvm.ClassFile.FieldType.int)) ∈ tb := tb_mem 977 (by decide +kernel) rfl
theorem tw_978 : (Jvm.Cond.methodLink "BallastTrainLaw" (39 : Nat) ({ cls := "BallastTrainModel", name := "load", desc := "(II)I" } : Jvm.MethodName)) ∈ tb := tb_mem 978 (by decide +kernel) rfl
theorem tw_979 : (Jvm.Cond.instanceMethod ({ cls := "BallastTrainModel", name := "load", desc := "(II)I" } : Jvm.MethodName)) ∈ tb := tb_mem 979 (by decide +kernel) rfl
theorem tw_980 : (Jvm.Cond.selects "BallastTrainModel" ({ cls := "BallastTrainModel", name := "load", desc := "(II)I" } : Jvm.MethodName) ({ cls := "BallastTrainModel", name := "load", desc := "(II)I" } : Jvm.MethodName)) ∈ tb := tb_mem 980 (by decide +kernel) rfl
theorem tw_981 : (Jvm.Cond.code ({ cls := "BallastTrainModel", name := "load", desc := "(II)I" } : Jvm.MethodName) prog_9_method_39_code (3 : Nat) (Option.some Jvm.ClassFile.FieldType.int)) ∈ tb := tb_mem 981 (by decide +kernel) rfl
theorem tw_982 : (Jvm.Cond.methodLink "BallastTrainModel" (86 : Nat) ({ cls := "BallastTrainModel", name := "isWagon", desc := "(I)Z" } : Jvm.MethodName)) ∈ tb := tb_mem 982 (by decide +kernel) rfl
theorem tw_984 : (Jvm.Cond.instanceMethod ({ cls := "BallastTrainModel", name := "isWagon", desc := "(I)Z" } : Jvm.MethodName)) ∈ tb := tb_mem 984 (by decide +kernel) rfl
theorem tw_985 : (Jvm.Cond.code ({ cls := "BallastTrainModel", name := "isWagon", desc := "(I)Z" } : Jvm.MethodName) prog_9_method_4_code (2 : Nat) (Option.some Jvm.ClassFile.FieldType.boolean)) ∈ tb := tb_mem 985 (by decide +kernel) rfl
theorem tw_986 : (Jvm.Cond.methodLink "BallastTrainLaw" (44 : Nat) ({ cls := "BallastTrainModel", name := "door", desc := "(III)I" } : Jvm.MethodName)) ∈ tb := tb_mem 986 (by decide +kernel) rfl
theorem tw_987 : (Jvm.Cond.instanceMethod ({ cls := "BallastTrainModel", name := "door", desc := "(III)I" } : Jvm.MethodName)) ∈ tb := tb_mem 987 (by decide +kernel) rfl
theorem tw_988 : (Jvm.Cond.selects "BallastTrainModel" ({ cls := "BallastTrainModel", name := "door", desc := "(III)I" } : Jvm.MethodName) ({ cls := "BallastTrainModel", name := "door", desc := "(III)I" } : Jvm.MethodName)) ∈ tb := tb_mem 988 (by decide +kernel) rfl
theorem tw_989 : (Jvm.Cond.code ({ cls := "BallastTrainModel", name := "door", desc := "(III)I" } : Jvm.MethodName) prog_9_method_40_code (5 : Nat) (Option.some Jvm.ClassFile.FieldType.int)) ∈ tb := tb_mem 989 (by decide +kernel) rfl
theorem tw_990 : (Jvm.Cond.methodLink "BallastTrainModel" (130 : Nat) ({ cls := "BallastTrainModel", name := "isStrip", desc := "(I)Z" } : Jvm.MethodName)) ∈ tb := tb_mem 990 (by decide +kernel) rfl
theorem tw_991 : (Jvm.Cond.static ({ cls := "BallastTrainModel", name := "isStrip", desc := "(I)Z" } : Jvm.MethodName)) ∈ tb := tb_mem 991 (by decide +kernel) rfl
theorem tw_992 : (Jvm.Cond.code ({ cls := "BallastTrainModel", name := "isStrip", desc := "(I)Z" } : Jvm.MethodName) prog_9_method_5_code (1 : Nat) (Option.some Jvm.ClassFile.FieldType.boolean)) ∈ tb := tb_mem 992 (by decide +kernel) rfl
theorem tw_993 : (Jvm.Cond.methodLink "BallastTrainModel" (96 : Nat) ({ cls := "BallastTrainModel", name := "moves", desc := "(III)V" } : Jvm.MethodName)) ∈ tb := tb_mem 993 (by decide +kernel) rfl
theorem tw_995 : (Jvm.Cond.instanceMethod ({ cls := "BallastTrainModel", name := "moves", desc := "(III)V" } : Jvm.MethodName)) ∈ tb := tb_mem 995 (by decide +kernel) rfl
theorem tw_996 : (Jvm.Cond.code ({ cls := "BallastTrainModel", name := "moves", desc := "(III)V" } : Jvm.MethodName) prog_9_method_28_code (4 : Nat) (Option.none : Option Jvm.ClassFile.FieldType)) ∈ tb := tb_mem 996 (by decide +kernel) rfl
theorem tw_997 : (Jvm.Cond.methodLink "BallastTrainLaw" (48 : Nat) ({ cls := "BallastTrainModel", name := "wish", desc := "(I)I" } : Jvm.MethodName)) ∈ tb := tb_mem 997 (by decide +kernel) rfl
theorem tw_998 : (Jvm.Cond.instanceMethod ({ cls := "BallastTrainModel", name := "wish", desc := "(I)I" } : Jvm.MethodName)) ∈ tb := tb_mem 998 (by decide +kernel) rfl
theorem tw_999 : (Jvm.Cond.selects "BallastTrainModel" ({ cls := "BallastTrainModel", name := "wish", desc := "(I)I" } : Jvm.MethodName) ({ cls := "BallastTrainModel", name := "wish", desc := "(I)I" } : Jvm.MethodName)) ∈ tb := tb_mem 999 (by decide +kernel) rfl
theorem tw_1000 : (Jvm.Cond.code ({ cls := "BallastTrainModel", name := "wish", desc := "(I)I" } : Jvm.MethodName) prog_9_method_41_code (3 : Nat) (Option.some Jvm.ClassFile.FieldType.int)) ∈ tb := tb_mem 1000 (by decide +kernel) rfl
theorem tw_1001 : (Jvm.Cond.methodLink "BallastTrainLaw" (52 : Nat) ({ cls := "BallastTrainModel", name := "order", desc := "()I" } : Jvm.MethodName)) ∈ tb := tb_mem 1001 (by decide +kernel) rfl
theorem tw_1002 : (Jvm.Cond.instanceMethod ({ cls := "BallastTrainModel", name := "order", desc := "()I" } : Jvm.MethodName)) ∈ tb := tb_mem 1002 (by decide +kernel) rfl
theorem tw_1003 : (Jvm.Cond.selects "BallastTrainModel" ({ cls := "BallastTrainModel", name := "order", desc := "()I" } : Jvm.MethodName) ({ cls := "BallastTrainModel", name := "order", desc := "()I" } : Jvm.MethodName)) ∈ tb := tb_mem 1003 (by decide +kernel) rfl
theorem tw_1004 : (Jvm.Cond.code ({ cls := "BallastTrainModel", name := "order", desc := "()I" } : Jvm.MethodName) prog_9_method_42_code (2 : Nat) (Option.some Jvm.ClassFile.FieldType.int)) ∈ tb := tb_mem 1004 (by decide +kernel) rfl
theorem tw_1005 : (Jvm.Cond.methodLink "BallastTrainLaw" (56 : Nat) ({ cls := "BallastTrainModel", name := "cancel", desc := "(I)I" } : Jvm.MethodName)) ∈ tb := tb_mem 1005 (by decide +kernel) rfl
theorem tw_1006 : (Jvm.Cond.instanceMethod ({ cls := "BallastTrainModel", name := "cancel", desc := "(I)I" } : Jvm.MethodName)) ∈ tb := tb_mem 1006 (by decide +kernel) rfl
theorem tw_1007 : (Jvm.Cond.selects "BallastTrainModel" ({ cls := "BallastTrainModel", name := "cancel", desc := "(I)I" } : Jvm.MethodName) ({ cls := "BallastTrainModel", name := "cancel", desc := "(I)I" } : Jvm.MethodName)) ∈ tb := tb_mem 1007 (by decide +kernel) rfl
theorem tw_1008 : (Jvm.Cond.code ({ cls := "BallastTrainModel", name := "cancel", desc := "(I)I" } : Jvm.MethodName) prog_9_method_43_code (2 : Nat) (Option.some Jvm.ClassFile.FieldType.int)) ∈ tb := tb_mem 1008 (by decide +kernel) rfl
theorem tw_1009 : (Jvm.Cond.methodLink "BallastTrainModel" (99 : Nat) ({ cls := "BallastTrainModel", name := "dropsOrder", desc := "(I)V" } : Jvm.MethodName)) ∈ tb := tb_mem 1009 (by decide +kernel) rfl
theorem tw_1011 : (Jvm.Cond.instanceMethod ({ cls := "BallastTrainModel", name := "dropsOrder", desc := "(I)V" } : Jvm.MethodName)) ∈ tb := tb_mem 1011 (by decide +kernel) rfl
theorem tw_1012 : (Jvm.Cond.code ({ cls := "BallastTrainModel", name := "dropsOrder", desc := "(I)V" } : Jvm.MethodName) prog_9_method_29_code (3 : Nat) (Option.none : Option Jvm.ClassFile.FieldType)) ∈ tb := tb_mem 1012 (by decide +kernel) rfl
theorem tw_1013 : (Jvm.Cond.methodLink "BallastTrainLaw" (60 : Nat) ({ cls := "BallastTrainModel", name := "pass", desc := "(I)I" } : Jvm.MethodName)) ∈ tb := tb_mem 1013 (by decide +kernel) rfl
theorem tw_1014 : (Jvm.Cond.instanceMethod ({ cls := "BallastTrainModel", name := "pass", desc := "(I)I" } : Jvm.MethodName)) ∈ tb := tb_mem 1014 (by decide +kernel) rfl
theorem tw_1015 : (Jvm.Cond.selects "BallastTrainModel" ({ cls := "BallastTrainModel", name := "pass", desc := "(I)I" } : Jvm.MethodName) ({ cls := "BallastTrainModel", name := "pass", desc := "(I)I" } : Jvm.MethodName)) ∈ tb := tb_mem 1015 (by decide +kernel) rfl
theorem tw_1016 : (Jvm.Cond.code ({ cls := "BallastTrainModel", name := "pass", desc := "(I)I" } : Jvm.MethodName) prog_9_method_44_code (3 : Nat) (Option.some Jvm.ClassFile.FieldType.int)) ∈ tb := tb_mem 1016 (by decide +kernel) rfl
theorem tw_1017 : (Jvm.Cond.methodLink "BallastTrainModel" (133 : Nat) ({ cls := "BallastTrainModel", name := "second", desc := "()V" } : Jvm.MethodName)) ∈ tb := tb_mem 1017 (by decide +kernel) rfl
theorem tw_1019 : (Jvm.Cond.instanceMethod ({ cls := "BallastTrainModel", name := "second", desc := "()V" } : Jvm.MethodName)) ∈ tb := tb_mem 1019 (by decide +kernel) rfl
theorem tw_1020 : (Jvm.Cond.code ({ cls := "BallastTrainModel", name := "second", desc := "()V" } : Jvm.MethodName) prog_9_method_35_code (2 : Nat) (Option.none : Option Jvm.ClassFile.FieldType)) ∈ tb := tb_mem 1020 (by decide +kernel) rfl
theorem tw_1021 : (Jvm.Cond.methodLink "BallastTrainModel" (102 : Nat) ({ cls := "BallastTrainModel", name := "least", desc := "(II)I" } : Jvm.MethodName)) ∈ tb := tb_mem 1021 (by decide +kernel) rfl
theorem tw_1022 : (Jvm.Cond.static ({ cls := "BallastTrainModel", name := "least", desc := "(II)I" } : Jvm.MethodName)) ∈ tb := tb_mem 1022 (by decide +kernel) rfl
theorem tw_1023 : (Jvm.Cond.code ({ cls := "BallastTrainModel", name := "least", desc := "(II)I" } : Jvm.MethodName) prog_9_method_3_code (2 : Nat) (Option.some Jvm.ClassFile.FieldType.int)) ∈ tb := tb_mem 1023 (by decide +kernel) rfl
theorem tw_1024 : (Jvm.Cond.methodLink "BallastTrainModel" (108 : Nat) ({ cls := "BallastTrainModel", name := "ordersDue", desc := "()V" } : Jvm.MethodName)) ∈ tb := tb_mem 1024 (by decide +kernel) rfl
theorem tw_1026 : (Jvm.Cond.instanceMethod ({ cls := "BallastTrainModel", name := "ordersDue", desc := "()V" } : Jvm.MethodName)) ∈ tb := tb_mem 1026 (by decide +kernel) rfl
theorem tw_1027 : (Jvm.Cond.code ({ cls := "BallastTrainModel", name := "ordersDue", desc := "()V" } : Jvm.MethodName) prog_9_method_30_code (3 : Nat) (Option.none : Option Jvm.ClassFile.FieldType)) ∈ tb := tb_mem 1027 (by decide +kernel) rfl
theorem tw_1028 : (Jvm.Cond.methodLink "BallastTrainModel" (93 : Nat) ({ cls := "BallastTrainModel", name := "isDue", desc := "(I)Z" } : Jvm.MethodName)) ∈ tb := tb_mem 1028 (by decide +kernel) rfl
theorem tw_1030 : (Jvm.Cond.instanceMethod ({ cls := "BallastTrainModel", name := "isDue", desc := "(I)Z" } : Jvm.MethodName)) ∈ tb := tb_mem 1030 (by decide +kernel) rfl
theorem tw_1031 : (Jvm.Cond.code ({ cls := "BallastTrainModel", name := "isDue", desc := "(I)Z" } : Jvm.MethodName) prog_9_method_27_code (3 : Nat) (Option.some Jvm.ClassFile.FieldType.boolean)) ∈ tb := tb_mem 1031 (by decide +kernel) rfl
theorem tw_1032 : (Jvm.Cond.methodLink "BallastTrainModel" (111 : Nat) ({ cls := "BallastTrainModel", name := "falls", desc := "(II)V" } : Jvm.MethodName)) ∈ tb := tb_mem 1032 (by decide +kernel) rfl
theorem tw_1034 : (Jvm.Cond.instanceMethod ({ cls := "BallastTrainModel", name := "falls", desc := "(II)V" } : Jvm.MethodName)) ∈ tb := tb_mem 1034 (by decide +kernel) rfl
theorem tw_1035 : (Jvm.Cond.code ({ cls := "BallastTrainModel", name := "falls", desc := "(II)V" } : Jvm.MethodName) prog_9_method_31_code (5 : Nat) (Option.none : Option Jvm.ClassFile.FieldType)) ∈ tb := tb_mem 1035 (by decide +kernel) rfl
theorem tw_1036 : (Jvm.Cond.methodLink "BallastTrainModel" (105 : Nat) ({ cls := "BallastTrainModel", name := "isCell", desc := "(I)Z" } : Jvm.MethodName)) ∈ tb := tb_mem 1036 (by decide +kernel) rfl
theorem tw_1037 : (Jvm.Cond.static ({ cls := "BallastTrainModel", name := "isCell", desc := "(I)Z" } : Jvm.MethodName)) ∈ tb := tb_mem 1037 (by decide +kernel) rfl
theorem tw_1038 : (Jvm.Cond.code ({ cls := "BallastTrainModel", name := "isCell", desc := "(I)Z" } : Jvm.MethodName) prog_9_method_6_code (1 : Nat) (Option.some Jvm.ClassFile.FieldType.boolean)) ∈ tb := tb_mem 1038 (by decide +kernel) rfl
theorem tw_1039 : (Jvm.Cond.methodLink "BallastTrainModel" (115 : Nat) ({ cls := "BallastTrainModel", name := "slides", desc := "(II)V" } : Jvm.MethodName)) ∈ tb := tb_mem 1039 (by decide +kernel) rfl
theorem tw_1041 : (Jvm.Cond.instanceMethod ({ cls := "BallastTrainModel", name := "slides", desc := "(II)V" } : Jvm.MethodName)) ∈ tb := tb_mem 1041 (by decide +kernel) rfl
theorem tw_1042 : (Jvm.Cond.code ({ cls := "BallastTrainModel", name := "slides", desc := "(II)V" } : Jvm.MethodName) prog_9_method_32_code (5 : Nat) (Option.none : Option Jvm.ClassFile.FieldType)) ∈ tb := tb_mem 1042 (by decide +kernel) rfl
theorem tw_1043 : (Jvm.Cond.methodLink "BallastTrainModel" (118 : Nat) ({ cls := "BallastTrainModel", name := "spills", desc := "(II)V" } : Jvm.MethodName)) ∈ tb := tb_mem 1043 (by decide +kernel) rfl
theorem tw_1045 : (Jvm.Cond.instanceMethod ({ cls := "BallastTrainModel", name := "spills", desc := "(II)V" } : Jvm.MethodName)) ∈ tb := tb_mem 1045 (by decide +kernel) rfl
theorem tw_1046 : (Jvm.Cond.code ({ cls := "BallastTrainModel", name := "spills", desc := "(II)V" } : Jvm.MethodName) prog_9_method_33_code (4 : Nat) (Option.none : Option Jvm.ClassFile.FieldType)) ∈ tb := tb_mem 1046 (by decide +kernel) rfl
theorem tw_1047 : (Jvm.Cond.methodLink "BallastTrainModel" (121 : Nat) ({ cls := "BallastTrainModel", name := "closes", desc := "(II)V" } : Jvm.MethodName)) ∈ tb := tb_mem 1047 (by decide +kernel) rfl
theorem tw_1049 : (Jvm.Cond.instanceMethod ({ cls := "BallastTrainModel", name := "closes", desc := "(II)V" } : Jvm.MethodName)) ∈ tb := tb_mem 1049 (by decide +kernel) rfl
theorem tw_1050 : (Jvm.Cond.code ({ cls := "BallastTrainModel", name := "closes", desc := "(II)V" } : Jvm.MethodName) prog_9_method_34_code (5 : Nat) (Option.none : Option Jvm.ClassFile.FieldType)) ∈ tb := tb_mem 1050 (by decide +kernel) rfl
theorem tw_1051 : (Jvm.Cond.methodLink "BallastTrainLaw" (64 : Nat) ({ cls := "BallastTrainModel", name := "scrape", desc := "(III)I" } : Jvm.MethodName)) ∈ tb := tb_mem 1051 (by decide +kernel) rfl
theorem tw_1052 : (Jvm.Cond.instanceMethod ({ cls := "BallastTrainModel", name := "scrape", desc := "(III)I" } : Jvm.MethodName)) ∈ tb := tb_mem 1052 (by decide +kernel) rfl
theorem tw_1053 : (Jvm.Cond.selects "BallastTrainModel" ({ cls := "BallastTrainModel", name := "scrape", desc := "(III)I" } : Jvm.MethodName) ({ cls := "BallastTrainModel", name := "scrape", desc := "(III)I" } : Jvm.MethodName)) ∈ tb := tb_mem 1053 (by decide +kernel) rfl
theorem tw_1054 : (Jvm.Cond.code ({ cls := "BallastTrainModel", name := "scrape", desc := "(III)I" } : Jvm.MethodName) prog_9_method_45_code (5 : Nat) (Option.some Jvm.ClassFile.FieldType.int)) ∈ tb := tb_mem 1054 (by decide +kernel) rfl
theorem tw_1055 : (Jvm.Cond.methodLink "BallastTrainLaw" (72 : Nat) ({ cls := "BallastTrainModel", name := "wagon", desc := "(II)I" } : Jvm.MethodName)) ∈ tb := tb_mem 1055 (by decide +kernel) rfl
theorem tw_1056 : (Jvm.Cond.instanceMethod ({ cls := "BallastTrainModel", name := "wagon", desc := "(II)I" } : Jvm.MethodName)) ∈ tb := tb_mem 1056 (by decide +kernel) rfl
theorem tw_1057 : (Jvm.Cond.selects "BallastTrainModel" ({ cls := "BallastTrainModel", name := "wagon", desc := "(II)I" } : Jvm.MethodName) ({ cls := "BallastTrainModel", name := "wagon", desc := "(II)I" } : Jvm.MethodName)) ∈ tb := tb_mem 1057 (by decide +kernel) rfl
theorem tw_1058 : (Jvm.Cond.code ({ cls := "BallastTrainModel", name := "wagon", desc := "(II)I" } : Jvm.MethodName) prog_9_method_46_code (5 : Nat) (Option.some Jvm.ClassFile.FieldType.int)) ∈ tb := tb_mem 1058 (by decide +kernel) rfl
theorem tw_1059 : (Jvm.Cond.methodLink "BallastTrainLaw" (76 : Nat) ({ cls := "BallastTrainModel", name := "doorOf", desc := "(III)I" } : Jvm.MethodName)) ∈ tb := tb_mem 1059 (by decide +kernel) rfl
theorem tw_1060 : (Jvm.Cond.instanceMethod ({ cls := "BallastTrainModel", name := "doorOf", desc := "(III)I" } : Jvm.MethodName)) ∈ tb := tb_mem 1060 (by decide +kernel) rfl
theorem tw_1061 : (Jvm.Cond.selects "BallastTrainModel" ({ cls := "BallastTrainModel", name := "doorOf", desc := "(III)I" } : Jvm.MethodName) ({ cls := "BallastTrainModel", name := "doorOf", desc := "(III)I" } : Jvm.MethodName)) ∈ tb := tb_mem 1061 (by decide +kernel) rfl
theorem tw_1062 : (Jvm.Cond.code ({ cls := "BallastTrainModel", name := "doorOf", desc := "(III)I" } : Jvm.MethodName) prog_9_method_47_code (4 : Nat) (Option.some Jvm.ClassFile.FieldType.int)) ∈ tb := tb_mem 1062 (by decide +kernel) rfl
theorem tw_1063 : (Jvm.Cond.methodLink "BallastTrainLaw" (80 : Nat) ({ cls := "BallastTrainModel", name := "height", desc := "(II)I" } : Jvm.MethodName)) ∈ tb := tb_mem 1063 (by decide +kernel) rfl
theorem tw_1064 : (Jvm.Cond.instanceMethod ({ cls := "BallastTrainModel", name := "height", desc := "(II)I" } : Jvm.MethodName)) ∈ tb := tb_mem 1064 (by decide +kernel) rfl
theorem tw_1065 : (Jvm.Cond.selects "BallastTrainModel" ({ cls := "BallastTrainModel", name := "height", desc := "(II)I" } : Jvm.MethodName) ({ cls := "BallastTrainModel", name := "height", desc := "(II)I" } : Jvm.MethodName)) ∈ tb := tb_mem 1065 (by decide +kernel) rfl
theorem tw_1066 : (Jvm.Cond.code ({ cls := "BallastTrainModel", name := "height", desc := "(II)I" } : Jvm.MethodName) prog_9_method_48_code (3 : Nat) (Option.some Jvm.ClassFile.FieldType.int)) ∈ tb := tb_mem 1066 (by decide +kernel) rfl
theorem tw_1067 : (Jvm.Cond.methodLink "BallastTrainLaw" (84 : Nat) ({ cls := "BallastTrainModel", name := "profile", desc := "(II)I" } : Jvm.MethodName)) ∈ tb := tb_mem 1067 (by decide +kernel) rfl
theorem tw_1068 : (Jvm.Cond.instanceMethod ({ cls := "BallastTrainModel", name := "profile", desc := "(II)I" } : Jvm.MethodName)) ∈ tb := tb_mem 1068 (by decide +kernel) rfl
theorem tw_1069 : (Jvm.Cond.selects "BallastTrainModel" ({ cls := "BallastTrainModel", name := "profile", desc := "(II)I" } : Jvm.MethodName) ({ cls := "BallastTrainModel", name := "profile", desc := "(II)I" } : Jvm.MethodName)) ∈ tb := tb_mem 1069 (by decide +kernel) rfl
theorem tw_1070 : (Jvm.Cond.code ({ cls := "BallastTrainModel", name := "profile", desc := "(II)I" } : Jvm.MethodName) prog_9_method_53_code (3 : Nat) (Option.some Jvm.ClassFile.FieldType.int)) ∈ tb := tb_mem 1070 (by decide +kernel) rfl
theorem tw_1071 : (Jvm.Cond.methodLink "BallastTrainModel" (136 : Nat) ({ cls := "BallastTrainModel", name := "sum", desc := "(I)I" } : Jvm.MethodName)) ∈ tb := tb_mem 1071 (by decide +kernel) rfl
theorem tw_1073 : (Jvm.Cond.instanceMethod ({ cls := "BallastTrainModel", name := "sum", desc := "(I)I" } : Jvm.MethodName)) ∈ tb := tb_mem 1073 (by decide +kernel) rfl
theorem tw_1074 : (Jvm.Cond.code ({ cls := "BallastTrainModel", name := "sum", desc := "(I)I" } : Jvm.MethodName) prog_9_method_49_code (4 : Nat) (Option.some Jvm.ClassFile.FieldType.int)) ∈ tb := tb_mem 1074 (by decide +kernel) rfl
theorem tw_1075 : (Jvm.Cond.methodLink "BallastTrainModel" (140 : Nat) ({ cls := "BallastTrainModel", name := "highest", desc := "(I)I" } : Jvm.MethodName)) ∈ tb := tb_mem 1075 (by decide +kernel) rfl
theorem tw_1077 : (Jvm.Cond.instanceMethod ({ cls := "BallastTrainModel", name := "highest", desc := "(I)I" } : Jvm.MethodName)) ∈ tb := tb_mem 1077 (by decide +kernel) rfl
theorem tw_1078 : (Jvm.Cond.code ({ cls := "BallastTrainModel", name := "highest", desc := "(I)I" } : Jvm.MethodName) prog_9_method_50_code (4 : Nat) (Option.some Jvm.ClassFile.FieldType.int)) ∈ tb := tb_mem 1078 (by decide +kernel) rfl
theorem tw_1079 : (Jvm.Cond.methodLink "BallastTrainModel" (143 : Nat) ({ cls := "BallastTrainModel", name := "row", desc := "(IZ)I" } : Jvm.MethodName)) ∈ tb := tb_mem 1079 (by decide +kernel) rfl
theorem tw_1081 : (Jvm.Cond.instanceMethod ({ cls := "BallastTrainModel", name := "row", desc := "(IZ)I" } : Jvm.MethodName)) ∈ tb := tb_mem 1081 (by decide +kernel) rfl
theorem tw_1082 : (Jvm.Cond.code ({ cls := "BallastTrainModel", name := "row", desc := "(IZ)I" } : Jvm.MethodName) prog_9_method_51_code (8 : Nat) (Option.some Jvm.ClassFile.FieldType.int)) ∈ tb := tb_mem 1082 (by decide +kernel) rfl
theorem tw_1083 : (Jvm.Cond.methodLink "BallastTrainModel" (147 : Nat) ({ cls := "BallastTrainModel", name := "steepest", desc := "(I)I" } : Jvm.MethodName)) ∈ tb := tb_mem 1083 (by decide +kernel) rfl
theorem tw_1085 : (Jvm.Cond.instanceMethod ({ cls := "BallastTrainModel", name := "steepest", desc := "(I)I" } : Jvm.MethodName)) ∈ tb := tb_mem 1085 (by decide +kernel) rfl
theorem tw_1086 : (Jvm.Cond.code ({ cls := "BallastTrainModel", name := "steepest", desc := "(I)I" } : Jvm.MethodName) prog_9_method_52_code (5 : Nat) (Option.some Jvm.ClassFile.FieldType.int)) ∈ tb := tb_mem 1086 (by decide +kernel) rfl
theorem tw_1087 : (Jvm.Cond.methodLink "BallastTrainLaw" (88 : Nat) ({ cls := "BallastTrainModel", name := "lacking", desc := "(I)I" } : Jvm.MethodName)) ∈ tb := tb_mem 1087 (by decide +kernel) rfl
theorem tw_1088 : (Jvm.Cond.instanceMethod ({ cls := "BallastTrainModel", name := "lacking", desc := "(I)I" } : Jvm.MethodName)) ∈ tb := tb_mem 1088 (by decide +kernel) rfl
theorem tw_1089 : (Jvm.Cond.selects "BallastTrainModel" ({ cls := "BallastTrainModel", name := "lacking", desc := "(I)I" } : Jvm.MethodName) ({ cls := "BallastTrainModel", name := "lacking", desc := "(I)I" } : Jvm.MethodName)) ∈ tb := tb_mem 1089 (by decide +kernel) rfl
theorem tw_1090 : (Jvm.Cond.code ({ cls := "BallastTrainModel", name := "lacking", desc := "(I)I" } : Jvm.MethodName) prog_9_method_55_code (5 : Nat) (Option.some Jvm.ClassFile.FieldType.int)) ∈ tb := tb_mem 1090 (by decide +kernel) rfl
theorem tw_1091 : (Jvm.Cond.methodLink "BallastTrainModel" (150 : Nat) ({ cls := "BallastTrainModel", name := "lackingIn", desc := "(I)I" } : Jvm.MethodName)) ∈ tb := tb_mem 1091 (by decide +kernel) rfl
theorem tw_1093 : (Jvm.Cond.instanceMethod ({ cls := "BallastTrainModel", name := "lackingIn", desc := "(I)I" } : Jvm.MethodName)) ∈ tb := tb_mem 1093 (by decide +kernel) rfl
theorem tw_1094 : (Jvm.Cond.code ({ cls := "BallastTrainModel", name := "lackingIn", desc := "(I)I" } : Jvm.MethodName) prog_9_method_54_code (4 : Nat) (Option.some Jvm.ClassFile.FieldType.int)) ∈ tb := tb_mem 1094 (by decide +kernel) rfl
theorem tw_1095 : (Jvm.Cond.methodLink "BallastTrainLaw" (92 : Nat) ({ cls := "BallastTrainModel", name := "ordered", desc := "(II)I" } : Jvm.MethodName)) ∈ tb := tb_mem 1095 (by decide +kernel) rfl
theorem tw_1096 : (Jvm.Cond.instanceMethod ({ cls := "BallastTrainModel", name := "ordered", desc := "(II)I" } : Jvm.MethodName)) ∈ tb := tb_mem 1096 (by decide +kernel) rfl
theorem tw_1097 : (Jvm.Cond.selects "BallastTrainModel" ({ cls := "BallastTrainModel", name := "ordered", desc := "(II)I" } : Jvm.MethodName) ({ cls := "BallastTrainModel", name := "ordered", desc := "(II)I" } : Jvm.MethodName)) ∈ tb := tb_mem 1097 (by decide +kernel) rfl
theorem tw_1098 : (Jvm.Cond.code ({ cls := "BallastTrainModel", name := "ordered", desc := "(II)I" } : Jvm.MethodName) prog_9_method_56_code (3 : Nat) (Option.some Jvm.ClassFile.FieldType.int)) ∈ tb := tb_mem 1098 (by decide +kernel) rfl
theorem tw_1099 : (Jvm.Cond.methodLink "BallastTrainLaw" (96 : Nat) ({ cls := "BallastTrainModel", name := "foretell", desc := "(II)I" } : Jvm.MethodName)) ∈ tb := tb_mem 1099 (by decide +kernel) rfl
theorem tw_1100 : (Jvm.Cond.instanceMethod ({ cls := "BallastTrainModel", name := "foretell", desc := "(II)I" } : Jvm.MethodName)) ∈ tb := tb_mem 1100 (by decide +kernel) rfl
theorem tw_1101 : (Jvm.Cond.selects "BallastTrainModel" ({ cls := "BallastTrainModel", name := "foretell", desc := "(II)I" } : Jvm.MethodName) ({ cls := "BallastTrainModel", name := "foretell", desc := "(II)I" } : Jvm.MethodName)) ∈ tb := tb_mem 1101 (by decide +kernel) rfl
theorem tw_1102 : (Jvm.Cond.code ({ cls := "BallastTrainModel", name := "foretell", desc := "(II)I" } : Jvm.MethodName) prog_9_method_59_code (4 : Nat) (Option.some Jvm.ClassFile.FieldType.int)) ∈ tb := tb_mem 1102 (by decide +kernel) rfl
theorem tw_1103 : (Jvm.Cond.methodLink "BallastTrainModel" (159 : Nat) ({ cls := "BallastTrainModel", name := "keepsAside", desc := "()V" } : Jvm.MethodName)) ∈ tb := tb_mem 1103 (by decide +kernel) rfl
theorem tw_1105 : (Jvm.Cond.instanceMethod ({ cls := "BallastTrainModel", name := "keepsAside", desc := "()V" } : Jvm.MethodName)) ∈ tb := tb_mem 1105 (by decide +kernel) rfl
theorem tw_1106 : (Jvm.Cond.code ({ cls := "BallastTrainModel", name := "keepsAside", desc := "()V" } : Jvm.MethodName) prog_9_method_12_code (2 : Nat) (Option.none : Option Jvm.ClassFile.FieldType)) ∈ tb := tb_mem 1106 (by decide +kernel) rfl
theorem tw_1107 : (Jvm.Cond.methodLink "BallastTrainModel" (162 : Nat) ({ cls := "BallastTrainModel", name := "part", desc := "(I)I" } : Jvm.MethodName)) ∈ tb := tb_mem 1107 (by decide +kernel) rfl
theorem tw_1109 : (Jvm.Cond.instanceMethod ({ cls := "BallastTrainModel", name := "part", desc := "(I)I" } : Jvm.MethodName)) ∈ tb := tb_mem 1109 (by decide +kernel) rfl
theorem tw_1110 : (Jvm.Cond.code ({ cls := "BallastTrainModel", name := "part", desc := "(I)I" } : Jvm.MethodName) prog_9_method_58_code (2 : Nat) (Option.some Jvm.ClassFile.FieldType.int)) ∈ tb := tb_mem 1110 (by decide +kernel) rfl
theorem tw_1111 : (Jvm.Cond.methodLink "BallastTrainModel" (153 : Nat) ({ cls := "BallastTrainModel", name := "onTrack", desc := "()I" } : Jvm.MethodName)) ∈ tb := tb_mem 1111 (by decide +kernel) rfl
theorem tw_1113 : (Jvm.Cond.instanceMethod ({ cls := "BallastTrainModel", name := "onTrack", desc := "()I" } : Jvm.MethodName)) ∈ tb := tb_mem 1113 (by decide +kernel) rfl
theorem tw_1114 : (Jvm.Cond.code ({ cls := "BallastTrainModel", name := "onTrack", desc := "()I" } : Jvm.MethodName) prog_9_method_57_code (1 : Nat) (Option.some Jvm.ClassFile.FieldType.int)) ∈ tb := tb_mem 1114 (by decide +kernel) rfl
theorem tw_1115 : (Jvm.Cond.methodLink "BallastTrainModel" (156 : Nat) ({ cls := "BallastTrainModel", name := "lacking", desc := "(I)I" } : Jvm.MethodName)) ∈ tb := tb_mem 1115 (by decide +kernel) rfl
theorem tw_1116 : (Jvm.Cond.methodLink "BallastTrainModel" (165 : Nat) ({ cls := "BallastTrainModel", name := "returns", desc := "()V" } : Jvm.MethodName)) ∈ tb := tb_mem 1116 (by decide +kernel) rfl
theorem tw_1118 : (Jvm.Cond.instanceMethod ({ cls := "BallastTrainModel", name := "returns", desc := "()V" } : Jvm.MethodName)) ∈ tb := tb_mem 1118 (by decide +kernel) rfl
theorem tw_1119 : (Jvm.Cond.code ({ cls := "BallastTrainModel", name := "returns", desc := "()V" } : Jvm.MethodName) prog_9_method_13_code (2 : Nat) (Option.none : Option Jvm.ClassFile.FieldType)) ∈ tb := tb_mem 1119 (by decide +kernel) rfl
theorem tw_1120 : (Jvm.Cond.methodLink "BallastTrainLaw" (100 : Nat) ({ cls := "BallastTrainModel", name := "emptyAfter", desc := "()I" } : Jvm.MethodName)) ∈ tb := tb_mem 1120 (by decide +kernel) rfl
theorem tw_1121 : (Jvm.Cond.instanceMethod ({ cls := "BallastTrainModel", name := "emptyAfter", desc := "()I" } : Jvm.MethodName)) ∈ tb := tb_mem 1121 (by decide +kernel) rfl
theorem tw_1122 : (Jvm.Cond.selects "BallastTrainModel" ({ cls := "BallastTrainModel", name := "emptyAfter", desc := "()I" } : Jvm.MethodName) ({ cls := "BallastTrainModel", name := "emptyAfter", desc := "()I" } : Jvm.MethodName)) ∈ tb := tb_mem 1122 (by decide +kernel) rfl
theorem tw_1123 : (Jvm.Cond.code ({ cls := "BallastTrainModel", name := "emptyAfter", desc := "()I" } : Jvm.MethodName) prog_9_method_60_code (3 : Nat) (Option.some Jvm.ClassFile.FieldType.int)) ∈ tb := tb_mem 1123 (by decide +kernel) rfl
theorem tw_1124 : (Jvm.Cond.methodLink "BallastTrainLaw" (104 : Nat) ({ cls := "BallastTrainModel", name := "count", desc := "(I)I" } : Jvm.MethodName)) ∈ tb := tb_mem 1124 (by decide +kernel) rfl
theorem tw_1125 : (Jvm.Cond.instanceMethod ({ cls := "BallastTrainModel", name := "count", desc := "(I)I" } : Jvm.MethodName)) ∈ tb := tb_mem 1125 (by decide +kernel) rfl
theorem tw_1126 : (Jvm.Cond.selects "BallastTrainModel" ({ cls := "BallastTrainModel", name := "count", desc := "(I)I" } : Jvm.MethodName) ({ cls := "BallastTrainModel", name := "count", desc := "(I)I" } : Jvm.MethodName)) ∈ tb := tb_mem 1126 (by decide +kernel) rfl
theorem tw_1127 : (Jvm.Cond.code ({ cls := "BallastTrainModel", name := "count", desc := "(I)I" } : Jvm.MethodName) prog_9_method_61_code (2 : Nat) (Option.some Jvm.ClassFile.FieldType.int)) ∈ tb := tb_mem 1127 (by decide +kernel) rfl
theorem tw_1128 : (Jvm.Cond.methodLink "BallastTrainLaw" (109 : Nat) ({ cls := "BallastTrainModel", name := "digest", desc := "()J" } : Jvm.MethodName)) ∈ tb := tb_mem 1128 (by decide +kernel) rfl
theorem tw_1129 : (Jvm.Cond.instanceMethod ({ cls := "BallastTrainModel", name := "digest", desc := "()J" } : Jvm.MethodName)) ∈ tb := tb_mem 1129 (by decide +kernel) rfl
theorem tw_1130 : (Jvm.Cond.selects "BallastTrainModel" ({ cls := "BallastTrainModel", name := "digest", desc := "()J" } : Jvm.MethodName) ({ cls := "BallastTrainModel", name := "digest", desc := "()J" } : Jvm.MethodName)) ∈ tb := tb_mem 1130 (by decide +kernel) rfl
theorem tw_1131 : (Jvm.Cond.code ({ cls := "BallastTrainModel", name := "digest", desc := "()J" } : Jvm.MethodName) prog_9_method_64_code (2 : Nat) (Option.some Jvm.ClassFile.FieldType.long)) ∈ tb := tb_mem 1131 (by decide +kernel) rfl
theorem tw_1132 : (Jvm.Cond.constantLong "BallastTrainModel" (184 : Nat) (149 : Int64)) ∈ tb := tb_mem 1132 (by decide +kernel) rfl
theorem tw_1133 : (Jvm.Cond.methodLink "BallastTrainModel" (186 : Nat) ({ cls := "BallastTrainModel", name := "count", desc := "(I)I" } : Jvm.MethodName)) ∈ tb := tb_mem 1133 (by decide +kernel) rfl
theorem tw_1134 : (Jvm.Cond.methodLink "BallastTrainModel" (177 : Nat) ({ cls := "BallastTrainModel", name := "mixes", desc := "(I)V" } : Jvm.MethodName)) ∈ tb := tb_mem 1134 (by decide +kernel) rfl
theorem tw_1136 : (Jvm.Cond.instanceMethod ({ cls := "BallastTrainModel", name := "mixes", desc := "(I)V" } : Jvm.MethodName)) ∈ tb := tb_mem 1136 (by decide +kernel) rfl
theorem tw_1137 : (Jvm.Cond.code ({ cls := "BallastTrainModel", name := "mixes", desc := "(I)V" } : Jvm.MethodName) prog_9_method_62_code (2 : Nat) (Option.none : Option Jvm.ClassFile.FieldType)) ∈ tb := tb_mem 1137 (by decide +kernel) rfl
theorem tw_1138 : (Jvm.Cond.constantLong "BallastTrainModel" (168 : Nat) (31 : Int64)) ∈ tb := tb_mem 1138 (by decide +kernel) rfl
theorem tw_1139 : (Jvm.Cond.methodLink "BallastTrainModel" (189 : Nat) ({ cls := "BallastTrainModel", name := "mixesWagon", desc := "(I)V" } : Jvm.MethodName)) ∈ tb := tb_mem 1139 (by decide +kernel) rfl
theorem tw_1141 : (Jvm.Cond.instanceMethod ({ cls := "BallastTrainModel", name := "mixesWagon", desc := "(I)V" } : Jvm.MethodName)) ∈ tb := tb_mem 1141 (by decide +kernel) rfl
theorem tw_1142 : (Jvm.Cond.code ({ cls := "BallastTrainModel", name := "mixesWagon", desc := "(I)V" } : Jvm.MethodName) prog_9_method_63_code (3 : Nat) (Option.none : Option Jvm.ClassFile.FieldType)) ∈ tb := tb_mem 1142 (by decide +kernel) rfl
theorem tw_1143 : (Jvm.Cond.methodLink "BallastTrainModel" (174 : Nat) ({ cls := "BallastTrainModel", name := "wagon", desc := "(II)I" } : Jvm.MethodName)) ∈ tb := tb_mem 1143 (by decide +kernel) rfl
theorem tw_1144 : (Jvm.Cond.methodLink "BallastTrainModel" (180 : Nat) ({ cls := "BallastTrainModel", name := "doorOf", desc := "(III)I" } : Jvm.MethodName)) ∈ tb := tb_mem 1144 (by decide +kernel) rfl
theorem tw_1145 : (Jvm.Cond.methodLink "BallastTrainModel" (192 : Nat) ({ cls := "BallastTrainModel", name := "profile", desc := "(II)I" } : Jvm.MethodName)) ∈ tb := tb_mem 1145 (by decide +kernel) rfl
theorem tw_1146 : (Jvm.Cond.methodLink "BallastTrainModel" (195 : Nat) ({ cls := "BallastTrainModel", name := "foretell", desc := "(II)I" } : Jvm.MethodName)) ∈ tb := tb_mem 1146 (by decide +kernel) rfl
theorem tw_1147 : (Jvm.Cond.methodLink "BallastTrainModel" (198 : Nat) ({ cls := "BallastTrainModel", name := "emptyAfter", desc := "()I" } : Jvm.MethodName)) ∈ tb := tb_mem 1147 (by decide +kernel) rfl
theorem tw_1159 : (Jvm.Cond.selects "[Ljava/lang/Object;" ({ cls := "java/lang/Object", name := "getClass", desc := "()Ljava/lang/Class;" } : Jvm.MethodName) ({ cls := "java/lang/Object", name := "getClass", desc := "()Ljava/lang/Class;" } : Jvm.MethodName)) ∈ tb := tb_mem 1159 (by decide +kernel) rfl
theorem tw_1165 : (Jvm.Cond.fieldLink "java/lang/String" (15 : Nat) "java/lang/String" "coder" "B") ∈ tb := tb_mem 1165 (by decide +kernel) rfl
theorem tw_1166 : (Jvm.Cond.fieldLink "java/lang/String" (9 : Nat) "java/lang/String" "value" "[B") ∈ tb := tb_mem 1166 (by decide +kernel) rfl
theorem inb_Jx4a65c : ∀ w ∈ u_ws RJx4a65c TJx4a65c 3, w ∈ tb := by decide +kernel
theorem inb_X0 : ∀ w ∈ u_ws RX0 TX0 3, w ∈ tb := by decide +kernel
theorem inb_X1 : ∀ w ∈ u_ws RX1 TX1 5, w ∈ tb := by decide +kernel
theorem inb_X2 : ∀ w ∈ u_ws RX2 TX2 9, w ∈ tb := by decide +kernel
theorem inb_X3 : ∀ w ∈ u_ws RX3 TX3 5, w ∈ tb := by decide +kernel
theorem inb_X4 : ∀ w ∈ u_ws RX4 TX4 1, w ∈ tb := by decide +kernel
theorem inb_X5 : ∀ w ∈ u_ws RX5 TX5 8, w ∈ tb := by decide +kernel
theorem inb_X6 : ∀ w ∈ u_ws RX6 TX6 4, w ∈ tb := by decide +kernel
theorem inb_X7 : ∀ w ∈ u_ws RX7 TX7 11, w ∈ tb := by decide +kernel
theorem oi_X0_3 : Cond.methodLink "BallastTrain$History" 3 objectInit ∈ tb ∧ Cond.instanceMethod objectInit ∈ tb ∧ Cond.code objectInit ⟨#[0xb1]⟩ 1 none ∈ tb := ⟨tw_241, tw_83, by decide +kernel⟩
theorem cl_X0_9 : Cond.classLink "BallastTrain$History" 9 "BallastTrain$State" ∈ tb := tw_242
theorem fp_X0_11 : FP "BallastTrain$History" 11 1 0 true (.array (.object "BallastTrain$State")) := ⟨RX0, "BallastTrain$History", TX0, 3, tyX0, rfl, inb_X0, by decide, tw_245, Or.inl rfl, tyX0_ok, nmX0, rfl, fun _ => rfl, rfl⟩
theorem fp_X0_17 : FP "BallastTrain$History" 17 1 1 false .int := ⟨RX0, "BallastTrain$History", TX0, 3, tyX0, rfl, inb_X0, by decide, tw_246, Or.inl rfl, tyX0_ok, nmX0, rfl, (fun h => by cases h), rfl⟩
theorem fp_X0_21 : FP "BallastTrain$History" 21 1 2 false .int := ⟨RX0, "BallastTrain$History", TX0, 3, tyX0, rfl, inb_X0, by decide, tw_247, Or.inl rfl, tyX0_ok, nmX0, rfl, (fun h => by cases h), rfl⟩
theorem fd_X0_11 : FD "BallastTrain$History" 11 1 0 := ⟨RX0, "BallastTrain$History", TX0, 3, rfl, inb_X0, by decide, tw_245, Or.inl rfl⟩
theorem nd_X0_9 : ND "BallastTrain$History" 9 3 9 [.null, .null, .null, .null, .int 0, .int 0, .int 0, .int 0, .int 0] := ⟨RX2, TX2, tyX2, rfl, inb_X2, tyX2_ok, tw_242, tw_138, tw_61, fun j hj => by rcases (show j = 0 ∨ j = 1 ∨ j = 2 ∨ j = 3 ∨ j = 4 ∨ j = 5 ∨ j = 6 ∨ j = 7 ∨ j = 8 by omega) with rfl | rfl | rfl | rfl | rfl | rfl | rfl | rfl | rfl <;> rfl⟩
theorem min_X0_24 : MIN "BallastTrain$History" 24 yX2_init cX2_init 1 0 := ⟨⟨by decide +kernel, tw_140, rfl, tw_61, tw_141⟩, by decide, by decide, by decide +kernel⟩
theorem fd_X0_17 : FD "BallastTrain$History" 17 1 1 := ⟨RX0, "BallastTrain$History", TX0, 3, rfl, inb_X0, by decide, tw_246, Or.inl rfl⟩
theorem ms_X0_25 : MS "BallastTrain$History" 25 yJ9_floorMod_7cf53 cJ9_floorMod_7cf53 3 (some .int) 2 := ⟨⟨tw_506, tw_507, tw_69, tw_508⟩, by decide, by decide, by decide +kernel⟩
theorem mv_X0_31 : MV "BallastTrain$History" 31 yX2_copyFrom cX2_copyFrom 2 none 1 := ⟨⟨tw_509, tw_510, tw_511, tw_61, tw_512⟩, by decide, by decide, by decide +kernel⟩
theorem fd_X0_21 : FD "BallastTrain$History" 21 1 2 := ⟨RX0, "BallastTrain$History", TX0, 3, rfl, inb_X0, by decide, tw_247, Or.inl rfl⟩
theorem mm_X0_35 : Cond.methodLink "BallastTrain$History" 35 Lib.Math.min.name ∈ tb ∧ Cond.static Lib.Math.min.name ∈ tb ∧ Cond.initialized "java/lang/Math" ∈ tb ∧ Cond.code Lib.Math.min.name Lib.Math.min.code 2 (some .int) ∈ tb := ⟨tw_547, tw_345, tw_69, by decide +kernel⟩
theorem oi_X1_3 : Cond.methodLink "BallastTrain$Order" 3 objectInit ∈ tb ∧ Cond.instanceMethod objectInit ∈ tb ∧ Cond.code objectInit ⟨#[0xb1]⟩ 1 none ∈ tb := ⟨tw_424, tw_83, by decide +kernel⟩
theorem fp_X1_9 : FP "BallastTrain$Order" 9 2 0 true .int := ⟨RX1, "BallastTrain$Order", TX1, 5, tyX1, rfl, inb_X1, by decide, tw_425, Or.inl rfl, tyX1_ok, nmX1, rfl, fun _ => rfl, rfl⟩
theorem fp_X1_15 : FP "BallastTrain$Order" 15 2 1 true .int := ⟨RX1, "BallastTrain$Order", TX1, 5, tyX1, rfl, inb_X1, by decide, tw_426, Or.inl rfl, tyX1_ok, nmX1, rfl, fun _ => rfl, rfl⟩
theorem fp_X1_18 : FP "BallastTrain$Order" 18 2 2 true .int := ⟨RX1, "BallastTrain$Order", TX1, 5, tyX1, rfl, inb_X1, by decide, tw_427, Or.inl rfl, tyX1_ok, nmX1, rfl, fun _ => rfl, rfl⟩
theorem fp_X1_21 : FP "BallastTrain$Order" 21 2 3 true .int := ⟨RX1, "BallastTrain$Order", TX1, 5, tyX1, rfl, inb_X1, by decide, tw_428, Or.inl rfl, tyX1_ok, nmX1, rfl, fun _ => rfl, rfl⟩
theorem fp_X1_24 : FP "BallastTrain$Order" 24 2 4 true .int := ⟨RX1, "BallastTrain$Order", TX1, 5, tyX1, rfl, inb_X1, by decide, tw_429, Or.inl rfl, tyX1_ok, nmX1, rfl, fun _ => rfl, rfl⟩
theorem fd_X1_9 : FD "BallastTrain$Order" 9 2 0 := ⟨RX1, "BallastTrain$Order", TX1, 5, rfl, inb_X1, by decide, tw_425, Or.inl rfl⟩
theorem fd_X1_15 : FD "BallastTrain$Order" 15 2 1 := ⟨RX1, "BallastTrain$Order", TX1, 5, rfl, inb_X1, by decide, tw_426, Or.inl rfl⟩
theorem fd_X1_18 : FD "BallastTrain$Order" 18 2 2 := ⟨RX1, "BallastTrain$Order", TX1, 5, rfl, inb_X1, by decide, tw_427, Or.inl rfl⟩
theorem fd_X1_21 : FD "BallastTrain$Order" 21 2 3 := ⟨RX1, "BallastTrain$Order", TX1, 5, rfl, inb_X1, by decide, tw_428, Or.inl rfl⟩
theorem fd_X1_24 : FD "BallastTrain$Order" 24 2 4 := ⟨RX1, "BallastTrain$Order", TX1, 5, rfl, inb_X1, by decide, tw_429, Or.inl rfl⟩
theorem fd_X1_27 : FD "BallastTrain$Order" 27 6 1 := ⟨RX5, "BallastTrain$Train", TX5, 8, rfl, inb_X5, by decide, tw_167, Or.inl rfl⟩
theorem mv_X1_32 : MV "BallastTrain$Order" 32 yX5_hasDoor cX5_hasDoor 3 (some .boolean) 2 := ⟨⟨tw_638, tw_576, tw_577, tw_63, tw_578⟩, by decide, by decide, by decide +kernel⟩
theorem mv_X1_36 : MV "BallastTrain$Order" 36 yX5_cellBelow cX5_cellBelow 2 (some .int) 1 := ⟨⟨tw_639, tw_640, tw_641, tw_63, tw_642⟩, by decide, by decide, by decide +kernel⟩
theorem fp_X1_40 : FP "BallastTrain$Order" 40 6 3 false .int := ⟨RX5, "BallastTrain$Train", TX5, 8, tyX5, rfl, inb_X5, by decide, tw_172, Or.inl rfl, tyX5_ok, nmX5, rfl, (fun h => by cases h), rfl⟩
theorem mv_X1_43 : MV "BallastTrain$Order" 43 yX5_openDoor cX5_openDoor 4 none 3 := ⟨⟨tw_647, tw_589, tw_590, tw_63, tw_591⟩, by decide, by decide, by decide +kernel⟩
theorem mv_X1_47 : MV "BallastTrain$Order" 47 yX5_closeDoor cX5_closeDoor 4 none 3 := ⟨⟨tw_648, tw_585, tw_586, tw_63, tw_587⟩, by decide, by decide, by decide +kernel⟩
theorem oi_X2_3 : Cond.methodLink "BallastTrain$State" 3 objectInit ∈ tb ∧ Cond.instanceMethod objectInit ∈ tb ∧ Cond.code objectInit ⟨#[0xb1]⟩ 1 none ∈ tb := ⟨tw_142, tw_83, by decide +kernel⟩
theorem fp_X2_9 : FP "BallastTrain$State" 9 3 0 true (.array .int) := ⟨RX2, "BallastTrain$State", TX2, 9, tyX2, rfl, inb_X2, by decide, tw_199, Or.inl rfl, tyX2_ok, nmX2, rfl, fun _ => rfl, rfl⟩
theorem nd_X2_15 : ND "BallastTrain$State" 15 5 1 [.null] := ⟨RX4, TX4, tyX4, rfl, inb_X4, tyX4_ok, tw_143, tw_144, tw_62, fun j hj => by rcases (show j = 0 by omega) with rfl <;> rfl⟩
theorem min_X2_17 : MIN "BallastTrain$State" 17 yX4_init cX4_init 1 0 := ⟨⟨by decide +kernel, tw_146, rfl, tw_62, tw_147⟩, by decide, by decide, by decide +kernel⟩
theorem fp_X2_18 : FP "BallastTrain$State" 18 3 1 true (.object "BallastTrain$Track") := ⟨RX2, "BallastTrain$State", TX2, 9, tyX2, rfl, inb_X2, by decide, tw_201, Or.inl rfl, tyX2_ok, nmX2, rfl, fun _ => rfl, rfl⟩
theorem nd_X2_22 : ND "BallastTrain$State" 22 6 8 [.int 0, .int 0, .int 0, .int 0, .null, .null, .null, .null] := ⟨RX5, TX5, tyX5, rfl, inb_X5, tyX5_ok, tw_154, tw_155, tw_63, fun j hj => by rcases (show j = 0 ∨ j = 1 ∨ j = 2 ∨ j = 3 ∨ j = 4 ∨ j = 5 ∨ j = 6 ∨ j = 7 by omega) with rfl | rfl | rfl | rfl | rfl | rfl | rfl | rfl <;> rfl⟩
theorem mi_X2_24 : MI "BallastTrain$State" 24 yX5_init cX5_init 1 0 := ⟨⟨tw_156, tw_157, rfl, tw_63, tw_158⟩, by decide, by decide, by decide +kernel⟩
theorem fp_X2_25 : FP "BallastTrain$State" 25 3 2 true (.object "BallastTrain$Train") := ⟨RX2, "BallastTrain$State", TX2, 9, tyX2, rfl, inb_X2, by decide, tw_203, Or.inl rfl, tyX2_ok, nmX2, rfl, fun _ => rfl, rfl⟩
theorem nd_X2_29 : ND "BallastTrain$State" 29 0 3 [.int 0, .null, .int 0] := ⟨RJx4a65c, TJx4a65c, tyJx4a65c, rfl, inb_Jx4a65c, tyJx4a65c_ok, tw_197, tw_92, tw_60, fun j hj => by rcases (show j = 0 ∨ j = 1 ∨ j = 2 by omega) with rfl | rfl | rfl <;> rfl⟩
theorem mi_X2_31 : MI "BallastTrain$State" 31 yJx4a65c_init_da8c8 cJx4a65c_init_da8c8 1 0 := ⟨⟨tw_198, tw_94, rfl, tw_60, tw_95⟩, by decide, by decide, by decide +kernel⟩
theorem fp_X2_32 : FP "BallastTrain$State" 32 3 3 true (.object "java/util/ArrayList") := ⟨RX2, "BallastTrain$State", TX2, 9, tyX2, rfl, inb_X2, by decide, tw_205, Or.inl rfl, tyX2_ok, nmX2, rfl, fun _ => rfl, rfl⟩
theorem fp_X2_36 : FP "BallastTrain$State" 36 3 4 false .int := ⟨RX2, "BallastTrain$State", TX2, 9, tyX2, rfl, inb_X2, by decide, tw_207, Or.inl rfl, tyX2_ok, nmX2, rfl, (fun h => by cases h), rfl⟩
theorem fp_X2_40 : FP "BallastTrain$State" 40 3 5 false .int := ⟨RX2, "BallastTrain$State", TX2, 9, tyX2, rfl, inb_X2, by decide, tw_209, Or.inl rfl, tyX2_ok, nmX2, rfl, (fun h => by cases h), rfl⟩
theorem fp_X2_43 : FP "BallastTrain$State" 43 3 6 false .int := ⟨RX2, "BallastTrain$State", TX2, 9, tyX2, rfl, inb_X2, by decide, tw_211, Or.inl rfl, tyX2_ok, nmX2, rfl, (fun h => by cases h), rfl⟩
theorem fp_X2_46 : FP "BallastTrain$State" 46 3 7 false .int := ⟨RX2, "BallastTrain$State", TX2, 9, tyX2, rfl, inb_X2, by decide, tw_213, Or.inl rfl, tyX2_ok, nmX2, rfl, (fun h => by cases h), rfl⟩
theorem fp_X2_49 : FP "BallastTrain$State" 49 3 8 false .int := ⟨RX2, "BallastTrain$State", TX2, 9, tyX2, rfl, inb_X2, by decide, tw_215, Or.inl rfl, tyX2_ok, nmX2, rfl, (fun h => by cases h), rfl⟩
theorem fd_X2_9 : FD "BallastTrain$State" 9 3 0 := ⟨RX2, "BallastTrain$State", TX2, 9, rfl, inb_X2, by decide, tw_199, Or.inl rfl⟩
theorem msn_X2_52 : MSN "BallastTrain$State" 52 yX6_copyRow cX6_copyRow 2 none 2 := ⟨⟨by decide +kernel, tw_514, tw_56, tw_515⟩, by decide, by decide, by decide +kernel⟩
theorem fd_X2_18 : FD "BallastTrain$State" 18 3 1 := ⟨RX2, "BallastTrain$State", TX2, 9, rfl, inb_X2, by decide, tw_201, Or.inl rfl⟩
theorem fd_X2_56 : FD "BallastTrain$State" 56 5 0 := ⟨RX4, "BallastTrain$Track", TX4, 1, rfl, inb_X4, by decide, tw_150, Or.inl rfl⟩
theorem fd_X2_25 : FD "BallastTrain$State" 25 3 2 := ⟨RX2, "BallastTrain$State", TX2, 9, rfl, inb_X2, by decide, tw_203, Or.inl rfl⟩
theorem mv_X2_59 : MV "BallastTrain$State" 59 yX5_copyFrom cX5_copyFrom 2 none 1 := ⟨⟨tw_518, tw_519, tw_520, tw_63, tw_521⟩, by decide, by decide, by decide +kernel⟩
theorem fd_X2_32 : FD "BallastTrain$State" 32 3 3 := ⟨RX2, "BallastTrain$State", TX2, 9, rfl, inb_X2, by decide, tw_205, Or.inl rfl⟩
theorem mv_X2_63 : MV "BallastTrain$State" 63 yJx4a65c_clear_da8c8 cJx4a65c_clear_da8c8 4 none 0 := ⟨⟨tw_523, tw_293, tw_294, tw_60, tw_295⟩, by decide, by decide, by decide +kernel⟩
theorem msn_X2_66 : MSN "BallastTrain$State" 66 yX6_addAll cX6_addAll 3 none 2 := ⟨⟨by decide +kernel, tw_525, tw_56, tw_526⟩, by decide, by decide, by decide +kernel⟩
theorem fd_X2_36 : FD "BallastTrain$State" 36 3 4 := ⟨RX2, "BallastTrain$State", TX2, 9, rfl, inb_X2, by decide, tw_207, Or.inl rfl⟩
theorem fd_X2_40 : FD "BallastTrain$State" 40 3 5 := ⟨RX2, "BallastTrain$State", TX2, 9, rfl, inb_X2, by decide, tw_209, Or.inl rfl⟩
theorem fd_X2_43 : FD "BallastTrain$State" 43 3 6 := ⟨RX2, "BallastTrain$State", TX2, 9, rfl, inb_X2, by decide, tw_211, Or.inl rfl⟩
theorem fd_X2_46 : FD "BallastTrain$State" 46 3 7 := ⟨RX2, "BallastTrain$State", TX2, 9, rfl, inb_X2, by decide, tw_213, Or.inl rfl⟩
theorem fd_X2_49 : FD "BallastTrain$State" 49 3 8 := ⟨RX2, "BallastTrain$State", TX2, 9, rfl, inb_X2, by decide, tw_215, Or.inl rfl⟩
theorem mv_X2_70 : MV "BallastTrain$State" 70 yX5_move cX5_move 1 none 0 := ⟨⟨tw_622, tw_623, tw_624, tw_63, tw_625⟩, by decide, by decide, by decide +kernel⟩
theorem mv_X2_73 : MV "BallastTrain$State" 73 yX2_carryOutOrders cX2_carryOutOrders 4 none 0 := ⟨⟨tw_627, tw_629, tw_10, tw_61, tw_630⟩, by decide, by decide, by decide +kernel⟩
theorem mv_X2_76 : MV "BallastTrain$State" 76 yX2_unload cX2_unload 3 none 0 := ⟨⟨tw_654, tw_656, tw_11, tw_61, tw_657⟩, by decide, by decide, by decide +kernel⟩
theorem mv_X2_79 : MV "BallastTrain$State" 79 yX4_slide cX4_slide 4 none 1 := ⟨⟨tw_675, tw_676, tw_677, tw_62, tw_678⟩, by decide, by decide, by decide +kernel⟩
theorem mv_X2_83 : MV "BallastTrain$State" 83 yX4_cutShoulders cX4_cutShoulders 5 (some .int) 1 := ⟨⟨tw_679, tw_680, tw_681, tw_62, tw_682⟩, by decide, by decide, by decide +kernel⟩
theorem mv_X2_87 : MV "BallastTrain$State" 87 yX5_closeFurther cX5_closeFurther 5 (some .int) 1 := ⟨⟨tw_683, tw_684, tw_685, tw_63, tw_686⟩, by decide, by decide, by decide +kernel⟩
theorem fd_X2_90 : FD "BallastTrain$State" 90 6 0 := ⟨RX5, "BallastTrain$Train", TX5, 8, rfl, inb_X5, by decide, tw_164, Or.inl rfl⟩
theorem mv_X2_93 : MV "BallastTrain$State" 93 yX5_cellBelow cX5_cellBelow 2 (some .int) 1 := ⟨⟨tw_658, tw_640, tw_641, tw_63, tw_642⟩, by decide, by decide, by decide +kernel⟩
theorem mv_X2_96 : MV "BallastTrain$State" 96 yX5_drop cX5_drop 4 (some .int) 2 := ⟨⟨tw_659, tw_660, tw_661, tw_63, tw_662⟩, by decide, by decide, by decide +kernel⟩
theorem mv_X2_100 : MV "BallastTrain$State" 100 yX2_land cX2_land 4 none 3 := ⟨⟨tw_663, tw_665, tw_12, tw_61, tw_666⟩, by decide, by decide, by decide +kernel⟩
theorem ms_X2_104 : MS "BallastTrain$State" 104 yX4_has cX4_has 2 (some .boolean) 2 := ⟨⟨tw_667, tw_668, tw_62, tw_669⟩, by decide, by decide, by decide +kernel⟩
theorem mv_X2_108 : MV "BallastTrain$State" 108 yX4_add cX4_add 4 none 3 := ⟨⟨tw_670, tw_671, tw_672, tw_62, tw_673⟩, by decide, by decide, by decide +kernel⟩
theorem mv_X2_111 : MV "BallastTrain$State" 111 yJx4a65c_size_8abf5 cJx4a65c_size_8abf5 1 (some .int) 0 := ⟨⟨tw_631, tw_528, tw_529, tw_60, tw_530⟩, by decide, by decide, by decide +kernel⟩
theorem mv_X2_115 : MV "BallastTrain$State" 115 yJx4a65c_get_915e3 cJx4a65c_get_915e3 2 (some (.object "java/lang/Object")) 1 := ⟨⟨tw_632, tw_532, tw_533, tw_60, tw_534⟩, by decide, by decide, by decide +kernel⟩
theorem cl_X2_119 : Cond.classLink "BallastTrain$State" 119 "BallastTrain$Order" ∈ tb := tw_633
theorem mv_X2_121 : MV "BallastTrain$State" 121 yX1_isDue cX1_isDue 2 (some .boolean) 1 := ⟨⟨tw_634, tw_635, tw_636, tw_73, tw_637⟩, by decide, by decide, by decide +kernel⟩
theorem mv_X2_125 : MV "BallastTrain$State" 125 yX1_carryOut cX1_carryOut 3 none 2 := ⟨⟨tw_643, tw_644, tw_645, tw_73, tw_646⟩, by decide, by decide, by decide +kernel⟩
theorem mv_X2_129 : MV "BallastTrain$State" 129 yJx4a65c_set_bcc79 cJx4a65c_set_bcc79 4 (some (.object "java/lang/Object")) 2 := ⟨⟨tw_649, tw_650, tw_651, tw_60, tw_652⟩, by decide, by decide, by decide +kernel⟩
theorem mv_X2_133 : MV "BallastTrain$State" 133 yJx4a65c_remove_915e3 cJx4a65c_remove_915e3 4 (some (.object "java/lang/Object")) 1 := ⟨⟨tw_653, tw_606, tw_607, tw_60, tw_608⟩, by decide, by decide, by decide +kernel⟩
theorem oi_X3_3 : Cond.methodLink "BallastTrain$Text" 3 objectInit ∈ tb ∧ Cond.instanceMethod objectInit ∈ tb ∧ Cond.code objectInit ⟨#[0xb1]⟩ 1 none ∈ tb := ⟨tw_90, tw_83, by decide +kernel⟩
theorem fp_X3_9 : FP "BallastTrain$Text" 9 4 0 true (.array .int) := ⟨RX3, "BallastTrain$Text", TX3, 5, tyX3, rfl, inb_X3, by decide, tw_118, Or.inl rfl, tyX3_ok, nmX3, rfl, fun _ => rfl, rfl⟩
theorem fp_X3_15 : FP "BallastTrain$Text" 15 4 1 false .int := ⟨RX3, "BallastTrain$Text", TX3, 5, tyX3, rfl, inb_X3, by decide, tw_119, Or.inl rfl, tyX3_ok, nmX3, rfl, (fun h => by cases h), rfl⟩
theorem nd_X3_19 : ND "BallastTrain$Text" 19 0 3 [.int 0, .null, .int 0] := ⟨RJx4a65c, TJx4a65c, tyJx4a65c, rfl, inb_Jx4a65c, tyJx4a65c_ok, tw_91, tw_92, tw_60, fun j hj => by rcases (show j = 0 ∨ j = 1 ∨ j = 2 by omega) with rfl | rfl | rfl <;> rfl⟩
theorem mi_X3_21 : MI "BallastTrain$Text" 21 yJx4a65c_init_da8c8 cJx4a65c_init_da8c8 1 0 := ⟨⟨tw_93, tw_94, rfl, tw_60, tw_95⟩, by decide, by decide, by decide +kernel⟩
theorem fp_X3_22 : FP "BallastTrain$Text" 22 4 2 true (.object "java/util/ArrayList") := ⟨RX3, "BallastTrain$Text", TX3, 5, tyX3, rfl, inb_X3, by decide, tw_121, Or.inl rfl, tyX3_ok, nmX3, rfl, fun _ => rfl, rfl⟩
theorem fp_X3_26 : FP "BallastTrain$Text" 26 4 3 false .int := ⟨RX3, "BallastTrain$Text", TX3, 5, tyX3, rfl, inb_X3, by decide, tw_123, Or.inl rfl, tyX3_ok, nmX3, rfl, (fun h => by cases h), rfl⟩
theorem fp_X3_29 : FP "BallastTrain$Text" 29 4 4 false .int := ⟨RX3, "BallastTrain$Text", TX3, 5, tyX3, rfl, inb_X3, by decide, tw_125, Or.inl rfl, tyX3_ok, nmX3, rfl, (fun h => by cases h), rfl⟩
theorem fd_X3_15 : FD "BallastTrain$Text" 15 4 1 := ⟨RX3, "BallastTrain$Text", TX3, 5, rfl, inb_X3, by decide, tw_119, Or.inl rfl⟩
theorem fd_X3_9 : FD "BallastTrain$Text" 9 4 0 := ⟨RX3, "BallastTrain$Text", TX3, 5, rfl, inb_X3, by decide, tw_118, Or.inl rfl⟩
theorem fd_X3_22 : FD "BallastTrain$Text" 22 4 2 := ⟨RX3, "BallastTrain$Text", TX3, 5, rfl, inb_X3, by decide, tw_121, Or.inl rfl⟩
theorem mv_X3_32 : MV "BallastTrain$Text" 32 yJx4a65c_clear_da8c8 cJx4a65c_clear_da8c8 4 none 0 := ⟨⟨tw_292, tw_293, tw_294, tw_60, tw_295⟩, by decide, by decide, by decide +kernel⟩
theorem mv_X3_35 : MV "BallastTrain$Text" 35 yX3_skipBlanks cX3_skipBlanks 2 none 0 := ⟨⟨tw_296, tw_298, tw_0, tw_57, tw_299⟩, by decide, by decide, by decide +kernel⟩
theorem fd_X3_26 : FD "BallastTrain$Text" 26 4 3 := ⟨RX3, "BallastTrain$Text", TX3, 5, rfl, inb_X3, by decide, tw_123, Or.inl rfl⟩
theorem fd_X3_29 : FD "BallastTrain$Text" 29 4 4 := ⟨RX3, "BallastTrain$Text", TX3, 5, rfl, inb_X3, by decide, tw_125, Or.inl rfl⟩
theorem mv_X3_38 : MV "BallastTrain$Text" 38 yX3_readOrder cX3_readOrder 6 none 0 := ⟨⟨tw_304, tw_306, tw_1, tw_57, tw_307⟩, by decide, by decide, by decide +kernel⟩
theorem mv_X3_43 : MV "BallastTrain$Text" 43 yX3_takeOneOf cX3_takeOneOf 4 (some .int) 1 := ⟨⟨tw_309, tw_311, tw_2, tw_57, tw_312⟩, by decide, by decide, by decide +kernel⟩
theorem mv_X3_47 : MV "BallastTrain$Text" 47 yX3_takeCell cX3_takeCell 4 (some .int) 0 := ⟨⟨tw_405, tw_407, tw_4, tw_57, tw_408⟩, by decide, by decide, by decide +kernel⟩
theorem mv_X3_53 : MV "BallastTrain$Text" 53 yX3_takeDigit cX3_takeDigit 3 (some .int) 2 := ⟨⟨tw_413, tw_415, tw_5, tw_57, tw_416⟩, by decide, by decide, by decide +kernel⟩
theorem nd_X3_61 : ND "BallastTrain$Text" 61 2 5 [.int 0, .int 0, .int 0, .int 0, .int 0] := ⟨RX1, TX1, tyX1, rfl, inb_X1, tyX1_ok, tw_419, tw_420, tw_73, fun j hj => by rcases (show j = 0 ∨ j = 1 ∨ j = 2 ∨ j = 3 ∨ j = 4 by omega) with rfl | rfl | rfl | rfl | rfl <;> rfl⟩
theorem mi_X3_63 : MI "BallastTrain$Text" 63 yX1_init cX1_init 6 5 := ⟨⟨tw_421, tw_422, rfl, tw_73, tw_423⟩, by decide, by decide, by decide +kernel⟩
theorem mv_X3_66 : MV "BallastTrain$Text" 66 yJx4a65c_add_9ea2d cJx4a65c_add_9ea2d 2 (some .boolean) 1 := ⟨⟨tw_442, tw_443, tw_444, tw_60, tw_445⟩, by decide, by decide, by decide +kernel⟩
theorem mv_X3_70 : MV "BallastTrain$Text" 70 yX3_byteAt cX3_byteAt 2 (some .int) 1 := ⟨⟨tw_300, tw_301, tw_302, tw_57, tw_303⟩, by decide, by decide, by decide +kernel⟩
theorem mv_X3_74 : MV "BallastTrain$Text" 74 yJ0_indexOf_0f7a4 cJ0_indexOf_0f7a4 2 (some .int) 1 := ⟨⟨tw_313, tw_314, tw_315, tw_67, tw_316⟩, by decide, by decide, by decide +kernel⟩
theorem mv_X3_79 : MV "BallastTrain$Text" 79 yJ0_length_8abf5 cJ0_length_8abf5 1 (some .int) 0 := ⟨⟨tw_399, tw_328, tw_329, tw_67, tw_330⟩, by decide, by decide, by decide +kernel⟩
theorem mv_X3_81 : MV "BallastTrain$Text" 81 yX3_take cX3_take 4 (some .int) 3 := ⟨⟨tw_400, tw_402, tw_3, tw_57, tw_403⟩, by decide, by decide, by decide +kernel⟩
theorem msn_X3_85 : MSN "BallastTrain$Text" 85 yX6_isWithin cX6_isWithin 3 (some .boolean) 3 := ⟨⟨by decide +kernel, tw_274, tw_56, tw_275⟩, by decide, by decide, by decide +kernel⟩
theorem ms_X3_89 : MS "BallastTrain$Text" 89 yX3_isDigit cX3_isDigit 1 (some .boolean) 1 := ⟨⟨tw_409, tw_410, tw_57, tw_411⟩, by decide, by decide, by decide +kernel⟩
theorem oi_X4_3 : Cond.methodLink "BallastTrain$Track" 3 objectInit ∈ tb ∧ Cond.instanceMethod objectInit ∈ tb ∧ Cond.code objectInit ⟨#[0xb1]⟩ 1 none ∈ tb := ⟨tw_148, tw_83, by decide +kernel⟩
theorem fp_X4_9 : FP "BallastTrain$Track" 9 5 0 true (.array .int) := ⟨RX4, "BallastTrain$Track", TX4, 1, tyX4, rfl, inb_X4, by decide, tw_149, Or.inl rfl, tyX4_ok, nmX4, rfl, fun _ => rfl, rfl⟩
theorem ms_X4_15 : MS "BallastTrain$Track" 15 yX4_has cX4_has 2 (some .boolean) 2 := ⟨⟨tw_674, tw_668, tw_62, tw_669⟩, by decide, by decide, by decide +kernel⟩
theorem fd_X4_9 : FD "BallastTrain$Track" 9 5 0 := ⟨RX4, "BallastTrain$Track", TX4, 1, rfl, inb_X4, by decide, tw_149, Or.inl rfl⟩
theorem msn_X4_19 : MSN "BallastTrain$Track" 19 yX6_sum cX6_sum 6 (some .int) 1 := ⟨⟨by decide +kernel, tw_557, tw_56, tw_558⟩, by decide, by decide, by decide +kernel⟩
theorem mv_X4_23 : MV "BallastTrain$Track" 23 yX4_heightAt cX4_heightAt 3 (some .int) 2 := ⟨⟨tw_740, tw_693, tw_694, tw_62, tw_695⟩, by decide, by decide, by decide +kernel⟩
theorem mv_X4_27 : MV "BallastTrain$Track" 27 yX4_firstGreatestOn cX4_firstGreatestOn 4 (some .int) 1 := ⟨⟨tw_745, tw_746, tw_747, tw_62, tw_748⟩, by decide, by decide, by decide +kernel⟩
theorem mm_X4_31 : Cond.methodLink "BallastTrain$Track" 31 Lib.Math.max.name ∈ tb ∧ Cond.static Lib.Math.max.name ∈ tb ∧ Cond.initialized "java/lang/Math" ∈ tb ∧ Cond.code Lib.Math.max.name Lib.Math.max.code 2 (some .int) ∈ tb := ⟨tw_758, tw_342, tw_69, by decide +kernel⟩
theorem mm_X4_36 : Cond.methodLink "BallastTrain$Track" 36 Lib.Math.abs.name ∈ tb ∧ Cond.static Lib.Math.abs.name ∈ tb ∧ Cond.initialized "java/lang/Math" ∈ tb ∧ Cond.code Lib.Math.abs.name Lib.Math.abs.code 1 (some .int) ∈ tb := ⟨tw_763, tw_764, tw_69, by decide +kernel⟩
theorem mv_X4_39 : MV "BallastTrain$Track" 39 yX4_lowestIn cX4_lowestIn 4 (some .int) 1 := ⟨⟨tw_778, tw_780, tw_13, tw_62, tw_781⟩, by decide, by decide, by decide +kernel⟩
theorem mm_X4_42 : Cond.methodLink "BallastTrain$Track" 42 Lib.Math.min.name ∈ tb ∧ Cond.static Lib.Math.min.name ∈ tb ∧ Cond.initialized "java/lang/Math" ∈ tb ∧ Cond.code Lib.Math.min.name Lib.Math.min.code 2 (some .int) ∈ tb := ⟨tw_782, tw_345, tw_69, by decide +kernel⟩
theorem oi_X5_3 : Cond.methodLink "BallastTrain$Train" 3 objectInit ∈ tb ∧ Cond.instanceMethod objectInit ∈ tb ∧ Cond.code objectInit ⟨#[0xb1]⟩ 1 none ∈ tb := ⟨tw_159, tw_83, by decide +kernel⟩
theorem fp_X5_9 : FP "BallastTrain$Train" 9 6 0 false .int := ⟨RX5, "BallastTrain$Train", TX5, 8, tyX5, rfl, inb_X5, by decide, tw_163, Or.inl rfl, tyX5_ok, nmX5, rfl, (fun h => by cases h), rfl⟩
theorem fp_X5_15 : FP "BallastTrain$Train" 15 6 1 false .int := ⟨RX5, "BallastTrain$Train", TX5, 8, tyX5, rfl, inb_X5, by decide, tw_166, Or.inl rfl, tyX5_ok, nmX5, rfl, (fun h => by cases h), rfl⟩
theorem fp_X5_18 : FP "BallastTrain$Train" 18 6 2 false .int := ⟨RX5, "BallastTrain$Train", TX5, 8, tyX5, rfl, inb_X5, by decide, tw_169, Or.inl rfl, tyX5_ok, nmX5, rfl, (fun h => by cases h), rfl⟩
theorem fp_X5_21 : FP "BallastTrain$Train" 21 6 3 false .int := ⟨RX5, "BallastTrain$Train", TX5, 8, tyX5, rfl, inb_X5, by decide, tw_171, Or.inl rfl, tyX5_ok, nmX5, rfl, (fun h => by cases h), rfl⟩
theorem fp_X5_24 : FP "BallastTrain$Train" 24 6 4 true (.array .int) := ⟨RX5, "BallastTrain$Train", TX5, 8, tyX5, rfl, inb_X5, by decide, tw_174, Or.inl rfl, tyX5_ok, nmX5, rfl, fun _ => rfl, rfl⟩
theorem fp_X5_28 : FP "BallastTrain$Train" 28 6 5 true (.array .int) := ⟨RX5, "BallastTrain$Train", TX5, 8, tyX5, rfl, inb_X5, by decide, tw_176, Or.inl rfl, tyX5_ok, nmX5, rfl, fun _ => rfl, rfl⟩
theorem fp_X5_31 : FP "BallastTrain$Train" 31 6 6 true (.array .int) := ⟨RX5, "BallastTrain$Train", TX5, 8, tyX5, rfl, inb_X5, by decide, tw_178, Or.inl rfl, tyX5_ok, nmX5, rfl, fun _ => rfl, rfl⟩
theorem fp_X5_34 : FP "BallastTrain$Train" 34 6 7 true (.array .int) := ⟨RX5, "BallastTrain$Train", TX5, 8, tyX5, rfl, inb_X5, by decide, tw_179, Or.inl rfl, tyX5_ok, nmX5, rfl, fun _ => rfl, rfl⟩
theorem fd_X5_34 : FD "BallastTrain$Train" 34 6 7 := ⟨RX5, "BallastTrain$Train", TX5, 8, rfl, inb_X5, by decide, tw_179, Or.inl rfl⟩
theorem ms_X5_37 : MS "BallastTrain$Train" 37 yJ7_fill_53178 cJ7_fill_53178 4 none 2 := ⟨⟨tw_160, tw_161, tw_64, tw_162⟩, by decide, by decide, by decide +kernel⟩
theorem fd_X5_24 : FD "BallastTrain$Train" 24 6 4 := ⟨RX5, "BallastTrain$Train", TX5, 8, rfl, inb_X5, by decide, tw_174, Or.inl rfl⟩
theorem fd_X5_28 : FD "BallastTrain$Train" 28 6 5 := ⟨RX5, "BallastTrain$Train", TX5, 8, rfl, inb_X5, by decide, tw_176, Or.inl rfl⟩
theorem fd_X5_31 : FD "BallastTrain$Train" 31 6 6 := ⟨RX5, "BallastTrain$Train", TX5, 8, rfl, inb_X5, by decide, tw_178, Or.inl rfl⟩
theorem fd_X5_9 : FD "BallastTrain$Train" 9 6 0 := ⟨RX5, "BallastTrain$Train", TX5, 8, rfl, inb_X5, by decide, tw_163, Or.inl rfl⟩
theorem fd_X5_15 : FD "BallastTrain$Train" 15 6 1 := ⟨RX5, "BallastTrain$Train", TX5, 8, rfl, inb_X5, by decide, tw_166, Or.inl rfl⟩
theorem fd_X5_18 : FD "BallastTrain$Train" 18 6 2 := ⟨RX5, "BallastTrain$Train", TX5, 8, rfl, inb_X5, by decide, tw_169, Or.inl rfl⟩
theorem fd_X5_21 : FD "BallastTrain$Train" 21 6 3 := ⟨RX5, "BallastTrain$Train", TX5, 8, rfl, inb_X5, by decide, tw_171, Or.inl rfl⟩
theorem msn_X5_43 : MSN "BallastTrain$Train" 43 yX6_copyRow cX6_copyRow 2 none 2 := ⟨⟨by decide +kernel, tw_514, tw_56, tw_515⟩, by decide, by decide, by decide +kernel⟩
theorem mv_X5_47 : MV "BallastTrain$Train" 47 yX5_hasDoor cX5_hasDoor 3 (some .boolean) 2 := ⟨⟨tw_583, tw_576, tw_577, tw_63, tw_578⟩, by decide, by decide, by decide +kernel⟩
theorem msn_X5_51 : MSN "BallastTrain$Train" 51 yX6_sum cX6_sum 6 (some .int) 1 := ⟨⟨by decide +kernel, tw_557, tw_56, tw_558⟩, by decide, by decide, by decide +kernel⟩
theorem mv_X5_55 : MV "BallastTrain$Train" 55 yX5_levelOf cX5_levelOf 3 (some .int) 2 := ⟨⟨tw_714, tw_580, tw_581, tw_63, tw_582⟩, by decide, by decide, by decide +kernel⟩
theorem mv_X5_59 : MV "BallastTrain$Train" 59 yX5_restOf cX5_restOf 3 (some .int) 2 := ⟨⟨tw_719, tw_720, tw_721, tw_63, tw_722⟩, by decide, by decide, by decide +kernel⟩
theorem mm_X5_62 : Cond.methodLink "BallastTrain$Train" 62 Lib.Math.min.name ∈ tb ∧ Cond.static Lib.Math.min.name ∈ tb ∧ Cond.initialized "java/lang/Math" ∈ tb ∧ Cond.code Lib.Math.min.name Lib.Math.min.code 2 (some .int) ∈ tb := ⟨tw_626, tw_345, tw_69, by decide +kernel⟩
theorem oi_X6_1 : Cond.methodLink "BallastTrain" 1 objectInit ∈ tb ∧ Cond.instanceMethod objectInit ∈ tb ∧ Cond.code objectInit ⟨#[0xb1]⟩ 1 none ∈ tb := ⟨tw_82, tw_83, by decide +kernel⟩
theorem nd_X6_7 : ND "BallastTrain" 7 4 5 [.null, .int 0, .null, .int 0, .int 0] := ⟨RX3, TX3, tyX3, rfl, inb_X3, tyX3_ok, tw_85, tw_86, tw_57, fun j hj => by rcases (show j = 0 ∨ j = 1 ∨ j = 2 ∨ j = 3 ∨ j = 4 by omega) with rfl | rfl | rfl | rfl | rfl <;> rfl⟩
theorem min_X6_9 : MIN "BallastTrain" 9 yX3_init cX3_init 1 0 := ⟨⟨by decide +kernel, tw_88, rfl, tw_57, tw_89⟩, by decide, by decide, by decide +kernel⟩
theorem fp_X6_10 : FP "BallastTrain" 10 7 0 true (.object "BallastTrain$Text") := ⟨RX6, "BallastTrain", TX6, 4, tyX6, rfl, inb_X6, by decide, tw_256, Or.inl rfl, tyX6_ok, nmX6, rfl, fun _ => rfl, rfl⟩
theorem nd_X6_16 : ND "BallastTrain" 16 3 9 [.null, .null, .null, .null, .int 0, .int 0, .int 0, .int 0, .int 0] := ⟨RX2, TX2, tyX2, rfl, inb_X2, tyX2_ok, tw_137, tw_138, tw_61, fun j hj => by rcases (show j = 0 ∨ j = 1 ∨ j = 2 ∨ j = 3 ∨ j = 4 ∨ j = 5 ∨ j = 6 ∨ j = 7 ∨ j = 8 by omega) with rfl | rfl | rfl | rfl | rfl | rfl | rfl | rfl | rfl <;> rfl⟩
theorem min_X6_18 : MIN "BallastTrain" 18 yX2_init cX2_init 1 0 := ⟨⟨by decide +kernel, tw_140, rfl, tw_61, tw_141⟩, by decide, by decide, by decide +kernel⟩
theorem fp_X6_19 : FP "BallastTrain" 19 7 1 true (.object "BallastTrain$State") := ⟨RX6, "BallastTrain", TX6, 4, tyX6, rfl, inb_X6, by decide, tw_257, Or.inl rfl, tyX6_ok, nmX6, rfl, fun _ => rfl, rfl⟩
theorem fp_X6_23 : FP "BallastTrain" 23 7 2 true (.object "BallastTrain$State") := ⟨RX6, "BallastTrain", TX6, 4, tyX6, rfl, inb_X6, by decide, tw_258, Or.inl rfl, tyX6_ok, nmX6, rfl, fun _ => rfl, rfl⟩
theorem nd_X6_26 : ND "BallastTrain" 26 1 3 [.null, .int 0, .int 0] := ⟨RX0, TX0, tyX0, rfl, inb_X0, tyX0_ok, tw_236, tw_237, tw_65, fun j hj => by rcases (show j = 0 ∨ j = 1 ∨ j = 2 by omega) with rfl | rfl | rfl <;> rfl⟩
theorem mi_X6_28 : MI "BallastTrain" 28 yX0_init cX0_init 2 0 := ⟨⟨tw_238, tw_239, rfl, tw_65, tw_240⟩, by decide, by decide, by decide +kernel⟩
theorem fp_X6_29 : FP "BallastTrain" 29 7 3 true (.object "BallastTrain$History") := ⟨RX6, "BallastTrain", TX6, 4, tyX6, rfl, inb_X6, by decide, tw_259, Or.inl rfl, tyX6_ok, nmX6, rfl, fun _ => rfl, rfl⟩
theorem ms_X6_33 : MS "BallastTrain" 33 yX6_isWithin cX6_isWithin 3 (some .boolean) 3 := ⟨⟨tw_273, tw_274, tw_56, tw_275⟩, by decide, by decide, by decide +kernel⟩
theorem fd_X6_10 : FD "BallastTrain" 10 7 0 := ⟨RX6, "BallastTrain", TX6, 4, rfl, inb_X6, by decide, tw_256, Or.inl rfl⟩
theorem mv_X6_37 : MV "BallastTrain" 37 yX3_append cX3_append 2 (some .boolean) 1 := ⟨⟨tw_276, tw_277, tw_278, tw_57, tw_279⟩, by decide, by decide, by decide +kernel⟩
theorem fd_X6_41 : FD "BallastTrain" 41 4 1 := ⟨RX3, "BallastTrain$Text", TX3, 5, rfl, inb_X3, by decide, tw_120, Or.inl rfl⟩
theorem fp_X6_41 : FP "BallastTrain" 41 4 1 false .int := ⟨RX3, "BallastTrain$Text", TX3, 5, tyX3, rfl, inb_X3, by decide, tw_120, Or.inl rfl, tyX3_ok, nmX3, rfl, (fun h => by cases h), rfl⟩
theorem mv_X6_45 : MV "BallastTrain" 45 yX3_read cX3_read 2 none 0 := ⟨⟨tw_288, tw_289, tw_290, tw_57, tw_291⟩, by decide, by decide, by decide +kernel⟩
theorem fd_X6_48 : FD "BallastTrain" 48 4 3 := ⟨RX3, "BallastTrain$Text", TX3, 5, rfl, inb_X3, by decide, tw_124, Or.inl rfl⟩
theorem gs_X6_51 : Cond.fieldLink "BallastTrain" 51 "BallastTrain" "LEAST_SETTING" "[I" ∈ tb := tw_498
theorem gs_X6_55 : Cond.fieldLink "BallastTrain" 55 "BallastTrain" "MOST_SETTING" "[I" ∈ tb := tw_500
theorem fd_X6_29 : FD "BallastTrain" 29 7 3 := ⟨RX6, "BallastTrain", TX6, 4, rfl, inb_X6, by decide, tw_259, Or.inl rfl⟩
theorem fd_X6_19 : FD "BallastTrain" 19 7 1 := ⟨RX6, "BallastTrain", TX6, 4, rfl, inb_X6, by decide, tw_257, Or.inl rfl⟩
theorem mv_X6_58 : MV "BallastTrain" 58 yX0_keep cX0_keep 2 none 1 := ⟨⟨tw_502, tw_503, tw_504, tw_65, tw_505⟩, by decide, by decide, by decide +kernel⟩
theorem fd_X6_62 : FD "BallastTrain" 62 3 0 := ⟨RX2, "BallastTrain$State", TX2, 9, rfl, inb_X2, by decide, tw_200, Or.inl rfl⟩
theorem fd_X6_65 : FD "BallastTrain" 65 3 2 := ⟨RX2, "BallastTrain$State", TX2, 9, rfl, inb_X2, by decide, tw_204, Or.inl rfl⟩
theorem mv_X6_69 : MV "BallastTrain" 69 yX5_units cX5_units 1 (some .int) 0 := ⟨⟨tw_552, tw_553, tw_554, tw_63, tw_555⟩, by decide, by decide, by decide +kernel⟩
theorem mv_X6_75 : MV "BallastTrain" 75 yX5_replace cX5_replace 2 none 1 := ⟨⟨tw_559, tw_560, tw_561, tw_63, tw_562⟩, by decide, by decide, by decide +kernel⟩
theorem fd_X6_79 : FD "BallastTrain" 79 3 8 := ⟨RX2, "BallastTrain$State", TX2, 9, rfl, inb_X2, by decide, tw_216, Or.inl rfl⟩
theorem fp_X6_79 : FP "BallastTrain" 79 3 8 false .int := ⟨RX2, "BallastTrain$State", TX2, 9, tyX2, rfl, inb_X2, by decide, tw_216, Or.inl rfl, tyX2_ok, nmX2, rfl, (fun h => by cases h), rfl⟩
theorem mv_X6_82 : MV "BallastTrain" 82 yX5_hasWagon cX5_hasWagon 2 (some .boolean) 1 := ⟨⟨tw_567, tw_568, tw_569, tw_63, tw_570⟩, by decide, by decide, by decide +kernel⟩
theorem fd_X6_85 : FD "BallastTrain" 85 6 2 := ⟨RX5, "BallastTrain$Train", TX5, 8, rfl, inb_X5, by decide, tw_170, Or.inl rfl⟩
theorem fd_X6_88 : FD "BallastTrain" 88 6 4 := ⟨RX5, "BallastTrain$Train", TX5, 8, rfl, inb_X5, by decide, tw_175, Or.inl rfl⟩
theorem fd_X6_91 : FD "BallastTrain" 91 3 6 := ⟨RX2, "BallastTrain$State", TX2, 9, rfl, inb_X2, by decide, tw_212, Or.inl rfl⟩
theorem fp_X6_91 : FP "BallastTrain" 91 3 6 false .int := ⟨RX2, "BallastTrain$State", TX2, 9, tyX2, rfl, inb_X2, by decide, tw_212, Or.inl rfl, tyX2_ok, nmX2, rfl, (fun h => by cases h), rfl⟩
theorem mv_X6_94 : MV "BallastTrain" 94 yX5_hasDoor cX5_hasDoor 3 (some .boolean) 2 := ⟨⟨tw_575, tw_576, tw_577, tw_63, tw_578⟩, by decide, by decide, by decide +kernel⟩
theorem mv_X6_98 : MV "BallastTrain" 98 yX5_levelOf cX5_levelOf 3 (some .int) 2 := ⟨⟨tw_579, tw_580, tw_581, tw_63, tw_582⟩, by decide, by decide, by decide +kernel⟩
theorem mv_X6_102 : MV "BallastTrain" 102 yX5_closeDoor cX5_closeDoor 4 none 3 := ⟨⟨tw_584, tw_585, tw_586, tw_63, tw_587⟩, by decide, by decide, by decide +kernel⟩
theorem mv_X6_106 : MV "BallastTrain" 106 yX5_openDoor cX5_openDoor 4 none 3 := ⟨⟨tw_588, tw_589, tw_590, tw_63, tw_591⟩, by decide, by decide, by decide +kernel⟩
theorem fd_X6_109 : FD "BallastTrain" 109 6 3 := ⟨RX5, "BallastTrain$Train", TX5, 8, rfl, inb_X5, by decide, tw_173, Or.inl rfl⟩
theorem fp_X6_109 : FP "BallastTrain" 109 6 3 false .int := ⟨RX5, "BallastTrain$Train", TX5, 8, tyX5, rfl, inb_X5, by decide, tw_173, Or.inl rfl, tyX5_ok, nmX5, rfl, (fun h => by cases h), rfl⟩
theorem fd_X6_112 : FD "BallastTrain" 112 3 3 := ⟨RX2, "BallastTrain$State", TX2, 9, rfl, inb_X2, by decide, tw_206, Or.inl rfl⟩
theorem mv_X6_116 : MV "BallastTrain" 116 yJx4a65c_size_8abf5 cJx4a65c_size_8abf5 1 (some .int) 0 := ⟨⟨tw_527, tw_528, tw_529, tw_60, tw_530⟩, by decide, by decide, by decide +kernel⟩
theorem fd_X6_121 : FD "BallastTrain" 121 4 2 := ⟨RX3, "BallastTrain$Text", TX3, 5, rfl, inb_X3, by decide, tw_122, Or.inl rfl⟩
theorem ms_X6_122 : MS "BallastTrain" 122 yX6_addAll cX6_addAll 3 none 2 := ⟨⟨tw_600, tw_525, tw_56, tw_526⟩, by decide, by decide, by decide +kernel⟩
theorem mv_X6_126 : MV "BallastTrain" 126 yJx4a65c_remove_915e3 cJx4a65c_remove_915e3 4 (some (.object "java/lang/Object")) 1 := ⟨⟨tw_605, tw_606, tw_607, tw_60, tw_608⟩, by decide, by decide, by decide +kernel⟩
theorem fd_X6_130 : FD "BallastTrain" 130 3 4 := ⟨RX2, "BallastTrain$State", TX2, 9, rfl, inb_X2, by decide, tw_208, Or.inl rfl⟩
theorem mv_X6_133 : MV "BallastTrain" 133 yX2_passSecond cX2_passSecond 1 none 0 := ⟨⟨tw_618, tw_619, tw_620, tw_61, tw_621⟩, by decide, by decide, by decide +kernel⟩
theorem fd_X6_136 : FD "BallastTrain" 136 6 1 := ⟨RX5, "BallastTrain$Train", TX5, 8, rfl, inb_X5, by decide, tw_168, Or.inl rfl⟩
theorem ms_X6_139 : MS "BallastTrain" 139 yX4_has cX4_has 2 (some .boolean) 2 := ⟨⟨tw_691, tw_668, tw_62, tw_669⟩, by decide, by decide, by decide +kernel⟩
theorem fd_X6_144 : FD "BallastTrain" 144 3 1 := ⟨RX2, "BallastTrain$State", TX2, 9, rfl, inb_X2, by decide, tw_202, Or.inl rfl⟩
theorem mv_X6_148 : MV "BallastTrain" 148 yX4_heightAt cX4_heightAt 3 (some .int) 2 := ⟨⟨tw_692, tw_693, tw_694, tw_62, tw_695⟩, by decide, by decide, by decide +kernel⟩
theorem mm_X6_151 : Cond.methodLink "BallastTrain" 151 Lib.Math.min.name ∈ tb ∧ Cond.static Lib.Math.min.name ∈ tb ∧ Cond.initialized "java/lang/Math" ∈ tb ∧ Cond.code Lib.Math.min.name Lib.Math.min.code 2 (some .int) ∈ tb := ⟨tw_516, tw_345, tw_69, by decide +kernel⟩
theorem mv_X6_156 : MV "BallastTrain" 156 yX4_add cX4_add 4 none 3 := ⟨⟨tw_696, tw_671, tw_672, tw_62, tw_673⟩, by decide, by decide, by decide +kernel⟩
theorem fd_X6_159 : FD "BallastTrain" 159 1 2 := ⟨RX0, "BallastTrain$History", TX0, 3, rfl, inb_X0, by decide, tw_248, Or.inl rfl⟩
theorem mv_X6_161 : MV "BallastTrain" 161 yX0_restore cX0_restore 2 none 1 := ⟨⟨tw_701, tw_702, tw_703, tw_65, tw_704⟩, by decide, by decide, by decide +kernel⟩
theorem mv_X6_164 : MV "BallastTrain" 164 yX5_cellBelow cX5_cellBelow 2 (some .int) 1 := ⟨⟨tw_709, tw_640, tw_641, tw_63, tw_642⟩, by decide, by decide, by decide +kernel⟩
theorem mv_X6_168 : MV "BallastTrain" 168 yX5_sumOfLevels cX5_sumOfLevels 4 (some .int) 1 := ⟨⟨tw_710, tw_711, tw_712, tw_63, tw_713⟩, by decide, by decide, by decide +kernel⟩
theorem mv_X6_171 : MV "BallastTrain" 171 yX5_closingDoors cX5_closingDoors 4 (some .int) 1 := ⟨⟨tw_715, tw_716, tw_717, tw_63, tw_718⟩, by decide, by decide, by decide +kernel⟩
theorem fd_X6_174 : FD "BallastTrain" 174 6 5 := ⟨RX5, "BallastTrain$Train", TX5, 8, rfl, inb_X5, by decide, tw_177, Or.inl rfl⟩
theorem mv_X6_177 : MV "BallastTrain" 177 yX5_restOf cX5_restOf 3 (some .int) 2 := ⟨⟨tw_727, tw_720, tw_721, tw_63, tw_722⟩, by decide, by decide, by decide +kernel⟩
theorem mv_X6_180 : MV "BallastTrain" 180 yX4_sumOn cX4_sumOn 4 (some .int) 1 := ⟨⟨tw_736, tw_737, tw_738, tw_62, tw_739⟩, by decide, by decide, by decide +kernel⟩
theorem mv_X6_183 : MV "BallastTrain" 183 yX4_greatestOn cX4_greatestOn 2 (some .int) 1 := ⟨⟨tw_741, tw_742, tw_743, tw_62, tw_744⟩, by decide, by decide, by decide +kernel⟩
theorem mv_X6_186 : MV "BallastTrain" 186 yX4_firstGreatestOn cX4_firstGreatestOn 4 (some .int) 1 := ⟨⟨tw_749, tw_746, tw_747, tw_62, tw_748⟩, by decide, by decide, by decide +kernel⟩
theorem mv_X6_189 : MV "BallastTrain" 189 yX4_cellsReaching cX4_cellsReaching 5 (some .int) 2 := ⟨⟨tw_750, tw_751, tw_752, tw_62, tw_753⟩, by decide, by decide, by decide +kernel⟩
theorem mv_X6_192 : MV "BallastTrain" 192 yX4_longestRowReaching cX4_longestRowReaching 6 (some .int) 2 := ⟨⟨tw_754, tw_755, tw_756, tw_62, tw_757⟩, by decide, by decide, by decide +kernel⟩
theorem mv_X6_195 : MV "BallastTrain" 195 yX4_steepestOn cX4_steepestOn 5 (some .int) 1 := ⟨⟨tw_759, tw_760, tw_761, tw_62, tw_762⟩, by decide, by decide, by decide +kernel⟩
theorem mv_X6_198 : MV "BallastTrain" 198 yX4_unitsBelow cX4_unitsBelow 7 (some .int) 1 := ⟨⟨tw_770, tw_771, tw_772, tw_62, tw_773⟩, by decide, by decide, by decide +kernel⟩
theorem mv_X6_201 : MV "BallastTrain" 201 yX4_cellBelow cX4_cellBelow 5 (some .int) 2 := ⟨⟨tw_774, tw_775, tw_776, tw_62, tw_777⟩, by decide, by decide, by decide +kernel⟩
theorem mv_X6_203 : MV "BallastTrain" 203 yJx4a65c_get_915e3 cJx4a65c_get_915e3 2 (some (.object "java/lang/Object")) 1 := ⟨⟨tw_531, tw_532, tw_533, tw_60, tw_534⟩, by decide, by decide, by decide +kernel⟩
theorem cl_X6_206 : Cond.classLink "BallastTrain" 206 "BallastTrain$Order" ∈ tb := tw_545
theorem mv_X6_208 : MV "BallastTrain" 208 yX1_part cX1_part 2 (some .int) 1 := ⟨⟨tw_787, tw_788, tw_789, tw_73, tw_790⟩, by decide, by decide, by decide +kernel⟩
theorem mv_X6_211 : MV "BallastTrain" 211 yX6_lookAhead cX6_lookAhead 3 none 1 := ⟨⟨tw_795, tw_797, tw_14, tw_56, tw_798⟩, by decide, by decide, by decide +kernel⟩
theorem mv_X6_214 : MV "BallastTrain" 214 yX6_foretold cX6_foretold 2 (some .int) 1 := ⟨⟨tw_800, tw_802, tw_15, tw_56, tw_803⟩, by decide, by decide, by decide +kernel⟩
theorem fd_X6_23 : FD "BallastTrain" 23 7 2 := ⟨RX6, "BallastTrain", TX6, 4, rfl, inb_X6, by decide, tw_258, Or.inl rfl⟩
theorem mv_X6_217 : MV "BallastTrain" 217 yX2_copyFrom cX2_copyFrom 2 none 1 := ⟨⟨tw_799, tw_510, tw_511, tw_61, tw_512⟩, by decide, by decide, by decide +kernel⟩
theorem mv_X6_220 : MV "BallastTrain" 220 yX2_passSecondOfTrain cX2_passSecondOfTrain 1 none 0 := ⟨⟨tw_813, tw_814, tw_815, tw_61, tw_816⟩, by decide, by decide, by decide +kernel⟩
theorem fd_X6_223 : FD "BallastTrain" 223 6 0 := ⟨RX5, "BallastTrain$Train", TX5, 8, rfl, inb_X5, by decide, tw_165, Or.inl rfl⟩
theorem fd_X6_226 : FD "BallastTrain" 226 3 5 := ⟨RX2, "BallastTrain$State", TX2, 9, rfl, inb_X2, by decide, tw_210, Or.inl rfl⟩
theorem mv_X6_229 : MV "BallastTrain" 229 yX4_units cX4_units 1 (some .int) 0 := ⟨⟨tw_804, tw_805, tw_806, tw_62, tw_807⟩, by decide, by decide, by decide +kernel⟩
theorem fd_X6_230 : FD "BallastTrain" 230 3 7 := ⟨RX2, "BallastTrain$State", TX2, 9, rfl, inb_X2, by decide, tw_214, Or.inl rfl⟩
theorem kl_X6_233 : (Jvm.Cond.constantLong "BallastTrain" (233 : Nat) (149 : Int64)) ∈ tb := tw_825
theorem mv_X6_235 : MV "BallastTrain" 235 yX6_count cX6_count 2 (some .int) 1 := ⟨⟨tw_826, tw_818, tw_819, tw_56, tw_820⟩, by decide, by decide, by decide +kernel⟩
theorem ms_X6_238 : MS "BallastTrain" 238 yX6_mixed cX6_mixed 3 (some .long) 2 := ⟨⟨tw_827, tw_828, tw_56, tw_829⟩, by decide, by decide, by decide +kernel⟩
theorem mv_X6_242 : MV "BallastTrain" 242 yX6_mixedWithTrain cX6_mixedWithTrain 8 (some .long) 1 := ⟨⟨tw_831, tw_833, tw_16, tw_56, tw_834⟩, by decide, by decide, by decide +kernel⟩
theorem mv_X6_246 : MV "BallastTrain" 246 yX6_mixedWithTrack cX6_mixedWithTrack 7 (some .long) 1 := ⟨⟨tw_837, tw_839, tw_17, tw_56, tw_840⟩, by decide, by decide, by decide +kernel⟩
theorem mv_X6_249 : MV "BallastTrain" 249 yX6_mixedWithOrders cX6_mixedWithOrders 7 (some .long) 1 := ⟨⟨tw_844, tw_846, tw_18, tw_56, tw_847⟩, by decide, by decide, by decide +kernel⟩
theorem mv_X6_252 : MV "BallastTrain" 252 yX6_emptyAfter cX6_emptyAfter 2 (some .int) 0 := ⟨⟨tw_849, tw_810, tw_811, tw_56, tw_812⟩, by decide, by decide, by decide +kernel⟩
theorem mv_X6_255 : MV "BallastTrain" 255 yX3_byteAt cX3_byteAt 2 (some .int) 1 := ⟨⟨tw_850, tw_301, tw_302, tw_57, tw_303⟩, by decide, by decide, by decide +kernel⟩
theorem mv_X6_258 : MV "BallastTrain" 258 yX6_wagon cX6_wagon 3 (some .int) 2 := ⟨⟨tw_835, tw_706, tw_707, tw_56, tw_708⟩, by decide, by decide, by decide +kernel⟩
theorem mv_X6_261 : MV "BallastTrain" 261 yX6_doorOf cX6_doorOf 4 (some .int) 3 := ⟨⟨tw_836, tw_724, tw_725, tw_56, tw_726⟩, by decide, by decide, by decide +kernel⟩
theorem mv_X6_265 : MV "BallastTrain" 265 yX6_height cX6_height 3 (some .int) 2 := ⟨⟨tw_841, tw_729, tw_730, tw_56, tw_731⟩, by decide, by decide, by decide +kernel⟩
theorem mv_X6_268 : MV "BallastTrain" 268 yX6_profile cX6_profile 3 (some .int) 2 := ⟨⟨tw_842, tw_733, tw_734, tw_56, tw_735⟩, by decide, by decide, by decide +kernel⟩
theorem mv_X6_271 : MV "BallastTrain" 271 yX6_lacking cX6_lacking 3 (some .int) 1 := ⟨⟨tw_843, tw_767, tw_768, tw_56, tw_769⟩, by decide, by decide, by decide +kernel⟩
theorem mv_X6_274 : MV "BallastTrain" 274 yX6_ordered cX6_ordered 3 (some .int) 2 := ⟨⟨tw_848, tw_784, tw_785, tw_56, tw_786⟩, by decide, by decide, by decide +kernel⟩
theorem kl_X6_277 : (Jvm.Cond.constantLong "BallastTrain" (277 : Nat) (31 : Int64)) ∈ tb := tw_830
theorem ac_X6_279 : CpyW "BallastTrain" 279 := ⟨tw_517, tw_491, tw_490, tw_75⟩
theorem mv_X6_285 : MV "BallastTrain" 285 yJx4a65c_add_9ea2d cJx4a65c_add_9ea2d 2 (some .boolean) 1 := ⟨⟨tw_546, tw_443, tw_444, tw_60, tw_445⟩, by decide, by decide, by decide +kernel⟩
theorem oi_X7_1 : Cond.methodLink "BallastTrainModel" 1 objectInit ∈ tb ∧ Cond.instanceMethod objectInit ∈ tb ∧ Cond.code objectInit ⟨#[0xb1]⟩ 1 none ∈ tb := ⟨tw_856, tw_83, by decide +kernel⟩
theorem fp_X7_7 : FP "BallastTrainModel" 7 8 0 true (.array .int) := ⟨RX7, "BallastTrainModel", TX7, 11, tyX7, rfl, inb_X7, by decide, tw_865, Or.inl rfl, tyX7_ok, nmX7, rfl, fun _ => rfl, rfl⟩
theorem fp_X7_13 : FP "BallastTrainModel" 13 8 1 true (.array .int) := ⟨RX7, "BallastTrainModel", TX7, 11, tyX7, rfl, inb_X7, by decide, tw_866, Or.inl rfl, tyX7_ok, nmX7, rfl, fun _ => rfl, rfl⟩
theorem fp_X7_16 : FP "BallastTrainModel" 16 8 2 true (.array .int) := ⟨RX7, "BallastTrainModel", TX7, 11, tyX7, rfl, inb_X7, by decide, tw_867, Or.inl rfl, tyX7_ok, nmX7, rfl, fun _ => rfl, rfl⟩
theorem fp_X7_19 : FP "BallastTrainModel" 19 8 4 true (.array .int) := ⟨RX7, "BallastTrainModel", TX7, 11, tyX7, rfl, inb_X7, by decide, tw_869, Or.inl rfl, tyX7_ok, nmX7, rfl, fun _ => rfl, rfl⟩
theorem fp_X7_22 : FP "BallastTrainModel" 22 8 6 true (.array .int) := ⟨RX7, "BallastTrainModel", TX7, 11, tyX7, rfl, inb_X7, by decide, tw_871, Or.inl rfl, tyX7_ok, nmX7, rfl, fun _ => rfl, rfl⟩
theorem fd_X7_7 : FD "BallastTrainModel" 7 8 0 := ⟨RX7, "BallastTrainModel", TX7, 11, rfl, inb_X7, by decide, tw_865, Or.inl rfl⟩
theorem mv_X7_25 : MV "BallastTrainModel" 25 yX7_couples cX7_couples 4 none 1 := ⟨⟨tw_857, tw_859, tw_19, tw_66, tw_860⟩, by decide, by decide, by decide +kernel⟩
theorem ms_X7_29 : MS "BallastTrainModel" 29 yX7_in cX7_in 3 (some .boolean) 3 := ⟨⟨tw_907, tw_908, tw_66, tw_909⟩, by decide, by decide, by decide +kernel⟩
theorem mv_X7_33 : MV "BallastTrainModel" 33 yX7_put cX7_put 4 none 3 := ⟨⟨tw_861, tw_863, tw_20, tw_66, tw_864⟩, by decide, by decide, by decide +kernel⟩
theorem fd_X7_37 : FD "BallastTrainModel" 37 8 3 := ⟨RX7, "BallastTrainModel", TX7, 11, rfl, inb_X7, by decide, tw_868, Or.inl rfl⟩
theorem fd_X7_13 : FD "BallastTrainModel" 13 8 1 := ⟨RX7, "BallastTrainModel", TX7, 11, rfl, inb_X7, by decide, tw_866, Or.inl rfl⟩
theorem fp_X7_37 : FP "BallastTrainModel" 37 8 3 false .int := ⟨RX7, "BallastTrainModel", TX7, 11, tyX7, rfl, inb_X7, by decide, tw_868, Or.inl rfl, tyX7_ok, nmX7, rfl, (fun h => by cases h), rfl⟩
theorem fd_X7_16 : FD "BallastTrainModel" 16 8 2 := ⟨RX7, "BallastTrainModel", TX7, 11, rfl, inb_X7, by decide, tw_867, Or.inl rfl⟩
theorem fd_X7_41 : FD "BallastTrainModel" 41 8 5 := ⟨RX7, "BallastTrainModel", TX7, 11, rfl, inb_X7, by decide, tw_870, Or.inl rfl⟩
theorem fd_X7_19 : FD "BallastTrainModel" 19 8 4 := ⟨RX7, "BallastTrainModel", TX7, 11, rfl, inb_X7, by decide, tw_869, Or.inl rfl⟩
theorem fp_X7_41 : FP "BallastTrainModel" 41 8 5 false .int := ⟨RX7, "BallastTrainModel", TX7, 11, tyX7, rfl, inb_X7, by decide, tw_870, Or.inl rfl, tyX7_ok, nmX7, rfl, (fun h => by cases h), rfl⟩
theorem fd_X7_44 : FD "BallastTrainModel" 44 8 8 := ⟨RX7, "BallastTrainModel", TX7, 11, rfl, inb_X7, by decide, tw_873, Or.inl rfl⟩
theorem mv_X7_47 : MV "BallastTrainModel" 47 yX7_next cX7_next 1 (some .int) 0 := ⟨⟨tw_926, tw_928, tw_23, tw_66, tw_929⟩, by decide, by decide, by decide +kernel⟩
theorem fp_X7_44 : FP "BallastTrainModel" 44 8 8 false .int := ⟨RX7, "BallastTrainModel", TX7, 11, tyX7, rfl, inb_X7, by decide, tw_873, Or.inl rfl, tyX7_ok, nmX7, rfl, (fun h => by cases h), rfl⟩
theorem fd_X7_51 : FD "BallastTrainModel" 51 8 9 := ⟨RX7, "BallastTrainModel", TX7, 11, rfl, inb_X7, by decide, tw_874, Or.inl rfl⟩
theorem fp_X7_51 : FP "BallastTrainModel" 51 8 9 false .int := ⟨RX7, "BallastTrainModel", TX7, 11, tyX7, rfl, inb_X7, by decide, tw_874, Or.inl rfl, tyX7_ok, nmX7, rfl, (fun h => by cases h), rfl⟩
theorem mv_X7_54 : MV "BallastTrainModel" 54 yX7_blanks cX7_blanks 1 none 0 := ⟨⟨tw_922, tw_924, tw_22, tw_66, tw_925⟩, by decide, by decide, by decide +kernel⟩
theorem mv_X7_57 : MV "BallastTrainModel" 57 yX7_fails cX7_fails 2 none 1 := ⟨⟨tw_938, tw_940, tw_26, tw_66, tw_941⟩, by decide, by decide, by decide +kernel⟩
theorem mv_X7_60 : MV "BallastTrainModel" 60 yX7_needs cX7_needs 2 none 1 := ⟨⟨tw_934, tw_936, tw_25, tw_66, tw_937⟩, by decide, by decide, by decide +kernel⟩
theorem mv_X7_64 : MV "BallastTrainModel" 64 yX7_isDigit cX7_isDigit 1 (some .boolean) 0 := ⟨⟨tw_946, tw_948, tw_28, tw_66, tw_949⟩, by decide, by decide, by decide +kernel⟩
theorem fd_X7_68 : FD "BallastTrainModel" 68 8 7 := ⟨RX7, "BallastTrainModel", TX7, 11, rfl, inb_X7, by decide, tw_872, Or.inl rfl⟩
theorem fd_X7_22 : FD "BallastTrainModel" 22 8 6 := ⟨RX7, "BallastTrainModel", TX7, 11, rfl, inb_X7, by decide, tw_871, Or.inl rfl⟩
theorem mv_X7_71 : MV "BallastTrainModel" 71 yX7_cell cX7_cell 3 (some .int) 0 := ⟨⟨tw_942, tw_944, tw_27, tw_66, tw_945⟩, by decide, by decide, by decide +kernel⟩
theorem mv_X7_74 : MV "BallastTrainModel" 74 yX7_digit cX7_digit 4 (some .int) 2 := ⟨⟨tw_950, tw_952, tw_29, tw_66, tw_953⟩, by decide, by decide, by decide +kernel⟩
theorem mv_X7_78 : MV "BallastTrainModel" 78 yX7_doorAt cX7_doorAt 2 (some .int) 0 := ⟨⟨tw_954, tw_956, tw_30, tw_66, tw_957⟩, by decide, by decide, by decide +kernel⟩
theorem fp_X7_68 : FP "BallastTrainModel" 68 8 7 false .int := ⟨RX7, "BallastTrainModel", TX7, 11, tyX7, rfl, inb_X7, by decide, tw_872, Or.inl rfl, tyX7_ok, nmX7, rfl, (fun h => by cases h), rfl⟩
theorem mv_X7_81 : MV "BallastTrainModel" 81 yX7_readsOrder cX7_readsOrder 3 none 0 := ⟨⟨tw_930, tw_932, tw_24, tw_66, tw_933⟩, by decide, by decide, by decide +kernel⟩
theorem mv_X7_84 : MV "BallastTrainModel" 84 yX7_reads cX7_reads 1 none 0 := ⟨⟨tw_918, tw_920, tw_21, tw_66, tw_921⟩, by decide, by decide, by decide +kernel⟩
theorem mv_X7_86 : MV "BallastTrainModel" 86 yX7_isWagon cX7_isWagon 2 (some .boolean) 1 := ⟨⟨tw_982, tw_984, tw_34, tw_66, tw_985⟩, by decide, by decide, by decide +kernel⟩
theorem mv_X7_90 : MV "BallastTrainModel" 90 yX7_of cX7_of 3 (some .int) 2 := ⟨⟨tw_974, tw_976, tw_33, tw_66, tw_977⟩, by decide, by decide, by decide +kernel⟩
theorem mv_X7_93 : MV "BallastTrainModel" 93 yX7_isDue cX7_isDue 3 (some .boolean) 1 := ⟨⟨tw_1028, tw_1030, tw_39, tw_66, tw_1031⟩, by decide, by decide, by decide +kernel⟩
theorem mv_X7_96 : MV "BallastTrainModel" 96 yX7_moves cX7_moves 4 none 3 := ⟨⟨tw_993, tw_995, tw_35, tw_66, tw_996⟩, by decide, by decide, by decide +kernel⟩
theorem mv_X7_99 : MV "BallastTrainModel" 99 yX7_dropsOrder cX7_dropsOrder 3 none 1 := ⟨⟨tw_1009, tw_1011, tw_36, tw_66, tw_1012⟩, by decide, by decide, by decide +kernel⟩
theorem ms_X7_102 : MS "BallastTrainModel" 102 yX7_least cX7_least 2 (some .int) 2 := ⟨⟨tw_1021, tw_1022, tw_66, tw_1023⟩, by decide, by decide, by decide +kernel⟩
theorem ms_X7_105 : MS "BallastTrainModel" 105 yX7_isCell cX7_isCell 1 (some .boolean) 1 := ⟨⟨tw_1036, tw_1037, tw_66, tw_1038⟩, by decide, by decide, by decide +kernel⟩
theorem mv_X7_108 : MV "BallastTrainModel" 108 yX7_ordersDue cX7_ordersDue 3 none 0 := ⟨⟨tw_1024, tw_1026, tw_38, tw_66, tw_1027⟩, by decide, by decide, by decide +kernel⟩
theorem mv_X7_111 : MV "BallastTrainModel" 111 yX7_falls cX7_falls 5 none 2 := ⟨⟨tw_1032, tw_1034, tw_40, tw_66, tw_1035⟩, by decide, by decide, by decide +kernel⟩
theorem mv_X7_115 : MV "BallastTrainModel" 115 yX7_slides cX7_slides 5 none 2 := ⟨⟨tw_1039, tw_1041, tw_41, tw_66, tw_1042⟩, by decide, by decide, by decide +kernel⟩
theorem mv_X7_118 : MV "BallastTrainModel" 118 yX7_spills cX7_spills 4 none 2 := ⟨⟨tw_1043, tw_1045, tw_42, tw_66, tw_1046⟩, by decide, by decide, by decide +kernel⟩
theorem mv_X7_121 : MV "BallastTrainModel" 121 yX7_closes cX7_closes 5 none 2 := ⟨⟨tw_1047, tw_1049, tw_43, tw_66, tw_1050⟩, by decide, by decide, by decide +kernel⟩
theorem mv_X7_124 : MV "BallastTrainModel" 124 yX7_keeps cX7_keeps 2 none 0 := ⟨⟨tw_962, tw_964, tw_31, tw_66, tw_965⟩, by decide, by decide, by decide +kernel⟩
theorem mv_X7_127 : MV "BallastTrainModel" 127 yX7_inWagons cX7_inWagons 3 (some .int) 0 := ⟨⟨tw_970, tw_972, tw_32, tw_66, tw_973⟩, by decide, by decide, by decide +kernel⟩
theorem ms_X7_130 : MS "BallastTrainModel" 130 yX7_isStrip cX7_isStrip 1 (some .boolean) 1 := ⟨⟨tw_990, tw_991, tw_66, tw_992⟩, by decide, by decide, by decide +kernel⟩
theorem mv_X7_133 : MV "BallastTrainModel" 133 yX7_second cX7_second 2 none 0 := ⟨⟨tw_1017, tw_1019, tw_37, tw_66, tw_1020⟩, by decide, by decide, by decide +kernel⟩
theorem mv_X7_136 : MV "BallastTrainModel" 136 yX7_sum cX7_sum 4 (some .int) 1 := ⟨⟨tw_1071, tw_1073, tw_44, tw_66, tw_1074⟩, by decide, by decide, by decide +kernel⟩
theorem mv_X7_140 : MV "BallastTrainModel" 140 yX7_highest cX7_highest 4 (some .int) 1 := ⟨⟨tw_1075, tw_1077, tw_45, tw_66, tw_1078⟩, by decide, by decide, by decide +kernel⟩
theorem mv_X7_143 : MV "BallastTrainModel" 143 yX7_row cX7_row 8 (some .int) 2 := ⟨⟨tw_1079, tw_1081, tw_46, tw_66, tw_1082⟩, by decide, by decide, by decide +kernel⟩
theorem mv_X7_147 : MV "BallastTrainModel" 147 yX7_steepest cX7_steepest 5 (some .int) 1 := ⟨⟨tw_1083, tw_1085, tw_47, tw_66, tw_1086⟩, by decide, by decide, by decide +kernel⟩
theorem mv_X7_150 : MV "BallastTrainModel" 150 yX7_lackingIn cX7_lackingIn 4 (some .int) 1 := ⟨⟨tw_1091, tw_1093, tw_48, tw_66, tw_1094⟩, by decide, by decide, by decide +kernel⟩
theorem mv_X7_153 : MV "BallastTrainModel" 153 yX7_onTrack cX7_onTrack 1 (some .int) 0 := ⟨⟨tw_1111, tw_1113, tw_51, tw_66, tw_1114⟩, by decide, by decide, by decide +kernel⟩
theorem mv_X7_156 : MV "BallastTrainModel" 156 yX7_lacking cX7_lacking 5 (some .int) 1 := ⟨⟨tw_1115, tw_1088, tw_1089, tw_66, tw_1090⟩, by decide, by decide, by decide +kernel⟩
theorem mv_X7_159 : MV "BallastTrainModel" 159 yX7_keepsAside cX7_keepsAside 2 none 0 := ⟨⟨tw_1103, tw_1105, tw_49, tw_66, tw_1106⟩, by decide, by decide, by decide +kernel⟩
theorem mv_X7_162 : MV "BallastTrainModel" 162 yX7_part cX7_part 2 (some .int) 1 := ⟨⟨tw_1107, tw_1109, tw_50, tw_66, tw_1110⟩, by decide, by decide, by decide +kernel⟩
theorem mv_X7_165 : MV "BallastTrainModel" 165 yX7_returns cX7_returns 2 none 0 := ⟨⟨tw_1116, tw_1118, tw_52, tw_66, tw_1119⟩, by decide, by decide, by decide +kernel⟩
theorem kl_X7_168 : (Jvm.Cond.constantLong "BallastTrainModel" (168 : Nat) (31 : Int64)) ∈ tb := tw_1138
theorem fd_X7_170 : FD "BallastTrainModel" 170 8 10 := ⟨RX7, "BallastTrainModel", TX7, 11, rfl, inb_X7, by decide, tw_875, Or.inl rfl⟩
theorem fp_X7_170 : FP "BallastTrainModel" 170 8 10 false .long := ⟨RX7, "BallastTrainModel", TX7, 11, tyX7, rfl, inb_X7, by decide, tw_875, Or.inl rfl, tyX7_ok, nmX7, rfl, (fun h => by cases h), rfl⟩
theorem mv_X7_174 : MV "BallastTrainModel" 174 yX7_wagon cX7_wagon 5 (some .int) 2 := ⟨⟨tw_1143, tw_1056, tw_1057, tw_66, tw_1058⟩, by decide, by decide, by decide +kernel⟩
theorem mv_X7_177 : MV "BallastTrainModel" 177 yX7_mixes cX7_mixes 2 none 1 := ⟨⟨tw_1134, tw_1136, tw_53, tw_66, tw_1137⟩, by decide, by decide, by decide +kernel⟩
theorem mv_X7_180 : MV "BallastTrainModel" 180 yX7_doorOf cX7_doorOf 4 (some .int) 3 := ⟨⟨tw_1144, tw_1060, tw_1061, tw_66, tw_1062⟩, by decide, by decide, by decide +kernel⟩
theorem kl_X7_184 : (Jvm.Cond.constantLong "BallastTrainModel" (184 : Nat) (149 : Int64)) ∈ tb := tw_1132
theorem mv_X7_186 : MV "BallastTrainModel" 186 yX7_count cX7_count 2 (some .int) 1 := ⟨⟨tw_1133, tw_1125, tw_1126, tw_66, tw_1127⟩, by decide, by decide, by decide +kernel⟩
theorem mv_X7_189 : MV "BallastTrainModel" 189 yX7_mixesWagon cX7_mixesWagon 3 none 1 := ⟨⟨tw_1139, tw_1141, tw_54, tw_66, tw_1142⟩, by decide, by decide, by decide +kernel⟩
theorem mv_X7_192 : MV "BallastTrainModel" 192 yX7_profile cX7_profile 3 (some .int) 2 := ⟨⟨tw_1145, tw_1068, tw_1069, tw_66, tw_1070⟩, by decide, by decide, by decide +kernel⟩
theorem mv_X7_195 : MV "BallastTrainModel" 195 yX7_foretell cX7_foretell 4 (some .int) 2 := ⟨⟨tw_1146, tw_1100, tw_1101, tw_66, tw_1102⟩, by decide, by decide, by decide +kernel⟩
theorem mv_X7_198 : MV "BallastTrainModel" 198 yX7_emptyAfter cX7_emptyAfter 3 (some .int) 0 := ⟨⟨tw_1147, tw_1121, tw_1122, tw_66, tw_1123⟩, by decide, by decide, by decide +kernel⟩
theorem ki_J11_110 : (Jvm.Cond.constant "java/lang/Character" (110 : Nat) (55232 : Int32)) ∈ tb := tw_394
theorem ki_J11_76 : (Jvm.Cond.constant "java/lang/Character" (76 : Nat) (56320 : Int32)) ∈ tb := tw_398
theorem mv_J0_335 : MV "java/lang/String" 335 yJ0_coder_7d493 cJ0_coder_7d493 1 (some .byte) 0 := ⟨⟨tw_331, tw_332, tw_333, tw_67, tw_334⟩, by decide, by decide, by decide +kernel⟩
theorem mv_J0_633 : MV "java/lang/String" 633 yJ0_indexOf_7cf53 cJ0_indexOf_7cf53 3 (some .int) 2 := ⟨⟨tw_317, tw_318, tw_319, tw_67, tw_320⟩, by decide, by decide, by decide +kernel⟩
theorem mv_J0_492 : MV "java/lang/String" 492 yJ0_isLatin1_aae02 cJ0_isLatin1_aae02 1 (some .boolean) 0 := ⟨⟨tw_321, tw_322, tw_323, tw_67, tw_324⟩, by decide, by decide, by decide +kernel⟩
theorem mv_J0_505 : MV "java/lang/String" 505 yJ0_length_8abf5 cJ0_length_8abf5 1 (some .int) 0 := ⟨⟨tw_327, tw_328, tw_329, tw_67, tw_330⟩, by decide, by decide, by decide +kernel⟩
theorem ms_J0_637 : MS "java/lang/String" 637 yJ1_indexOf_4cfef cJ1_indexOf_4cfef 4 (some .int) 4 := ⟨⟨tw_335, tw_336, tw_68, tw_337⟩, by decide, by decide, by decide +kernel⟩
theorem ms_J0_640 : MS "java/lang/String" 640 yJ2_indexOf_4cfef cJ2_indexOf_4cfef 4 (some .int) 4 := ⟨⟨tw_350, tw_351, tw_70, tw_352⟩, by decide, by decide, by decide +kernel⟩
theorem gs_J0_38 : Cond.fieldLink "java/lang/String" 38 "java/lang/String" "COMPACT_STRINGS" "Z" ∈ tb := tw_325
theorem gs_J0_1053 : Cond.fieldLink "java/lang/String" 1053 "jdk/internal/util/Preconditions" "SIOOBE_FORMATTER" "Ljava/util/function/BiFunction;" ∈ tb := tw_368
theorem ms_J0_1062 : MS "java/lang/String" 1062 yJ3_checkFromToIndex_8c36e cJ3_checkFromToIndex_8c36e 4 (some .int) 4 := ⟨⟨tw_370, tw_371, tw_71, tw_372⟩, by decide, by decide, by decide +kernel⟩
theorem ms_J1_88 : MS "java/lang/StringLatin1" 88 yJ1_canEncode_9a6ad cJ1_canEncode_9a6ad 1 (some .boolean) 1 := ⟨⟨tw_338, tw_339, tw_68, tw_340⟩, by decide, by decide, by decide +kernel⟩
theorem mm_J1_92 : Cond.methodLink "java/lang/StringLatin1" 92 Lib.Math.max.name ∈ tb ∧ Cond.static Lib.Math.max.name ∈ tb ∧ Cond.initialized "java/lang/Math" ∈ tb ∧ Cond.code Lib.Math.max.name Lib.Math.max.code 2 (some .int) ∈ tb := ⟨tw_341, tw_342, tw_69, by decide +kernel⟩
theorem mm_J1_38 : Cond.methodLink "java/lang/StringLatin1" 38 Lib.Math.min.name ∈ tb ∧ Cond.static Lib.Math.min.name ∈ tb ∧ Cond.initialized "java/lang/Math" ∈ tb ∧ Cond.code Lib.Math.min.name Lib.Math.min.code 2 (some .int) ∈ tb := ⟨tw_344, tw_345, tw_69, by decide +kernel⟩
theorem ms_J1_95 : MS "java/lang/StringLatin1" 95 yJ1_indexOfChar_4cfef cJ1_indexOfChar_4cfef 6 (some .int) 4 := ⟨⟨tw_347, tw_348, tw_68, tw_349⟩, by decide, by decide, by decide +kernel⟩
theorem gs_J2_44 : Cond.fieldLink "java/lang/StringUTF16" 44 "java/lang/StringUTF16" "$assertionsDisabled" "Z" ∈ tb := tw_379
theorem ms_J2_48 : MS "java/lang/StringUTF16" 48 yJ2_length_9d52b cJ2_length_9d52b 1 (some .int) 1 := ⟨⟨tw_362, tw_363, tw_70, tw_364⟩, by decide, by decide, by decide +kernel⟩
theorem gs_J2_59 : Cond.fieldLink "java/lang/StringUTF16" 59 "java/lang/StringUTF16" "HI_BYTE_SHIFT" "I" ∈ tb := tw_381
theorem gs_J2_63 : Cond.fieldLink "java/lang/StringUTF16" 63 "java/lang/StringUTF16" "LO_BYTE_SHIFT" "I" ∈ tb := tw_383
theorem mm_J2_224 : Cond.methodLink "java/lang/StringUTF16" 224 Lib.Math.max.name ∈ tb ∧ Cond.static Lib.Math.max.name ∈ tb ∧ Cond.initialized "java/lang/Math" ∈ tb ∧ Cond.code Lib.Math.max.name Lib.Math.max.code 2 (some .int) ∈ tb := ⟨tw_353, tw_342, tw_69, by decide +kernel⟩
theorem mm_J2_183 : Cond.methodLink "java/lang/StringUTF16" 183 Lib.Math.min.name ∈ tb ∧ Cond.static Lib.Math.min.name ∈ tb ∧ Cond.initialized "java/lang/Math" ∈ tb ∧ Cond.code Lib.Math.min.name Lib.Math.min.code 2 (some .int) ∈ tb := ⟨tw_354, tw_345, tw_69, by decide +kernel⟩
theorem ki_J2_227 : (Jvm.Cond.constant "java/lang/StringUTF16" (227 : Nat) (65536 : Int32)) ∈ tb := tw_355
theorem ms_J2_228 : MS "java/lang/StringUTF16" 228 yJ2_indexOfChar_4cfef cJ2_indexOfChar_4cfef 4 (some .int) 4 := ⟨⟨tw_356, tw_357, tw_70, tw_358⟩, by decide, by decide, by decide +kernel⟩
theorem ms_J2_232 : MS "java/lang/StringUTF16" 232 yJ2_indexOfSupplementary_4cfef cJ2_indexOfSupplementary_4cfef 7 (some .int) 4 := ⟨⟨tw_385, tw_386, tw_70, tw_387⟩, by decide, by decide, by decide +kernel⟩
theorem ms_J2_96 : MS "java/lang/StringUTF16" 96 yJ2_checkBoundsBeginEnd_d044e cJ2_checkBoundsBeginEnd_d044e 3 none 3 := ⟨⟨tw_359, tw_360, tw_70, tw_361⟩, by decide, by decide, by decide +kernel⟩
theorem ms_J2_244 : MS "java/lang/StringUTF16" 244 yJ2_indexOfCharUnsafe_4cfef cJ2_indexOfCharUnsafe_4cfef 5 (some .int) 4 := ⟨⟨tw_373, tw_374, tw_70, tw_375⟩, by decide, by decide, by decide +kernel⟩
theorem ms_J2_71 : MS "java/lang/StringUTF16" 71 yJ2_getChar_3b067 cJ2_getChar_3b067 2 (some .char) 2 := ⟨⟨tw_376, tw_377, tw_70, tw_378⟩, by decide, by decide, by decide +kernel⟩
theorem ms_J2_164 : MS "java/lang/StringUTF16" 164 yJ11_isValidCodePoint_9a6ad cJ11_isValidCodePoint_9a6ad 2 (some .boolean) 1 := ⟨⟨tw_388, tw_389, tw_72, tw_390⟩, by decide, by decide, by decide +kernel⟩
theorem ms_J2_157 : MS "java/lang/StringUTF16" 157 yJ11_highSurrogate_5068e cJ11_highSurrogate_5068e 1 (some .char) 1 := ⟨⟨tw_391, tw_392, tw_72, tw_393⟩, by decide, by decide, by decide +kernel⟩
theorem ms_J2_161 : MS "java/lang/StringUTF16" 161 yJ11_lowSurrogate_5068e cJ11_lowSurrogate_5068e 1 (some .char) 1 := ⟨⟨tw_395, tw_396, tw_72, tw_397⟩, by decide, by decide, by decide +kernel⟩
theorem ms_J2_241 : MS "java/lang/StringUTF16" 241 yJ0_checkBoundsBeginEnd_23922 cJ0_checkBoundsBeginEnd_23922 3 none 3 := ⟨⟨tw_365, tw_366, tw_67, tw_367⟩, by decide, by decide, by decide +kernel⟩
theorem oi_Jxa1e45_1 : Cond.methodLink "java/util/AbstractCollection" 1 objectInit ∈ tb ∧ Cond.instanceMethod objectInit ∈ tb ∧ Cond.code objectInit ⟨#[0xb1]⟩ 1 none ∈ tb := ⟨tw_102, tw_83, by decide +kernel⟩
theorem mi_Jxc12de_1 : MI "java/util/AbstractList" 1 yJxa1e45_init_da8c8 cJxa1e45_init_da8c8 1 0 := ⟨⟨tw_99, tw_100, rfl, tw_58, tw_101⟩, by decide, by decide, by decide +kernel⟩
theorem fp_Jxc12de_7 : FP "java/util/AbstractList" 7 0 0 false .int := ⟨RJx4a65c, "java/util/AbstractList", TJx4a65c, 3, tyJx4a65c, rfl, inb_Jx4a65c, by decide, tw_107, Or.inl rfl, tyJx4a65c_ok, nmJx4a65c, rfl, (fun h => by cases h), rfl⟩
theorem mi_Jx4a65c_1 : MI "java/util/ArrayList" 1 yJxc12de_init_da8c8 cJxc12de_init_da8c8 1 0 := ⟨⟨tw_96, tw_97, rfl, tw_59, tw_98⟩, by decide, by decide, by decide +kernel⟩
theorem gs_Jx4a65c_39 : Cond.fieldLink "java/util/ArrayList" 39 "java/util/ArrayList" "DEFAULTCAPACITY_EMPTY_ELEMENTDATA" "[Ljava/lang/Object;" ∈ tb := tw_103
theorem fp_Jx4a65c_9 : FP "java/util/ArrayList" 9 0 1 false (.array (.object "java/lang/Object")) := ⟨RJx4a65c, "java/util/ArrayList", TJx4a65c, 3, tyJx4a65c, rfl, inb_Jx4a65c, by decide, tw_105, Or.inl rfl, tyJx4a65c_ok, nmJx4a65c, rfl, (fun h => by cases h), rfl⟩
theorem fd_Jx4a65c_9 : FD "java/util/ArrayList" 9 0 1 := ⟨RJx4a65c, "java/util/ArrayList", TJx4a65c, 3, rfl, inb_Jx4a65c, by decide, tw_105, Or.inl rfl⟩
theorem ms_Jx4a65c_73 : MS "java/util/ArrayList" 73 yJ8_newLength_cabcc cJ8_newLength_cabcc 4 (some .int) 3 := ⟨⟨tw_458, tw_459, tw_74, tw_460⟩, by decide, by decide, by decide +kernel⟩
theorem ms_Jx4a65c_66 : MS "java/util/ArrayList" 66 yJ7_copyOf_1904c cJ7_copyOf_1904c 2 (some (.array (.object "java/lang/Object"))) 2 := ⟨⟨tw_466, tw_467, tw_64, tw_468⟩, by decide, by decide, by decide +kernel⟩
theorem mm_Jx4a65c_79 : Cond.methodLink "java/util/ArrayList" 79 Lib.Math.max.name ∈ tb ∧ Cond.static Lib.Math.max.name ∈ tb ∧ Cond.initialized "java/lang/Math" ∈ tb ∧ Cond.code Lib.Math.max.name Lib.Math.max.code 2 (some .int) ∈ tb := ⟨tw_492, tw_342, tw_69, by decide +kernel⟩
theorem cl_Jx4a65c_7 : Cond.classLink "java/util/ArrayList" 7 "java/lang/Object" ∈ tb := tw_493
theorem fd_Jx4a65c_48 : FD "java/util/ArrayList" 48 0 2 := ⟨RJx4a65c, "java/util/ArrayList", TJx4a65c, 3, rfl, inb_Jx4a65c, by decide, tw_106, Or.inl rfl⟩
theorem mv_Jx4a65c_69 : MV "java/util/ArrayList" 69 yJx4a65c_grow_92f84 cJx4a65c_grow_92f84 4 (some (.array (.object "java/lang/Object"))) 1 := ⟨⟨tw_454, tw_456, tw_8, tw_60, tw_457⟩, by decide, by decide, by decide +kernel⟩
theorem ms_Jx4a65c_118 : MS "java/util/ArrayList" 118 yJ15_checkIndex_7cf53 cJ15_checkIndex_7cf53 2 (some .int) 2 := ⟨⟨tw_535, tw_536, tw_76, tw_537⟩, by decide, by decide, by decide +kernel⟩
theorem mv_Jx4a65c_123 : MV "java/util/ArrayList" 123 yJx4a65c_elementData_915e3 cJx4a65c_elementData_915e3 2 (some (.object "java/lang/Object")) 1 := ⟨⟨tw_541, tw_542, tw_543, tw_60, tw_544⟩, by decide, by decide, by decide +kernel⟩
theorem mv_Jx4a65c_129 : MV "java/util/ArrayList" 129 yJx4a65c_grow_d5877 cJx4a65c_grow_d5877 1 (some (.array (.object "java/lang/Object"))) 0 := ⟨⟨tw_450, tw_452, tw_7, tw_60, tw_453⟩, by decide, by decide, by decide +kernel⟩
theorem fp_Jx4a65c_48 : FP "java/util/ArrayList" 48 0 2 false .int := ⟨RJx4a65c, "java/util/ArrayList", TJx4a65c, 3, tyJx4a65c, rfl, inb_Jx4a65c, by decide, tw_106, Or.inl rfl, tyJx4a65c_ok, nmJx4a65c, rfl, (fun h => by cases h), rfl⟩
theorem fd_Jx4a65c_63 : FD "java/util/ArrayList" 63 0 0 := ⟨RJx4a65c, "java/util/ArrayList", TJx4a65c, 3, rfl, inb_Jx4a65c, by decide, tw_108, Or.inr tw_109⟩
theorem fp_Jx4a65c_63 : FP "java/util/ArrayList" 63 0 0 false .int := ⟨RJx4a65c, "java/util/ArrayList", TJx4a65c, 3, tyJx4a65c, rfl, inb_Jx4a65c, by decide, tw_108, Or.inr tw_109, tyJx4a65c_ok, nmJx4a65c, rfl, (fun h => by cases h), rfl⟩
theorem mv_Jx4a65c_131 : MV "java/util/ArrayList" 131 yJx4a65c_add_72be8 cJx4a65c_add_72be8 4 none 3 := ⟨⟨tw_446, tw_448, tw_6, tw_60, tw_449⟩, by decide, by decide, by decide +kernel⟩
theorem mv_Jx4a65c_144 : MV "java/util/ArrayList" 144 yJx4a65c_fastRemove_b59b0 cJx4a65c_fastRemove_b59b0 4 none 2 := ⟨⟨tw_609, tw_611, tw_9, tw_60, tw_612⟩, by decide, by decide, by decide +kernel⟩
theorem ac_Jx4a65c_112 : CpyW "java/util/ArrayList" 112 := ⟨tw_613, tw_491, tw_490, tw_75⟩
theorem gc_J7_86 : Cond.methodLink "java/util/Arrays" 86 yGC ∈ tb ∧ Cond.selects "[Ljava/lang/Object;" yGC yGC ∈ tb ∧ Cond.instanceMethod yGC ∈ tb ∧ Cond.native yGC ∈ tb := ⟨tw_469, tw_1159, tw_470, tw_481⟩
theorem ms_J7_300 : MS "java/util/Arrays" 300 yJ7_copyOf_6403c cJ7_copyOf_6403c 4 (some (.array (.object "java/lang/Object"))) 3 := ⟨⟨tw_482, tw_483, tw_64, tw_484⟩, by decide, by decide, by decide +kernel⟩
theorem cl_J7_110 : Cond.classLink "java/util/Arrays" 110 "[Ljava/lang/Object;" ∈ tb := tw_485
theorem cl_J7_2 : Cond.classLink "java/util/Arrays" 2 "java/lang/Object" ∈ tb := tw_487
theorem mm_J7_304 : Cond.methodLink "java/util/Arrays" 304 Lib.Math.min.name ∈ tb ∧ Cond.static Lib.Math.min.name ∈ tb ∧ Cond.initialized "java/lang/Math" ∈ tb ∧ Cond.code Lib.Math.min.name Lib.Math.min.code 2 (some .int) ∈ tb := ⟨tw_488, tw_345, tw_69, by decide +kernel⟩
theorem ac_J7_150 : CpyW "java/util/Arrays" 150 := ⟨tw_489, tw_491, tw_490, tw_75⟩
theorem ms_J15_105 : MS "java/util/Objects" 105 yJ3_checkIndex_8e157 cJ3_checkIndex_8e157 3 (some .int) 3 := ⟨⟨tw_538, tw_539, tw_71, tw_540⟩, by decide, by decide, by decide +kernel⟩
theorem mm_J8_194 : Cond.methodLink "jdk/internal/util/ArraysSupport" 194 Lib.Math.max.name ∈ tb ∧ Cond.static Lib.Math.max.name ∈ tb ∧ Cond.initialized "java/lang/Math" ∈ tb ∧ Cond.code Lib.Math.max.name Lib.Math.max.code 2 (some .int) ∈ tb := ⟨tw_461, tw_342, tw_69, by decide +kernel⟩
theorem ki_J8_200 : (Jvm.Cond.constant "jdk/internal/util/ArraysSupport" (200 : Nat) (2147483639 : Int32)) ∈ tb := tw_462
theorem ms_J8_201 : MS "jdk/internal/util/ArraysSupport" 201 yJ8_hugeLength_7cf53 cJ8_hugeLength_7cf53 3 (some .int) 2 := ⟨⟨tw_463, tw_464, tw_74, tw_465⟩, by decide, by decide, by decide +kernel⟩
theorem nd_L_7 : ND "BallastTrainLaw" 7 7 4 [.null, .null, .null, .null] := ⟨RX6, TX6, tyX6, rfl, inb_X6, tyX6_ok, tw_77, tw_78, tw_56, fun j hj => by rcases (show j = 0 ∨ j = 1 ∨ j = 2 ∨ j = 3 by omega) with rfl | rfl | rfl | rfl <;> rfl⟩
theorem mi_L_9 : MI "BallastTrainLaw" 9 yX6_init cX6_init 1 0 := ⟨⟨tw_79, tw_80, rfl, tw_56, tw_81⟩, by decide, by decide, by decide +kernel⟩
theorem nd_L_10 : ND "BallastTrainLaw" 10 8 11 [.null, .null, .null, .int 0, .null, .int 0, .null, .int 0, .int 0, .int 0, .long 0] := ⟨RX7, TX7, tyX7, rfl, inb_X7, tyX7_ok, tw_851, tw_852, tw_66, fun j hj => by rcases (show j = 0 ∨ j = 1 ∨ j = 2 ∨ j = 3 ∨ j = 4 ∨ j = 5 ∨ j = 6 ∨ j = 7 ∨ j = 8 ∨ j = 9 ∨ j = 10 by omega) with rfl | rfl | rfl | rfl | rfl | rfl | rfl | rfl | rfl | rfl | rfl <;> rfl⟩
theorem mi_L_12 : MI "BallastTrainLaw" 12 yX7_init cX7_init 1 0 := ⟨⟨tw_853, tw_854, rfl, tw_66, tw_855⟩, by decide, by decide, by decide +kernel⟩
theorem mv_L_13 : MV "BallastTrainLaw" 13 yX6_type cX6_type 2 (some .int) 1 := ⟨⟨tw_269, tw_270, tw_271, tw_56, tw_272⟩, by decide, by decide, by decide +kernel⟩
theorem mv_L_17 : MV "BallastTrainLaw" 17 yX7_type cX7_type 2 (some .int) 1 := ⟨⟨tw_903, tw_904, tw_905, tw_66, tw_906⟩, by decide, by decide, by decide +kernel⟩
theorem mv_L_18 : MV "BallastTrainLaw" 18 yX6_clearText cX6_clearText 2 (some .int) 0 := ⟨⟨tw_280, tw_281, tw_282, tw_56, tw_283⟩, by decide, by decide, by decide +kernel⟩
theorem mv_L_22 : MV "BallastTrainLaw" 22 yX7_clearText cX7_clearText 2 (some .int) 0 := ⟨⟨tw_910, tw_911, tw_912, tw_66, tw_913⟩, by decide, by decide, by decide +kernel⟩
theorem mv_L_23 : MV "BallastTrainLaw" 23 yX6_fault cX6_fault 1 (some .int) 0 := ⟨⟨tw_284, tw_285, tw_286, tw_56, tw_287⟩, by decide, by decide, by decide +kernel⟩
theorem mv_L_26 : MV "BallastTrainLaw" 26 yX7_fault cX7_fault 1 (some .int) 0 := ⟨⟨tw_914, tw_915, tw_916, tw_66, tw_917⟩, by decide, by decide, by decide +kernel⟩
theorem mv_L_27 : MV "BallastTrainLaw" 27 yX6_set cX6_set 4 (some .int) 2 := ⟨⟨tw_494, tw_495, tw_496, tw_56, tw_497⟩, by decide, by decide, by decide +kernel⟩
theorem mv_L_31 : MV "BallastTrainLaw" 31 yX7_set cX7_set 5 (some .int) 2 := ⟨⟨tw_958, tw_959, tw_960, tw_66, tw_961⟩, by decide, by decide, by decide +kernel⟩
theorem mv_L_32 : MV "BallastTrainLaw" 32 yX6_setTrain cX6_setTrain 3 (some .int) 1 := ⟨⟨tw_548, tw_549, tw_550, tw_56, tw_551⟩, by decide, by decide, by decide +kernel⟩
theorem mv_L_35 : MV "BallastTrainLaw" 35 yX7_setTrain cX7_setTrain 3 (some .int) 1 := ⟨⟨tw_966, tw_967, tw_968, tw_66, tw_969⟩, by decide, by decide, by decide +kernel⟩
theorem mv_L_36 : MV "BallastTrainLaw" 36 yX6_load cX6_load 3 (some .int) 2 := ⟨⟨tw_563, tw_564, tw_565, tw_56, tw_566⟩, by decide, by decide, by decide +kernel⟩
theorem mv_L_39 : MV "BallastTrainLaw" 39 yX7_load cX7_load 3 (some .int) 2 := ⟨⟨tw_978, tw_979, tw_980, tw_66, tw_981⟩, by decide, by decide, by decide +kernel⟩
theorem mv_L_40 : MV "BallastTrainLaw" 40 yX6_door cX6_door 5 (some .int) 3 := ⟨⟨tw_571, tw_572, tw_573, tw_56, tw_574⟩, by decide, by decide, by decide +kernel⟩
theorem mv_L_44 : MV "BallastTrainLaw" 44 yX7_door cX7_door 5 (some .int) 3 := ⟨⟨tw_986, tw_987, tw_988, tw_66, tw_989⟩, by decide, by decide, by decide +kernel⟩
theorem mv_L_45 : MV "BallastTrainLaw" 45 yX6_wish cX6_wish 3 (some .int) 1 := ⟨⟨tw_592, tw_593, tw_594, tw_56, tw_595⟩, by decide, by decide, by decide +kernel⟩
theorem mv_L_48 : MV "BallastTrainLaw" 48 yX7_wish cX7_wish 3 (some .int) 1 := ⟨⟨tw_997, tw_998, tw_999, tw_66, tw_1000⟩, by decide, by decide, by decide +kernel⟩
theorem mv_L_49 : MV "BallastTrainLaw" 49 yX6_order cX6_order 1 (some .int) 0 := ⟨⟨tw_596, tw_597, tw_598, tw_56, tw_599⟩, by decide, by decide, by decide +kernel⟩
theorem mv_L_52 : MV "BallastTrainLaw" 52 yX7_order cX7_order 2 (some .int) 0 := ⟨⟨tw_1001, tw_1002, tw_1003, tw_66, tw_1004⟩, by decide, by decide, by decide +kernel⟩
theorem mv_L_53 : MV "BallastTrainLaw" 53 yX6_cancel cX6_cancel 2 (some .int) 1 := ⟨⟨tw_601, tw_602, tw_603, tw_56, tw_604⟩, by decide, by decide, by decide +kernel⟩
theorem mv_L_56 : MV "BallastTrainLaw" 56 yX7_cancel cX7_cancel 2 (some .int) 1 := ⟨⟨tw_1005, tw_1006, tw_1007, tw_66, tw_1008⟩, by decide, by decide, by decide +kernel⟩
theorem mv_L_57 : MV "BallastTrainLaw" 57 yX6_pass cX6_pass 3 (some .int) 1 := ⟨⟨tw_614, tw_615, tw_616, tw_56, tw_617⟩, by decide, by decide, by decide +kernel⟩
theorem mv_L_60 : MV "BallastTrainLaw" 60 yX7_pass cX7_pass 3 (some .int) 1 := ⟨⟨tw_1013, tw_1014, tw_1015, tw_66, tw_1016⟩, by decide, by decide, by decide +kernel⟩
theorem mv_L_61 : MV "BallastTrainLaw" 61 yX6_scrape cX6_scrape 5 (some .int) 3 := ⟨⟨tw_687, tw_688, tw_689, tw_56, tw_690⟩, by decide, by decide, by decide +kernel⟩
theorem mv_L_64 : MV "BallastTrainLaw" 64 yX7_scrape cX7_scrape 5 (some .int) 3 := ⟨⟨tw_1051, tw_1052, tw_1053, tw_66, tw_1054⟩, by decide, by decide, by decide +kernel⟩
theorem mv_L_65 : MV "BallastTrainLaw" 65 yX6_undo cX6_undo 1 (some .int) 0 := ⟨⟨tw_697, tw_698, tw_699, tw_56, tw_700⟩, by decide, by decide, by decide +kernel⟩
theorem mv_L_68 : MV "BallastTrainLaw" 68 yX7_undo cX7_undo 2 (some .int) 0 := ⟨⟨tw_899, tw_900, tw_901, tw_66, tw_902⟩, by decide, by decide, by decide +kernel⟩
theorem mv_L_69 : MV "BallastTrainLaw" 69 yX6_wagon cX6_wagon 3 (some .int) 2 := ⟨⟨tw_705, tw_706, tw_707, tw_56, tw_708⟩, by decide, by decide, by decide +kernel⟩
theorem mv_L_72 : MV "BallastTrainLaw" 72 yX7_wagon cX7_wagon 5 (some .int) 2 := ⟨⟨tw_1055, tw_1056, tw_1057, tw_66, tw_1058⟩, by decide, by decide, by decide +kernel⟩
theorem mv_L_73 : MV "BallastTrainLaw" 73 yX6_doorOf cX6_doorOf 4 (some .int) 3 := ⟨⟨tw_723, tw_724, tw_725, tw_56, tw_726⟩, by decide, by decide, by decide +kernel⟩
theorem mv_L_76 : MV "BallastTrainLaw" 76 yX7_doorOf cX7_doorOf 4 (some .int) 3 := ⟨⟨tw_1059, tw_1060, tw_1061, tw_66, tw_1062⟩, by decide, by decide, by decide +kernel⟩
theorem mv_L_77 : MV "BallastTrainLaw" 77 yX6_height cX6_height 3 (some .int) 2 := ⟨⟨tw_728, tw_729, tw_730, tw_56, tw_731⟩, by decide, by decide, by decide +kernel⟩
theorem mv_L_80 : MV "BallastTrainLaw" 80 yX7_height cX7_height 3 (some .int) 2 := ⟨⟨tw_1063, tw_1064, tw_1065, tw_66, tw_1066⟩, by decide, by decide, by decide +kernel⟩
theorem mv_L_81 : MV "BallastTrainLaw" 81 yX6_profile cX6_profile 3 (some .int) 2 := ⟨⟨tw_732, tw_733, tw_734, tw_56, tw_735⟩, by decide, by decide, by decide +kernel⟩
theorem mv_L_84 : MV "BallastTrainLaw" 84 yX7_profile cX7_profile 3 (some .int) 2 := ⟨⟨tw_1067, tw_1068, tw_1069, tw_66, tw_1070⟩, by decide, by decide, by decide +kernel⟩
theorem mv_L_85 : MV "BallastTrainLaw" 85 yX6_lacking cX6_lacking 3 (some .int) 1 := ⟨⟨tw_766, tw_767, tw_768, tw_56, tw_769⟩, by decide, by decide, by decide +kernel⟩
theorem mv_L_88 : MV "BallastTrainLaw" 88 yX7_lacking cX7_lacking 5 (some .int) 1 := ⟨⟨tw_1087, tw_1088, tw_1089, tw_66, tw_1090⟩, by decide, by decide, by decide +kernel⟩
theorem mv_L_89 : MV "BallastTrainLaw" 89 yX6_ordered cX6_ordered 3 (some .int) 2 := ⟨⟨tw_783, tw_784, tw_785, tw_56, tw_786⟩, by decide, by decide, by decide +kernel⟩
theorem mv_L_92 : MV "BallastTrainLaw" 92 yX7_ordered cX7_ordered 3 (some .int) 2 := ⟨⟨tw_1095, tw_1096, tw_1097, tw_66, tw_1098⟩, by decide, by decide, by decide +kernel⟩
theorem mv_L_93 : MV "BallastTrainLaw" 93 yX6_foretell cX6_foretell 3 (some .int) 2 := ⟨⟨tw_791, tw_792, tw_793, tw_56, tw_794⟩, by decide, by decide, by decide +kernel⟩
theorem mv_L_96 : MV "BallastTrainLaw" 96 yX7_foretell cX7_foretell 4 (some .int) 2 := ⟨⟨tw_1099, tw_1100, tw_1101, tw_66, tw_1102⟩, by decide, by decide, by decide +kernel⟩
theorem mv_L_97 : MV "BallastTrainLaw" 97 yX6_emptyAfter cX6_emptyAfter 2 (some .int) 0 := ⟨⟨tw_809, tw_810, tw_811, tw_56, tw_812⟩, by decide, by decide, by decide +kernel⟩
theorem mv_L_100 : MV "BallastTrainLaw" 100 yX7_emptyAfter cX7_emptyAfter 3 (some .int) 0 := ⟨⟨tw_1120, tw_1121, tw_1122, tw_66, tw_1123⟩, by decide, by decide, by decide +kernel⟩
theorem mv_L_101 : MV "BallastTrainLaw" 101 yX6_count cX6_count 2 (some .int) 1 := ⟨⟨tw_817, tw_818, tw_819, tw_56, tw_820⟩, by decide, by decide, by decide +kernel⟩
theorem mv_L_104 : MV "BallastTrainLaw" 104 yX7_count cX7_count 2 (some .int) 1 := ⟨⟨tw_1124, tw_1125, tw_1126, tw_66, tw_1127⟩, by decide, by decide, by decide +kernel⟩
theorem mv_L_105 : MV "BallastTrainLaw" 105 yX6_digest cX6_digest 4 (some .long) 0 := ⟨⟨tw_821, tw_822, tw_823, tw_56, tw_824⟩, by decide, by decide, by decide +kernel⟩
theorem mv_L_109 : MV "BallastTrainLaw" 109 yX7_digest cX7_digest 2 (some .long) 0 := ⟨⟨tw_1128, tw_1129, tw_1130, tw_66, tw_1131⟩, by decide, by decide, by decide +kernel⟩
theorem sf_J0_15 : Cond.fieldLink "java/lang/String" 15 "java/lang/String" "coder" "B" ∈ tb := tw_1165
theorem sf_J0_9 : Cond.fieldLink "java/lang/String" 9 "java/lang/String" "value" "[B" ∈ tb := tw_1166
theorem ac_int : Cond.arrayClass .int ∈ tb := tb_mem 117 (by decide +kernel) rfl
